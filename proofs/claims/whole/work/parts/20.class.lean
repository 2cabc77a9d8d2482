/-! the class: more members (written by wip/whole/gen20.py) -/
theorem kmM_ne {M : Mm} {r : Nat} (h1 : r ≠ 1) (h7 : r ≠ 7) : kmM M r = M r := by
  unfold kmM
  split
  · rw [up_ne h1, cp_ne h7, up_ne h1, cp_ne h7]
  · rw [up_ne h1, cp_ne h7]
theorem kmM_1 {M : Mm} {i : Int} (hi : i ≠ 2) : kmM M 1 i = M 1 i := by
  unfold kmM
  split
  · rw [up_off hi, cp_ne (by decide), up_off hi, cp_ne (by decide)]
  · rw [up_off hi, cp_ne (by decide)]
theorem ov_succ (A : Int → Int) (n : Nat) : ov A (n + 1) = ov A n + (if 11 ≤ A n then 1 else 0) := rfl
theorem km2 {M : Mm} : kmM M 2 = M 2 := kmM_ne (by decide) (by decide)
theorem km3 {M : Mm} : kmM M 3 = M 3 := kmM_ne (by decide) (by decide)
theorem km4 {M : Mm} : kmM M 4 = M 4 := kmM_ne (by decide) (by decide)
theorem km5 {M : Mm} : kmM M 5 = M 5 := kmM_ne (by decide) (by decide)
theorem km6 {M : Mm} : kmM M 6 = M 6 := kmM_ne (by decide) (by decide)
theorem km0 {M : Mm} : kmM M 0 = M 0 := kmM_ne (by decide) (by decide)
set_option maxRecDepth 100000 in
theorem c_append (c : Int) (M : Mm) (ht : 0 ≤ M 59 1 ∧ M 59 1 < 150) : Ct 41 [vr 59, vi c] M (fun q0 M' => q0 = some (vi (M 59 1 + 1)) ∧ up (up M 60 (M 59 1) c) 59 1 (M 59 1 + 1) = M') := by
  refine Hx.run 5 (pc' := 9) (L' := [some (vr 59), some (vi c)]) (st' := [vi c, vi (M 59 1), vr 60]) (M' := M) rfl ?_
  refine Hx.call (t := 122) (as := [vr 60, vi (M 59 1), vi c]) (pc' := 12) (rest := []) rfl (c_put (r := 60) (n := 150) rfl (by decide) (i := (M 59 1)) (by omega) c M) ?_
  rintro _ _ ⟨rfl, rfl⟩
  refine Hx.run 0 (pc' := 12) (L' := [some (vr 59), some (vi c)]) (st' := []) (M' := (up M 60 (M 59 1) c)) rfl ?_
  refine Hx.run 4 (pc' := 18) (L' := [some (vr 59), some (vi c)]) (st' := [vi 1, vi (M 59 1), vr 59]) (M' := (up M 60 (M 59 1) c)) rfl ?_
  refine Hx.add rfl (by omega) ?_
  refine Hx.run 3 (pc' := 26) (L' := [some (vr 59), some (vi c)]) (st' := [vi ((M 59 1) + 1)]) (M' := (up (up M 60 (M 59 1) c) 59 1 ((M 59 1) + 1))) rfl ?_
  refine Hx.ret rfl ?_
  exact ⟨rfl, rfl⟩
set_option maxRecDepth 100000 in
theorem C_type (c : Int) (M : Mm) (hI : HI M 1) (hs : (0 ≤ M 0 14 ∧ M 0 14 ≤ 600) ∧ (0 ≤ M 0 15 ∧ M 0 15 ≤ 600) ∧ (0 ≤ M 0 16 ∧ M 0 16 ≤ 600)) (ht : 0 ≤ M 59 1 ∧ M 59 1 ≤ 150) : Ct 61 [vr 0, vi c] M (fun q0 M' => ((c < 0) ∧ q0 = some (vi (-2)) ∧ (up M 0 14 ((M 0 14) + 1)) = M') ∨ ((¬ (c < 0)) ∧ (127 < c) ∧ q0 = some (vi (-2)) ∧ (up M 0 14 ((M 0 14) + 1)) = M') ∨ ((¬ (c < 0)) ∧ (¬ (127 < c)) ∧ ((M 59 1) < 150) ∧ q0 = some (vi (M 59 1 + 1)) ∧ (up (up M 60 (M 59 1) c) 59 1 ((M 59 1) + 1)) = M') ∨ ((¬ (c < 0)) ∧ (¬ (127 < c)) ∧ (¬ ((M 59 1) < 150)) ∧ q0 = some (vi (-4)) ∧ (up M 0 16 ((M 0 16) + 1)) = M')) := by
  obtain ⟨iF, iG, iK, iH, iFa, aF, aG, lS, lN, lM, rS, rN, rM, aK⟩ := (show (0 ≤ M 1 0 ∧ M 1 0 ≤ 3) ∧ (0 ≤ M 1 1 ∧ M 1 1 ≤ 6) ∧ (0 ≤ M 1 2 ∧ M 1 2 ≤ 8) ∧ (0 ≤ M 6 16 ∧ M 6 16 ≤ 9999) ∧ (0 ≤ M 6 15 ∧ M 6 15 ≤ 9000) ∧ (∀ f : Int, 0 ≤ f → f < M 1 0 → (0 ≤ M 2 f ∧ M 2 f ≤ 5) ∧ (1 ≤ M 6 (12 + f) ∧ M 6 (12 + f) ≤ 10)) ∧ (∀ i : Int, 0 ≤ i → i < M 1 1 → (0 ≤ M 3 i ∧ M 3 i ≤ 5) ∧ (1 ≤ M 4 i ∧ M 4 i ≤ 4) ∧ (0 ≤ M 5 i ∧ M 5 i < M 1 0) ∧ (0 ≤ M 6 i ∧ M 6 i ≤ 11) ∧ (0 ≤ M 6 (6 + i) ∧ M 6 (6 + i) ≤ 9)) ∧ (M 8 0 = 4 ∧ M 8 1 = 5 ∧ 0 ≤ M 8 3 ∧ M 8 3 ≤ 5) ∧ (M 10 0 = 3 ∧ M 10 1 = 6 ∧ 0 ≤ M 10 3 ∧ M 10 3 ≤ 6) ∧ (M 12 0 = 5 ∧ M 12 1 = 6 ∧ 0 ≤ M 12 3 ∧ M 12 3 ≤ 6) ∧ (∀ n : Int, 0 ≤ n → n < M 8 3 → (0 ≤ M 9 (n * 4 + 0) ∧ M 9 (n * 4 + 0) ≤ 2) ∧ (1 ≤ M 9 (n * 4 + 1) ∧ M 9 (n * 4 + 1) ≤ 10) ∧ (0 ≤ M 9 (n * 4 + 2) ∧ M 9 (n * 4 + 2) ≤ 23) ∧ (0 ≤ M 9 (n * 4 + 3) ∧ M 9 (n * 4 + 3) ≤ 1)) ∧ (∀ n : Int, 0 ≤ n → n < M 10 3 → (0 ≤ M 11 (n * 3 + 0) ∧ M 11 (n * 3 + 0) ≤ 2) ∧ (0 ≤ M 11 (n * 3 + 1) ∧ M 11 (n * 3 + 1) ≤ 23) ∧ (0 ≤ M 11 (n * 3 + 2) ∧ M 11 (n * 3 + 2) ≤ 9)) ∧ (∀ n : Int, 0 ≤ n → n < M 12 3 → (0 ≤ M 13 (n * 5 + 0) ∧ M 13 (n * 5 + 0) ≤ 5) ∧ (1 ≤ M 13 (n * 5 + 1) ∧ M 13 (n * 5 + 1) ≤ 4) ∧ (0 ≤ M 13 (n * 5 + 2) ∧ M 13 (n * 5 + 2) ≤ 9) ∧ (0 ≤ M 13 (n * 5 + 3) ∧ M 13 (n * 5 + 3) ≤ 23) ∧ (0 ≤ M 13 (n * 5 + 4) ∧ M 13 (n * 5 + 4) ≤ 9)) ∧ (∀ k : Int, 0 ≤ k → k < M 1 2 → (0 ≤ M 7 (k * 17 + 16) ∧ M 7 (k * 17 + 16) ≤ 9999) ∧ (0 ≤ M 7 (k * 17 + 15) ∧ M 7 (k * 17 + 15) ≤ 9000) ∧ (∀ f : Int, 0 ≤ f → f < M 1 0 → (1 ≤ M 7 (k * 17 + (12 + f)) ∧ M 7 (k * 17 + (12 + f)) ≤ 10)) ∧ (∀ i : Int, 0 ≤ i → i < M 1 1 → (0 ≤ M 7 (k * 17 + i) ∧ M 7 (k * 17 + i) ≤ 11) ∧ (0 ≤ M 7 (k * 17 + (6 + i)) ∧ M 7 (k * 17 + (6 + i)) ≤ 9))) from hI)
  refine Hx.run 1 (pc' := 1) (L' := [some (vr 0), some (vi c)]) (st' := [vi c]) (M' := M) rfl ?_
  refine Hx.br (c := c < 0) (t := 10) (f := 4) rfl (fun h1 => ?_) (fun h1 => ?_)
  · skip
    refine Hx.run 1 (pc' := 11) (L' := [some (vr 0), some (vi c)]) (st' := [vr 0]) (M' := M) rfl ?_
    refine Hx.call (t := 114) (as := [vr 0]) (pc' := 14) (rest := []) rfl (c_bad M (by omega)) ?_
    rintro _ _ ⟨rfl, rfl⟩
    refine Hx.run 0 (pc' := 14) (L' := [some (vr 0), some (vi c)]) (st' := [vi (-2)]) (M' := (up M 0 14 ((M 0 14) + 1))) rfl ?_
    refine Hx.ret rfl ?_
    exact Or.inl ⟨h1, rfl, rfl⟩
  · skip
    refine Hx.run 2 (pc' := 7) (L' := [some (vr 0), some (vi c)]) (st' := [vi 127, vi c]) (M' := M) rfl ?_
    refine Hx.br (c := 127 < c) (t := 10) (f := 15) rfl (fun h2 => ?_) (fun h2 => ?_)
    · skip
      refine Hx.run 1 (pc' := 11) (L' := [some (vr 0), some (vi c)]) (st' := [vr 0]) (M' := M) rfl ?_
      refine Hx.call (t := 114) (as := [vr 0]) (pc' := 14) (rest := []) rfl (c_bad M (by omega)) ?_
      rintro _ _ ⟨rfl, rfl⟩
      refine Hx.run 0 (pc' := 14) (L' := [some (vr 0), some (vi c)]) (st' := [vi (-2)]) (M' := (up M 0 14 ((M 0 14) + 1))) rfl ?_
      refine Hx.ret rfl ?_
      exact Or.inr (Or.inl ⟨h1, h2, rfl, rfl⟩)
    · skip
      refine Hx.run 4 (pc' := 25) (L' := [some (vr 0), some (vi c)]) (st' := [vi 150, vi (M 59 1)]) (M' := M) rfl ?_
      refine Hx.br (c := (M 59 1) < 150) (t := 33) (f := 28) rfl (fun h3 => ?_) (fun h3 => ?_)
      · skip
        refine Hx.run 3 (pc' := 38) (L' := [some (vr 0), some (vi c)]) (st' := [vi c, vr 59]) (M' := M) rfl ?_
        refine Hx.call (t := 41) (as := [vr 59, vi c]) (pc' := 41) (rest := []) rfl (c_append c M (by omega)) ?_
        rintro _ _ ⟨rfl, rfl⟩
        refine Hx.run 0 (pc' := 41) (L' := [some (vr 0), some (vi c)]) (st' := [vi (M 59 1 + 1)]) (M' := (up (up M 60 (M 59 1) c) 59 1 ((M 59 1) + 1))) rfl ?_
        refine Hx.ret rfl ?_
        exact Or.inr (Or.inr (Or.inl ⟨h1, h2, h3, rfl, rfl⟩))
      · skip
        refine Hx.run 1 (pc' := 29) (L' := [some (vr 0), some (vi c)]) (st' := [vr 0]) (M' := M) rfl ?_
        refine Hx.call (t := 116) (as := [vr 0]) (pc' := 32) (rest := []) rfl (c_full M (by omega)) ?_
        rintro _ _ ⟨rfl, rfl⟩
        refine Hx.run 0 (pc' := 32) (L' := [some (vr 0), some (vi c)]) (st' := [vi (-4)]) (M' := (up M 0 16 ((M 0 16) + 1))) rfl ?_
        refine Hx.ret rfl ?_
        exact Or.inr (Or.inr (Or.inr (⟨h1, h2, h3, rfl, rfl⟩)))
set_option maxRecDepth 100000 in
theorem C_clear (M : Mm) (hI : HI M 1) (hs : (0 ≤ M 0 14 ∧ M 0 14 ≤ 600) ∧ (0 ≤ M 0 15 ∧ M 0 15 ≤ 600) ∧ (0 ≤ M 0 16 ∧ M 0 16 ≤ 600)) (ht : 0 ≤ M 59 1 ∧ M 59 1 ≤ 150) : Ct 62 [vr 0] M (fun q0 M' => (q0 = some (vi (M 59 1)) ∧ (up M 59 1 0) = M')) := by
  obtain ⟨iF, iG, iK, iH, iFa, aF, aG, lS, lN, lM, rS, rN, rM, aK⟩ := (show (0 ≤ M 1 0 ∧ M 1 0 ≤ 3) ∧ (0 ≤ M 1 1 ∧ M 1 1 ≤ 6) ∧ (0 ≤ M 1 2 ∧ M 1 2 ≤ 8) ∧ (0 ≤ M 6 16 ∧ M 6 16 ≤ 9999) ∧ (0 ≤ M 6 15 ∧ M 6 15 ≤ 9000) ∧ (∀ f : Int, 0 ≤ f → f < M 1 0 → (0 ≤ M 2 f ∧ M 2 f ≤ 5) ∧ (1 ≤ M 6 (12 + f) ∧ M 6 (12 + f) ≤ 10)) ∧ (∀ i : Int, 0 ≤ i → i < M 1 1 → (0 ≤ M 3 i ∧ M 3 i ≤ 5) ∧ (1 ≤ M 4 i ∧ M 4 i ≤ 4) ∧ (0 ≤ M 5 i ∧ M 5 i < M 1 0) ∧ (0 ≤ M 6 i ∧ M 6 i ≤ 11) ∧ (0 ≤ M 6 (6 + i) ∧ M 6 (6 + i) ≤ 9)) ∧ (M 8 0 = 4 ∧ M 8 1 = 5 ∧ 0 ≤ M 8 3 ∧ M 8 3 ≤ 5) ∧ (M 10 0 = 3 ∧ M 10 1 = 6 ∧ 0 ≤ M 10 3 ∧ M 10 3 ≤ 6) ∧ (M 12 0 = 5 ∧ M 12 1 = 6 ∧ 0 ≤ M 12 3 ∧ M 12 3 ≤ 6) ∧ (∀ n : Int, 0 ≤ n → n < M 8 3 → (0 ≤ M 9 (n * 4 + 0) ∧ M 9 (n * 4 + 0) ≤ 2) ∧ (1 ≤ M 9 (n * 4 + 1) ∧ M 9 (n * 4 + 1) ≤ 10) ∧ (0 ≤ M 9 (n * 4 + 2) ∧ M 9 (n * 4 + 2) ≤ 23) ∧ (0 ≤ M 9 (n * 4 + 3) ∧ M 9 (n * 4 + 3) ≤ 1)) ∧ (∀ n : Int, 0 ≤ n → n < M 10 3 → (0 ≤ M 11 (n * 3 + 0) ∧ M 11 (n * 3 + 0) ≤ 2) ∧ (0 ≤ M 11 (n * 3 + 1) ∧ M 11 (n * 3 + 1) ≤ 23) ∧ (0 ≤ M 11 (n * 3 + 2) ∧ M 11 (n * 3 + 2) ≤ 9)) ∧ (∀ n : Int, 0 ≤ n → n < M 12 3 → (0 ≤ M 13 (n * 5 + 0) ∧ M 13 (n * 5 + 0) ≤ 5) ∧ (1 ≤ M 13 (n * 5 + 1) ∧ M 13 (n * 5 + 1) ≤ 4) ∧ (0 ≤ M 13 (n * 5 + 2) ∧ M 13 (n * 5 + 2) ≤ 9) ∧ (0 ≤ M 13 (n * 5 + 3) ∧ M 13 (n * 5 + 3) ≤ 23) ∧ (0 ≤ M 13 (n * 5 + 4) ∧ M 13 (n * 5 + 4) ≤ 9)) ∧ (∀ k : Int, 0 ≤ k → k < M 1 2 → (0 ≤ M 7 (k * 17 + 16) ∧ M 7 (k * 17 + 16) ≤ 9999) ∧ (0 ≤ M 7 (k * 17 + 15) ∧ M 7 (k * 17 + 15) ≤ 9000) ∧ (∀ f : Int, 0 ≤ f → f < M 1 0 → (1 ≤ M 7 (k * 17 + (12 + f)) ∧ M 7 (k * 17 + (12 + f)) ≤ 10)) ∧ (∀ i : Int, 0 ≤ i → i < M 1 1 → (0 ≤ M 7 (k * 17 + i) ∧ M 7 (k * 17 + i) ≤ 11) ∧ (0 ≤ M 7 (k * 17 + (6 + i)) ∧ M 7 (k * 17 + (6 + i)) ≤ 9))) from hI)
  refine Hx.run 9 (pc' := 17) (L' := [some (vr 0), some (vi (M 59 1))]) (st' := [vi (M 59 1)]) (M' := (up M 59 1 0)) rfl ?_
  refine Hx.ret rfl ?_
  exact ⟨rfl, rfl⟩
set_option maxRecDepth 100000 in
theorem C_strides (i : Int) (d : Int) (M : Mm) (hI : HI M 1) (hs : (0 ≤ M 0 14 ∧ M 0 14 ≤ 600) ∧ (0 ≤ M 0 15 ∧ M 0 15 ≤ 600) ∧ (0 ≤ M 0 16 ∧ M 0 16 ≤ 600)) : Ct 64 [vr 0, vi i, vi d] M (fun q0 M' => ((0 ≤ i ∧ i < (M 1 1)) ∧ (d < 1) ∧ q0 = some (vi (-2)) ∧ (up M 0 14 ((M 0 14) + 1)) = M') ∨ ((0 ≤ i ∧ i < (M 1 1)) ∧ (¬ (d < 1)) ∧ (9 < d) ∧ q0 = some (vi (-2)) ∧ (up M 0 14 ((M 0 14) + 1)) = M') ∨ ((0 ≤ i ∧ i < (M 1 1)) ∧ (¬ (d < 1)) ∧ (¬ (9 < d)) ∧ (11 ≤ (M 6 i)) ∧ q0 = some (vi (-3)) ∧ (up M 0 15 ((M 0 15) + 1)) = M') ∨ ((0 ≤ i ∧ i < (M 1 1)) ∧ (¬ (d < 1)) ∧ (¬ (9 < d)) ∧ (¬ (11 ≤ (M 6 i))) ∧ ((sfF (M 3 i) (M 4 i) (M 6 (6 + i)) (M 6 16 % 24)) < d) ∧ q0 = some (vi (-3)) ∧ (up M 0 15 ((M 0 15) + 1)) = M') ∨ ((0 ≤ i ∧ i < (M 1 1)) ∧ (¬ (d < 1)) ∧ (¬ (9 < d)) ∧ (¬ (11 ≤ (M 6 i))) ∧ (¬ ((sfF (M 3 i) (M 4 i) (M 6 (6 + i)) (M 6 16 % 24)) < d)) ∧ (hb (bb ((kmM M) 6 (12 + ((kmM M) 5 i))) (bcF ((kmM M) 2 ((kmM M) 5 i)) (((kmM M) 6 16) % 24))) (min 11 (((kmM M) 6 i) + d))) ∧ q0 = some (vi 0) ∧ (up (up (kmM M) 6 15 (min 9999 (((kmM M) 6 15) + 1))) 6 i 0) = M') ∨ ((0 ≤ i ∧ i < (M 1 1)) ∧ (¬ (d < 1)) ∧ (¬ (9 < d)) ∧ (¬ (11 ≤ (M 6 i))) ∧ (¬ ((sfF (M 3 i) (M 4 i) (M 6 (6 + i)) (M 6 16 % 24)) < d)) ∧ (¬ (hb (bb ((kmM M) 6 (12 + ((kmM M) 5 i))) (bcF ((kmM M) 2 ((kmM M) 5 i)) (((kmM M) 6 16) % 24))) (min 11 (((kmM M) 6 i) + d)))) ∧ q0 = some (vi (min 11 (((kmM M) 6 i) + d))) ∧ (up (kmM M) 6 i (min 11 (((kmM M) 6 i) + d))) = M') ∨ ((¬ (0 ≤ i ∧ i < (M 1 1))) ∧ q0 = some (vi (-2)) ∧ (up M 0 14 ((M 0 14) + 1)) = M')) := by
  obtain ⟨iF, iG, iK, iH, iFa, aF, aG, lS, lN, lM, rS, rN, rM, aK⟩ := (show (0 ≤ M 1 0 ∧ M 1 0 ≤ 3) ∧ (0 ≤ M 1 1 ∧ M 1 1 ≤ 6) ∧ (0 ≤ M 1 2 ∧ M 1 2 ≤ 8) ∧ (0 ≤ M 6 16 ∧ M 6 16 ≤ 9999) ∧ (0 ≤ M 6 15 ∧ M 6 15 ≤ 9000) ∧ (∀ f : Int, 0 ≤ f → f < M 1 0 → (0 ≤ M 2 f ∧ M 2 f ≤ 5) ∧ (1 ≤ M 6 (12 + f) ∧ M 6 (12 + f) ≤ 10)) ∧ (∀ i : Int, 0 ≤ i → i < M 1 1 → (0 ≤ M 3 i ∧ M 3 i ≤ 5) ∧ (1 ≤ M 4 i ∧ M 4 i ≤ 4) ∧ (0 ≤ M 5 i ∧ M 5 i < M 1 0) ∧ (0 ≤ M 6 i ∧ M 6 i ≤ 11) ∧ (0 ≤ M 6 (6 + i) ∧ M 6 (6 + i) ≤ 9)) ∧ (M 8 0 = 4 ∧ M 8 1 = 5 ∧ 0 ≤ M 8 3 ∧ M 8 3 ≤ 5) ∧ (M 10 0 = 3 ∧ M 10 1 = 6 ∧ 0 ≤ M 10 3 ∧ M 10 3 ≤ 6) ∧ (M 12 0 = 5 ∧ M 12 1 = 6 ∧ 0 ≤ M 12 3 ∧ M 12 3 ≤ 6) ∧ (∀ n : Int, 0 ≤ n → n < M 8 3 → (0 ≤ M 9 (n * 4 + 0) ∧ M 9 (n * 4 + 0) ≤ 2) ∧ (1 ≤ M 9 (n * 4 + 1) ∧ M 9 (n * 4 + 1) ≤ 10) ∧ (0 ≤ M 9 (n * 4 + 2) ∧ M 9 (n * 4 + 2) ≤ 23) ∧ (0 ≤ M 9 (n * 4 + 3) ∧ M 9 (n * 4 + 3) ≤ 1)) ∧ (∀ n : Int, 0 ≤ n → n < M 10 3 → (0 ≤ M 11 (n * 3 + 0) ∧ M 11 (n * 3 + 0) ≤ 2) ∧ (0 ≤ M 11 (n * 3 + 1) ∧ M 11 (n * 3 + 1) ≤ 23) ∧ (0 ≤ M 11 (n * 3 + 2) ∧ M 11 (n * 3 + 2) ≤ 9)) ∧ (∀ n : Int, 0 ≤ n → n < M 12 3 → (0 ≤ M 13 (n * 5 + 0) ∧ M 13 (n * 5 + 0) ≤ 5) ∧ (1 ≤ M 13 (n * 5 + 1) ∧ M 13 (n * 5 + 1) ≤ 4) ∧ (0 ≤ M 13 (n * 5 + 2) ∧ M 13 (n * 5 + 2) ≤ 9) ∧ (0 ≤ M 13 (n * 5 + 3) ∧ M 13 (n * 5 + 3) ≤ 23) ∧ (0 ≤ M 13 (n * 5 + 4) ∧ M 13 (n * 5 + 4) ≤ 9)) ∧ (∀ k : Int, 0 ≤ k → k < M 1 2 → (0 ≤ M 7 (k * 17 + 16) ∧ M 7 (k * 17 + 16) ≤ 9999) ∧ (0 ≤ M 7 (k * 17 + 15) ∧ M 7 (k * 17 + 15) ≤ 9000) ∧ (∀ f : Int, 0 ≤ f → f < M 1 0 → (1 ≤ M 7 (k * 17 + (12 + f)) ∧ M 7 (k * 17 + (12 + f)) ≤ 10)) ∧ (∀ i : Int, 0 ≤ i → i < M 1 1 → (0 ≤ M 7 (k * 17 + i) ∧ M 7 (k * 17 + i) ≤ 11) ∧ (0 ≤ M 7 (k * 17 + (6 + i)) ∧ M 7 (k * 17 + (6 + i)) ≤ 9))) from hI)
  refine Hx.run 3 (pc' := 5) (L' := [some (vr 0), some (vi i), some (vi d)]) (st' := [vi i, vr 1]) (M' := M) rfl ?_
  refine Hx.call (t := 8) (as := [vr 1, vi i]) (pc' := 8) (rest := []) rfl (c_hasGoer_1 i M) ?_
  rintro _ _ (⟨q26, rfl, rfl⟩ | ⟨q26, rfl, rfl⟩)
  · skip
    have gq26 := aG i q26.1 q26.2
    have fq26 := aF (M 5 i) (by omega) (by omega)
    refine Hx.run 3 (pc' := 13) (L' := [some (vr 0), some (vi i), some (vi d)]) (st' := [vi 1, vi d]) (M' := M) rfl ?_
    refine Hx.br (c := d < 1) (t := 22) (f := 16) rfl (fun h1 => ?_) (fun h1 => ?_)
    · skip
      refine Hx.run 1 (pc' := 23) (L' := [some (vr 0), some (vi i), some (vi d)]) (st' := [vr 0]) (M' := M) rfl ?_
      refine Hx.call (t := 114) (as := [vr 0]) (pc' := 26) (rest := []) rfl (c_bad M (by (first | omega | (simp only [km0, km2, km3, km4, km5, km6]; omega)))) ?_
      rintro _ _ ⟨rfl, rfl⟩
      refine Hx.run 0 (pc' := 26) (L' := [some (vr 0), some (vi i), some (vi d)]) (st' := [vi (-2)]) (M' := (up M 0 14 ((M 0 14) + 1))) rfl ?_
      refine Hx.ret rfl ?_
      exact Or.inl ⟨q26, h1, rfl, rfl⟩
    · skip
      refine Hx.run 2 (pc' := 19) (L' := [some (vr 0), some (vi i), some (vi d)]) (st' := [vi 9, vi d]) (M' := M) rfl ?_
      refine Hx.br (c := 9 < d) (t := 22) (f := 27) rfl (fun h2 => ?_) (fun h2 => ?_)
      · skip
        refine Hx.run 1 (pc' := 23) (L' := [some (vr 0), some (vi i), some (vi d)]) (st' := [vr 0]) (M' := M) rfl ?_
        refine Hx.call (t := 114) (as := [vr 0]) (pc' := 26) (rest := []) rfl (c_bad M (by (first | omega | (simp only [km0, km2, km3, km4, km5, km6]; omega)))) ?_
        rintro _ _ ⟨rfl, rfl⟩
        refine Hx.run 0 (pc' := 26) (L' := [some (vr 0), some (vi i), some (vi d)]) (st' := [vi (-2)]) (M' := (up M 0 14 ((M 0 14) + 1))) rfl ?_
        refine Hx.ret rfl ?_
        exact Or.inr (Or.inl ⟨q26, h1, h2, rfl, rfl⟩)
      · skip
        refine Hx.run 3 (pc' := 32) (L' := [some (vr 0), some (vi i), some (vi d)]) (st' := [vi i, vr 1]) (M' := M) rfl ?_
        refine Hx.call (t := 26) (as := [vr 1, vi i]) (pc' := 35) (rest := []) rfl (c_isOver_1 i M (by (first | omega | (simp only [km0, km2, km3, km4, km5, km6]; omega)))) ?_
        rintro _ _ (⟨q27, rfl, rfl⟩ | ⟨q27, rfl, rfl⟩)
        · skip
          refine Hx.run 2 (pc' := 51) (L' := [some (vr 0), some (vi i), some (vi d)]) (st' := [vr 0]) (M' := M) rfl ?_
          refine Hx.call (t := 115) (as := [vr 0]) (pc' := 54) (rest := []) rfl (c_no M (by (first | omega | (simp only [km0, km2, km3, km4, km5, km6]; omega)))) ?_
          rintro _ _ ⟨rfl, rfl⟩
          refine Hx.run 0 (pc' := 54) (L' := [some (vr 0), some (vi i), some (vi d)]) (st' := [vi (-3)]) (M' := (up M 0 15 ((M 0 15) + 1))) rfl ?_
          refine Hx.ret rfl ?_
          exact Or.inr (Or.inr (Or.inl ⟨q26, h1, h2, q27, rfl, rfl⟩))
        · skip
          refine Hx.run 5 (pc' := 44) (L' := [some (vr 0), some (vi i), some (vi d)]) (st' := [vi i, vr 1, vi d]) (M' := M) rfl ?_
          refine Hx.call (t := 30) (as := [vr 1, vi i]) (pc' := 47) (rest := [vi d]) rfl (c_reach_1 i M (by (first | omega | (simp only [km0, km2, km3, km4, km5, km6]; omega))) (by (first | omega | (simp only [km0, km2, km3, km4, km5, km6]; omega)))) ?_
          rintro _ _ ⟨rfl, rfl⟩
          refine Hx.run 0 (pc' := 47) (L' := [some (vr 0), some (vi i), some (vi d)]) (st' := [vi (sfF (M 3 i) (M 4 i) (M 6 (6 + i)) (M 6 16 % 24)), vi d]) (M' := M) rfl ?_
          refine Hx.br (c := (sfF (M 3 i) (M 4 i) (M 6 (6 + i)) (M 6 16 % 24)) < d) (t := 50) (f := 55) rfl (fun h3 => ?_) (fun h3 => ?_)
          · skip
            refine Hx.run 1 (pc' := 51) (L' := [some (vr 0), some (vi i), some (vi d)]) (st' := [vr 0]) (M' := M) rfl ?_
            refine Hx.call (t := 115) (as := [vr 0]) (pc' := 54) (rest := []) rfl (c_no M (by (first | omega | (simp only [km0, km2, km3, km4, km5, km6]; omega)))) ?_
            rintro _ _ ⟨rfl, rfl⟩
            refine Hx.run 0 (pc' := 54) (L' := [some (vr 0), some (vi i), some (vi d)]) (st' := [vi (-3)]) (M' := (up M 0 15 ((M 0 15) + 1))) rfl ?_
            refine Hx.ret rfl ?_
            exact Or.inr (Or.inr (Or.inr (Or.inl ⟨q26, h1, h2, q27, h3, rfl, rfl⟩)))
          · skip
            refine Hx.run 2 (pc' := 59) (L' := [some (vr 0), some (vi i), some (vi d)]) (st' := [vr 1]) (M' := M) rfl ?_
            refine Hx.call (t := 11) (as := [vr 1]) (pc' := 62) (rest := []) rfl (c_keepMoment  M (by (first | omega | (simp only [km0, km2, km3, km4, km5, km6]; omega)))) ?_
            rintro _ _ ⟨rfl, rfl⟩
            refine Hx.run 0 (pc' := 62) (L' := [some (vr 0), some (vi i), some (vi d)]) (st' := []) (M' := (kmM M)) rfl ?_
            refine Hx.run 4 (pc' := 68) (L' := [some (vr 0), some (vi i), some (vi d)]) (st' := [vi d, vi i, vr 1]) (M' := (kmM M)) rfl ?_
            refine Hx.call (t := 33) (as := [vr 1, vi i, vi d]) (pc' := 71) (rest := []) rfl (c_stride_1 i d (kmM M) (by (first | omega | (simp only [km0, km2, km3, km4, km5, km6]; omega))) (by (first | omega | (simp only [km0, km2, km3, km4, km5, km6]; omega))) (by (first | omega | (simp only [km0, km2, km3, km4, km5, km6]; omega))) (by (first | omega | (simp only [km0, km2, km3, km4, km5, km6]; omega))) (by (first | omega | (simp only [km0, km2, km3, km4, km5, km6]; omega)))) ?_
            rintro _ _ (⟨q28, rfl, rfl⟩ | ⟨q28, rfl, rfl⟩)
            · skip
              refine Hx.ret rfl ?_
              exact Or.inr (Or.inr (Or.inr (Or.inr (Or.inl ⟨q26, h1, h2, q27, h3, q28, rfl, rfl⟩))))
            · skip
              refine Hx.ret rfl ?_
              exact Or.inr (Or.inr (Or.inr (Or.inr (Or.inr (Or.inl ⟨q26, h1, h2, q27, h3, q28, rfl, rfl⟩)))))
  · skip
    refine Hx.run 2 (pc' := 23) (L' := [some (vr 0), some (vi i), some (vi d)]) (st' := [vr 0]) (M' := M) rfl ?_
    refine Hx.call (t := 114) (as := [vr 0]) (pc' := 26) (rest := []) rfl (c_bad M (by (first | omega | (simp only [km0, km2, km3, km4, km5, km6]; omega)))) ?_
    rintro _ _ ⟨rfl, rfl⟩
    refine Hx.run 0 (pc' := 26) (L' := [some (vr 0), some (vi i), some (vi d)]) (st' := [vi (-2)]) (M' := (up M 0 14 ((M 0 14) + 1))) rfl ?_
    refine Hx.ret rfl ?_
    exact Or.inr (Or.inr (Or.inr (Or.inr (Or.inr (Or.inr (⟨q26, rfl, rfl⟩))))))
set_option maxRecDepth 100000 in
theorem C_hours (n : Int) (M : Mm) (hI : HI M 1) (hs : (0 ≤ M 0 14 ∧ M 0 14 ≤ 600) ∧ (0 ≤ M 0 15 ∧ M 0 15 ≤ 600) ∧ (0 ≤ M 0 16 ∧ M 0 16 ≤ 600)) : Ct 68 [vr 0, vi n] M (fun q0 M' => ((n < 1) ∧ q0 = some (vi (-2)) ∧ (up M 0 14 ((M 0 14) + 1)) = M') ∨ ((¬ (n < 1)) ∧ (99 < n) ∧ q0 = some (vi (-2)) ∧ (up M 0 14 ((M 0 14) + 1)) = M') ∨ ((¬ (n < 1)) ∧ (¬ (99 < n)) ∧ q0 = some (vi (min 9999 (((kmM M) 6 16) + n))) ∧ (up (kmM M) 6 16 (min 9999 (((kmM M) 6 16) + n))) = M')) := by
  obtain ⟨iF, iG, iK, iH, iFa, aF, aG, lS, lN, lM, rS, rN, rM, aK⟩ := (show (0 ≤ M 1 0 ∧ M 1 0 ≤ 3) ∧ (0 ≤ M 1 1 ∧ M 1 1 ≤ 6) ∧ (0 ≤ M 1 2 ∧ M 1 2 ≤ 8) ∧ (0 ≤ M 6 16 ∧ M 6 16 ≤ 9999) ∧ (0 ≤ M 6 15 ∧ M 6 15 ≤ 9000) ∧ (∀ f : Int, 0 ≤ f → f < M 1 0 → (0 ≤ M 2 f ∧ M 2 f ≤ 5) ∧ (1 ≤ M 6 (12 + f) ∧ M 6 (12 + f) ≤ 10)) ∧ (∀ i : Int, 0 ≤ i → i < M 1 1 → (0 ≤ M 3 i ∧ M 3 i ≤ 5) ∧ (1 ≤ M 4 i ∧ M 4 i ≤ 4) ∧ (0 ≤ M 5 i ∧ M 5 i < M 1 0) ∧ (0 ≤ M 6 i ∧ M 6 i ≤ 11) ∧ (0 ≤ M 6 (6 + i) ∧ M 6 (6 + i) ≤ 9)) ∧ (M 8 0 = 4 ∧ M 8 1 = 5 ∧ 0 ≤ M 8 3 ∧ M 8 3 ≤ 5) ∧ (M 10 0 = 3 ∧ M 10 1 = 6 ∧ 0 ≤ M 10 3 ∧ M 10 3 ≤ 6) ∧ (M 12 0 = 5 ∧ M 12 1 = 6 ∧ 0 ≤ M 12 3 ∧ M 12 3 ≤ 6) ∧ (∀ n : Int, 0 ≤ n → n < M 8 3 → (0 ≤ M 9 (n * 4 + 0) ∧ M 9 (n * 4 + 0) ≤ 2) ∧ (1 ≤ M 9 (n * 4 + 1) ∧ M 9 (n * 4 + 1) ≤ 10) ∧ (0 ≤ M 9 (n * 4 + 2) ∧ M 9 (n * 4 + 2) ≤ 23) ∧ (0 ≤ M 9 (n * 4 + 3) ∧ M 9 (n * 4 + 3) ≤ 1)) ∧ (∀ n : Int, 0 ≤ n → n < M 10 3 → (0 ≤ M 11 (n * 3 + 0) ∧ M 11 (n * 3 + 0) ≤ 2) ∧ (0 ≤ M 11 (n * 3 + 1) ∧ M 11 (n * 3 + 1) ≤ 23) ∧ (0 ≤ M 11 (n * 3 + 2) ∧ M 11 (n * 3 + 2) ≤ 9)) ∧ (∀ n : Int, 0 ≤ n → n < M 12 3 → (0 ≤ M 13 (n * 5 + 0) ∧ M 13 (n * 5 + 0) ≤ 5) ∧ (1 ≤ M 13 (n * 5 + 1) ∧ M 13 (n * 5 + 1) ≤ 4) ∧ (0 ≤ M 13 (n * 5 + 2) ∧ M 13 (n * 5 + 2) ≤ 9) ∧ (0 ≤ M 13 (n * 5 + 3) ∧ M 13 (n * 5 + 3) ≤ 23) ∧ (0 ≤ M 13 (n * 5 + 4) ∧ M 13 (n * 5 + 4) ≤ 9)) ∧ (∀ k : Int, 0 ≤ k → k < M 1 2 → (0 ≤ M 7 (k * 17 + 16) ∧ M 7 (k * 17 + 16) ≤ 9999) ∧ (0 ≤ M 7 (k * 17 + 15) ∧ M 7 (k * 17 + 15) ≤ 9000) ∧ (∀ f : Int, 0 ≤ f → f < M 1 0 → (1 ≤ M 7 (k * 17 + (12 + f)) ∧ M 7 (k * 17 + (12 + f)) ≤ 10)) ∧ (∀ i : Int, 0 ≤ i → i < M 1 1 → (0 ≤ M 7 (k * 17 + i) ∧ M 7 (k * 17 + i) ≤ 11) ∧ (0 ≤ M 7 (k * 17 + (6 + i)) ∧ M 7 (k * 17 + (6 + i)) ≤ 9))) from hI)
  refine Hx.run 2 (pc' := 2) (L' := [some (vr 0), some (vi n)]) (st' := [vi 1, vi n]) (M' := M) rfl ?_
  refine Hx.br (c := n < 1) (t := 11) (f := 5) rfl (fun h1 => ?_) (fun h1 => ?_)
  · skip
    refine Hx.run 1 (pc' := 12) (L' := [some (vr 0), some (vi n)]) (st' := [vr 0]) (M' := M) rfl ?_
    refine Hx.call (t := 114) (as := [vr 0]) (pc' := 15) (rest := []) rfl (c_bad M (by (first | omega | (simp only [km0, km2, km3, km4, km5, km6]; omega)))) ?_
    rintro _ _ ⟨rfl, rfl⟩
    refine Hx.run 0 (pc' := 15) (L' := [some (vr 0), some (vi n)]) (st' := [vi (-2)]) (M' := (up M 0 14 ((M 0 14) + 1))) rfl ?_
    refine Hx.ret rfl ?_
    exact Or.inl ⟨h1, rfl, rfl⟩
  · skip
    refine Hx.run 2 (pc' := 8) (L' := [some (vr 0), some (vi n)]) (st' := [vi 99, vi n]) (M' := M) rfl ?_
    refine Hx.br (c := 99 < n) (t := 11) (f := 16) rfl (fun h2 => ?_) (fun h2 => ?_)
    · skip
      refine Hx.run 1 (pc' := 12) (L' := [some (vr 0), some (vi n)]) (st' := [vr 0]) (M' := M) rfl ?_
      refine Hx.call (t := 114) (as := [vr 0]) (pc' := 15) (rest := []) rfl (c_bad M (by (first | omega | (simp only [km0, km2, km3, km4, km5, km6]; omega)))) ?_
      rintro _ _ ⟨rfl, rfl⟩
      refine Hx.run 0 (pc' := 15) (L' := [some (vr 0), some (vi n)]) (st' := [vi (-2)]) (M' := (up M 0 14 ((M 0 14) + 1))) rfl ?_
      refine Hx.ret rfl ?_
      exact Or.inr (Or.inl ⟨h1, h2, rfl, rfl⟩)
    · skip
      refine Hx.run 2 (pc' := 20) (L' := [some (vr 0), some (vi n)]) (st' := [vr 1]) (M' := M) rfl ?_
      refine Hx.call (t := 11) (as := [vr 1]) (pc' := 23) (rest := []) rfl (c_keepMoment  M (by (first | omega | (simp only [km0, km2, km3, km4, km5, km6]; omega)))) ?_
      rintro _ _ ⟨rfl, rfl⟩
      refine Hx.run 0 (pc' := 23) (L' := [some (vr 0), some (vi n)]) (st' := []) (M' := (kmM M)) rfl ?_
      refine Hx.run 3 (pc' := 28) (L' := [some (vr 0), some (vi n)]) (st' := [vi n, vr 1]) (M' := (kmM M)) rfl ?_
      refine Hx.call (t := 25) (as := [vr 1, vi n]) (pc' := 31) (rest := []) rfl (c_pass_1 n (kmM M) (by (first | omega | (simp only [km0, km2, km3, km4, km5, km6]; omega))) (by (first | omega | (simp only [km0, km2, km3, km4, km5, km6]; omega)))) ?_
      rintro _ _ ⟨rfl, rfl⟩
      refine Hx.run 0 (pc' := 31) (L' := [some (vr 0), some (vi n)]) (st' := []) (M' := (up (kmM M) 6 16 (min 9999 (((kmM M) 6 16) + n)))) rfl ?_
      refine Hx.run 2 (pc' := 35) (L' := [some (vr 0), some (vi n)]) (st' := [vr 1]) (M' := (up (kmM M) 6 16 (min 9999 (((kmM M) 6 16) + n)))) rfl ?_
      refine Hx.call (t := 23) (as := [vr 1]) (pc' := 38) (rest := []) rfl (c_hour_1 (up (kmM M) 6 16 (min 9999 (((kmM M) 6 16) + n)))) ?_
      rintro _ _ ⟨rfl, rfl⟩
      refine Hx.run 0 (pc' := 38) (L' := [some (vr 0), some (vi n)]) (st' := [vi (min 9999 (((kmM M) 6 16) + n))]) (M' := (up (kmM M) 6 16 (min 9999 (((kmM M) 6 16) + n)))) rfl ?_
      refine Hx.ret rfl ?_
      exact Or.inr (Or.inr (⟨h1, h2, rfl, rfl⟩))
set_option maxRecDepth 100000 in
theorem C_undo (M : Mm) (hI : HI M 1) (hs : (0 ≤ M 0 14 ∧ M 0 14 ≤ 600) ∧ (0 ≤ M 0 15 ∧ M 0 15 ≤ 600) ∧ (0 ≤ M 0 16 ∧ M 0 16 ≤ 600)) : Ct 69 [vr 0] M (fun q0 M' => ((0 < (M 1 2)) ∧ q0 = some (vi ((cp (up M 1 2 ((M 1 2) - 1)) 7 (((M 1 2) - 1) * 17) 6 0 17) 6 16)) ∧ (cp (up M 1 2 ((M 1 2) - 1)) 7 (((M 1 2) - 1) * 17) 6 0 17) = M') ∨ ((¬ (0 < (M 1 2))) ∧ q0 = some (vi (-3)) ∧ (up M 0 15 ((M 0 15) + 1)) = M')) := by
  obtain ⟨iF, iG, iK, iH, iFa, aF, aG, lS, lN, lM, rS, rN, rM, aK⟩ := (show (0 ≤ M 1 0 ∧ M 1 0 ≤ 3) ∧ (0 ≤ M 1 1 ∧ M 1 1 ≤ 6) ∧ (0 ≤ M 1 2 ∧ M 1 2 ≤ 8) ∧ (0 ≤ M 6 16 ∧ M 6 16 ≤ 9999) ∧ (0 ≤ M 6 15 ∧ M 6 15 ≤ 9000) ∧ (∀ f : Int, 0 ≤ f → f < M 1 0 → (0 ≤ M 2 f ∧ M 2 f ≤ 5) ∧ (1 ≤ M 6 (12 + f) ∧ M 6 (12 + f) ≤ 10)) ∧ (∀ i : Int, 0 ≤ i → i < M 1 1 → (0 ≤ M 3 i ∧ M 3 i ≤ 5) ∧ (1 ≤ M 4 i ∧ M 4 i ≤ 4) ∧ (0 ≤ M 5 i ∧ M 5 i < M 1 0) ∧ (0 ≤ M 6 i ∧ M 6 i ≤ 11) ∧ (0 ≤ M 6 (6 + i) ∧ M 6 (6 + i) ≤ 9)) ∧ (M 8 0 = 4 ∧ M 8 1 = 5 ∧ 0 ≤ M 8 3 ∧ M 8 3 ≤ 5) ∧ (M 10 0 = 3 ∧ M 10 1 = 6 ∧ 0 ≤ M 10 3 ∧ M 10 3 ≤ 6) ∧ (M 12 0 = 5 ∧ M 12 1 = 6 ∧ 0 ≤ M 12 3 ∧ M 12 3 ≤ 6) ∧ (∀ n : Int, 0 ≤ n → n < M 8 3 → (0 ≤ M 9 (n * 4 + 0) ∧ M 9 (n * 4 + 0) ≤ 2) ∧ (1 ≤ M 9 (n * 4 + 1) ∧ M 9 (n * 4 + 1) ≤ 10) ∧ (0 ≤ M 9 (n * 4 + 2) ∧ M 9 (n * 4 + 2) ≤ 23) ∧ (0 ≤ M 9 (n * 4 + 3) ∧ M 9 (n * 4 + 3) ≤ 1)) ∧ (∀ n : Int, 0 ≤ n → n < M 10 3 → (0 ≤ M 11 (n * 3 + 0) ∧ M 11 (n * 3 + 0) ≤ 2) ∧ (0 ≤ M 11 (n * 3 + 1) ∧ M 11 (n * 3 + 1) ≤ 23) ∧ (0 ≤ M 11 (n * 3 + 2) ∧ M 11 (n * 3 + 2) ≤ 9)) ∧ (∀ n : Int, 0 ≤ n → n < M 12 3 → (0 ≤ M 13 (n * 5 + 0) ∧ M 13 (n * 5 + 0) ≤ 5) ∧ (1 ≤ M 13 (n * 5 + 1) ∧ M 13 (n * 5 + 1) ≤ 4) ∧ (0 ≤ M 13 (n * 5 + 2) ∧ M 13 (n * 5 + 2) ≤ 9) ∧ (0 ≤ M 13 (n * 5 + 3) ∧ M 13 (n * 5 + 3) ≤ 23) ∧ (0 ≤ M 13 (n * 5 + 4) ∧ M 13 (n * 5 + 4) ≤ 9)) ∧ (∀ k : Int, 0 ≤ k → k < M 1 2 → (0 ≤ M 7 (k * 17 + 16) ∧ M 7 (k * 17 + 16) ≤ 9999) ∧ (0 ≤ M 7 (k * 17 + 15) ∧ M 7 (k * 17 + 15) ≤ 9000) ∧ (∀ f : Int, 0 ≤ f → f < M 1 0 → (1 ≤ M 7 (k * 17 + (12 + f)) ∧ M 7 (k * 17 + (12 + f)) ≤ 10)) ∧ (∀ i : Int, 0 ≤ i → i < M 1 1 → (0 ≤ M 7 (k * 17 + i) ∧ M 7 (k * 17 + i) ≤ 11) ∧ (0 ≤ M 7 (k * 17 + (6 + i)) ∧ M 7 (k * 17 + (6 + i)) ≤ 9))) from hI)
  refine Hx.run 3 (pc' := 7) (L' := [some (vr 0)]) (st' := [vi (M 1 2)]) (M' := M) rfl ?_
  refine Hx.br (c := 0 < (M 1 2)) (t := 15) (f := 10) rfl (fun h1 => ?_) (fun h1 => ?_)
  · skip
    refine Hx.run 2 (pc' := 19) (L' := [some (vr 0)]) (st' := [vr 1]) (M' := M) rfl ?_
    refine Hx.call (t := 12) (as := [vr 1]) (pc' := 22) (rest := []) rfl (c_dropMoment  M (by omega)) ?_
    rintro _ _ ⟨rfl, rfl⟩
    refine Hx.run 0 (pc' := 22) (L' := [some (vr 0)]) (st' := []) (M' := (cp (up M 1 2 ((M 1 2) - 1)) 7 (((M 1 2) - 1) * 17) 6 0 17)) rfl ?_
    refine Hx.run 2 (pc' := 26) (L' := [some (vr 0)]) (st' := [vr 1]) (M' := (cp (up M 1 2 ((M 1 2) - 1)) 7 (((M 1 2) - 1) * 17) 6 0 17)) rfl ?_
    refine Hx.call (t := 23) (as := [vr 1]) (pc' := 29) (rest := []) rfl (c_hour_1 (cp (up M 1 2 ((M 1 2) - 1)) 7 (((M 1 2) - 1) * 17) 6 0 17)) ?_
    rintro _ _ ⟨rfl, rfl⟩
    refine Hx.run 0 (pc' := 29) (L' := [some (vr 0)]) (st' := [vi ((cp (up M 1 2 ((M 1 2) - 1)) 7 (((M 1 2) - 1) * 17) 6 0 17) 6 16)]) (M' := (cp (up M 1 2 ((M 1 2) - 1)) 7 (((M 1 2) - 1) * 17) 6 0 17)) rfl ?_
    refine Hx.ret rfl ?_
    exact Or.inl ⟨h1, rfl, rfl⟩
  · skip
    refine Hx.run 1 (pc' := 11) (L' := [some (vr 0)]) (st' := [vr 0]) (M' := M) rfl ?_
    refine Hx.call (t := 115) (as := [vr 0]) (pc' := 14) (rest := []) rfl (c_no M (by omega)) ?_
    rintro _ _ ⟨rfl, rfl⟩
    refine Hx.run 0 (pc' := 14) (L' := [some (vr 0)]) (st' := [vi (-3)]) (M' := (up M 0 15 ((M 0 15) + 1))) rfl ?_
    refine Hx.ret rfl ?_
    exact Or.inr (⟨h1, rfl, rfl⟩)
set_option maxRecDepth 100000 in
theorem l_over (M : Mm) (hg : 0 ≤ M 1 1 ∧ M 1 1 ≤ 6) : ∀ (kk : Nat) (j : Nat), (j : Int) ≤ M 1 1 → M 1 1 - j < (kk : Int) → Hx 27 4 [some (vr 1), some (vi (ov (M 6) j)), some (vi (j : Int))] [] M (fun q0 M' => q0 = some (vi (ov (M 6) (M 1 1).toNat)) ∧ M = M') := by
  intro kk
  induction kk with
  | zero => intro j _ hkk; exact absurd hkk (by omega)
  | succ kk ih =>
    intro j hj hkk
    refine Hx.run 3 (pc' := 9) (L' := [some (vr 1), some (vi (ov (M 6) j)), some (vi (j : Int))]) (st' := [vi (M 1 1), vi (j : Int)]) (M' := M) rfl ?_
    refine Hx.br (c := (j : Int) < (M 1 1)) (t := 12) (f := 29) rfl (fun h1 => ?_) (fun h1 => ?_)
    · skip
      refine Hx.run 2 (pc' := 14) (L' := [some (vr 1), some (vi (ov (M 6) j)), some (vi (j : Int))]) (st' := [vi (j : Int), vr 1]) (M' := M) rfl ?_
      refine Hx.call (t := 26) (as := [vr 1, vi (j : Int)]) (pc' := 17) (rest := []) rfl (c_isOver_1 (j : Int) M (by (have := ov_rng (M 6) j; omega))) ?_
      rintro _ _ (⟨q29, rfl, rfl⟩ | ⟨q29, rfl, rfl⟩)
      · skip
        refine Hx.run 1 (pc' := 20) (L' := [some (vr 1), some (vi (ov (M 6) j)), some (vi (j : Int))]) (st' := []) (M' := M) rfl ?_
        refine Hx.inc rfl rfl (by (have := ov_rng (M 6) j; omega)) ?_
        refine Hx.run 0 (pc' := 23) (L' := [some (vr 1), some (vi ((ov (M 6) j) + 1)), some (vi (j : Int))]) (st' := []) (M' := M) rfl ?_
        refine Hx.inc rfl rfl (by (have := ov_rng (M 6) j; omega)) ?_
        refine Hx.run 0 (pc' := 26) (L' := [some (vr 1), some (vi ((ov (M 6) j) + 1)), some (vi ((j : Int) + 1))]) (st' := []) (M' := M) rfl ?_
        refine Hx.run 1 (pc' := 4) (L' := [some (vr 1), some (vi ((ov (M 6) j) + 1)), some (vi ((j : Int) + 1))]) (st' := []) (M' := M) rfl ?_
        have e : ov (M 6) (j + 1) = ((ov (M 6) j) + 1) := by rw [ov_succ]; first | rw [if_pos (by assumption)] | (rw [if_neg (by assumption)]; omega)
        have h9 := ih (j + 1) (by omega) (by omega)
        rw [e] at h9
        exact h9
      · skip
        refine Hx.run 1 (pc' := 23) (L' := [some (vr 1), some (vi (ov (M 6) j)), some (vi (j : Int))]) (st' := []) (M' := M) rfl ?_
        refine Hx.inc rfl rfl (by (have := ov_rng (M 6) j; omega)) ?_
        refine Hx.run 0 (pc' := 26) (L' := [some (vr 1), some (vi (ov (M 6) j)), some (vi ((j : Int) + 1))]) (st' := []) (M' := M) rfl ?_
        refine Hx.run 1 (pc' := 4) (L' := [some (vr 1), some (vi (ov (M 6) j)), some (vi ((j : Int) + 1))]) (st' := []) (M' := M) rfl ?_
        have e : ov (M 6) (j + 1) = (ov (M 6) j) := by rw [ov_succ]; first | rw [if_pos (by assumption)] | (rw [if_neg (by assumption)]; omega)
        have h9 := ih (j + 1) (by omega) (by omega)
        rw [e] at h9
        exact h9
    · skip
      refine Hx.run 1 (pc' := 30) (L' := [some (vr 1), some (vi (ov (M 6) j)), some (vi (j : Int))]) (st' := [vi (ov (M 6) j)]) (M' := M) rfl ?_
      refine Hx.ret rfl ?_
      have e : (M 1 1).toNat = j := by omega
      exact ⟨by rw [e], rfl⟩
set_option maxRecDepth 100000 in
theorem c_over (M : Mm) (hg : 0 ≤ M 1 1 ∧ M 1 1 ≤ 6) : Ct 27 [vr 1] M (fun q0 M' => q0 = some (vi (ov (M 6) (M 1 1).toNat)) ∧ M = M') := by
  refine Hx.run 4 (pc' := 4) (L' := [some (vr 1), some (vi 0), some (vi 0)]) (st' := []) (M' := M) rfl ?_
  exact l_over M hg ((M 1 1).toNat + 1) 0 (by omega) (by omega)
def hmF (M : Mm) (w : Int) : Int := if w = 0 then M 1 1 else if w = 1 then M 1 0 else if w = 2 then ov (M 6) (M 1 1).toNat else if w = 3 then M 6 16 else if w = 4 then M 6 15 else if w = 5 then M 8 3 else if w = 6 then M 10 3 else if w = 7 then M 12 3 else if w = 8 then M 1 2 else M 59 1
set_option maxRecDepth 100000 in
theorem c_howMany (w : Int) (M : Mm) (hg : 0 ≤ M 1 1 ∧ M 1 1 ≤ 6) (hw : 0 ≤ w ∧ w ≤ 9) : Ct 112 [vr 0, vi w] M (fun q0 M' => q0 = some (vi (hmF M w)) ∧ M = M') := by
  refine Hx.run 1 (pc' := 1) (L' := [some (vr 0), some (vi w)]) (st' := [vi w]) (M' := M) rfl ?_
  rcases (show w = 0 ∨ w = 1 ∨ w = 2 ∨ w = 3 ∨ w = 4 ∨ w = 5 ∨ w = 6 ∨ w = 7 ∨ w = 8 ∨ (w < 0 ∨ 8 < w) by omega) with h1 | h1 | h1 | h1 | h1 | h1 | h1 | h1 | h1 | h1
  · refine Hx.tab (tgt := 52) 0 rfl h1 rfl ?_
    refine Hx.run 3 (pc' := 59) (L' := [some (vr 0), some (vi w)]) (st' := [vi (M 1 1)]) (M' := M) rfl ?_
    refine Hx.ret rfl ?_
    exact ⟨some_vi (by unfold hmF; repeat (first | rw [if_pos (by omega)] | rw [if_neg (by omega)])), rfl⟩
  · refine Hx.tab (tgt := 60) 1 rfl h1 rfl ?_
    refine Hx.run 3 (pc' := 67) (L' := [some (vr 0), some (vi w)]) (st' := [vi (M 1 0)]) (M' := M) rfl ?_
    refine Hx.ret rfl ?_
    exact ⟨some_vi (by unfold hmF; repeat (first | rw [if_pos (by omega)] | rw [if_neg (by omega)])), rfl⟩
  · refine Hx.tab (tgt := 68) 2 rfl h1 rfl ?_
    refine Hx.run 2 (pc' := 72) (L' := [some (vr 0), some (vi w)]) (st' := [vr 1]) (M' := M) rfl ?_
    refine Hx.call (t := 27) (as := [vr 1]) (pc' := 75) (rest := []) rfl (c_over  M (by omega)) ?_
    rintro _ _ ⟨rfl, rfl⟩
    refine Hx.run 0 (pc' := 75) (L' := [some (vr 0), some (vi w)]) (st' := [vi (ov (M 6) (M 1 1).toNat)]) (M' := M) rfl ?_
    refine Hx.ret rfl ?_
    exact ⟨some_vi (by unfold hmF; repeat (first | rw [if_pos (by omega)] | rw [if_neg (by omega)])), rfl⟩
  · refine Hx.tab (tgt := 76) 3 rfl h1 rfl ?_
    refine Hx.run 2 (pc' := 80) (L' := [some (vr 0), some (vi w)]) (st' := [vr 1]) (M' := M) rfl ?_
    refine Hx.call (t := 23) (as := [vr 1]) (pc' := 83) (rest := []) rfl (c_hour_1 M) ?_
    rintro _ _ ⟨rfl, rfl⟩
    refine Hx.run 0 (pc' := 83) (L' := [some (vr 0), some (vi w)]) (st' := [vi (M 6 16)]) (M' := M) rfl ?_
    refine Hx.ret rfl ?_
    exact ⟨some_vi (by unfold hmF; repeat (first | rw [if_pos (by omega)] | rw [if_neg (by omega)])), rfl⟩
  · refine Hx.tab (tgt := 84) 4 rfl h1 rfl ?_
    refine Hx.run 2 (pc' := 88) (L' := [some (vr 0), some (vi w)]) (st' := [vr 1]) (M' := M) rfl ?_
    refine Hx.call (t := 22) (as := [vr 1]) (pc' := 91) (rest := []) rfl (c_falls_1 M) ?_
    rintro _ _ ⟨rfl, rfl⟩
    refine Hx.run 0 (pc' := 91) (L' := [some (vr 0), some (vi w)]) (st' := [vi (M 6 15)]) (M' := M) rfl ?_
    refine Hx.ret rfl ?_
    exact ⟨some_vi (by unfold hmF; repeat (first | rw [if_pos (by omega)] | rw [if_neg (by omega)])), rfl⟩
  · refine Hx.tab (tgt := 92) 5 rfl h1 rfl ?_
    refine Hx.run 4 (pc' := 102) (L' := [some (vr 0), some (vi w)]) (st' := [vi (M 8 3)]) (M' := M) rfl ?_
    refine Hx.ret rfl ?_
    exact ⟨some_vi (by unfold hmF; repeat (first | rw [if_pos (by omega)] | rw [if_neg (by omega)])), rfl⟩
  · refine Hx.tab (tgt := 103) 6 rfl h1 rfl ?_
    refine Hx.run 4 (pc' := 113) (L' := [some (vr 0), some (vi w)]) (st' := [vi (M 10 3)]) (M' := M) rfl ?_
    refine Hx.ret rfl ?_
    exact ⟨some_vi (by unfold hmF; repeat (first | rw [if_pos (by omega)] | rw [if_neg (by omega)])), rfl⟩
  · refine Hx.tab (tgt := 114) 7 rfl h1 rfl ?_
    refine Hx.run 4 (pc' := 124) (L' := [some (vr 0), some (vi w)]) (st' := [vi (M 12 3)]) (M' := M) rfl ?_
    refine Hx.ret rfl ?_
    exact ⟨some_vi (by unfold hmF; repeat (first | rw [if_pos (by omega)] | rw [if_neg (by omega)])), rfl⟩
  · refine Hx.tab (tgt := 125) 8 rfl h1 rfl ?_
    refine Hx.run 3 (pc' := 132) (L' := [some (vr 0), some (vi w)]) (st' := [vi (M 1 2)]) (M' := M) rfl ?_
    refine Hx.ret rfl ?_
    exact ⟨some_vi (by unfold hmF; repeat (first | rw [if_pos (by omega)] | rw [if_neg (by omega)])), rfl⟩
  · refine Hx.tabD (tgt := 133) rfl h1 rfl ?_
    refine Hx.run 3 (pc' := 140) (L' := [some (vr 0), some (vi w)]) (st' := [vi (M 59 1)]) (M' := M) rfl ?_
    refine Hx.ret rfl ?_
    exact ⟨some_vi (by unfold hmF; repeat (first | rw [if_pos (by omega)] | rw [if_neg (by omega)])), rfl⟩
set_option maxRecDepth 100000 in
theorem C_count (w : Int) (M : Mm) (hI : HI M 1) (hs : (0 ≤ M 0 14 ∧ M 0 14 ≤ 600) ∧ (0 ≤ M 0 15 ∧ M 0 15 ≤ 600) ∧ (0 ≤ M 0 16 ∧ M 0 16 ≤ 600)) (ht : 0 ≤ M 59 1 ∧ M 59 1 ≤ 150) : Ct 111 [vr 0, vi w] M (fun q0 M' => ((w < 0) ∧ q0 = some (vi (-2)) ∧ (up M 0 14 ((M 0 14) + 1)) = M') ∨ ((¬ (w < 0)) ∧ (9 < w) ∧ q0 = some (vi (-2)) ∧ (up M 0 14 ((M 0 14) + 1)) = M') ∨ ((¬ (w < 0)) ∧ (¬ (9 < w)) ∧ q0 = some (vi (hmF M w)) ∧ M = M')) := by
  obtain ⟨iF, iG, iK, iH, iFa, aF, aG, lS, lN, lM, rS, rN, rM, aK⟩ := (show (0 ≤ M 1 0 ∧ M 1 0 ≤ 3) ∧ (0 ≤ M 1 1 ∧ M 1 1 ≤ 6) ∧ (0 ≤ M 1 2 ∧ M 1 2 ≤ 8) ∧ (0 ≤ M 6 16 ∧ M 6 16 ≤ 9999) ∧ (0 ≤ M 6 15 ∧ M 6 15 ≤ 9000) ∧ (∀ f : Int, 0 ≤ f → f < M 1 0 → (0 ≤ M 2 f ∧ M 2 f ≤ 5) ∧ (1 ≤ M 6 (12 + f) ∧ M 6 (12 + f) ≤ 10)) ∧ (∀ i : Int, 0 ≤ i → i < M 1 1 → (0 ≤ M 3 i ∧ M 3 i ≤ 5) ∧ (1 ≤ M 4 i ∧ M 4 i ≤ 4) ∧ (0 ≤ M 5 i ∧ M 5 i < M 1 0) ∧ (0 ≤ M 6 i ∧ M 6 i ≤ 11) ∧ (0 ≤ M 6 (6 + i) ∧ M 6 (6 + i) ≤ 9)) ∧ (M 8 0 = 4 ∧ M 8 1 = 5 ∧ 0 ≤ M 8 3 ∧ M 8 3 ≤ 5) ∧ (M 10 0 = 3 ∧ M 10 1 = 6 ∧ 0 ≤ M 10 3 ∧ M 10 3 ≤ 6) ∧ (M 12 0 = 5 ∧ M 12 1 = 6 ∧ 0 ≤ M 12 3 ∧ M 12 3 ≤ 6) ∧ (∀ n : Int, 0 ≤ n → n < M 8 3 → (0 ≤ M 9 (n * 4 + 0) ∧ M 9 (n * 4 + 0) ≤ 2) ∧ (1 ≤ M 9 (n * 4 + 1) ∧ M 9 (n * 4 + 1) ≤ 10) ∧ (0 ≤ M 9 (n * 4 + 2) ∧ M 9 (n * 4 + 2) ≤ 23) ∧ (0 ≤ M 9 (n * 4 + 3) ∧ M 9 (n * 4 + 3) ≤ 1)) ∧ (∀ n : Int, 0 ≤ n → n < M 10 3 → (0 ≤ M 11 (n * 3 + 0) ∧ M 11 (n * 3 + 0) ≤ 2) ∧ (0 ≤ M 11 (n * 3 + 1) ∧ M 11 (n * 3 + 1) ≤ 23) ∧ (0 ≤ M 11 (n * 3 + 2) ∧ M 11 (n * 3 + 2) ≤ 9)) ∧ (∀ n : Int, 0 ≤ n → n < M 12 3 → (0 ≤ M 13 (n * 5 + 0) ∧ M 13 (n * 5 + 0) ≤ 5) ∧ (1 ≤ M 13 (n * 5 + 1) ∧ M 13 (n * 5 + 1) ≤ 4) ∧ (0 ≤ M 13 (n * 5 + 2) ∧ M 13 (n * 5 + 2) ≤ 9) ∧ (0 ≤ M 13 (n * 5 + 3) ∧ M 13 (n * 5 + 3) ≤ 23) ∧ (0 ≤ M 13 (n * 5 + 4) ∧ M 13 (n * 5 + 4) ≤ 9)) ∧ (∀ k : Int, 0 ≤ k → k < M 1 2 → (0 ≤ M 7 (k * 17 + 16) ∧ M 7 (k * 17 + 16) ≤ 9999) ∧ (0 ≤ M 7 (k * 17 + 15) ∧ M 7 (k * 17 + 15) ≤ 9000) ∧ (∀ f : Int, 0 ≤ f → f < M 1 0 → (1 ≤ M 7 (k * 17 + (12 + f)) ∧ M 7 (k * 17 + (12 + f)) ≤ 10)) ∧ (∀ i : Int, 0 ≤ i → i < M 1 1 → (0 ≤ M 7 (k * 17 + i) ∧ M 7 (k * 17 + i) ≤ 11) ∧ (0 ≤ M 7 (k * 17 + (6 + i)) ∧ M 7 (k * 17 + (6 + i)) ≤ 9))) from hI)
  refine Hx.run 1 (pc' := 1) (L' := [some (vr 0), some (vi w)]) (st' := [vi w]) (M' := M) rfl ?_
  refine Hx.br (c := w < 0) (t := 10) (f := 4) rfl (fun h1 => ?_) (fun h1 => ?_)
  · skip
    refine Hx.run 1 (pc' := 11) (L' := [some (vr 0), some (vi w)]) (st' := [vr 0]) (M' := M) rfl ?_
    refine Hx.call (t := 114) (as := [vr 0]) (pc' := 14) (rest := []) rfl (c_bad M (by omega)) ?_
    rintro _ _ ⟨rfl, rfl⟩
    refine Hx.run 0 (pc' := 14) (L' := [some (vr 0), some (vi w)]) (st' := [vi (-2)]) (M' := (up M 0 14 ((M 0 14) + 1))) rfl ?_
    refine Hx.ret rfl ?_
    exact Or.inl ⟨h1, rfl, rfl⟩
  · skip
    refine Hx.run 2 (pc' := 7) (L' := [some (vr 0), some (vi w)]) (st' := [vi 9, vi w]) (M' := M) rfl ?_
    refine Hx.br (c := 9 < w) (t := 10) (f := 15) rfl (fun h2 => ?_) (fun h2 => ?_)
    · skip
      refine Hx.run 1 (pc' := 11) (L' := [some (vr 0), some (vi w)]) (st' := [vr 0]) (M' := M) rfl ?_
      refine Hx.call (t := 114) (as := [vr 0]) (pc' := 14) (rest := []) rfl (c_bad M (by omega)) ?_
      rintro _ _ ⟨rfl, rfl⟩
      refine Hx.run 0 (pc' := 14) (L' := [some (vr 0), some (vi w)]) (st' := [vi (-2)]) (M' := (up M 0 14 ((M 0 14) + 1))) rfl ?_
      refine Hx.ret rfl ?_
      exact Or.inr (Or.inl ⟨h1, h2, rfl, rfl⟩)
    · skip
      refine Hx.run 2 (pc' := 17) (L' := [some (vr 0), some (vi w)]) (st' := [vi w, vr 0]) (M' := M) rfl ?_
      refine Hx.call (t := 112) (as := [vr 0, vi w]) (pc' := 20) (rest := []) rfl (c_howMany w M (by omega) (by omega)) ?_
      rintro _ _ ⟨rfl, rfl⟩
      refine Hx.run 0 (pc' := 20) (L' := [some (vr 0), some (vi w)]) (st' := [vi (hmF M w)]) (M' := M) rfl ?_
      refine Hx.ret rfl ?_
      exact Or.inr (Or.inr (⟨h1, h2, rfl, rfl⟩))
set_option maxRecDepth 100000 in
theorem C_status (w : Int) (M : Mm) (hI : HI M 1) (hs : (0 ≤ M 0 14 ∧ M 0 14 ≤ 600) ∧ (0 ≤ M 0 15 ∧ M 0 15 ≤ 600) ∧ (0 ≤ M 0 16 ∧ M 0 16 ≤ 600)) : Ct 110 [vr 0, vi w] M (fun q0 M' => ((w = 0) ∧ q0 = some (vi (M 0 14)) ∧ M = M') ∨ ((w = 1) ∧ q0 = some (vi (M 0 15)) ∧ M = M') ∨ ((w = 2) ∧ q0 = some (vi (M 0 16)) ∧ M = M') ∨ (((w < 0 ∨ 2 < w)) ∧ q0 = some (vi (-1)) ∧ (up M 0 14 ((M 0 14) + 1)) = M')) := by
  obtain ⟨iF, iG, iK, iH, iFa, aF, aG, lS, lN, lM, rS, rN, rM, aK⟩ := (show (0 ≤ M 1 0 ∧ M 1 0 ≤ 3) ∧ (0 ≤ M 1 1 ∧ M 1 1 ≤ 6) ∧ (0 ≤ M 1 2 ∧ M 1 2 ≤ 8) ∧ (0 ≤ M 6 16 ∧ M 6 16 ≤ 9999) ∧ (0 ≤ M 6 15 ∧ M 6 15 ≤ 9000) ∧ (∀ f : Int, 0 ≤ f → f < M 1 0 → (0 ≤ M 2 f ∧ M 2 f ≤ 5) ∧ (1 ≤ M 6 (12 + f) ∧ M 6 (12 + f) ≤ 10)) ∧ (∀ i : Int, 0 ≤ i → i < M 1 1 → (0 ≤ M 3 i ∧ M 3 i ≤ 5) ∧ (1 ≤ M 4 i ∧ M 4 i ≤ 4) ∧ (0 ≤ M 5 i ∧ M 5 i < M 1 0) ∧ (0 ≤ M 6 i ∧ M 6 i ≤ 11) ∧ (0 ≤ M 6 (6 + i) ∧ M 6 (6 + i) ≤ 9)) ∧ (M 8 0 = 4 ∧ M 8 1 = 5 ∧ 0 ≤ M 8 3 ∧ M 8 3 ≤ 5) ∧ (M 10 0 = 3 ∧ M 10 1 = 6 ∧ 0 ≤ M 10 3 ∧ M 10 3 ≤ 6) ∧ (M 12 0 = 5 ∧ M 12 1 = 6 ∧ 0 ≤ M 12 3 ∧ M 12 3 ≤ 6) ∧ (∀ n : Int, 0 ≤ n → n < M 8 3 → (0 ≤ M 9 (n * 4 + 0) ∧ M 9 (n * 4 + 0) ≤ 2) ∧ (1 ≤ M 9 (n * 4 + 1) ∧ M 9 (n * 4 + 1) ≤ 10) ∧ (0 ≤ M 9 (n * 4 + 2) ∧ M 9 (n * 4 + 2) ≤ 23) ∧ (0 ≤ M 9 (n * 4 + 3) ∧ M 9 (n * 4 + 3) ≤ 1)) ∧ (∀ n : Int, 0 ≤ n → n < M 10 3 → (0 ≤ M 11 (n * 3 + 0) ∧ M 11 (n * 3 + 0) ≤ 2) ∧ (0 ≤ M 11 (n * 3 + 1) ∧ M 11 (n * 3 + 1) ≤ 23) ∧ (0 ≤ M 11 (n * 3 + 2) ∧ M 11 (n * 3 + 2) ≤ 9)) ∧ (∀ n : Int, 0 ≤ n → n < M 12 3 → (0 ≤ M 13 (n * 5 + 0) ∧ M 13 (n * 5 + 0) ≤ 5) ∧ (1 ≤ M 13 (n * 5 + 1) ∧ M 13 (n * 5 + 1) ≤ 4) ∧ (0 ≤ M 13 (n * 5 + 2) ∧ M 13 (n * 5 + 2) ≤ 9) ∧ (0 ≤ M 13 (n * 5 + 3) ∧ M 13 (n * 5 + 3) ≤ 23) ∧ (0 ≤ M 13 (n * 5 + 4) ∧ M 13 (n * 5 + 4) ≤ 9)) ∧ (∀ k : Int, 0 ≤ k → k < M 1 2 → (0 ≤ M 7 (k * 17 + 16) ∧ M 7 (k * 17 + 16) ≤ 9999) ∧ (0 ≤ M 7 (k * 17 + 15) ∧ M 7 (k * 17 + 15) ≤ 9000) ∧ (∀ f : Int, 0 ≤ f → f < M 1 0 → (1 ≤ M 7 (k * 17 + (12 + f)) ∧ M 7 (k * 17 + (12 + f)) ≤ 10)) ∧ (∀ i : Int, 0 ≤ i → i < M 1 1 → (0 ≤ M 7 (k * 17 + i) ∧ M 7 (k * 17 + i) ≤ 11) ∧ (0 ≤ M 7 (k * 17 + (6 + i)) ∧ M 7 (k * 17 + (6 + i)) ≤ 9))) from hI)
  refine Hx.run 1 (pc' := 1) (L' := [some (vr 0), some (vi w)]) (st' := [vi w]) (M' := M) rfl ?_
  rcases (show w = 0 ∨ w = 1 ∨ w = 2 ∨ (w < 0 ∨ 2 < w) by omega) with h1 | h1 | h1 | h1
  · refine Hx.tab (tgt := 28) 0 rfl h1 rfl ?_
    refine Hx.run 2 (pc' := 32) (L' := [some (vr 0), some (vi w)]) (st' := [vi (M 0 14)]) (M' := M) rfl ?_
    refine Hx.ret rfl ?_
    exact Or.inl ⟨h1, rfl, rfl⟩
  · refine Hx.tab (tgt := 33) 1 rfl h1 rfl ?_
    refine Hx.run 2 (pc' := 37) (L' := [some (vr 0), some (vi w)]) (st' := [vi (M 0 15)]) (M' := M) rfl ?_
    refine Hx.ret rfl ?_
    exact Or.inr (Or.inl ⟨h1, rfl, rfl⟩)
  · refine Hx.tab (tgt := 38) 2 rfl h1 rfl ?_
    refine Hx.run 2 (pc' := 42) (L' := [some (vr 0), some (vi w)]) (st' := [vi (M 0 16)]) (M' := M) rfl ?_
    refine Hx.ret rfl ?_
    exact Or.inr (Or.inr (Or.inl ⟨h1, rfl, rfl⟩))
  · refine Hx.tabD (tgt := 43) rfl h1 rfl ?_
    refine Hx.run 1 (pc' := 44) (L' := [some (vr 0), some (vi w)]) (st' := [vr 0]) (M' := M) rfl ?_
    refine Hx.call (t := 114) (as := [vr 0]) (pc' := 47) (rest := []) rfl (c_bad M (by omega)) ?_
    rintro _ _ ⟨rfl, rfl⟩
    refine Hx.run 0 (pc' := 47) (L' := [some (vr 0), some (vi w)]) (st' := [vi (-2)]) (M' := (up M 0 14 ((M 0 14) + 1))) rfl ?_
    refine Hx.run 2 (pc' := 49) (L' := [some (vr 0), some (vi w)]) (st' := [vi (-1)]) (M' := (up M 0 14 ((M 0 14) + 1))) rfl ?_
    refine Hx.ret rfl ?_
    exact Or.inr (Or.inr (Or.inr (⟨h1, rfl, rfl⟩)))
set_option maxRecDepth 100000 in
theorem C_from (i : Int) (M : Mm) (hI : HI M 1) (hs : (0 ≤ M 0 14 ∧ M 0 14 ≤ 600) ∧ (0 ≤ M 0 15 ∧ M 0 15 ≤ 600) ∧ (0 ≤ M 0 16 ∧ M 0 16 ≤ 600)) : Ct 109 [vr 0, vi i] M (fun q0 M' => ((i < 0) ∧ q0 = some (vi (-2)) ∧ (up M 0 14 ((M 0 14) + 1)) = M') ∨ ((¬ (i < 0)) ∧ (1 < i) ∧ q0 = some (vi (-2)) ∧ (up M 0 14 ((M 0 14) + 1)) = M') ∨ ((¬ (i < 0)) ∧ (¬ (1 < i)) ∧ (i = 0) ∧ ((M 0 3) = 0) ∧ q0 = some (vi (-3)) ∧ (up M 0 15 ((M 0 15) + 1)) = M') ∨ ((¬ (i < 0)) ∧ (¬ (1 < i)) ∧ (i = 0) ∧ (¬ ((M 0 3) = 0)) ∧ (i = 0) ∧ q0 = some (vi 1) ∧ (tkM M 1 14) = M') ∨ ((¬ (i < 0)) ∧ (¬ (1 < i)) ∧ (i = 0) ∧ (¬ ((M 0 3) = 0)) ∧ (¬ (i = 0)) ∧ q0 = some (vi 1) ∧ (tkM M 1 27) = M') ∨ ((¬ (i < 0)) ∧ (¬ (1 < i)) ∧ (¬ (i = 0)) ∧ ((M 0 4) = 0) ∧ q0 = some (vi (-3)) ∧ (up M 0 15 ((M 0 15) + 1)) = M') ∨ ((¬ (i < 0)) ∧ (¬ (1 < i)) ∧ (¬ (i = 0)) ∧ (¬ ((M 0 4) = 0)) ∧ (i = 0) ∧ q0 = some (vi 1) ∧ (tkM M 1 14) = M') ∨ ((¬ (i < 0)) ∧ (¬ (1 < i)) ∧ (¬ (i = 0)) ∧ (¬ ((M 0 4) = 0)) ∧ (¬ (i = 0)) ∧ q0 = some (vi 1) ∧ (tkM M 1 27) = M')) := by
  obtain ⟨iF, iG, iK, iH, iFa, aF, aG, lS, lN, lM, rS, rN, rM, aK⟩ := (show (0 ≤ M 1 0 ∧ M 1 0 ≤ 3) ∧ (0 ≤ M 1 1 ∧ M 1 1 ≤ 6) ∧ (0 ≤ M 1 2 ∧ M 1 2 ≤ 8) ∧ (0 ≤ M 6 16 ∧ M 6 16 ≤ 9999) ∧ (0 ≤ M 6 15 ∧ M 6 15 ≤ 9000) ∧ (∀ f : Int, 0 ≤ f → f < M 1 0 → (0 ≤ M 2 f ∧ M 2 f ≤ 5) ∧ (1 ≤ M 6 (12 + f) ∧ M 6 (12 + f) ≤ 10)) ∧ (∀ i : Int, 0 ≤ i → i < M 1 1 → (0 ≤ M 3 i ∧ M 3 i ≤ 5) ∧ (1 ≤ M 4 i ∧ M 4 i ≤ 4) ∧ (0 ≤ M 5 i ∧ M 5 i < M 1 0) ∧ (0 ≤ M 6 i ∧ M 6 i ≤ 11) ∧ (0 ≤ M 6 (6 + i) ∧ M 6 (6 + i) ≤ 9)) ∧ (M 8 0 = 4 ∧ M 8 1 = 5 ∧ 0 ≤ M 8 3 ∧ M 8 3 ≤ 5) ∧ (M 10 0 = 3 ∧ M 10 1 = 6 ∧ 0 ≤ M 10 3 ∧ M 10 3 ≤ 6) ∧ (M 12 0 = 5 ∧ M 12 1 = 6 ∧ 0 ≤ M 12 3 ∧ M 12 3 ≤ 6) ∧ (∀ n : Int, 0 ≤ n → n < M 8 3 → (0 ≤ M 9 (n * 4 + 0) ∧ M 9 (n * 4 + 0) ≤ 2) ∧ (1 ≤ M 9 (n * 4 + 1) ∧ M 9 (n * 4 + 1) ≤ 10) ∧ (0 ≤ M 9 (n * 4 + 2) ∧ M 9 (n * 4 + 2) ≤ 23) ∧ (0 ≤ M 9 (n * 4 + 3) ∧ M 9 (n * 4 + 3) ≤ 1)) ∧ (∀ n : Int, 0 ≤ n → n < M 10 3 → (0 ≤ M 11 (n * 3 + 0) ∧ M 11 (n * 3 + 0) ≤ 2) ∧ (0 ≤ M 11 (n * 3 + 1) ∧ M 11 (n * 3 + 1) ≤ 23) ∧ (0 ≤ M 11 (n * 3 + 2) ∧ M 11 (n * 3 + 2) ≤ 9)) ∧ (∀ n : Int, 0 ≤ n → n < M 12 3 → (0 ≤ M 13 (n * 5 + 0) ∧ M 13 (n * 5 + 0) ≤ 5) ∧ (1 ≤ M 13 (n * 5 + 1) ∧ M 13 (n * 5 + 1) ≤ 4) ∧ (0 ≤ M 13 (n * 5 + 2) ∧ M 13 (n * 5 + 2) ≤ 9) ∧ (0 ≤ M 13 (n * 5 + 3) ∧ M 13 (n * 5 + 3) ≤ 23) ∧ (0 ≤ M 13 (n * 5 + 4) ∧ M 13 (n * 5 + 4) ≤ 9)) ∧ (∀ k : Int, 0 ≤ k → k < M 1 2 → (0 ≤ M 7 (k * 17 + 16) ∧ M 7 (k * 17 + 16) ≤ 9999) ∧ (0 ≤ M 7 (k * 17 + 15) ∧ M 7 (k * 17 + 15) ≤ 9000) ∧ (∀ f : Int, 0 ≤ f → f < M 1 0 → (1 ≤ M 7 (k * 17 + (12 + f)) ∧ M 7 (k * 17 + (12 + f)) ≤ 10)) ∧ (∀ i : Int, 0 ≤ i → i < M 1 1 → (0 ≤ M 7 (k * 17 + i) ∧ M 7 (k * 17 + i) ≤ 11) ∧ (0 ≤ M 7 (k * 17 + (6 + i)) ∧ M 7 (k * 17 + (6 + i)) ≤ 9))) from hI)
  refine Hx.run 1 (pc' := 1) (L' := [some (vr 0), some (vi i)]) (st' := [vi i]) (M' := M) rfl ?_
  refine Hx.br (c := i < 0) (t := 9) (f := 4) rfl (fun h1 => ?_) (fun h1 => ?_)
  · skip
    refine Hx.run 1 (pc' := 10) (L' := [some (vr 0), some (vi i)]) (st' := [vr 0]) (M' := M) rfl ?_
    refine Hx.call (t := 114) (as := [vr 0]) (pc' := 13) (rest := []) rfl (c_bad M (by omega)) ?_
    rintro _ _ ⟨rfl, rfl⟩
    refine Hx.run 0 (pc' := 13) (L' := [some (vr 0), some (vi i)]) (st' := [vi (-2)]) (M' := (up M 0 14 ((M 0 14) + 1))) rfl ?_
    refine Hx.ret rfl ?_
    exact Or.inl ⟨h1, rfl, rfl⟩
  · skip
    refine Hx.run 2 (pc' := 6) (L' := [some (vr 0), some (vi i)]) (st' := [vi 1, vi i]) (M' := M) rfl ?_
    refine Hx.br (c := 1 < i) (t := 9) (f := 14) rfl (fun h2 => ?_) (fun h2 => ?_)
    · skip
      refine Hx.run 1 (pc' := 10) (L' := [some (vr 0), some (vi i)]) (st' := [vr 0]) (M' := M) rfl ?_
      refine Hx.call (t := 114) (as := [vr 0]) (pc' := 13) (rest := []) rfl (c_bad M (by omega)) ?_
      rintro _ _ ⟨rfl, rfl⟩
      refine Hx.run 0 (pc' := 13) (L' := [some (vr 0), some (vi i)]) (st' := [vi (-2)]) (M' := (up M 0 14 ((M 0 14) + 1))) rfl ?_
      refine Hx.ret rfl ?_
      exact Or.inr (Or.inl ⟨h1, h2, rfl, rfl⟩)
    · skip
      refine Hx.run 1 (pc' := 15) (L' := [some (vr 0), some (vi i)]) (st' := [vi i]) (M' := M) rfl ?_
      refine Hx.br (c := i = 0) (t := 18) (f := 28) rfl (fun h3 => ?_) (fun h3 => ?_)
      · skip
        refine Hx.run 2 (pc' := 22) (L' := [some (vr 0), some (vi i)]) (st' := [vi (M 0 3)]) (M' := M) rfl ?_
        refine Hx.br (c := (M 0 3) = 0) (t := 35) (f := 25) rfl (fun h4 => ?_) (fun h4 => ?_)
        · skip
          refine Hx.run 1 (pc' := 36) (L' := [some (vr 0), some (vi i)]) (st' := [vr 0]) (M' := M) rfl ?_
          refine Hx.call (t := 115) (as := [vr 0]) (pc' := 39) (rest := []) rfl (c_no M (by omega)) ?_
          rintro _ _ ⟨rfl, rfl⟩
          refine Hx.run 0 (pc' := 39) (L' := [some (vr 0), some (vi i)]) (st' := [vi (-3)]) (M' := (up M 0 15 ((M 0 15) + 1))) rfl ?_
          refine Hx.ret rfl ?_
          exact Or.inr (Or.inr (Or.inl ⟨h1, h2, h3, h4, rfl, rfl⟩))
        · skip
          refine Hx.run 4 (pc' := 45) (L' := [some (vr 0), some (vi i)]) (st' := [vi i, vr 1]) (M' := M) rfl ?_
          refine Hx.br (c := i = 0) (t := 48) (f := 55) rfl (fun h5 => ?_) (fun h5 => ?_)
          · skip
            refine Hx.run 3 (pc' := 59) (L' := [some (vr 0), some (vi i)]) (st' := [vr 14, vr 1]) (M' := M) rfl ?_
            refine Hx.call (t := 6) (as := [vr 1, vr 14]) (pc' := 62) (rest := []) rfl (c_takeOver_1_14 M) ?_
            rintro _ _ ⟨rfl, rfl⟩
            refine Hx.run 0 (pc' := 62) (L' := [some (vr 0), some (vi i)]) (st' := []) (M' := (tkM M 1 14)) rfl ?_
            refine Hx.run 1 (pc' := 63) (L' := [some (vr 0), some (vi i)]) (st' := [vi 1]) (M' := (tkM M 1 14)) rfl ?_
            refine Hx.ret rfl ?_
            exact Or.inr (Or.inr (Or.inr (Or.inl ⟨h1, h2, h3, h4, h5, rfl, rfl⟩)))
          · skip
            refine Hx.run 2 (pc' := 59) (L' := [some (vr 0), some (vi i)]) (st' := [vr 27, vr 1]) (M' := M) rfl ?_
            refine Hx.call (t := 6) (as := [vr 1, vr 27]) (pc' := 62) (rest := []) rfl (c_takeOver_1_27 M) ?_
            rintro _ _ ⟨rfl, rfl⟩
            refine Hx.run 0 (pc' := 62) (L' := [some (vr 0), some (vi i)]) (st' := []) (M' := (tkM M 1 27)) rfl ?_
            refine Hx.run 1 (pc' := 63) (L' := [some (vr 0), some (vi i)]) (st' := [vi 1]) (M' := (tkM M 1 27)) rfl ?_
            refine Hx.ret rfl ?_
            exact Or.inr (Or.inr (Or.inr (Or.inr (Or.inl ⟨h1, h2, h3, h4, h5, rfl, rfl⟩))))
      · skip
        refine Hx.run 2 (pc' := 32) (L' := [some (vr 0), some (vi i)]) (st' := [vi (M 0 4)]) (M' := M) rfl ?_
        refine Hx.br (c := (M 0 4) = 0) (t := 35) (f := 40) rfl (fun h6 => ?_) (fun h6 => ?_)
        · skip
          refine Hx.run 1 (pc' := 36) (L' := [some (vr 0), some (vi i)]) (st' := [vr 0]) (M' := M) rfl ?_
          refine Hx.call (t := 115) (as := [vr 0]) (pc' := 39) (rest := []) rfl (c_no M (by omega)) ?_
          rintro _ _ ⟨rfl, rfl⟩
          refine Hx.run 0 (pc' := 39) (L' := [some (vr 0), some (vi i)]) (st' := [vi (-3)]) (M' := (up M 0 15 ((M 0 15) + 1))) rfl ?_
          refine Hx.ret rfl ?_
          exact Or.inr (Or.inr (Or.inr (Or.inr (Or.inr (Or.inl ⟨h1, h2, h3, h6, rfl, rfl⟩)))))
        · skip
          refine Hx.run 3 (pc' := 45) (L' := [some (vr 0), some (vi i)]) (st' := [vi i, vr 1]) (M' := M) rfl ?_
          refine Hx.br (c := i = 0) (t := 48) (f := 55) rfl (fun h7 => ?_) (fun h7 => ?_)
          · skip
            refine Hx.run 3 (pc' := 59) (L' := [some (vr 0), some (vi i)]) (st' := [vr 14, vr 1]) (M' := M) rfl ?_
            refine Hx.call (t := 6) (as := [vr 1, vr 14]) (pc' := 62) (rest := []) rfl (c_takeOver_1_14 M) ?_
            rintro _ _ ⟨rfl, rfl⟩
            refine Hx.run 0 (pc' := 62) (L' := [some (vr 0), some (vi i)]) (st' := []) (M' := (tkM M 1 14)) rfl ?_
            refine Hx.run 1 (pc' := 63) (L' := [some (vr 0), some (vi i)]) (st' := [vi 1]) (M' := (tkM M 1 14)) rfl ?_
            refine Hx.ret rfl ?_
            exact Or.inr (Or.inr (Or.inr (Or.inr (Or.inr (Or.inr (Or.inl ⟨h1, h2, h3, h6, h7, rfl, rfl⟩))))))
          · skip
            refine Hx.run 2 (pc' := 59) (L' := [some (vr 0), some (vi i)]) (st' := [vr 27, vr 1]) (M' := M) rfl ?_
            refine Hx.call (t := 6) (as := [vr 1, vr 27]) (pc' := 62) (rest := []) rfl (c_takeOver_1_27 M) ?_
            rintro _ _ ⟨rfl, rfl⟩
            refine Hx.run 0 (pc' := 62) (L' := [some (vr 0), some (vi i)]) (st' := []) (M' := (tkM M 1 27)) rfl ?_
            refine Hx.run 1 (pc' := 63) (L' := [some (vr 0), some (vi i)]) (st' := [vi 1]) (M' := (tkM M 1 27)) rfl ?_
            refine Hx.ret rfl ?_
            exact Or.inr (Or.inr (Or.inr (Or.inr (Or.inr (Or.inr (Or.inr (⟨h1, h2, h3, h6, h7, rfl, rfl⟩)))))))
set_option maxRecDepth 100000 in
theorem c_ofGoer (i w : Int) (M : Mm) (hg : (0 ≤ i ∧ i < 6) ∧ (0 ≤ M 3 i ∧ M 3 i ≤ 5) ∧ (1 ≤ M 4 i ∧ M 4 i ≤ 4) ∧ (0 ≤ M 5 i ∧ M 5 i < 3) ∧ (0 ≤ M 6 i ∧ M 6 i ≤ 11) ∧ (0 ≤ M 6 (6 + i) ∧ M 6 (6 + i) ≤ 9)) (hh : (0 ≤ M 6 16 ∧ M 6 16 ≤ 9999)) : Ct 32 [vr 1, vi i, vi w] M (fun q0 M' => q0 = some (vi (if w = 0 then M 3 i else if w = 1 then M 4 i else if w = 2 then M 5 i else if w = 3 then M 6 i else if w = 4 then M 6 (6 + i) else sfF (M 3 i) (M 4 i) (M 6 (6 + i)) (M 6 16 % 24))) ∧ M = M') := by
  refine Hx.run 1 (pc' := 1) (L' := [some (vr 1), some (vi i), some (vi w)]) (st' := [vi w]) (M' := M) rfl ?_
  rcases (show w = 0 ∨ w = 1 ∨ w = 2 ∨ w = 3 ∨ w = 4 ∨ (w < 0 ∨ 4 < w) by omega) with h1 | h1 | h1 | h1 | h1 | h1
  · refine Hx.tab (tgt := 36) 0 rfl h1 rfl ?_
    refine Hx.run 3 (pc' := 41) (L' := [some (vr 1), some (vi i), some (vi w)]) (st' := [vi i, vr 3]) (M' := M) rfl ?_
    refine Hx.call (t := 121) (as := [vr 3, vi i]) (pc' := 44) (rest := []) rfl (c_at (r := 3) (n := 6) rfl (by decide) (i := i) (by omega) M) ?_
    rintro _ _ ⟨rfl, rfl⟩
    refine Hx.run 0 (pc' := 44) (L' := [some (vr 1), some (vi i), some (vi w)]) (st' := [vi (M 3 i)]) (M' := M) rfl ?_
    refine Hx.ret rfl ?_
    exact ⟨some_vi (by repeat (first | rw [if_pos (by omega)] | rw [if_neg (by omega)])), rfl⟩
  · refine Hx.tab (tgt := 45) 1 rfl h1 rfl ?_
    refine Hx.run 2 (pc' := 47) (L' := [some (vr 1), some (vi i), some (vi w)]) (st' := [vi i, vr 1]) (M' := M) rfl ?_
    refine Hx.call (t := 16) (as := [vr 1, vi i]) (pc' := 50) (rest := []) rfl (c_legsOf_1 i (by omega) M) ?_
    rintro _ _ ⟨rfl, rfl⟩
    refine Hx.run 0 (pc' := 50) (L' := [some (vr 1), some (vi i), some (vi w)]) (st' := [vi (M 4 i)]) (M' := M) rfl ?_
    refine Hx.ret rfl ?_
    exact ⟨some_vi (by repeat (first | rw [if_pos (by omega)] | rw [if_neg (by omega)])), rfl⟩
  · refine Hx.tab (tgt := 51) 2 rfl h1 rfl ?_
    refine Hx.run 2 (pc' := 53) (L' := [some (vr 1), some (vi i), some (vi w)]) (st' := [vi i, vr 1]) (M' := M) rfl ?_
    refine Hx.call (t := 17) (as := [vr 1, vi i]) (pc' := 56) (rest := []) rfl (c_flightOf_1 i (by omega) M) ?_
    rintro _ _ ⟨rfl, rfl⟩
    refine Hx.run 0 (pc' := 56) (L' := [some (vr 1), some (vi i), some (vi w)]) (st' := [vi (M 5 i)]) (M' := M) rfl ?_
    refine Hx.ret rfl ?_
    exact ⟨some_vi (by repeat (first | rw [if_pos (by omega)] | rw [if_neg (by omega)])), rfl⟩
  · refine Hx.tab (tgt := 57) 3 rfl h1 rfl ?_
    refine Hx.run 2 (pc' := 59) (L' := [some (vr 1), some (vi i), some (vi w)]) (st' := [vi i, vr 1]) (M' := M) rfl ?_
    refine Hx.call (t := 18) (as := [vr 1, vi i]) (pc' := 62) (rest := []) rfl (c_stepOf_1 i (by omega) M) ?_
    rintro _ _ ⟨rfl, rfl⟩
    refine Hx.run 0 (pc' := 62) (L' := [some (vr 1), some (vi i), some (vi w)]) (st' := [vi (M 6 i)]) (M' := M) rfl ?_
    refine Hx.ret rfl ?_
    exact ⟨some_vi (by repeat (first | rw [if_pos (by omega)] | rw [if_neg (by omega)])), rfl⟩
  · refine Hx.tab (tgt := 63) 4 rfl h1 rfl ?_
    refine Hx.run 2 (pc' := 65) (L' := [some (vr 1), some (vi i), some (vi w)]) (st' := [vi i, vr 1]) (M' := M) rfl ?_
    refine Hx.call (t := 20) (as := [vr 1, vi i]) (pc' := 68) (rest := []) rfl (c_loadOf_1 i (by omega) M) ?_
    rintro _ _ ⟨rfl, rfl⟩
    refine Hx.run 0 (pc' := 68) (L' := [some (vr 1), some (vi i), some (vi w)]) (st' := [vi (M 6 (6 + i))]) (M' := M) rfl ?_
    refine Hx.ret rfl ?_
    exact ⟨some_vi (by repeat (first | rw [if_pos (by omega)] | rw [if_neg (by omega)])), rfl⟩
  · refine Hx.tabD (tgt := 69) rfl h1 rfl ?_
    refine Hx.run 2 (pc' := 71) (L' := [some (vr 1), some (vi i), some (vi w)]) (st' := [vi i, vr 1]) (M' := M) rfl ?_
    refine Hx.call (t := 30) (as := [vr 1, vi i]) (pc' := 74) (rest := []) rfl (c_reach_1 i M (by omega) (by omega)) ?_
    rintro _ _ ⟨rfl, rfl⟩
    refine Hx.run 0 (pc' := 74) (L' := [some (vr 1), some (vi i), some (vi w)]) (st' := [vi (sfF (M 3 i) (M 4 i) (M 6 (6 + i)) (M 6 16 % 24))]) (M' := M) rfl ?_
    refine Hx.ret rfl ?_
    exact ⟨some_vi (by repeat (first | rw [if_pos (by omega)] | rw [if_neg (by omega)])), rfl⟩
set_option maxRecDepth 100000 in
theorem C_of (i : Int) (w : Int) (M : Mm) (hI : HI M 1) (hs : (0 ≤ M 0 14 ∧ M 0 14 ≤ 600) ∧ (0 ≤ M 0 15 ∧ M 0 15 ≤ 600) ∧ (0 ≤ M 0 16 ∧ M 0 16 ≤ 600)) : Ct 70 [vr 0, vi i, vi w] M (fun q0 M' => ((0 ≤ i ∧ i < (M 1 1)) ∧ (w < 0) ∧ q0 = some (vi (-2)) ∧ (up M 0 14 ((M 0 14) + 1)) = M') ∨ ((0 ≤ i ∧ i < (M 1 1)) ∧ (¬ (w < 0)) ∧ (5 < w) ∧ q0 = some (vi (-2)) ∧ (up M 0 14 ((M 0 14) + 1)) = M') ∨ ((0 ≤ i ∧ i < (M 1 1)) ∧ (¬ (w < 0)) ∧ (¬ (5 < w)) ∧ q0 = some (vi (if w = 0 then (M 3 i) else if w = 1 then (M 4 i) else if w = 2 then (M 5 i) else if w = 3 then (M 6 i) else if w = 4 then (M 6 (6 + i)) else sfF (M 3 i) (M 4 i) (M 6 (6 + i)) ((M 6 16) % 24))) ∧ M = M') ∨ ((¬ (0 ≤ i ∧ i < (M 1 1))) ∧ q0 = some (vi (-2)) ∧ (up M 0 14 ((M 0 14) + 1)) = M')) := by
  obtain ⟨iF, iG, iK, iH, iFa, aF, aG, lS, lN, lM, rS, rN, rM, aK⟩ := (show (0 ≤ M 1 0 ∧ M 1 0 ≤ 3) ∧ (0 ≤ M 1 1 ∧ M 1 1 ≤ 6) ∧ (0 ≤ M 1 2 ∧ M 1 2 ≤ 8) ∧ (0 ≤ M 6 16 ∧ M 6 16 ≤ 9999) ∧ (0 ≤ M 6 15 ∧ M 6 15 ≤ 9000) ∧ (∀ f : Int, 0 ≤ f → f < M 1 0 → (0 ≤ M 2 f ∧ M 2 f ≤ 5) ∧ (1 ≤ M 6 (12 + f) ∧ M 6 (12 + f) ≤ 10)) ∧ (∀ i : Int, 0 ≤ i → i < M 1 1 → (0 ≤ M 3 i ∧ M 3 i ≤ 5) ∧ (1 ≤ M 4 i ∧ M 4 i ≤ 4) ∧ (0 ≤ M 5 i ∧ M 5 i < M 1 0) ∧ (0 ≤ M 6 i ∧ M 6 i ≤ 11) ∧ (0 ≤ M 6 (6 + i) ∧ M 6 (6 + i) ≤ 9)) ∧ (M 8 0 = 4 ∧ M 8 1 = 5 ∧ 0 ≤ M 8 3 ∧ M 8 3 ≤ 5) ∧ (M 10 0 = 3 ∧ M 10 1 = 6 ∧ 0 ≤ M 10 3 ∧ M 10 3 ≤ 6) ∧ (M 12 0 = 5 ∧ M 12 1 = 6 ∧ 0 ≤ M 12 3 ∧ M 12 3 ≤ 6) ∧ (∀ n : Int, 0 ≤ n → n < M 8 3 → (0 ≤ M 9 (n * 4 + 0) ∧ M 9 (n * 4 + 0) ≤ 2) ∧ (1 ≤ M 9 (n * 4 + 1) ∧ M 9 (n * 4 + 1) ≤ 10) ∧ (0 ≤ M 9 (n * 4 + 2) ∧ M 9 (n * 4 + 2) ≤ 23) ∧ (0 ≤ M 9 (n * 4 + 3) ∧ M 9 (n * 4 + 3) ≤ 1)) ∧ (∀ n : Int, 0 ≤ n → n < M 10 3 → (0 ≤ M 11 (n * 3 + 0) ∧ M 11 (n * 3 + 0) ≤ 2) ∧ (0 ≤ M 11 (n * 3 + 1) ∧ M 11 (n * 3 + 1) ≤ 23) ∧ (0 ≤ M 11 (n * 3 + 2) ∧ M 11 (n * 3 + 2) ≤ 9)) ∧ (∀ n : Int, 0 ≤ n → n < M 12 3 → (0 ≤ M 13 (n * 5 + 0) ∧ M 13 (n * 5 + 0) ≤ 5) ∧ (1 ≤ M 13 (n * 5 + 1) ∧ M 13 (n * 5 + 1) ≤ 4) ∧ (0 ≤ M 13 (n * 5 + 2) ∧ M 13 (n * 5 + 2) ≤ 9) ∧ (0 ≤ M 13 (n * 5 + 3) ∧ M 13 (n * 5 + 3) ≤ 23) ∧ (0 ≤ M 13 (n * 5 + 4) ∧ M 13 (n * 5 + 4) ≤ 9)) ∧ (∀ k : Int, 0 ≤ k → k < M 1 2 → (0 ≤ M 7 (k * 17 + 16) ∧ M 7 (k * 17 + 16) ≤ 9999) ∧ (0 ≤ M 7 (k * 17 + 15) ∧ M 7 (k * 17 + 15) ≤ 9000) ∧ (∀ f : Int, 0 ≤ f → f < M 1 0 → (1 ≤ M 7 (k * 17 + (12 + f)) ∧ M 7 (k * 17 + (12 + f)) ≤ 10)) ∧ (∀ i : Int, 0 ≤ i → i < M 1 1 → (0 ≤ M 7 (k * 17 + i) ∧ M 7 (k * 17 + i) ≤ 11) ∧ (0 ≤ M 7 (k * 17 + (6 + i)) ∧ M 7 (k * 17 + (6 + i)) ≤ 9))) from hI)
  refine Hx.run 3 (pc' := 5) (L' := [some (vr 0), some (vi i), some (vi w)]) (st' := [vi i, vr 1]) (M' := M) rfl ?_
  refine Hx.call (t := 8) (as := [vr 1, vi i]) (pc' := 8) (rest := []) rfl (c_hasGoer_1 i M) ?_
  rintro _ _ (⟨q30, rfl, rfl⟩ | ⟨q30, rfl, rfl⟩)
  · skip
    have gq30 := aG i q30.1 q30.2
    have fq30 := aF (M 5 i) (by omega) (by omega)
    refine Hx.run 2 (pc' := 12) (L' := [some (vr 0), some (vi i), some (vi w)]) (st' := [vi w]) (M' := M) rfl ?_
    refine Hx.br (c := w < 0) (t := 20) (f := 15) rfl (fun h1 => ?_) (fun h1 => ?_)
    · skip
      refine Hx.run 1 (pc' := 21) (L' := [some (vr 0), some (vi i), some (vi w)]) (st' := [vr 0]) (M' := M) rfl ?_
      refine Hx.call (t := 114) (as := [vr 0]) (pc' := 24) (rest := []) rfl (c_bad M (by omega)) ?_
      rintro _ _ ⟨rfl, rfl⟩
      refine Hx.run 0 (pc' := 24) (L' := [some (vr 0), some (vi i), some (vi w)]) (st' := [vi (-2)]) (M' := (up M 0 14 ((M 0 14) + 1))) rfl ?_
      refine Hx.ret rfl ?_
      exact Or.inl ⟨q30, h1, rfl, rfl⟩
    · skip
      refine Hx.run 2 (pc' := 17) (L' := [some (vr 0), some (vi i), some (vi w)]) (st' := [vi 5, vi w]) (M' := M) rfl ?_
      refine Hx.br (c := 5 < w) (t := 20) (f := 25) rfl (fun h2 => ?_) (fun h2 => ?_)
      · skip
        refine Hx.run 1 (pc' := 21) (L' := [some (vr 0), some (vi i), some (vi w)]) (st' := [vr 0]) (M' := M) rfl ?_
        refine Hx.call (t := 114) (as := [vr 0]) (pc' := 24) (rest := []) rfl (c_bad M (by omega)) ?_
        rintro _ _ ⟨rfl, rfl⟩
        refine Hx.run 0 (pc' := 24) (L' := [some (vr 0), some (vi i), some (vi w)]) (st' := [vi (-2)]) (M' := (up M 0 14 ((M 0 14) + 1))) rfl ?_
        refine Hx.ret rfl ?_
        exact Or.inr (Or.inl ⟨q30, h1, h2, rfl, rfl⟩)
      · skip
        refine Hx.run 4 (pc' := 31) (L' := [some (vr 0), some (vi i), some (vi w)]) (st' := [vi w, vi i, vr 1]) (M' := M) rfl ?_
        refine Hx.call (t := 32) (as := [vr 1, vi i, vi w]) (pc' := 34) (rest := []) rfl (c_ofGoer i w M (by omega) (by omega)) ?_
        rintro _ _ ⟨rfl, rfl⟩
        refine Hx.run 0 (pc' := 34) (L' := [some (vr 0), some (vi i), some (vi w)]) (st' := [vi (if w = 0 then (M 3 i) else if w = 1 then (M 4 i) else if w = 2 then (M 5 i) else if w = 3 then (M 6 i) else if w = 4 then (M 6 (6 + i)) else sfF (M 3 i) (M 4 i) (M 6 (6 + i)) ((M 6 16) % 24))]) (M' := M) rfl ?_
        refine Hx.ret rfl ?_
        exact Or.inr (Or.inr (Or.inl ⟨q30, h1, h2, rfl, rfl⟩))
  · skip
    refine Hx.run 2 (pc' := 21) (L' := [some (vr 0), some (vi i), some (vi w)]) (st' := [vr 0]) (M' := M) rfl ?_
    refine Hx.call (t := 114) (as := [vr 0]) (pc' := 24) (rest := []) rfl (c_bad M (by omega)) ?_
    rintro _ _ ⟨rfl, rfl⟩
    refine Hx.run 0 (pc' := 24) (L' := [some (vr 0), some (vi i), some (vi w)]) (st' := [vi (-2)]) (M' := (up M 0 14 ((M 0 14) + 1))) rfl ?_
    refine Hx.ret rfl ?_
    exact Or.inr (Or.inr (Or.inr (⟨q30, rfl, rfl⟩)))
set_option maxRecDepth 100000 in
theorem C_about (f : Int) (w : Int) (M : Mm) (hI : HI M 1) (hs : (0 ≤ M 0 14 ∧ M 0 14 ≤ 600) ∧ (0 ≤ M 0 15 ∧ M 0 15 ≤ 600) ∧ (0 ≤ M 0 16 ∧ M 0 16 ≤ 600)) : Ct 71 [vr 0, vi f, vi w] M (fun q0 M' => ((0 ≤ f ∧ f < (M 1 0)) ∧ (w < 0) ∧ q0 = some (vi (-2)) ∧ (up M 0 14 ((M 0 14) + 1)) = M') ∨ ((0 ≤ f ∧ f < (M 1 0)) ∧ (¬ (w < 0)) ∧ (2 < w) ∧ q0 = some (vi (-2)) ∧ (up M 0 14 ((M 0 14) + 1)) = M') ∨ ((0 ≤ f ∧ f < (M 1 0)) ∧ (¬ (w < 0)) ∧ (¬ (2 < w)) ∧ (w = 0) ∧ q0 = some (vi (M 2 f)) ∧ M = M') ∨ ((0 ≤ f ∧ f < (M 1 0)) ∧ (¬ (w < 0)) ∧ (¬ (2 < w)) ∧ (¬ (w = 0)) ∧ (w = 1) ∧ q0 = some (vi (M 6 (12 + f))) ∧ M = M') ∨ ((0 ≤ f ∧ f < (M 1 0)) ∧ (¬ (w < 0)) ∧ (¬ (2 < w)) ∧ (¬ (w = 0)) ∧ (¬ (w = 1)) ∧ q0 = some (vi (bb (M 6 (12 + f)) (bcF (M 2 f) (M 6 16 % 24)))) ∧ M = M') ∨ ((¬ (0 ≤ f ∧ f < (M 1 0))) ∧ q0 = some (vi (-2)) ∧ (up M 0 14 ((M 0 14) + 1)) = M')) := by
  obtain ⟨iF, iG, iK, iH, iFa, aF, aG, lS, lN, lM, rS, rN, rM, aK⟩ := (show (0 ≤ M 1 0 ∧ M 1 0 ≤ 3) ∧ (0 ≤ M 1 1 ∧ M 1 1 ≤ 6) ∧ (0 ≤ M 1 2 ∧ M 1 2 ≤ 8) ∧ (0 ≤ M 6 16 ∧ M 6 16 ≤ 9999) ∧ (0 ≤ M 6 15 ∧ M 6 15 ≤ 9000) ∧ (∀ f : Int, 0 ≤ f → f < M 1 0 → (0 ≤ M 2 f ∧ M 2 f ≤ 5) ∧ (1 ≤ M 6 (12 + f) ∧ M 6 (12 + f) ≤ 10)) ∧ (∀ i : Int, 0 ≤ i → i < M 1 1 → (0 ≤ M 3 i ∧ M 3 i ≤ 5) ∧ (1 ≤ M 4 i ∧ M 4 i ≤ 4) ∧ (0 ≤ M 5 i ∧ M 5 i < M 1 0) ∧ (0 ≤ M 6 i ∧ M 6 i ≤ 11) ∧ (0 ≤ M 6 (6 + i) ∧ M 6 (6 + i) ≤ 9)) ∧ (M 8 0 = 4 ∧ M 8 1 = 5 ∧ 0 ≤ M 8 3 ∧ M 8 3 ≤ 5) ∧ (M 10 0 = 3 ∧ M 10 1 = 6 ∧ 0 ≤ M 10 3 ∧ M 10 3 ≤ 6) ∧ (M 12 0 = 5 ∧ M 12 1 = 6 ∧ 0 ≤ M 12 3 ∧ M 12 3 ≤ 6) ∧ (∀ n : Int, 0 ≤ n → n < M 8 3 → (0 ≤ M 9 (n * 4 + 0) ∧ M 9 (n * 4 + 0) ≤ 2) ∧ (1 ≤ M 9 (n * 4 + 1) ∧ M 9 (n * 4 + 1) ≤ 10) ∧ (0 ≤ M 9 (n * 4 + 2) ∧ M 9 (n * 4 + 2) ≤ 23) ∧ (0 ≤ M 9 (n * 4 + 3) ∧ M 9 (n * 4 + 3) ≤ 1)) ∧ (∀ n : Int, 0 ≤ n → n < M 10 3 → (0 ≤ M 11 (n * 3 + 0) ∧ M 11 (n * 3 + 0) ≤ 2) ∧ (0 ≤ M 11 (n * 3 + 1) ∧ M 11 (n * 3 + 1) ≤ 23) ∧ (0 ≤ M 11 (n * 3 + 2) ∧ M 11 (n * 3 + 2) ≤ 9)) ∧ (∀ n : Int, 0 ≤ n → n < M 12 3 → (0 ≤ M 13 (n * 5 + 0) ∧ M 13 (n * 5 + 0) ≤ 5) ∧ (1 ≤ M 13 (n * 5 + 1) ∧ M 13 (n * 5 + 1) ≤ 4) ∧ (0 ≤ M 13 (n * 5 + 2) ∧ M 13 (n * 5 + 2) ≤ 9) ∧ (0 ≤ M 13 (n * 5 + 3) ∧ M 13 (n * 5 + 3) ≤ 23) ∧ (0 ≤ M 13 (n * 5 + 4) ∧ M 13 (n * 5 + 4) ≤ 9)) ∧ (∀ k : Int, 0 ≤ k → k < M 1 2 → (0 ≤ M 7 (k * 17 + 16) ∧ M 7 (k * 17 + 16) ≤ 9999) ∧ (0 ≤ M 7 (k * 17 + 15) ∧ M 7 (k * 17 + 15) ≤ 9000) ∧ (∀ f : Int, 0 ≤ f → f < M 1 0 → (1 ≤ M 7 (k * 17 + (12 + f)) ∧ M 7 (k * 17 + (12 + f)) ≤ 10)) ∧ (∀ i : Int, 0 ≤ i → i < M 1 1 → (0 ≤ M 7 (k * 17 + i) ∧ M 7 (k * 17 + i) ≤ 11) ∧ (0 ≤ M 7 (k * 17 + (6 + i)) ∧ M 7 (k * 17 + (6 + i)) ≤ 9))) from hI)
  refine Hx.run 3 (pc' := 5) (L' := [some (vr 0), some (vi f), some (vi w)]) (st' := [vi f, vr 1]) (M' := M) rfl ?_
  refine Hx.call (t := 7) (as := [vr 1, vi f]) (pc' := 8) (rest := []) rfl (c_hasFlight_1 f M) ?_
  rintro _ _ (⟨q31, rfl, rfl⟩ | ⟨q31, rfl, rfl⟩)
  · skip
    have fq31 := aF f q31.1 q31.2
    refine Hx.run 2 (pc' := 12) (L' := [some (vr 0), some (vi f), some (vi w)]) (st' := [vi w]) (M' := M) rfl ?_
    refine Hx.br (c := w < 0) (t := 20) (f := 15) rfl (fun h1 => ?_) (fun h1 => ?_)
    · skip
      refine Hx.run 1 (pc' := 21) (L' := [some (vr 0), some (vi f), some (vi w)]) (st' := [vr 0]) (M' := M) rfl ?_
      refine Hx.call (t := 114) (as := [vr 0]) (pc' := 24) (rest := []) rfl (c_bad M (by omega)) ?_
      rintro _ _ ⟨rfl, rfl⟩
      refine Hx.run 0 (pc' := 24) (L' := [some (vr 0), some (vi f), some (vi w)]) (st' := [vi (-2)]) (M' := (up M 0 14 ((M 0 14) + 1))) rfl ?_
      refine Hx.ret rfl ?_
      exact Or.inl ⟨q31, h1, rfl, rfl⟩
    · skip
      refine Hx.run 2 (pc' := 17) (L' := [some (vr 0), some (vi f), some (vi w)]) (st' := [vi 2, vi w]) (M' := M) rfl ?_
      refine Hx.br (c := 2 < w) (t := 20) (f := 25) rfl (fun h2 => ?_) (fun h2 => ?_)
      · skip
        refine Hx.run 1 (pc' := 21) (L' := [some (vr 0), some (vi f), some (vi w)]) (st' := [vr 0]) (M' := M) rfl ?_
        refine Hx.call (t := 114) (as := [vr 0]) (pc' := 24) (rest := []) rfl (c_bad M (by omega)) ?_
        rintro _ _ ⟨rfl, rfl⟩
        refine Hx.run 0 (pc' := 24) (L' := [some (vr 0), some (vi f), some (vi w)]) (st' := [vi (-2)]) (M' := (up M 0 14 ((M 0 14) + 1))) rfl ?_
        refine Hx.ret rfl ?_
        exact Or.inr (Or.inl ⟨q31, h1, h2, rfl, rfl⟩)
      · skip
        refine Hx.run 1 (pc' := 26) (L' := [some (vr 0), some (vi f), some (vi w)]) (st' := [vi w]) (M' := M) rfl ?_
        refine Hx.br (c := w = 0) (t := 29) (f := 40) rfl (fun h3 => ?_) (fun h3 => ?_)
        · skip
          refine Hx.run 3 (pc' := 34) (L' := [some (vr 0), some (vi f), some (vi w)]) (st' := [vi f, vr 1]) (M' := M) rfl ?_
          refine Hx.call (t := 13) (as := [vr 1, vi f]) (pc' := 37) (rest := []) rfl (c_ownerKind_1 f (by omega) M) ?_
          rintro _ _ ⟨rfl, rfl⟩
          refine Hx.run 0 (pc' := 37) (L' := [some (vr 0), some (vi f), some (vi w)]) (st' := [vi (M 2 f)]) (M' := M) rfl ?_
          refine Hx.run 1 (pc' := 71) (L' := [some (vr 0), some (vi f), some (vi w)]) (st' := [vi (M 2 f)]) (M' := M) rfl ?_
          refine Hx.ret rfl ?_
          exact Or.inr (Or.inr (Or.inl ⟨q31, h1, h2, h3, rfl, rfl⟩))
        · skip
          refine Hx.run 2 (pc' := 42) (L' := [some (vr 0), some (vi f), some (vi w)]) (st' := [vi 1, vi w]) (M' := M) rfl ?_
          refine Hx.br (c := w = 1) (t := 45) (f := 56) rfl (fun h4 => ?_) (fun h4 => ?_)
          · skip
            refine Hx.run 3 (pc' := 50) (L' := [some (vr 0), some (vi f), some (vi w)]) (st' := [vi f, vr 1]) (M' := M) rfl ?_
            refine Hx.call (t := 14) (as := [vr 1, vi f]) (pc' := 53) (rest := []) rfl (c_ownerStep_1 f (by omega) M) ?_
            rintro _ _ ⟨rfl, rfl⟩
            refine Hx.run 0 (pc' := 53) (L' := [some (vr 0), some (vi f), some (vi w)]) (st' := [vi (M 6 (12 + f))]) (M' := M) rfl ?_
            refine Hx.run 1 (pc' := 71) (L' := [some (vr 0), some (vi f), some (vi w)]) (st' := [vi (M 6 (12 + f))]) (M' := M) rfl ?_
            refine Hx.ret rfl ?_
            exact Or.inr (Or.inr (Or.inr (Or.inl ⟨q31, h1, h2, h3, h4, rfl, rfl⟩)))
          · skip
            refine Hx.run 5 (pc' := 65) (L' := [some (vr 0), some (vi f), some (vi w)]) (st' := [vr 1, vi f, vr 1]) (M' := M) rfl ?_
            refine Hx.call (t := 24) (as := [vr 1]) (pc' := 68) (rest := [vi f, vr 1]) rfl (c_hourOfDay_1  M (by omega)) ?_
            rintro _ _ ⟨rfl, rfl⟩
            refine Hx.run 0 (pc' := 68) (L' := [some (vr 0), some (vi f), some (vi w)]) (st' := [vi (M 6 16 % 24), vi f, vr 1]) (M' := M) rfl ?_
            refine Hx.call (t := 28) (as := [vr 1, vi f, vi (M 6 16 % 24)]) (pc' := 71) (rest := []) rfl (c_barsAt_1 f (M 6 16 % 24) M (by omega) (by omega)) ?_
            rintro _ _ ⟨rfl, rfl⟩
            refine Hx.run 0 (pc' := 71) (L' := [some (vr 0), some (vi f), some (vi w)]) (st' := [vi (bb (M 6 (12 + f)) (bcF (M 2 f) (M 6 16 % 24)))]) (M' := M) rfl ?_
            refine Hx.ret rfl ?_
            exact Or.inr (Or.inr (Or.inr (Or.inr (Or.inl ⟨q31, h1, h2, h3, h4, rfl, rfl⟩))))
  · skip
    refine Hx.run 2 (pc' := 21) (L' := [some (vr 0), some (vi f), some (vi w)]) (st' := [vr 0]) (M' := M) rfl ?_
    refine Hx.call (t := 114) (as := [vr 0]) (pc' := 24) (rest := []) rfl (c_bad M (by omega)) ?_
    rintro _ _ ⟨rfl, rfl⟩
    refine Hx.run 0 (pc' := 24) (L' := [some (vr 0), some (vi f), some (vi w)]) (st' := [vi (-2)]) (M' := (up M 0 14 ((M 0 14) + 1))) rfl ?_
    refine Hx.ret rfl ?_
    exact Or.inr (Or.inr (Or.inr (Or.inr (Or.inr (⟨q31, rfl, rfl⟩)))))
set_option maxRecDepth 100000 in
theorem c_gain (i a b : Int) (M : Mm) (hi : 0 ≤ i ∧ i < 6) (hl : 0 ≤ M 6 (6 + i) ∧ M 6 (6 + i) ≤ 9) : Ct 98 [vr 0, vi i, vi a, vi b] M (fun q0 M' => q0 = some (vi (if a = 1 then (if b = 1 then -(M 6 (6 + i)) - 2 else 4) else if b = 1 then 1 else 2)) ∧ M = M') := by
  refine Hx.run 2 (pc' := 2) (L' := [some (vr 0), some (vi i), some (vi a), some (vi b)]) (st' := [vi 1, vi a]) (M' := M) rfl ?_
  refine Hx.br (c := a = 1) (t := 5) (f := 22) rfl (fun h1 => ?_) (fun h1 => ?_)
  · skip
    refine Hx.run 2 (pc' := 7) (L' := [some (vr 0), some (vi i), some (vi a), some (vi b)]) (st' := [vi 1, vi b]) (M' := M) rfl ?_
    refine Hx.br (c := b = 1) (t := 10) (f := 22) rfl (fun h2 => ?_) (fun h2 => ?_)
    · skip
      refine Hx.run 3 (pc' := 15) (L' := [some (vr 0), some (vi i), some (vi a), some (vi b)]) (st' := [vi i, vr 1]) (M' := M) rfl ?_
      refine Hx.call (t := 20) (as := [vr 1, vi i]) (pc' := 18) (rest := []) rfl (c_loadOf_1 i (by omega) M) ?_
      rintro _ _ ⟨rfl, rfl⟩
      refine Hx.run 0 (pc' := 18) (L' := [some (vr 0), some (vi i), some (vi a), some (vi b)]) (st' := [vi (M 6 (6 + i))]) (M' := M) rfl ?_
      refine Hx.neg rfl (by omega) ?_
      refine Hx.run 1 (pc' := 20) (L' := [some (vr 0), some (vi i), some (vi a), some (vi b)]) (st' := [vi 2, vi (-(M 6 (6 + i)))]) (M' := M) rfl ?_
      refine Hx.sub rfl (by omega) ?_
      refine Hx.ret rfl ?_
      first | (exfalso; omega) | exact ⟨some_vi (by repeat (first | rw [if_pos (by omega)] | rw [if_neg (by omega)])), rfl⟩
    · skip
      refine Hx.run 2 (pc' := 24) (L' := [some (vr 0), some (vi i), some (vi a), some (vi b)]) (st' := [vi 1, vi a]) (M' := M) rfl ?_
      refine Hx.br (c := a = 1) (t := 27) (f := 29) rfl (fun h3 => ?_) (fun h3 => ?_)
      · skip
        refine Hx.run 1 (pc' := 28) (L' := [some (vr 0), some (vi i), some (vi a), some (vi b)]) (st' := [vi 4]) (M' := M) rfl ?_
        refine Hx.ret rfl ?_
        first | (exfalso; omega) | exact ⟨some_vi (by repeat (first | rw [if_pos (by omega)] | rw [if_neg (by omega)])), rfl⟩
      · skip
        refine Hx.run 2 (pc' := 31) (L' := [some (vr 0), some (vi i), some (vi a), some (vi b)]) (st' := [vi 1, vi b]) (M' := M) rfl ?_
        refine Hx.br (c := b = 1) (t := 34) (f := 38) rfl (fun h4 => ?_) (fun h4 => ?_)
        · skip
          refine Hx.run 2 (pc' := 39) (L' := [some (vr 0), some (vi i), some (vi a), some (vi b)]) (st' := [vi 1]) (M' := M) rfl ?_
          refine Hx.ret rfl ?_
          first | (exfalso; omega) | exact ⟨some_vi (by repeat (first | rw [if_pos (by omega)] | rw [if_neg (by omega)])), rfl⟩
        · skip
          refine Hx.run 1 (pc' := 39) (L' := [some (vr 0), some (vi i), some (vi a), some (vi b)]) (st' := [vi 2]) (M' := M) rfl ?_
          refine Hx.ret rfl ?_
          first | (exfalso; omega) | exact ⟨some_vi (by repeat (first | rw [if_pos (by omega)] | rw [if_neg (by omega)])), rfl⟩
  · skip
    refine Hx.run 2 (pc' := 24) (L' := [some (vr 0), some (vi i), some (vi a), some (vi b)]) (st' := [vi 1, vi a]) (M' := M) rfl ?_
    refine Hx.br (c := a = 1) (t := 27) (f := 29) rfl (fun h5 => ?_) (fun h5 => ?_)
    · skip
      refine Hx.run 1 (pc' := 28) (L' := [some (vr 0), some (vi i), some (vi a), some (vi b)]) (st' := [vi 4]) (M' := M) rfl ?_
      refine Hx.ret rfl ?_
      first | (exfalso; omega) | exact ⟨some_vi (by repeat (first | rw [if_pos (by omega)] | rw [if_neg (by omega)])), rfl⟩
    · skip
      refine Hx.run 2 (pc' := 31) (L' := [some (vr 0), some (vi i), some (vi a), some (vi b)]) (st' := [vi 1, vi b]) (M' := M) rfl ?_
      refine Hx.br (c := b = 1) (t := 34) (f := 38) rfl (fun h6 => ?_) (fun h6 => ?_)
      · skip
        refine Hx.run 2 (pc' := 39) (L' := [some (vr 0), some (vi i), some (vi a), some (vi b)]) (st' := [vi 1]) (M' := M) rfl ?_
        refine Hx.ret rfl ?_
        first | (exfalso; omega) | exact ⟨some_vi (by repeat (first | rw [if_pos (by omega)] | rw [if_neg (by omega)])), rfl⟩
      · skip
        refine Hx.run 1 (pc' := 39) (L' := [some (vr 0), some (vi i), some (vi a), some (vi b)]) (st' := [vi 2]) (M' := M) rfl ?_
        refine Hx.ret rfl ?_
        first | (exfalso; omega) | exact ⟨some_vi (by repeat (first | rw [if_pos (by omega)] | rw [if_neg (by omega)])), rfl⟩
set_option maxRecDepth 100000 in
theorem c_rests (i a b : Int) (M : Mm) (hi : 0 ≤ i ∧ i < 6) (hl : 0 ≤ M 6 (6 + i) ∧ M 6 (6 + i) ≤ 9) (ha : 0 ≤ a ∧ a ≤ 1) (hb : 0 ≤ b ∧ b ≤ 1) : Ct 97 [vr 0, vi i, vi a, vi b] M (fun q0 M' => (((a = 1 ∧ b = 0) ∨ (a = 0 ∧ b = 1)) ∧ q0 = some (vi 1) ∧ M = M') ∨ (¬ ((a = 1 ∧ b = 0) ∨ (a = 0 ∧ b = 1)) ∧ q0 = some (vi 0) ∧ M = M')) := by
  refine Hx.run 4 (pc' := 4) (L' := [some (vr 0), some (vi i), some (vi a), some (vi b)]) (st' := [vi b, vi a, vi i, vr 0]) (M' := M) rfl ?_
  refine Hx.call (t := 98) (as := [vr 0, vi i, vi a, vi b]) (pc' := 7) (rest := []) rfl (c_gain i a b M (by omega) (by omega)) ?_
  rintro _ _ ⟨rfl, rfl⟩
  refine Hx.run 0 (pc' := 7) (L' := [some (vr 0), some (vi i), some (vi a), some (vi b)]) (st' := [vi (if a = 1 then (if b = 1 then -(M 6 (6 + i)) - 2 else 4) else if b = 1 then 1 else 2)]) (M' := M) rfl ?_
  refine Hx.run 4 (pc' := 11) (L' := [some (vr 0), some (vi i), some (vi a), some (vi b)]) (st' := [vi a, vi 1, vi i, vr 0, vi (if a = 1 then (if b = 1 then -(M 6 (6 + i)) - 2 else 4) else if b = 1 then 1 else 2)]) (M' := M) rfl ?_
  refine Hx.sub rfl (by omega) ?_
  refine Hx.run 1 (pc' := 13) (L' := [some (vr 0), some (vi i), some (vi a), some (vi b)]) (st' := [vi b, vi (1 - a), vi i, vr 0, vi (if a = 1 then (if b = 1 then -(M 6 (6 + i)) - 2 else 4) else if b = 1 then 1 else 2)]) (M' := M) rfl ?_
  refine Hx.call (t := 98) (as := [vr 0, vi i, vi (1 - a), vi b]) (pc' := 16) (rest := [vi (if a = 1 then (if b = 1 then -(M 6 (6 + i)) - 2 else 4) else if b = 1 then 1 else 2)]) rfl (c_gain i (1 - a) b M (by omega) (by omega)) ?_
  rintro _ _ ⟨rfl, rfl⟩
  refine Hx.run 0 (pc' := 16) (L' := [some (vr 0), some (vi i), some (vi a), some (vi b)]) (st' := [vi (if (1 - a) = 1 then (if b = 1 then -(M 6 (6 + i)) - 2 else 4) else if b = 1 then 1 else 2), vi (if a = 1 then (if b = 1 then -(M 6 (6 + i)) - 2 else 4) else if b = 1 then 1 else 2)]) (M' := M) rfl ?_
  refine Hx.br (c := (if a = 1 then (if b = 1 then -(M 6 (6 + i)) - 2 else 4) else if b = 1 then 1 else 2) < (if (1 - a) = 1 then (if b = 1 then -(M 6 (6 + i)) - 2 else 4) else if b = 1 then 1 else 2)) (t := 23) (f := 19) rfl (fun h1 => ?_) (fun h1 => ?_)
  · skip
    refine Hx.run 1 (pc' := 24) (L' := [some (vr 0), some (vi i), some (vi a), some (vi b)]) (st' := [vi 0]) (M' := M) rfl ?_
    refine Hx.ret rfl ?_
    rcases (show a = 0 ∨ a = 1 by omega) with rfl | rfl <;> rcases (show b = 0 ∨ b = 1 by omega) with rfl | rfl <;> simp at * <;> omega
  · skip
    refine Hx.run 2 (pc' := 24) (L' := [some (vr 0), some (vi i), some (vi a), some (vi b)]) (st' := [vi 1]) (M' := M) rfl ?_
    refine Hx.ret rfl ?_
    rcases (show a = 0 ∨ a = 1 by omega) with rfl | rfl <;> rcases (show b = 0 ∨ b = 1 by omega) with rfl | rfl <;> simp at * <;> omega
set_option maxRecDepth 100000 in
theorem C_gap (a : Int) (b : Int) (M : Mm) (hI : HI M 1) (hs : (0 ≤ M 0 14 ∧ M 0 14 ≤ 600) ∧ (0 ≤ M 0 15 ∧ M 0 15 ≤ 600) ∧ (0 ≤ M 0 16 ∧ M 0 16 ≤ 600)) : Ct 96 [vr 0, vi a, vi b] M (fun q0 M' => ((0 ≤ a ∧ a < (M 1 1)) ∧ (0 ≤ b ∧ b < (M 1 1)) ∧ (a = b) ∧ q0 = some (vi (-2)) ∧ (up M 0 14 ((M 0 14) + 1)) = M') ∨ ((0 ≤ a ∧ a < (M 1 1)) ∧ (0 ≤ b ∧ b < (M 1 1)) ∧ (¬ (a = b)) ∧ q0 = some (vi 6) ∧ M = M') ∨ ((0 ≤ a ∧ a < (M 1 1)) ∧ (¬ (0 ≤ b ∧ b < (M 1 1))) ∧ q0 = some (vi (-2)) ∧ (up M 0 14 ((M 0 14) + 1)) = M') ∨ ((¬ (0 ≤ a ∧ a < (M 1 1))) ∧ q0 = some (vi (-2)) ∧ (up M 0 14 ((M 0 14) + 1)) = M')) := by
  obtain ⟨iF, iG, iK, iH, iFa, aF, aG, lS, lN, lM, rS, rN, rM, aK⟩ := (show (0 ≤ M 1 0 ∧ M 1 0 ≤ 3) ∧ (0 ≤ M 1 1 ∧ M 1 1 ≤ 6) ∧ (0 ≤ M 1 2 ∧ M 1 2 ≤ 8) ∧ (0 ≤ M 6 16 ∧ M 6 16 ≤ 9999) ∧ (0 ≤ M 6 15 ∧ M 6 15 ≤ 9000) ∧ (∀ f : Int, 0 ≤ f → f < M 1 0 → (0 ≤ M 2 f ∧ M 2 f ≤ 5) ∧ (1 ≤ M 6 (12 + f) ∧ M 6 (12 + f) ≤ 10)) ∧ (∀ i : Int, 0 ≤ i → i < M 1 1 → (0 ≤ M 3 i ∧ M 3 i ≤ 5) ∧ (1 ≤ M 4 i ∧ M 4 i ≤ 4) ∧ (0 ≤ M 5 i ∧ M 5 i < M 1 0) ∧ (0 ≤ M 6 i ∧ M 6 i ≤ 11) ∧ (0 ≤ M 6 (6 + i) ∧ M 6 (6 + i) ≤ 9)) ∧ (M 8 0 = 4 ∧ M 8 1 = 5 ∧ 0 ≤ M 8 3 ∧ M 8 3 ≤ 5) ∧ (M 10 0 = 3 ∧ M 10 1 = 6 ∧ 0 ≤ M 10 3 ∧ M 10 3 ≤ 6) ∧ (M 12 0 = 5 ∧ M 12 1 = 6 ∧ 0 ≤ M 12 3 ∧ M 12 3 ≤ 6) ∧ (∀ n : Int, 0 ≤ n → n < M 8 3 → (0 ≤ M 9 (n * 4 + 0) ∧ M 9 (n * 4 + 0) ≤ 2) ∧ (1 ≤ M 9 (n * 4 + 1) ∧ M 9 (n * 4 + 1) ≤ 10) ∧ (0 ≤ M 9 (n * 4 + 2) ∧ M 9 (n * 4 + 2) ≤ 23) ∧ (0 ≤ M 9 (n * 4 + 3) ∧ M 9 (n * 4 + 3) ≤ 1)) ∧ (∀ n : Int, 0 ≤ n → n < M 10 3 → (0 ≤ M 11 (n * 3 + 0) ∧ M 11 (n * 3 + 0) ≤ 2) ∧ (0 ≤ M 11 (n * 3 + 1) ∧ M 11 (n * 3 + 1) ≤ 23) ∧ (0 ≤ M 11 (n * 3 + 2) ∧ M 11 (n * 3 + 2) ≤ 9)) ∧ (∀ n : Int, 0 ≤ n → n < M 12 3 → (0 ≤ M 13 (n * 5 + 0) ∧ M 13 (n * 5 + 0) ≤ 5) ∧ (1 ≤ M 13 (n * 5 + 1) ∧ M 13 (n * 5 + 1) ≤ 4) ∧ (0 ≤ M 13 (n * 5 + 2) ∧ M 13 (n * 5 + 2) ≤ 9) ∧ (0 ≤ M 13 (n * 5 + 3) ∧ M 13 (n * 5 + 3) ≤ 23) ∧ (0 ≤ M 13 (n * 5 + 4) ∧ M 13 (n * 5 + 4) ≤ 9)) ∧ (∀ k : Int, 0 ≤ k → k < M 1 2 → (0 ≤ M 7 (k * 17 + 16) ∧ M 7 (k * 17 + 16) ≤ 9999) ∧ (0 ≤ M 7 (k * 17 + 15) ∧ M 7 (k * 17 + 15) ≤ 9000) ∧ (∀ f : Int, 0 ≤ f → f < M 1 0 → (1 ≤ M 7 (k * 17 + (12 + f)) ∧ M 7 (k * 17 + (12 + f)) ≤ 10)) ∧ (∀ i : Int, 0 ≤ i → i < M 1 1 → (0 ≤ M 7 (k * 17 + i) ∧ M 7 (k * 17 + i) ≤ 11) ∧ (0 ≤ M 7 (k * 17 + (6 + i)) ∧ M 7 (k * 17 + (6 + i)) ≤ 9))) from hI)
  refine Hx.run 3 (pc' := 5) (L' := [some (vr 0), some (vi a), some (vi b), none, none, none, none]) (st' := [vi a, vr 1]) (M' := M) rfl ?_
  refine Hx.call (t := 8) (as := [vr 1, vi a]) (pc' := 8) (rest := []) rfl (c_hasGoer_1 a M) ?_
  rintro _ _ (⟨q32, rfl, rfl⟩ | ⟨q32, rfl, rfl⟩)
  · skip
    have gq32 := aG a q32.1 q32.2
    have fq32 := aF (M 5 a) (by omega) (by omega)
    refine Hx.run 4 (pc' := 16) (L' := [some (vr 0), some (vi a), some (vi b), none, none, none, none]) (st' := [vi b, vr 1]) (M' := M) rfl ?_
    refine Hx.call (t := 8) (as := [vr 1, vi b]) (pc' := 19) (rest := []) rfl (c_hasGoer_1 b M) ?_
    rintro _ _ (⟨q33, rfl, rfl⟩ | ⟨q33, rfl, rfl⟩)
    · skip
      have gq33 := aG b q33.1 q33.2
      have fq33 := aF (M 5 b) (by omega) (by omega)
      refine Hx.run 3 (pc' := 24) (L' := [some (vr 0), some (vi a), some (vi b), none, none, none, none]) (st' := [vi b, vi a]) (M' := M) rfl ?_
      refine Hx.br (c := a = b) (t := 27) (f := 32) rfl (fun h1 => ?_) (fun h1 => ?_)
      · skip
        refine Hx.run 1 (pc' := 28) (L' := [some (vr 0), some (vi a), some (vi b), none, none, none, none]) (st' := [vr 0]) (M' := M) rfl ?_
        refine Hx.call (t := 114) (as := [vr 0]) (pc' := 31) (rest := []) rfl (c_bad M (by omega)) ?_
        rintro _ _ ⟨rfl, rfl⟩
        refine Hx.run 0 (pc' := 31) (L' := [some (vr 0), some (vi a), some (vi b), none, none, none, none]) (st' := [vi (-2)]) (M' := (up M 0 14 ((M 0 14) + 1))) rfl ?_
        refine Hx.ret rfl ?_
        exact Or.inl ⟨q32, q33, h1, rfl, rfl⟩
      · skip
        refine Hx.run 12 (pc' := 51) (L' := [some (vr 0), some (vi a), some (vi b), some (vi 0), some (vi 0), some (vi 0), none]) (st' := [vi 0]) (M' := M) rfl ?_
        refine Hx.run 7 (pc' := 61) (L' := [some (vr 0), some (vi a), some (vi b), some (vi 0), some (vi 0), some (vi 0), some (vi 0)]) (st' := [vi 0, vi 0, vi a, vr 0]) (M' := M) rfl ?_
        refine Hx.call (t := 97) (as := [vr 0, vi a, vi 0, vi 0]) (pc' := 64) (rest := []) rfl (show Ct 97 [vr 0, vi a, vi 0, vi 0] M (fun q0 M' => q0 = some (vi 0) ∧ M = M') from Ct.imp (c_rests a 0 0 M (by omega) (by omega) (by omega) (by omega)) (fun r M' h => by rcases h with ⟨h, h2, h3⟩ | ⟨h, h2, h3⟩ <;> first | exact ⟨h2, h3⟩ | (exfalso; omega))) ?_
        rintro _ _ ⟨rfl, rfl⟩
        refine Hx.run 0 (pc' := 64) (L' := [some (vr 0), some (vi a), some (vi b), some (vi 0), some (vi 0), some (vi 0), some (vi 0)]) (st' := [vi 0]) (M' := M) rfl ?_
        refine Hx.run 1 (pc' := 86) (L' := [some (vr 0), some (vi a), some (vi b), some (vi 0), some (vi 0), some (vi 0), some (vi 0)]) (st' := []) (M' := M) rfl ?_
        refine Hx.inc rfl rfl (by omega) ?_
        refine Hx.run 0 (pc' := 89) (L' := [some (vr 0), some (vi a), some (vi b), some (vi 0), some (vi 1), some (vi 0), some (vi 0)]) (st' := []) (M' := M) rfl ?_
        refine Hx.run 12 (pc' := 55) (L' := [some (vr 0), some (vi a), some (vi b), some (vi 0), some (vi 1), some (vi 1), some (vi 0)]) (st' := []) (M' := M) rfl ?_
        refine Hx.run 4 (pc' := 61) (L' := [some (vr 0), some (vi a), some (vi b), some (vi 0), some (vi 1), some (vi 1), some (vi 0)]) (st' := [vi 0, vi 1, vi a, vr 0]) (M' := M) rfl ?_
        refine Hx.call (t := 97) (as := [vr 0, vi a, vi 1, vi 0]) (pc' := 64) (rest := []) rfl (show Ct 97 [vr 0, vi a, vi 1, vi 0] M (fun q0 M' => q0 = some (vi 1) ∧ M = M') from Ct.imp (c_rests a 1 0 M (by omega) (by omega) (by omega) (by omega)) (fun r M' h => by rcases h with ⟨h, h2, h3⟩ | ⟨h, h2, h3⟩ <;> first | exact ⟨h2, h3⟩ | (exfalso; omega))) ?_
        rintro _ _ ⟨rfl, rfl⟩
        refine Hx.run 0 (pc' := 64) (L' := [some (vr 0), some (vi a), some (vi b), some (vi 0), some (vi 1), some (vi 1), some (vi 0)]) (st' := [vi 1]) (M' := M) rfl ?_
        refine Hx.run 5 (pc' := 73) (L' := [some (vr 0), some (vi a), some (vi b), some (vi 0), some (vi 1), some (vi 1), some (vi 0)]) (st' := [vi 1, vi 0, vi b, vr 0]) (M' := M) rfl ?_
        refine Hx.call (t := 97) (as := [vr 0, vi b, vi 0, vi 1]) (pc' := 76) (rest := []) rfl (show Ct 97 [vr 0, vi b, vi 0, vi 1] M (fun q0 M' => q0 = some (vi 1) ∧ M = M') from Ct.imp (c_rests b 0 1 M (by omega) (by omega) (by omega) (by omega)) (fun r M' h => by rcases h with ⟨h, h2, h3⟩ | ⟨h, h2, h3⟩ <;> first | exact ⟨h2, h3⟩ | (exfalso; omega))) ?_
        rintro _ _ ⟨rfl, rfl⟩
        refine Hx.run 0 (pc' := 76) (L' := [some (vr 0), some (vi a), some (vi b), some (vi 0), some (vi 1), some (vi 1), some (vi 0)]) (st' := [vi 1]) (M' := M) rfl ?_
        refine Hx.run 7 (pc' := 86) (L' := [some (vr 0), some (vi a), some (vi b), some (vi 2), some (vi 1), some (vi 1), some (vi 0)]) (st' := []) (M' := M) rfl ?_
        refine Hx.inc rfl rfl (by omega) ?_
        refine Hx.run 0 (pc' := 89) (L' := [some (vr 0), some (vi a), some (vi b), some (vi 2), some (vi 2), some (vi 1), some (vi 0)]) (st' := []) (M' := M) rfl ?_
        refine Hx.run 12 (pc' := 55) (L' := [some (vr 0), some (vi a), some (vi b), some (vi 2), some (vi 2), some (vi 0), some (vi 1)]) (st' := []) (M' := M) rfl ?_
        refine Hx.run 4 (pc' := 61) (L' := [some (vr 0), some (vi a), some (vi b), some (vi 2), some (vi 2), some (vi 0), some (vi 1)]) (st' := [vi 1, vi 0, vi a, vr 0]) (M' := M) rfl ?_
        refine Hx.call (t := 97) (as := [vr 0, vi a, vi 0, vi 1]) (pc' := 64) (rest := []) rfl (show Ct 97 [vr 0, vi a, vi 0, vi 1] M (fun q0 M' => q0 = some (vi 1) ∧ M = M') from Ct.imp (c_rests a 0 1 M (by omega) (by omega) (by omega) (by omega)) (fun r M' h => by rcases h with ⟨h, h2, h3⟩ | ⟨h, h2, h3⟩ <;> first | exact ⟨h2, h3⟩ | (exfalso; omega))) ?_
        rintro _ _ ⟨rfl, rfl⟩
        refine Hx.run 0 (pc' := 64) (L' := [some (vr 0), some (vi a), some (vi b), some (vi 2), some (vi 2), some (vi 0), some (vi 1)]) (st' := [vi 1]) (M' := M) rfl ?_
        refine Hx.run 5 (pc' := 73) (L' := [some (vr 0), some (vi a), some (vi b), some (vi 2), some (vi 2), some (vi 0), some (vi 1)]) (st' := [vi 0, vi 1, vi b, vr 0]) (M' := M) rfl ?_
        refine Hx.call (t := 97) (as := [vr 0, vi b, vi 1, vi 0]) (pc' := 76) (rest := []) rfl (show Ct 97 [vr 0, vi b, vi 1, vi 0] M (fun q0 M' => q0 = some (vi 1) ∧ M = M') from Ct.imp (c_rests b 1 0 M (by omega) (by omega) (by omega) (by omega)) (fun r M' h => by rcases h with ⟨h, h2, h3⟩ | ⟨h, h2, h3⟩ <;> first | exact ⟨h2, h3⟩ | (exfalso; omega))) ?_
        rintro _ _ ⟨rfl, rfl⟩
        refine Hx.run 0 (pc' := 76) (L' := [some (vr 0), some (vi a), some (vi b), some (vi 2), some (vi 2), some (vi 0), some (vi 1)]) (st' := [vi 1]) (M' := M) rfl ?_
        refine Hx.run 7 (pc' := 86) (L' := [some (vr 0), some (vi a), some (vi b), some (vi 6), some (vi 2), some (vi 0), some (vi 1)]) (st' := []) (M' := M) rfl ?_
        refine Hx.inc rfl rfl (by omega) ?_
        refine Hx.run 0 (pc' := 89) (L' := [some (vr 0), some (vi a), some (vi b), some (vi 6), some (vi 3), some (vi 0), some (vi 1)]) (st' := []) (M' := M) rfl ?_
        refine Hx.run 12 (pc' := 55) (L' := [some (vr 0), some (vi a), some (vi b), some (vi 6), some (vi 3), some (vi 1), some (vi 1)]) (st' := []) (M' := M) rfl ?_
        refine Hx.run 4 (pc' := 61) (L' := [some (vr 0), some (vi a), some (vi b), some (vi 6), some (vi 3), some (vi 1), some (vi 1)]) (st' := [vi 1, vi 1, vi a, vr 0]) (M' := M) rfl ?_
        refine Hx.call (t := 97) (as := [vr 0, vi a, vi 1, vi 1]) (pc' := 64) (rest := []) rfl (show Ct 97 [vr 0, vi a, vi 1, vi 1] M (fun q0 M' => q0 = some (vi 0) ∧ M = M') from Ct.imp (c_rests a 1 1 M (by omega) (by omega) (by omega) (by omega)) (fun r M' h => by rcases h with ⟨h, h2, h3⟩ | ⟨h, h2, h3⟩ <;> first | exact ⟨h2, h3⟩ | (exfalso; omega))) ?_
        rintro _ _ ⟨rfl, rfl⟩
        refine Hx.run 0 (pc' := 64) (L' := [some (vr 0), some (vi a), some (vi b), some (vi 6), some (vi 3), some (vi 1), some (vi 1)]) (st' := [vi 0]) (M' := M) rfl ?_
        refine Hx.run 1 (pc' := 86) (L' := [some (vr 0), some (vi a), some (vi b), some (vi 6), some (vi 3), some (vi 1), some (vi 1)]) (st' := []) (M' := M) rfl ?_
        refine Hx.inc rfl rfl (by omega) ?_
        refine Hx.run 0 (pc' := 89) (L' := [some (vr 0), some (vi a), some (vi b), some (vi 6), some (vi 4), some (vi 1), some (vi 1)]) (st' := []) (M' := M) rfl ?_
        refine Hx.run 5 (pc' := 93) (L' := [some (vr 0), some (vi a), some (vi b), some (vi 6), some (vi 4), some (vi 1), some (vi 1)]) (st' := [vi 6]) (M' := M) rfl ?_
        refine Hx.ret rfl ?_
        exact Or.inr (Or.inl ⟨q32, q33, h1, rfl, rfl⟩)
    · skip
      refine Hx.run 2 (pc' := 28) (L' := [some (vr 0), some (vi a), some (vi b), none, none, none, none]) (st' := [vr 0]) (M' := M) rfl ?_
      refine Hx.call (t := 114) (as := [vr 0]) (pc' := 31) (rest := []) rfl (c_bad M (by omega)) ?_
      rintro _ _ ⟨rfl, rfl⟩
      refine Hx.run 0 (pc' := 31) (L' := [some (vr 0), some (vi a), some (vi b), none, none, none, none]) (st' := [vi (-2)]) (M' := (up M 0 14 ((M 0 14) + 1))) rfl ?_
      refine Hx.ret rfl ?_
      exact Or.inr (Or.inr (Or.inl ⟨q32, q33, rfl, rfl⟩))
  · skip
    refine Hx.run 2 (pc' := 28) (L' := [some (vr 0), some (vi a), some (vi b), none, none, none, none]) (st' := [vr 0]) (M' := M) rfl ?_
    refine Hx.call (t := 114) (as := [vr 0]) (pc' := 31) (rest := []) rfl (c_bad M (by omega)) ?_
    rintro _ _ ⟨rfl, rfl⟩
    refine Hx.run 0 (pc' := 31) (L' := [some (vr 0), some (vi a), some (vi b), none, none, none, none]) (st' := [vi (-2)]) (M' := (up M 0 14 ((M 0 14) + 1))) rfl ?_
    refine Hx.ret rfl ?_
    exact Or.inr (Or.inr (Or.inr (⟨q32, rfl, rfl⟩)))



