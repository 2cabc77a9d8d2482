/-! up (written by wip/whole/gen34.py) -/
set_option maxRecDepth 100000 in
theorem c_strideAt_53 (n : Int) (M : Mm) (hn : 0 ≤ n) (hl : M 53 2 ≤ 11) : Ct 4 [vr 53, vi n] M (fun q0 M' => (n < M 53 2 ∧ q0 = some (vi (M 55 n)) ∧ M = M') ∨ (¬ n < M 53 2 ∧ q0 = some (vi 0) ∧ M = M')) := by
  refine Hx.run 3 (pc' := 5) (L' := [some (vr 53), some (vi n)]) (st' := [vi (M 53 2), vi n]) (M' := M) rfl ?_
  refine Hx.br (c := n < (M 53 2)) (t := 8) (f := 19) rfl (fun h1 => ?_) (fun h1 => ?_)
  · skip
    refine Hx.run 3 (pc' := 13) (L' := [some (vr 53), some (vi n)]) (st' := [vi n, vr 55]) (M' := M) rfl ?_
    refine Hx.call (t := 121) (as := [vr 55, vi n]) (pc' := 16) (rest := []) rfl (c_at (r := 55) (n := 11) rfl (by decide) (i := n) (by omega) M) ?_
    rintro _ _ ⟨rfl, rfl⟩
    refine Hx.run 0 (pc' := 16) (L' := [some (vr 53), some (vi n)]) (st' := [vi (M 55 n)]) (M' := M) rfl ?_
    refine Hx.run 1 (pc' := 20) (L' := [some (vr 53), some (vi n)]) (st' := [vi (M 55 n)]) (M' := M) rfl ?_
    refine Hx.ret rfl ?_
    first | exact Or.inl ⟨by assumption, rfl, rfl⟩ | exact Or.inr ⟨by assumption, rfl, rfl⟩
  · skip
    refine Hx.run 1 (pc' := 20) (L' := [some (vr 53), some (vi n)]) (st' := [vi 0]) (M' := M) rfl ?_
    refine Hx.ret rfl ?_
    first | exact Or.inl ⟨by assumption, rfl, rfl⟩ | exact Or.inr ⟨by assumption, rfl, rfl⟩
set_option maxRecDepth 100000 in
theorem c_strideAt_56 (n : Int) (M : Mm) (hn : 0 ≤ n) (hl : M 56 2 ≤ 11) : Ct 4 [vr 56, vi n] M (fun q0 M' => (n < M 56 2 ∧ q0 = some (vi (M 58 n)) ∧ M = M') ∨ (¬ n < M 56 2 ∧ q0 = some (vi 0) ∧ M = M')) := by
  refine Hx.run 3 (pc' := 5) (L' := [some (vr 56), some (vi n)]) (st' := [vi (M 56 2), vi n]) (M' := M) rfl ?_
  refine Hx.br (c := n < (M 56 2)) (t := 8) (f := 19) rfl (fun h1 => ?_) (fun h1 => ?_)
  · skip
    refine Hx.run 3 (pc' := 13) (L' := [some (vr 56), some (vi n)]) (st' := [vi n, vr 58]) (M' := M) rfl ?_
    refine Hx.call (t := 121) (as := [vr 58, vi n]) (pc' := 16) (rest := []) rfl (c_at (r := 58) (n := 11) rfl (by decide) (i := n) (by omega) M) ?_
    rintro _ _ ⟨rfl, rfl⟩
    refine Hx.run 0 (pc' := 16) (L' := [some (vr 56), some (vi n)]) (st' := [vi (M 58 n)]) (M' := M) rfl ?_
    refine Hx.run 1 (pc' := 20) (L' := [some (vr 56), some (vi n)]) (st' := [vi (M 58 n)]) (M' := M) rfl ?_
    refine Hx.ret rfl ?_
    first | exact Or.inl ⟨by assumption, rfl, rfl⟩ | exact Or.inr ⟨by assumption, rfl, rfl⟩
  · skip
    refine Hx.run 1 (pc' := 20) (L' := [some (vr 56), some (vi n)]) (st' := [vi 0]) (M' := M) rfl ?_
    refine Hx.ret rfl ?_
    first | exact Or.inl ⟨by assumption, rfl, rfl⟩ | exact Or.inr ⟨by assumption, rfl, rfl⟩
set_option maxRecDepth 100000 in
theorem C_up (i : Int) (k : Int) (M : Mm) (hI : HI M 1) (hs : (0 ≤ M 0 14 ∧ M 0 14 ≤ 600) ∧ (0 ≤ M 0 15 ∧ M 0 15 ≤ 600) ∧ (0 ≤ M 0 16 ∧ M 0 16 ≤ 600)) : Ct 72 [vr 0, vi i, vi k] M (fun q0 M' => ((0 ≤ i ∧ i < (M 1 1)) ∧ (k < (-1)) ∧ q0 = some (vi (-10)) ∧ (up M 0 14 ((M 0 14) + 1)) = M') ∨ ((0 ≤ i ∧ i < (M 1 1)) ∧ (¬ (k < (-1))) ∧ (∃ F53 A53 : Int → Int, (((TV (sfF (M 3 i) (M 4 i) (M 6 (6 + i)) (M 6 16 % 24)) (bb (M 6 (12 + (M 5 i))) (bcF (M 2 (M 5 i)) (M 6 16 % 24))) (M 6 i)) < 1000000 → RowP (sfF (M 3 i) (M 4 i) (M 6 (6 + i)) (M 6 16 % 24)) (bb (M 6 (12 + (M 5 i))) (bcF (M 2 (M 5 i)) (M 6 16 % 24))) (M 6 i) A53 (TV (sfF (M 3 i) (M 4 i) (M 6 (6 + i)) (M 6 16 % 24)) (bb (M 6 (12 + (M 5 i))) (bcF (M 2 (M 5 i)) (M 6 16 % 24))) (M 6 i)).toNat)) ∧ (((sr (up (sr M 54 F53) 53 2 (dc (TV (sfF (M 3 i) (M 4 i) (M 6 (6 + i)) (M 6 16 % 24)) (bb (M 6 (12 + (M 5 i))) (bcF (M 2 (M 5 i)) (M 6 16 % 24))) (M 6 i)))) 55 A53) 53 2) = (-1)) ∧ q0 = some (vi (-6)) ∧ (sr (up (sr M 54 F53) 53 2 (dc (TV (sfF (M 3 i) (M 4 i) (M 6 (6 + i)) (M 6 16 % 24)) (bb (M 6 (12 + (M 5 i))) (bcF (M 2 (M 5 i)) (M 6 16 % 24))) (M 6 i)))) 55 A53) = M')) ∨ ((0 ≤ i ∧ i < (M 1 1)) ∧ (¬ (k < (-1))) ∧ (∃ F53 A53 : Int → Int, (((TV (sfF (M 3 i) (M 4 i) (M 6 (6 + i)) (M 6 16 % 24)) (bb (M 6 (12 + (M 5 i))) (bcF (M 2 (M 5 i)) (M 6 16 % 24))) (M 6 i)) < 1000000 → RowP (sfF (M 3 i) (M 4 i) (M 6 (6 + i)) (M 6 16 % 24)) (bb (M 6 (12 + (M 5 i))) (bcF (M 2 (M 5 i)) (M 6 16 % 24))) (M 6 i) A53 (TV (sfF (M 3 i) (M 4 i) (M 6 (6 + i)) (M 6 16 % 24)) (bb (M 6 (12 + (M 5 i))) (bcF (M 2 (M 5 i)) (M 6 16 % 24))) (M 6 i)).toNat)) ∧ (¬ (((sr (up (sr M 54 F53) 53 2 (dc (TV (sfF (M 3 i) (M 4 i) (M 6 (6 + i)) (M 6 16 % 24)) (bb (M 6 (12 + (M 5 i))) (bcF (M 2 (M 5 i)) (M 6 16 % 24))) (M 6 i)))) 55 A53) 53 2) = (-1))) ∧ (k = (-1)) ∧ q0 = some (vi ((sr (up (sr M 54 F53) 53 2 (dc (TV (sfF (M 3 i) (M 4 i) (M 6 (6 + i)) (M 6 16 % 24)) (bb (M 6 (12 + (M 5 i))) (bcF (M 2 (M 5 i)) (M 6 16 % 24))) (M 6 i)))) 55 A53) 53 2)) ∧ (sr (up (sr M 54 F53) 53 2 (dc (TV (sfF (M 3 i) (M 4 i) (M 6 (6 + i)) (M 6 16 % 24)) (bb (M 6 (12 + (M 5 i))) (bcF (M 2 (M 5 i)) (M 6 16 % 24))) (M 6 i)))) 55 A53) = M')) ∨ ((0 ≤ i ∧ i < (M 1 1)) ∧ (¬ (k < (-1))) ∧ (∃ F53 A53 : Int → Int, (((TV (sfF (M 3 i) (M 4 i) (M 6 (6 + i)) (M 6 16 % 24)) (bb (M 6 (12 + (M 5 i))) (bcF (M 2 (M 5 i)) (M 6 16 % 24))) (M 6 i)) < 1000000 → RowP (sfF (M 3 i) (M 4 i) (M 6 (6 + i)) (M 6 16 % 24)) (bb (M 6 (12 + (M 5 i))) (bcF (M 2 (M 5 i)) (M 6 16 % 24))) (M 6 i) A53 (TV (sfF (M 3 i) (M 4 i) (M 6 (6 + i)) (M 6 16 % 24)) (bb (M 6 (12 + (M 5 i))) (bcF (M 2 (M 5 i)) (M 6 16 % 24))) (M 6 i)).toNat)) ∧ (¬ (((sr (up (sr M 54 F53) 53 2 (dc (TV (sfF (M 3 i) (M 4 i) (M 6 (6 + i)) (M 6 16 % 24)) (bb (M 6 (12 + (M 5 i))) (bcF (M 2 (M 5 i)) (M 6 16 % 24))) (M 6 i)))) 55 A53) 53 2) = (-1))) ∧ (¬ (k = (-1))) ∧ (k < ((sr (up (sr M 54 F53) 53 2 (dc (TV (sfF (M 3 i) (M 4 i) (M 6 (6 + i)) (M 6 16 % 24)) (bb (M 6 (12 + (M 5 i))) (bcF (M 2 (M 5 i)) (M 6 16 % 24))) (M 6 i)))) 55 A53) 53 2)) ∧ (k < (dc (TV (sfF (M 3 i) (M 4 i) (M 6 (6 + i)) (M 6 16 % 24)) (bb (M 6 (12 + (M 5 i))) (bcF (M 2 (M 5 i)) (M 6 16 % 24))) (M 6 i)))) ∧ q0 = some (vi ((sr (up (sr M 54 F53) 53 2 (dc (TV (sfF (M 3 i) (M 4 i) (M 6 (6 + i)) (M 6 16 % 24)) (bb (M 6 (12 + (M 5 i))) (bcF (M 2 (M 5 i)) (M 6 16 % 24))) (M 6 i)))) 55 A53) 55 k)) ∧ (sr (up (sr M 54 F53) 53 2 (dc (TV (sfF (M 3 i) (M 4 i) (M 6 (6 + i)) (M 6 16 % 24)) (bb (M 6 (12 + (M 5 i))) (bcF (M 2 (M 5 i)) (M 6 16 % 24))) (M 6 i)))) 55 A53) = M')) ∨ ((0 ≤ i ∧ i < (M 1 1)) ∧ (¬ (k < (-1))) ∧ (∃ F53 A53 : Int → Int, (((TV (sfF (M 3 i) (M 4 i) (M 6 (6 + i)) (M 6 16 % 24)) (bb (M 6 (12 + (M 5 i))) (bcF (M 2 (M 5 i)) (M 6 16 % 24))) (M 6 i)) < 1000000 → RowP (sfF (M 3 i) (M 4 i) (M 6 (6 + i)) (M 6 16 % 24)) (bb (M 6 (12 + (M 5 i))) (bcF (M 2 (M 5 i)) (M 6 16 % 24))) (M 6 i) A53 (TV (sfF (M 3 i) (M 4 i) (M 6 (6 + i)) (M 6 16 % 24)) (bb (M 6 (12 + (M 5 i))) (bcF (M 2 (M 5 i)) (M 6 16 % 24))) (M 6 i)).toNat)) ∧ (¬ (((sr (up (sr M 54 F53) 53 2 (dc (TV (sfF (M 3 i) (M 4 i) (M 6 (6 + i)) (M 6 16 % 24)) (bb (M 6 (12 + (M 5 i))) (bcF (M 2 (M 5 i)) (M 6 16 % 24))) (M 6 i)))) 55 A53) 53 2) = (-1))) ∧ (¬ (k = (-1))) ∧ (k < ((sr (up (sr M 54 F53) 53 2 (dc (TV (sfF (M 3 i) (M 4 i) (M 6 (6 + i)) (M 6 16 % 24)) (bb (M 6 (12 + (M 5 i))) (bcF (M 2 (M 5 i)) (M 6 16 % 24))) (M 6 i)))) 55 A53) 53 2)) ∧ (¬ (k < (dc (TV (sfF (M 3 i) (M 4 i) (M 6 (6 + i)) (M 6 16 % 24)) (bb (M 6 (12 + (M 5 i))) (bcF (M 2 (M 5 i)) (M 6 16 % 24))) (M 6 i))))) ∧ q0 = some (vi 0) ∧ (sr (up (sr M 54 F53) 53 2 (dc (TV (sfF (M 3 i) (M 4 i) (M 6 (6 + i)) (M 6 16 % 24)) (bb (M 6 (12 + (M 5 i))) (bcF (M 2 (M 5 i)) (M 6 16 % 24))) (M 6 i)))) 55 A53) = M')) ∨ ((0 ≤ i ∧ i < (M 1 1)) ∧ (¬ (k < (-1))) ∧ (∃ F53 A53 : Int → Int, (((TV (sfF (M 3 i) (M 4 i) (M 6 (6 + i)) (M 6 16 % 24)) (bb (M 6 (12 + (M 5 i))) (bcF (M 2 (M 5 i)) (M 6 16 % 24))) (M 6 i)) < 1000000 → RowP (sfF (M 3 i) (M 4 i) (M 6 (6 + i)) (M 6 16 % 24)) (bb (M 6 (12 + (M 5 i))) (bcF (M 2 (M 5 i)) (M 6 16 % 24))) (M 6 i) A53 (TV (sfF (M 3 i) (M 4 i) (M 6 (6 + i)) (M 6 16 % 24)) (bb (M 6 (12 + (M 5 i))) (bcF (M 2 (M 5 i)) (M 6 16 % 24))) (M 6 i)).toNat)) ∧ (¬ (((sr (up (sr M 54 F53) 53 2 (dc (TV (sfF (M 3 i) (M 4 i) (M 6 (6 + i)) (M 6 16 % 24)) (bb (M 6 (12 + (M 5 i))) (bcF (M 2 (M 5 i)) (M 6 16 % 24))) (M 6 i)))) 55 A53) 53 2) = (-1))) ∧ (¬ (k = (-1))) ∧ (¬ (k < ((sr (up (sr M 54 F53) 53 2 (dc (TV (sfF (M 3 i) (M 4 i) (M 6 (6 + i)) (M 6 16 % 24)) (bb (M 6 (12 + (M 5 i))) (bcF (M 2 (M 5 i)) (M 6 16 % 24))) (M 6 i)))) 55 A53) 53 2))) ∧ q0 = some (vi (-5)) ∧ (sr (up (sr M 54 F53) 53 2 (dc (TV (sfF (M 3 i) (M 4 i) (M 6 (6 + i)) (M 6 16 % 24)) (bb (M 6 (12 + (M 5 i))) (bcF (M 2 (M 5 i)) (M 6 16 % 24))) (M 6 i)))) 55 A53) = M')) ∨ ((¬ (0 ≤ i ∧ i < (M 1 1))) ∧ q0 = some (vi (-10)) ∧ (up M 0 14 ((M 0 14) + 1)) = M')) := by
  obtain ⟨iF, iG, iK, iH, iFa, aF, aG, lS, lN, lM, rS, rN, rM, aK⟩ := (show (0 ≤ M 1 0 ∧ M 1 0 ≤ 3) ∧ (0 ≤ M 1 1 ∧ M 1 1 ≤ 6) ∧ (0 ≤ M 1 2 ∧ M 1 2 ≤ 8) ∧ (0 ≤ M 6 16 ∧ M 6 16 ≤ 9999) ∧ (0 ≤ M 6 15 ∧ M 6 15 ≤ 9000) ∧ (∀ f : Int, 0 ≤ f → f < M 1 0 → (0 ≤ M 2 f ∧ M 2 f ≤ 5) ∧ (1 ≤ M 6 (12 + f) ∧ M 6 (12 + f) ≤ 10)) ∧ (∀ i : Int, 0 ≤ i → i < M 1 1 → (0 ≤ M 3 i ∧ M 3 i ≤ 5) ∧ (1 ≤ M 4 i ∧ M 4 i ≤ 4) ∧ (0 ≤ M 5 i ∧ M 5 i < M 1 0) ∧ (0 ≤ M 6 i ∧ M 6 i ≤ 11) ∧ (0 ≤ M 6 (6 + i) ∧ M 6 (6 + i) ≤ 9)) ∧ (M 8 0 = 4 ∧ M 8 1 = 5 ∧ 0 ≤ M 8 3 ∧ M 8 3 ≤ 5) ∧ (M 10 0 = 3 ∧ M 10 1 = 6 ∧ 0 ≤ M 10 3 ∧ M 10 3 ≤ 6) ∧ (M 12 0 = 5 ∧ M 12 1 = 6 ∧ 0 ≤ M 12 3 ∧ M 12 3 ≤ 6) ∧ (∀ n : Int, 0 ≤ n → n < M 8 3 → (0 ≤ M 9 (n * 4 + 0) ∧ M 9 (n * 4 + 0) ≤ 2) ∧ (1 ≤ M 9 (n * 4 + 1) ∧ M 9 (n * 4 + 1) ≤ 10) ∧ (0 ≤ M 9 (n * 4 + 2) ∧ M 9 (n * 4 + 2) ≤ 23) ∧ (0 ≤ M 9 (n * 4 + 3) ∧ M 9 (n * 4 + 3) ≤ 1)) ∧ (∀ n : Int, 0 ≤ n → n < M 10 3 → (0 ≤ M 11 (n * 3 + 0) ∧ M 11 (n * 3 + 0) ≤ 2) ∧ (0 ≤ M 11 (n * 3 + 1) ∧ M 11 (n * 3 + 1) ≤ 23) ∧ (0 ≤ M 11 (n * 3 + 2) ∧ M 11 (n * 3 + 2) ≤ 9)) ∧ (∀ n : Int, 0 ≤ n → n < M 12 3 → (0 ≤ M 13 (n * 5 + 0) ∧ M 13 (n * 5 + 0) ≤ 5) ∧ (1 ≤ M 13 (n * 5 + 1) ∧ M 13 (n * 5 + 1) ≤ 4) ∧ (0 ≤ M 13 (n * 5 + 2) ∧ M 13 (n * 5 + 2) ≤ 9) ∧ (0 ≤ M 13 (n * 5 + 3) ∧ M 13 (n * 5 + 3) ≤ 23) ∧ (0 ≤ M 13 (n * 5 + 4) ∧ M 13 (n * 5 + 4) ≤ 9)) ∧ (∀ k : Int, 0 ≤ k → k < M 1 2 → (0 ≤ M 7 (k * 17 + 16) ∧ M 7 (k * 17 + 16) ≤ 9999) ∧ (0 ≤ M 7 (k * 17 + 15) ∧ M 7 (k * 17 + 15) ≤ 9000) ∧ (∀ f : Int, 0 ≤ f → f < M 1 0 → (1 ≤ M 7 (k * 17 + (12 + f)) ∧ M 7 (k * 17 + (12 + f)) ≤ 10)) ∧ (∀ i : Int, 0 ≤ i → i < M 1 1 → (0 ≤ M 7 (k * 17 + i) ∧ M 7 (k * 17 + i) ≤ 11) ∧ (0 ≤ M 7 (k * 17 + (6 + i)) ∧ M 7 (k * 17 + (6 + i)) ≤ 9))) from hI)
  refine Hx.run 3 (pc' := 5) (L' := [some (vr 0), some (vi i), some (vi k)]) (st' := [vi i, vr 1]) (M' := M) rfl ?_
  refine Hx.call (t := 8) (as := [vr 1, vi i]) (pc' := 8) (rest := []) rfl (c_hasGoer_1 i M) ?_
  rintro _ _ (⟨q90, rfl, rfl⟩ | ⟨q90, rfl, rfl⟩)
  · skip
    have gq90 := aG i q90.1 q90.2
    have fq90 := aF (M 5 i) (by omega) (by omega)
    have sR := sfF_rng (k := M 3 i) (l := M 4 i) (x := M 6 (6 + i)) (t := M 6 16 % 24) (by omega) (by omega)
    have bR := bb_rng (M 6 (12 + (M 5 i))) (bcF (M 2 (M 5 i)) (M 6 16 % 24))
    refine Hx.run 3 (pc' := 13) (L' := [some (vr 0), some (vi i), some (vi k)]) (st' := [vi (-1), vi k]) (M' := M) rfl ?_
    refine Hx.br (c := k < (-1)) (t := 16) (f := 24) rfl (fun h1 => ?_) (fun h1 => ?_)
    · skip
      refine Hx.run 1 (pc' := 17) (L' := [some (vr 0), some (vi i), some (vi k)]) (st' := [vr 0]) (M' := M) rfl ?_
      refine Hx.call (t := 114) (as := [vr 0]) (pc' := 20) (rest := []) rfl (c_bad M (by omega)) ?_
      rintro _ _ ⟨rfl, rfl⟩
      refine Hx.run 0 (pc' := 20) (L' := [some (vr 0), some (vi i), some (vi k)]) (st' := [vi (-2)]) (M' := (up M 0 14 ((M 0 14) + 1))) rfl ?_
      refine Hx.run 2 (pc' := 23) (L' := [some (vr 0), some (vi i), some (vi k)]) (st' := [vi (-10)]) (M' := (up M 0 14 ((M 0 14) + 1))) rfl ?_
      refine Hx.ret rfl ?_
      exact Or.inl ⟨q90, h1, rfl, rfl⟩
    · skip
      refine Hx.run 5 (pc' := 33) (L' := [some (vr 0), some (vi i), some (vi k)]) (st' := [vi i, vr 1, vr 53]) (M' := M) rfl ?_
      refine Hx.call (t := 18) (as := [vr 1, vi i]) (pc' := 36) (rest := [vr 53]) rfl (c_stepOf_1 i (by omega) M) ?_
      rintro _ _ ⟨rfl, rfl⟩
      refine Hx.run 0 (pc' := 36) (L' := [some (vr 0), some (vi i), some (vi k)]) (st' := [vi (M 6 i), vr 53]) (M' := M) rfl ?_
      refine Hx.run 3 (pc' := 41) (L' := [some (vr 0), some (vi i), some (vi k)]) (st' := [vi i, vr 1, vi (M 6 i), vr 53]) (M' := M) rfl ?_
      refine Hx.call (t := 30) (as := [vr 1, vi i]) (pc' := 44) (rest := [vi (M 6 i), vr 53]) rfl (c_reach_1 i M (by omega) (by omega)) ?_
      rintro _ _ ⟨rfl, rfl⟩
      refine Hx.run 0 (pc' := 44) (L' := [some (vr 0), some (vi i), some (vi k)]) (st' := [vi (sfF (M 3 i) (M 4 i) (M 6 (6 + i)) (M 6 16 % 24)), vi (M 6 i), vr 53]) (M' := M) rfl ?_
      refine Hx.run 3 (pc' := 49) (L' := [some (vr 0), some (vi i), some (vi k)]) (st' := [vi i, vr 1, vi (sfF (M 3 i) (M 4 i) (M 6 (6 + i)) (M 6 16 % 24)), vi (M 6 i), vr 53]) (M' := M) rfl ?_
      refine Hx.call (t := 29) (as := [vr 1, vi i]) (pc' := 52) (rest := [vi (sfF (M 3 i) (M 4 i) (M 6 (6 + i)) (M 6 16 % 24)), vi (M 6 i), vr 53]) rfl (c_barsFor_1 i M (by omega) (by omega) (by omega)) ?_
      rintro _ _ ⟨rfl, rfl⟩
      refine Hx.run 0 (pc' := 52) (L' := [some (vr 0), some (vi i), some (vi k)]) (st' := [vi (bb (M 6 (12 + (M 5 i))) (bcF (M 2 (M 5 i)) (M 6 16 % 24))), vi (sfF (M 3 i) (M 4 i) (M 6 (6 + i)) (M 6 16 % 24)), vi (M 6 i), vr 53]) (M' := M) rfl ?_
      refine Hx.call (t := 2) (as := [vr 53, vi (M 6 i), vi (sfF (M 3 i) (M 4 i) (M 6 (6 + i)) (M 6 16 % 24)), vi (bb (M 6 (12 + (M 5 i))) (bcF (M 2 (M 5 i)) (M 6 16 % 24)))]) (pc' := 55) (rest := []) rfl (c_find_53 (M 6 i) (sfF (M 3 i) (M 4 i) (M 6 (6 + i)) (M 6 16 % 24)) (bb (M 6 (12 + (M 5 i))) (bcF (M 2 (M 5 i)) (M 6 16 % 24))) M (by omega) (by omega) (by omega)) ?_
      rintro _ _ ⟨rfl, F53, A53, rfl, hRow53⟩
      have dF53 := dc_cases (TV (sfF (M 3 i) (M 4 i) (M 6 (6 + i)) (M 6 16 % 24)) (bb (M 6 (12 + (M 5 i))) (bcF (M 2 (M 5 i)) (M 6 16 % 24))) (M 6 i))
      have fF53 := TV_fin (far := (sfF (M 3 i) (M 4 i) (M 6 (6 + i)) (M 6 16 % 24))) (b := (bb (M 6 (12 + (M 5 i))) (bcF (M 2 (M 5 i)) (M 6 16 % 24)))) (x := (M 6 i)) (by omega) (by omega)
      refine Hx.run 0 (pc' := 55) (L' := [some (vr 0), some (vi i), some (vi k)]) (st' := []) (M' := (sr (up (sr M 54 F53) 53 2 (dc (TV (sfF (M 3 i) (M 4 i) (M 6 (6 + i)) (M 6 16 % 24)) (bb (M 6 (12 + (M 5 i))) (bcF (M 2 (M 5 i)) (M 6 16 % 24))) (M 6 i)))) 55 A53)) rfl ?_
      refine Hx.run 4 (pc' := 63) (L' := [some (vr 0), some (vi i), some (vi k)]) (st' := [vi (-1), vi ((sr (up (sr M 54 F53) 53 2 (dc (TV (sfF (M 3 i) (M 4 i) (M 6 (6 + i)) (M 6 16 % 24)) (bb (M 6 (12 + (M 5 i))) (bcF (M 2 (M 5 i)) (M 6 16 % 24))) (M 6 i)))) 55 A53) 53 2)]) (M' := (sr (up (sr M 54 F53) 53 2 (dc (TV (sfF (M 3 i) (M 4 i) (M 6 (6 + i)) (M 6 16 % 24)) (bb (M 6 (12 + (M 5 i))) (bcF (M 2 (M 5 i)) (M 6 16 % 24))) (M 6 i)))) 55 A53)) rfl ?_
      refine Hx.br (c := ((sr (up (sr M 54 F53) 53 2 (dc (TV (sfF (M 3 i) (M 4 i) (M 6 (6 + i)) (M 6 16 % 24)) (bb (M 6 (12 + (M 5 i))) (bcF (M 2 (M 5 i)) (M 6 16 % 24))) (M 6 i)))) 55 A53) 53 2) = (-1)) (t := 66) (f := 69) rfl (fun h2 => ?_) (fun h2 => ?_)
      · skip
        refine Hx.run 1 (pc' := 68) (L' := [some (vr 0), some (vi i), some (vi k)]) (st' := [vi (-6)]) (M' := (sr (up (sr M 54 F53) 53 2 (dc (TV (sfF (M 3 i) (M 4 i) (M 6 (6 + i)) (M 6 16 % 24)) (bb (M 6 (12 + (M 5 i))) (bcF (M 2 (M 5 i)) (M 6 16 % 24))) (M 6 i)))) 55 A53)) rfl ?_
        refine Hx.ret rfl ?_
        exact Or.inr (Or.inl ⟨q90, h1, F53, A53, hRow53, h2, rfl, rfl⟩)
      · skip
        refine Hx.run 2 (pc' := 71) (L' := [some (vr 0), some (vi i), some (vi k)]) (st' := [vi (-1), vi k]) (M' := (sr (up (sr M 54 F53) 53 2 (dc (TV (sfF (M 3 i) (M 4 i) (M 6 (6 + i)) (M 6 16 % 24)) (bb (M 6 (12 + (M 5 i))) (bcF (M 2 (M 5 i)) (M 6 16 % 24))) (M 6 i)))) 55 A53)) rfl ?_
        refine Hx.br (c := k = (-1)) (t := 74) (f := 82) rfl (fun h3 => ?_) (fun h3 => ?_)
        · skip
          refine Hx.run 3 (pc' := 81) (L' := [some (vr 0), some (vi i), some (vi k)]) (st' := [vi ((sr (up (sr M 54 F53) 53 2 (dc (TV (sfF (M 3 i) (M 4 i) (M 6 (6 + i)) (M 6 16 % 24)) (bb (M 6 (12 + (M 5 i))) (bcF (M 2 (M 5 i)) (M 6 16 % 24))) (M 6 i)))) 55 A53) 53 2)]) (M' := (sr (up (sr M 54 F53) 53 2 (dc (TV (sfF (M 3 i) (M 4 i) (M 6 (6 + i)) (M 6 16 % 24)) (bb (M 6 (12 + (M 5 i))) (bcF (M 2 (M 5 i)) (M 6 16 % 24))) (M 6 i)))) 55 A53)) rfl ?_
          refine Hx.ret rfl ?_
          exact Or.inr (Or.inr (Or.inl ⟨q90, h1, F53, A53, hRow53, h2, h3, rfl, rfl⟩))
        · skip
          refine Hx.run 4 (pc' := 90) (L' := [some (vr 0), some (vi i), some (vi k)]) (st' := [vi ((sr (up (sr M 54 F53) 53 2 (dc (TV (sfF (M 3 i) (M 4 i) (M 6 (6 + i)) (M 6 16 % 24)) (bb (M 6 (12 + (M 5 i))) (bcF (M 2 (M 5 i)) (M 6 16 % 24))) (M 6 i)))) 55 A53) 53 2), vi k]) (M' := (sr (up (sr M 54 F53) 53 2 (dc (TV (sfF (M 3 i) (M 4 i) (M 6 (6 + i)) (M 6 16 % 24)) (bb (M 6 (12 + (M 5 i))) (bcF (M 2 (M 5 i)) (M 6 16 % 24))) (M 6 i)))) 55 A53)) rfl ?_
          refine Hx.br (c := k < ((sr (up (sr M 54 F53) 53 2 (dc (TV (sfF (M 3 i) (M 4 i) (M 6 (6 + i)) (M 6 16 % 24)) (bb (M 6 (12 + (M 5 i))) (bcF (M 2 (M 5 i)) (M 6 16 % 24))) (M 6 i)))) 55 A53) 53 2)) (t := 93) (f := 104) rfl (fun h4 => ?_) (fun h4 => ?_)
          · skip
            refine Hx.run 3 (pc' := 98) (L' := [some (vr 0), some (vi i), some (vi k)]) (st' := [vi k, vr 53]) (M' := (sr (up (sr M 54 F53) 53 2 (dc (TV (sfF (M 3 i) (M 4 i) (M 6 (6 + i)) (M 6 16 % 24)) (bb (M 6 (12 + (M 5 i))) (bcF (M 2 (M 5 i)) (M 6 16 % 24))) (M 6 i)))) 55 A53)) rfl ?_
            refine Hx.call (t := 4) (as := [vr 53, vi k]) (pc' := 101) (rest := []) rfl (c_strideAt_53 k (sr (up (sr M 54 F53) 53 2 (dc (TV (sfF (M 3 i) (M 4 i) (M 6 (6 + i)) (M 6 16 % 24)) (bb (M 6 (12 + (M 5 i))) (bcF (M 2 (M 5 i)) (M 6 16 % 24))) (M 6 i)))) 55 A53) (by omega) (by show (dc (TV (sfF (M 3 i) (M 4 i) (M 6 (6 + i)) (M 6 16 % 24)) (bb (M 6 (12 + (M 5 i))) (bcF (M 2 (M 5 i)) (M 6 16 % 24))) (M 6 i))) ≤ 11; omega)) ?_
            rintro _ _ (⟨q91, rfl, rfl⟩ | ⟨q91, rfl, rfl⟩)
            · skip
              refine Hx.run 1 (pc' := 106) (L' := [some (vr 0), some (vi i), some (vi k)]) (st' := [vi ((sr (up (sr M 54 F53) 53 2 (dc (TV (sfF (M 3 i) (M 4 i) (M 6 (6 + i)) (M 6 16 % 24)) (bb (M 6 (12 + (M 5 i))) (bcF (M 2 (M 5 i)) (M 6 16 % 24))) (M 6 i)))) 55 A53) 55 k)]) (M' := (sr (up (sr M 54 F53) 53 2 (dc (TV (sfF (M 3 i) (M 4 i) (M 6 (6 + i)) (M 6 16 % 24)) (bb (M 6 (12 + (M 5 i))) (bcF (M 2 (M 5 i)) (M 6 16 % 24))) (M 6 i)))) 55 A53)) rfl ?_
              refine Hx.ret rfl ?_
              exact Or.inr (Or.inr (Or.inr (Or.inl ⟨q90, h1, F53, A53, hRow53, h2, h3, h4, q91, rfl, rfl⟩)))
            · skip
              refine Hx.run 1 (pc' := 106) (L' := [some (vr 0), some (vi i), some (vi k)]) (st' := [vi 0]) (M' := (sr (up (sr M 54 F53) 53 2 (dc (TV (sfF (M 3 i) (M 4 i) (M 6 (6 + i)) (M 6 16 % 24)) (bb (M 6 (12 + (M 5 i))) (bcF (M 2 (M 5 i)) (M 6 16 % 24))) (M 6 i)))) 55 A53)) rfl ?_
              refine Hx.ret rfl ?_
              exact Or.inr (Or.inr (Or.inr (Or.inr (Or.inl ⟨q90, h1, F53, A53, hRow53, h2, h3, h4, q91, rfl, rfl⟩))))
          · skip
            refine Hx.run 1 (pc' := 106) (L' := [some (vr 0), some (vi i), some (vi k)]) (st' := [vi (-5)]) (M' := (sr (up (sr M 54 F53) 53 2 (dc (TV (sfF (M 3 i) (M 4 i) (M 6 (6 + i)) (M 6 16 % 24)) (bb (M 6 (12 + (M 5 i))) (bcF (M 2 (M 5 i)) (M 6 16 % 24))) (M 6 i)))) 55 A53)) rfl ?_
            refine Hx.ret rfl ?_
            exact Or.inr (Or.inr (Or.inr (Or.inr (Or.inr (Or.inl ⟨q90, h1, F53, A53, hRow53, h2, h3, h4, rfl, rfl⟩)))))
  · skip
    refine Hx.run 2 (pc' := 17) (L' := [some (vr 0), some (vi i), some (vi k)]) (st' := [vr 0]) (M' := M) rfl ?_
    refine Hx.call (t := 114) (as := [vr 0]) (pc' := 20) (rest := []) rfl (c_bad M (by omega)) ?_
    rintro _ _ ⟨rfl, rfl⟩
    refine Hx.run 0 (pc' := 20) (L' := [some (vr 0), some (vi i), some (vi k)]) (st' := [vi (-2)]) (M' := (up M 0 14 ((M 0 14) + 1))) rfl ?_
    refine Hx.run 2 (pc' := 23) (L' := [some (vr 0), some (vi i), some (vi k)]) (st' := [vi (-10)]) (M' := (up M 0 14 ((M 0 14) + 1))) rfl ?_
    refine Hx.ret rfl ?_
    exact Or.inr (Or.inr (Or.inr (Or.inr (Or.inr (Or.inr (⟨q90, rfl, rfl⟩))))))
