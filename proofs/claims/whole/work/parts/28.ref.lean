/-! the reference: counts, of, gap (written by wip/whole/gen28.py) -/
/-- how many of the numbers 28 .. 28 + n - 1 of A are 11 -/
def ovR (A : Int → Int) : Nat → Int
  | 0 => 0
  | n + 1 => ovR A n + (if A (28 + n) = 11 then 1 else 0)
theorem ovR_succ (A : Int → Int) (n : Nat) : ovR A (n + 1) = ovR A n + (if A (28 + n) = 11 then 1 else 0) := rfl
theorem ovR_rng (A : Int → Int) : ∀ n, 0 ≤ ovR A n ∧ ovR A n ≤ n
  | 0 => ⟨Int.le_refl _, Int.le_refl _⟩
  | n + 1 => by
    have h := ovR_rng A n
    rw [ovR_succ]
    split <;> omega
set_option maxRecDepth 100000 in
theorem rl_over (M : Mm) (hg : 0 ≤ M 65 1 ∧ M 65 1 ≤ 6) : ∀ (kk : Nat) (j : Nat), (j : Int) ≤ M 65 1 → M 65 1 - j < (kk : Int) → Hx 217 4 [some (vr 64), some (vi (ovR (M 65) j)), some (vi (j : Int))] [] M (fun q0 M' => q0 = some (vi (ovR (M 65) (M 65 1).toNat)) ∧ M = M') := by
  intro kk
  induction kk with
  | zero => intro j _ hkk; exact absurd hkk (by omega)
  | succ kk ih =>
    intro j hj hkk
    refine Hx.run 5 (pc' := 11) (L' := [some (vr 64), some (vi (ovR (M 65) j)), some (vi (j : Int))]) (st' := [vi (M 65 1), vi (j : Int)]) (M' := M) rfl ?_
    refine Hx.br (c := (j : Int) < (M 65 1)) (t := 14) (f := 42) rfl (fun h1 => ?_) (fun h1 => ?_)
    · skip
      refine Hx.run 5 (pc' := 22) (L' := [some (vr 64), some (vi (ovR (M 65) j)), some (vi (j : Int))]) (st' := [vi (j : Int), vi 28, vr 65, vi (ovR (M 65) j)]) (M' := M) rfl ?_
      refine Hx.add rfl (by (have := ovR_rng (M 65) j; omega)) ?_
      refine Hx.aldI (n := 1032) rfl rfl (by (have := ovR_rng (M 65) j; omega)) ?_
      refine Hx.run 1 (pc' := 26) (L' := [some (vr 64), some (vi (ovR (M 65) j)), some (vi (j : Int))]) (st' := [vi 11, vi (M 65 (28 + (j : Int))), vi (ovR (M 65) j)]) (M' := M) rfl ?_
      refine Hx.br (c := (M 65 (28 + (j : Int))) = 11) (t := 29) (f := 33) rfl (fun h2 => ?_) (fun h2 => ?_)
      · skip
        refine Hx.run 2 (pc' := 34) (L' := [some (vr 64), some (vi (ovR (M 65) j)), some (vi (j : Int))]) (st' := [vi 1, vi (ovR (M 65) j)]) (M' := M) rfl ?_
        refine Hx.add rfl (by (have := ovR_rng (M 65) j; omega)) ?_
        refine Hx.run 1 (pc' := 36) (L' := [some (vr 64), some (vi ((ovR (M 65) j) + 1)), some (vi (j : Int))]) (st' := []) (M' := M) rfl ?_
        refine Hx.inc rfl rfl (by (have := ovR_rng (M 65) j; omega)) ?_
        refine Hx.run 0 (pc' := 39) (L' := [some (vr 64), some (vi ((ovR (M 65) j) + 1)), some (vi ((j : Int) + 1))]) (st' := []) (M' := M) rfl ?_
        refine Hx.run 1 (pc' := 4) (L' := [some (vr 64), some (vi ((ovR (M 65) j) + 1)), some (vi ((j : Int) + 1))]) (st' := []) (M' := M) rfl ?_
        have e : ovR (M 65) (j + 1) = ((ovR (M 65) j) + 1) := by rw [ovR_succ]; first | rw [if_pos (by assumption)] | rw [if_neg (by assumption)]
        have h9 := ih (j + 1) (by omega) (by omega)
        rw [e] at h9
        exact h9
      · skip
        refine Hx.run 1 (pc' := 34) (L' := [some (vr 64), some (vi (ovR (M 65) j)), some (vi (j : Int))]) (st' := [vi 0, vi (ovR (M 65) j)]) (M' := M) rfl ?_
        refine Hx.add rfl (by (have := ovR_rng (M 65) j; omega)) ?_
        refine Hx.run 1 (pc' := 36) (L' := [some (vr 64), some (vi ((ovR (M 65) j) + 0)), some (vi (j : Int))]) (st' := []) (M' := M) rfl ?_
        refine Hx.inc rfl rfl (by (have := ovR_rng (M 65) j; omega)) ?_
        refine Hx.run 0 (pc' := 39) (L' := [some (vr 64), some (vi ((ovR (M 65) j) + 0)), some (vi ((j : Int) + 1))]) (st' := []) (M' := M) rfl ?_
        refine Hx.run 1 (pc' := 4) (L' := [some (vr 64), some (vi ((ovR (M 65) j) + 0)), some (vi ((j : Int) + 1))]) (st' := []) (M' := M) rfl ?_
        have e : ovR (M 65) (j + 1) = ((ovR (M 65) j) + 0) := by rw [ovR_succ]; first | rw [if_pos (by assumption)] | rw [if_neg (by assumption)]
        have h9 := ih (j + 1) (by omega) (by omega)
        rw [e] at h9
        exact h9
    · skip
      refine Hx.run 1 (pc' := 43) (L' := [some (vr 64), some (vi (ovR (M 65) j)), some (vi (j : Int))]) (st' := [vi (ovR (M 65) j)]) (M' := M) rfl ?_
      refine Hx.ret rfl ?_
      have e : (M 65 1).toNat = j := by omega
      exact ⟨by rw [e], rfl⟩
set_option maxRecDepth 100000 in
theorem r_over (M : Mm) (hg : 0 ≤ M 65 1 ∧ M 65 1 ≤ 6) : Ct 217 [vr 64] M (fun q0 M' => q0 = some (vi (ovR (M 65) (M 65 1).toNat)) ∧ M = M') := by
  refine Hx.run 4 (pc' := 4) (L' := [some (vr 64), some (vi 0), some (vi 0)]) (st' := []) (M' := M) rfl ?_
  exact rl_over M hg ((M 65 1).toNat + 1) 0 (by omega) (by omega)
def hmR (M : Mm) (w : Int) : Int := if w = 0 then M 65 1 else if w = 1 then M 65 0 else if w = 2 then ovR (M 65) (M 65 1).toNat else if w = 3 then M 65 2 else if w = 4 then M 65 3 else if w = 5 then M 65 40 else if w = 6 then M 65 61 else if w = 7 then M 65 80 else if w = 8 then M 65 111 else M 64 3
set_option maxRecDepth 100000 in
theorem r_countOf (w : Int) (M : Mm) (hg : 0 ≤ M 65 1 ∧ M 65 1 ≤ 6) (hw : 0 ≤ w ∧ w ≤ 9) : Ct 218 [vr 64, vi w] M (fun q0 M' => q0 = some (vi (hmR M w)) ∧ M = M') := by
  refine Hx.run 1 (pc' := 1) (L' := [some (vr 64), some (vi w)]) (st' := [vi w]) (M' := M) rfl ?_
  rcases (show w = 0 ∨ w = 1 ∨ w = 2 ∨ w = 3 ∨ w = 4 ∨ w = 5 ∨ w = 6 ∨ w = 7 ∨ w = 8 ∨ (w < 0 ∨ 8 < w) by omega) with h1 | h1 | h1 | h1 | h1 | h1 | h1 | h1 | h1 | h1
  · refine Hx.tab (tgt := 52) 0 rfl h1 rfl ?_
    refine Hx.run 4 (pc' := 58) (L' := [some (vr 64), some (vi w)]) (st' := [vi (M 65 1)]) (M' := M) rfl ?_
    refine Hx.ret rfl ?_
    exact ⟨some_vi (by unfold hmR; repeat (first | rw [if_pos (by omega)] | rw [if_neg (by omega)])), rfl⟩
  · refine Hx.tab (tgt := 59) 1 rfl h1 rfl ?_
    refine Hx.run 4 (pc' := 65) (L' := [some (vr 64), some (vi w)]) (st' := [vi (M 65 0)]) (M' := M) rfl ?_
    refine Hx.ret rfl ?_
    exact ⟨some_vi (by unfold hmR; repeat (first | rw [if_pos (by omega)] | rw [if_neg (by omega)])), rfl⟩
  · refine Hx.tab (tgt := 66) 2 rfl h1 rfl ?_
    refine Hx.run 1 (pc' := 67) (L' := [some (vr 64), some (vi w)]) (st' := [vr 64]) (M' := M) rfl ?_
    refine Hx.call (t := 217) (as := [vr 64]) (pc' := 70) (rest := []) rfl (r_over  M (by omega)) ?_
    rintro _ _ ⟨rfl, rfl⟩
    refine Hx.run 0 (pc' := 70) (L' := [some (vr 64), some (vi w)]) (st' := [vi (ovR (M 65) (M 65 1).toNat)]) (M' := M) rfl ?_
    refine Hx.ret rfl ?_
    exact ⟨some_vi (by unfold hmR; repeat (first | rw [if_pos (by omega)] | rw [if_neg (by omega)])), rfl⟩
  · refine Hx.tab (tgt := 71) 3 rfl h1 rfl ?_
    refine Hx.run 4 (pc' := 77) (L' := [some (vr 64), some (vi w)]) (st' := [vi (M 65 2)]) (M' := M) rfl ?_
    refine Hx.ret rfl ?_
    exact ⟨some_vi (by unfold hmR; repeat (first | rw [if_pos (by omega)] | rw [if_neg (by omega)])), rfl⟩
  · refine Hx.tab (tgt := 78) 4 rfl h1 rfl ?_
    refine Hx.run 4 (pc' := 84) (L' := [some (vr 64), some (vi w)]) (st' := [vi (M 65 3)]) (M' := M) rfl ?_
    refine Hx.ret rfl ?_
    exact ⟨some_vi (by unfold hmR; repeat (first | rw [if_pos (by omega)] | rw [if_neg (by omega)])), rfl⟩
  · refine Hx.tab (tgt := 85) 5 rfl h1 rfl ?_
    refine Hx.run 4 (pc' := 92) (L' := [some (vr 64), some (vi w)]) (st' := [vi (M 65 40)]) (M' := M) rfl ?_
    refine Hx.ret rfl ?_
    exact ⟨some_vi (by unfold hmR; repeat (first | rw [if_pos (by omega)] | rw [if_neg (by omega)])), rfl⟩
  · refine Hx.tab (tgt := 93) 6 rfl h1 rfl ?_
    refine Hx.run 4 (pc' := 100) (L' := [some (vr 64), some (vi w)]) (st' := [vi (M 65 61)]) (M' := M) rfl ?_
    refine Hx.ret rfl ?_
    exact ⟨some_vi (by unfold hmR; repeat (first | rw [if_pos (by omega)] | rw [if_neg (by omega)])), rfl⟩
  · refine Hx.tab (tgt := 101) 7 rfl h1 rfl ?_
    refine Hx.run 4 (pc' := 108) (L' := [some (vr 64), some (vi w)]) (st' := [vi (M 65 80)]) (M' := M) rfl ?_
    refine Hx.ret rfl ?_
    exact ⟨some_vi (by unfold hmR; repeat (first | rw [if_pos (by omega)] | rw [if_neg (by omega)])), rfl⟩
  · refine Hx.tab (tgt := 109) 8 rfl h1 rfl ?_
    refine Hx.run 4 (pc' := 116) (L' := [some (vr 64), some (vi w)]) (st' := [vi (M 65 111)]) (M' := M) rfl ?_
    refine Hx.ret rfl ?_
    exact ⟨some_vi (by unfold hmR; repeat (first | rw [if_pos (by omega)] | rw [if_neg (by omega)])), rfl⟩
  · refine Hx.tabD (tgt := 117) rfl h1 rfl ?_
    refine Hx.run 2 (pc' := 121) (L' := [some (vr 64), some (vi w)]) (st' := [vi (M 64 3)]) (M' := M) rfl ?_
    refine Hx.ret rfl ?_
    exact ⟨some_vi (by unfold hmR; repeat (first | rw [if_pos (by omega)] | rw [if_neg (by omega)])), rfl⟩
set_option maxRecDepth 100000 in
theorem R_count (w : Int) (M : Mm) (hI : RI M 0) (hs : (0 ≤ M 68 0 ∧ M 68 0 ≤ 600) ∧ (0 ≤ M 68 1 ∧ M 68 1 ≤ 600) ∧ (0 ≤ M 68 2 ∧ M 68 2 ≤ 600)) (ht : 0 ≤ M 64 3 ∧ M 64 3 ≤ 150) : Ct 219 [vr 64, vi w] M (fun q0 M' => ((0 ≤ w ∧ w ≤ 9) ∧ q0 = some (vi (hmR M w)) ∧ M = M') ∨ ((¬ (0 ≤ w ∧ w ≤ 9)) ∧ q0 = some (vi (-2)) ∧ (up M 68 0 ((M 68 0) + 1)) = M')) := by
  obtain ⟨r0, r1, r2, r3, r40, r61, r80, r111, rF, rG⟩ := (show (0 ≤ M 65 0 ∧ M 65 0 ≤ 3) ∧ (0 ≤ M 65 1 ∧ M 65 1 ≤ 6) ∧ (0 ≤ M 65 2 ∧ M 65 2 ≤ 9999) ∧ (0 ≤ M 65 3 ∧ M 65 3 ≤ 9000) ∧ (0 ≤ M 65 40 ∧ M 65 40 ≤ 5) ∧ (0 ≤ M 65 61 ∧ M 65 61 ≤ 6) ∧ (0 ≤ M 65 80 ∧ M 65 80 ≤ 6) ∧ (0 ≤ M 65 111 ∧ M 65 111 ≤ 8) ∧ (∀ f : Int, 0 ≤ f → f < M 65 0 → (0 ≤ M 65 (4 + f) ∧ M 65 (4 + f) ≤ 5) ∧ (1 ≤ M 65 (7 + f) ∧ M 65 (7 + f) ≤ 10)) ∧ (∀ i : Int, 0 ≤ i → i < M 65 1 → (0 ≤ M 65 (10 + i) ∧ M 65 (10 + i) ≤ 5) ∧ (1 ≤ M 65 (16 + i) ∧ M 65 (16 + i) ≤ 4) ∧ (0 ≤ M 65 (22 + i) ∧ M 65 (22 + i) < M 65 0) ∧ (0 ≤ M 65 (28 + i) ∧ M 65 (28 + i) ≤ 11) ∧ (0 ≤ M 65 (34 + i) ∧ M 65 (34 + i) ≤ 9)) from hI)
  refine Hx.run 4 (pc' := 6) (L' := [some (vr 64), some (vi w)]) (st' := [vl 9, vl 0, vl w]) (M' := M) rfl ?_
  refine Hx.call (t := 130) (as := [vl w, vl 0, vl 9]) (pc' := 9) (rest := []) rfl (r_in w 0 9 M) ?_
  rintro _ _ (⟨q77, rfl, rfl⟩ | ⟨q77, rfl, rfl⟩)
  · skip
    refine Hx.run 3 (pc' := 14) (L' := [some (vr 64), some (vi w)]) (st' := [vi w, vr 64]) (M' := M) rfl ?_
    refine Hx.call (t := 218) (as := [vr 64, vi w]) (pc' := 17) (rest := []) rfl (r_countOf w M (by omega) (by omega)) ?_
    rintro _ _ ⟨rfl, rfl⟩
    refine Hx.run 0 (pc' := 17) (L' := [some (vr 64), some (vi w)]) (st' := [vi (hmR M w)]) (M' := M) rfl ?_
    refine Hx.run 1 (pc' := 26) (L' := [some (vr 64), some (vi w)]) (st' := [vi (hmR M w)]) (M' := M) rfl ?_
    refine Hx.ret rfl ?_
    exact Or.inl ⟨q77, rfl, rfl⟩
  · skip
    refine Hx.run 3 (pc' := 23) (L' := [some (vr 64), some (vi w)]) (st' := [vi (-2), vr 64]) (M' := M) rfl ?_
    refine Hx.call (t := 132) (as := [vr 64, vi (-2)]) (pc' := 26) (rest := []) rfl (r_bad (-2) M (by omega)) ?_
    rintro _ _ ⟨rfl, rfl⟩
    refine Hx.run 0 (pc' := 26) (L' := [some (vr 64), some (vi w)]) (st' := [vi (-2)]) (M' := (up M 68 0 ((M 68 0) + 1))) rfl ?_
    refine Hx.ret rfl ?_
    exact Or.inr (⟨q77, rfl, rfl⟩)
set_option maxRecDepth 100000 in
theorem r_ofGoer (i w : Int) (M : Mm) (hg : (0 ≤ i ∧ i < 6) ∧ (0 ≤ M 65 (10 + i) ∧ M 65 (10 + i) ≤ 5) ∧ (1 ≤ M 65 (16 + i) ∧ M 65 (16 + i) ≤ 4) ∧ (0 ≤ M 65 (22 + i) ∧ M 65 (22 + i) ≤ 2) ∧ (0 ≤ M 65 (28 + i) ∧ M 65 (28 + i) ≤ 11) ∧ (0 ≤ M 65 (34 + i) ∧ M 65 (34 + i) ≤ 9)) (hh : (0 ≤ M 65 2 ∧ M 65 2 ≤ 9999)) : Ct 180 [vr 64, vi i, vi w] M (fun q0 M' => q0 = some (vi (if w = 0 then (M 65 (10 + i)) else if w = 1 then (M 65 (16 + i)) else if w = 2 then (M 65 (22 + i)) else if w = 3 then (M 65 (28 + i)) else if w = 4 then (M 65 (34 + i)) else sfF (M 65 (10 + i)) (M 65 (16 + i)) (M 65 (34 + i)) ((M 65 2) % 24))) ∧ M = M') := by
  refine Hx.run 1 (pc' := 1) (L' := [some (vr 64), some (vi i), some (vi w)]) (st' := [vi w]) (M' := M) rfl ?_
  rcases (show w = 0 ∨ w = 1 ∨ w = 2 ∨ w = 3 ∨ w = 4 ∨ (w < 0 ∨ 4 < w) by omega) with h1 | h1 | h1 | h1 | h1 | h1
  · refine Hx.tab (tgt := 36) 0 rfl h1 rfl ?_
    refine Hx.run 4 (pc' := 43) (L' := [some (vr 64), some (vi i), some (vi w)]) (st' := [vi i, vi 10, vr 65]) (M' := M) rfl ?_
    refine Hx.add rfl (by omega) ?_
    refine Hx.aldI (n := 1032) rfl rfl (by omega) ?_
    refine Hx.ret rfl ?_
    exact ⟨some_vi (by repeat (first | rw [if_pos (by omega)] | rw [if_neg (by omega)])), rfl⟩
  · refine Hx.tab (tgt := 46) 1 rfl h1 rfl ?_
    refine Hx.run 4 (pc' := 53) (L' := [some (vr 64), some (vi i), some (vi w)]) (st' := [vi i, vi 16, vr 65]) (M' := M) rfl ?_
    refine Hx.add rfl (by omega) ?_
    refine Hx.aldI (n := 1032) rfl rfl (by omega) ?_
    refine Hx.ret rfl ?_
    exact ⟨some_vi (by repeat (first | rw [if_pos (by omega)] | rw [if_neg (by omega)])), rfl⟩
  · refine Hx.tab (tgt := 56) 2 rfl h1 rfl ?_
    refine Hx.run 4 (pc' := 63) (L' := [some (vr 64), some (vi i), some (vi w)]) (st' := [vi i, vi 22, vr 65]) (M' := M) rfl ?_
    refine Hx.add rfl (by omega) ?_
    refine Hx.aldI (n := 1032) rfl rfl (by omega) ?_
    refine Hx.ret rfl ?_
    exact ⟨some_vi (by repeat (first | rw [if_pos (by omega)] | rw [if_neg (by omega)])), rfl⟩
  · refine Hx.tab (tgt := 66) 3 rfl h1 rfl ?_
    refine Hx.run 4 (pc' := 73) (L' := [some (vr 64), some (vi i), some (vi w)]) (st' := [vi i, vi 28, vr 65]) (M' := M) rfl ?_
    refine Hx.add rfl (by omega) ?_
    refine Hx.aldI (n := 1032) rfl rfl (by omega) ?_
    refine Hx.ret rfl ?_
    exact ⟨some_vi (by repeat (first | rw [if_pos (by omega)] | rw [if_neg (by omega)])), rfl⟩
  · refine Hx.tab (tgt := 76) 4 rfl h1 rfl ?_
    refine Hx.run 4 (pc' := 83) (L' := [some (vr 64), some (vi i), some (vi w)]) (st' := [vi i, vi 34, vr 65]) (M' := M) rfl ?_
    refine Hx.add rfl (by omega) ?_
    refine Hx.aldI (n := 1032) rfl rfl (by omega) ?_
    refine Hx.ret rfl ?_
    exact ⟨some_vi (by repeat (first | rw [if_pos (by omega)] | rw [if_neg (by omega)])), rfl⟩
  · refine Hx.tabD (tgt := 86) rfl h1 rfl ?_
    refine Hx.run 3 (pc' := 89) (L' := [some (vr 64), some (vi i), some (vi w)]) (st' := [vi i, vi 0, vr 64]) (M' := M) rfl ?_
    refine Hx.call (t := 147) (as := [vr 64, vi 0, vi i]) (pc' := 92) (rest := []) rfl (r_stridesIn_0 i M (by omega) (by omega)) ?_
    rintro _ _ ⟨rfl, rfl⟩
    refine Hx.run 0 (pc' := 92) (L' := [some (vr 64), some (vi i), some (vi w)]) (st' := [vi (sfF (M 65 (10 + i)) (M 65 (16 + i)) (M 65 (34 + i)) ((M 65 2) % 24))]) (M' := M) rfl ?_
    refine Hx.ret rfl ?_
    exact ⟨some_vi (by repeat (first | rw [if_pos (by omega)] | rw [if_neg (by omega)])), rfl⟩
set_option maxRecDepth 100000 in
theorem R_of (i : Int) (w : Int) (M : Mm) (hI : RI M 0) (hs : (0 ≤ M 68 0 ∧ M 68 0 ≤ 600) ∧ (0 ≤ M 68 1 ∧ M 68 1 ≤ 600) ∧ (0 ≤ M 68 2 ∧ M 68 2 ≤ 600)) : Ct 179 [vr 64, vi i, vi w] M (fun q0 M' => ((0 ≤ i ∧ i < (M 65 1)) ∧ (0 ≤ w ∧ w ≤ 5) ∧ q0 = some (vi (if w = 0 then (M 65 (10 + i)) else if w = 1 then (M 65 (16 + i)) else if w = 2 then (M 65 (22 + i)) else if w = 3 then (M 65 (28 + i)) else if w = 4 then (M 65 (34 + i)) else sfF (M 65 (10 + i)) (M 65 (16 + i)) (M 65 (34 + i)) ((M 65 2) % 24))) ∧ M = M') ∨ ((0 ≤ i ∧ i < (M 65 1)) ∧ (¬ (0 ≤ w ∧ w ≤ 5)) ∧ q0 = some (vi (-2)) ∧ (up M 68 0 ((M 68 0) + 1)) = M') ∨ ((¬ (0 ≤ i ∧ i < (M 65 1))) ∧ q0 = some (vi (-2)) ∧ (up M 68 0 ((M 68 0) + 1)) = M')) := by
  obtain ⟨r0, r1, r2, r3, r40, r61, r80, r111, rF, rG⟩ := (show (0 ≤ M 65 0 ∧ M 65 0 ≤ 3) ∧ (0 ≤ M 65 1 ∧ M 65 1 ≤ 6) ∧ (0 ≤ M 65 2 ∧ M 65 2 ≤ 9999) ∧ (0 ≤ M 65 3 ∧ M 65 3 ≤ 9000) ∧ (0 ≤ M 65 40 ∧ M 65 40 ≤ 5) ∧ (0 ≤ M 65 61 ∧ M 65 61 ≤ 6) ∧ (0 ≤ M 65 80 ∧ M 65 80 ≤ 6) ∧ (0 ≤ M 65 111 ∧ M 65 111 ≤ 8) ∧ (∀ f : Int, 0 ≤ f → f < M 65 0 → (0 ≤ M 65 (4 + f) ∧ M 65 (4 + f) ≤ 5) ∧ (1 ≤ M 65 (7 + f) ∧ M 65 (7 + f) ≤ 10)) ∧ (∀ i : Int, 0 ≤ i → i < M 65 1 → (0 ≤ M 65 (10 + i) ∧ M 65 (10 + i) ≤ 5) ∧ (1 ≤ M 65 (16 + i) ∧ M 65 (16 + i) ≤ 4) ∧ (0 ≤ M 65 (22 + i) ∧ M 65 (22 + i) < M 65 0) ∧ (0 ≤ M 65 (28 + i) ∧ M 65 (28 + i) ≤ 11) ∧ (0 ≤ M 65 (34 + i) ∧ M 65 (34 + i) ≤ 9)) from hI)
  refine Hx.run 2 (pc' := 2) (L' := [some (vr 64), some (vi i), some (vi w)]) (st' := [vi i, vr 64]) (M' := M) rfl ?_
  refine Hx.call (t := 137) (as := [vr 64, vi i]) (pc' := 5) (rest := []) rfl (r_isGoer i M (by omega)) ?_
  rintro _ _ (⟨q78, rfl, rfl⟩ | ⟨q78, rfl, rfl⟩)
  · skip
    have gq78 := rG i q78.1 q78.2
    have fq78 := rF (M 65 (22 + i)) (by omega) (by omega)
    refine Hx.run 5 (pc' := 14) (L' := [some (vr 64), some (vi i), some (vi w)]) (st' := [vl 5, vl 0, vl w]) (M' := M) rfl ?_
    refine Hx.call (t := 130) (as := [vl w, vl 0, vl 5]) (pc' := 17) (rest := []) rfl (r_in w 0 5 M) ?_
    rintro _ _ (⟨q79, rfl, rfl⟩ | ⟨q79, rfl, rfl⟩)
    · skip
      refine Hx.run 4 (pc' := 30) (L' := [some (vr 64), some (vi i), some (vi w)]) (st' := [vi w, vi i, vr 64]) (M' := M) rfl ?_
      refine Hx.call (t := 180) (as := [vr 64, vi i, vi w]) (pc' := 33) (rest := []) rfl (r_ofGoer i w M (by omega) (by omega)) ?_
      rintro _ _ ⟨rfl, rfl⟩
      refine Hx.run 0 (pc' := 33) (L' := [some (vr 64), some (vi i), some (vi w)]) (st' := [vi (if w = 0 then (M 65 (10 + i)) else if w = 1 then (M 65 (16 + i)) else if w = 2 then (M 65 (22 + i)) else if w = 3 then (M 65 (28 + i)) else if w = 4 then (M 65 (34 + i)) else sfF (M 65 (10 + i)) (M 65 (16 + i)) (M 65 (34 + i)) ((M 65 2) % 24))]) (M' := M) rfl ?_
      refine Hx.ret rfl ?_
      exact Or.inl ⟨q78, q79, rfl, rfl⟩
    · skip
      refine Hx.run 3 (pc' := 23) (L' := [some (vr 64), some (vi i), some (vi w)]) (st' := [vi (-2), vr 64]) (M' := M) rfl ?_
      refine Hx.call (t := 132) (as := [vr 64, vi (-2)]) (pc' := 26) (rest := []) rfl (r_bad (-2) M (by omega)) ?_
      rintro _ _ ⟨rfl, rfl⟩
      refine Hx.run 0 (pc' := 26) (L' := [some (vr 64), some (vi i), some (vi w)]) (st' := [vi (-2)]) (M' := (up M 68 0 ((M 68 0) + 1))) rfl ?_
      refine Hx.ret rfl ?_
      exact Or.inr (Or.inl ⟨q78, q79, rfl, rfl⟩)
  · skip
    refine Hx.run 3 (pc' := 23) (L' := [some (vr 64), some (vi i), some (vi w)]) (st' := [vi (-2), vr 64]) (M' := M) rfl ?_
    refine Hx.call (t := 132) (as := [vr 64, vi (-2)]) (pc' := 26) (rest := []) rfl (r_bad (-2) M (by omega)) ?_
    rintro _ _ ⟨rfl, rfl⟩
    refine Hx.run 0 (pc' := 26) (L' := [some (vr 64), some (vi i), some (vi w)]) (st' := [vi (-2)]) (M' := (up M 68 0 ((M 68 0) + 1))) rfl ?_
    refine Hx.ret rfl ?_
    exact Or.inr (Or.inr (⟨q78, rfl, rfl⟩))
set_option maxRecDepth 100000 in
theorem r_gets (a b l : Int) (M : Mm) (hl : 0 ≤ l ∧ l ≤ 9) : Ct 208 [vi a, vi b, vi l] M (fun q0 M' => q0 = some (vi (if a = 0 then (if b = 0 then 2 else 1) else if b = 0 then 4 else -l - 2)) ∧ M = M') := by
  refine Hx.run 1 (pc' := 1) (L' := [some (vi a), some (vi b), some (vi l)]) (st' := [vi a]) (M' := M) rfl ?_
  refine Hx.br (c := a = 0) (t := 19) (f := 4) rfl (fun h1 => ?_) (fun h1 => ?_)
  · skip
    refine Hx.run 1 (pc' := 20) (L' := [some (vi a), some (vi b), some (vi l)]) (st' := [vi b]) (M' := M) rfl ?_
    refine Hx.br (c := b = 0) (t := 27) (f := 23) rfl (fun h2 => ?_) (fun h2 => ?_)
    · skip
      refine Hx.run 1 (pc' := 28) (L' := [some (vi a), some (vi b), some (vi l)]) (st' := [vi 2]) (M' := M) rfl ?_
      refine Hx.ret rfl ?_
      first | (exfalso; omega) | exact ⟨some_vi (by repeat (first | rw [if_pos (by omega)] | rw [if_neg (by omega)])), rfl⟩
    · skip
      refine Hx.run 2 (pc' := 28) (L' := [some (vi a), some (vi b), some (vi l)]) (st' := [vi 1]) (M' := M) rfl ?_
      refine Hx.ret rfl ?_
      first | (exfalso; omega) | exact ⟨some_vi (by repeat (first | rw [if_pos (by omega)] | rw [if_neg (by omega)])), rfl⟩
  · skip
    refine Hx.run 1 (pc' := 5) (L' := [some (vi a), some (vi b), some (vi l)]) (st' := [vi b]) (M' := M) rfl ?_
    refine Hx.br (c := b = 0) (t := 15) (f := 8) rfl (fun h3 => ?_) (fun h3 => ?_)
    · skip
      refine Hx.run 2 (pc' := 28) (L' := [some (vi a), some (vi b), some (vi l)]) (st' := [vi 4]) (M' := M) rfl ?_
      refine Hx.ret rfl ?_
      first | (exfalso; omega) | exact ⟨some_vi (by repeat (first | rw [if_pos (by omega)] | rw [if_neg (by omega)])), rfl⟩
    · skip
      refine Hx.run 1 (pc' := 9) (L' := [some (vi a), some (vi b), some (vi l)]) (st' := [vi l]) (M' := M) rfl ?_
      refine Hx.neg rfl (by omega) ?_
      refine Hx.run 1 (pc' := 11) (L' := [some (vi a), some (vi b), some (vi l)]) (st' := [vi 2, vi (-l)]) (M' := M) rfl ?_
      refine Hx.sub rfl (by omega) ?_
      refine Hx.run 1 (pc' := 28) (L' := [some (vi a), some (vi b), some (vi l)]) (st' := [vi ((-l) - 2)]) (M' := M) rfl ?_
      refine Hx.ret rfl ?_
      first | (exfalso; omega) | exact ⟨some_vi (by repeat (first | rw [if_pos (by omega)] | rw [if_neg (by omega)])), rfl⟩
set_option maxRecDepth 100000 in
set_option maxHeartbeats 4000000 in
theorem R_gap (a b : Int) (M : Mm) (hI : RI M 0) (hs : (0 ≤ M 68 0 ∧ M 68 0 ≤ 600) ∧ (0 ≤ M 68 1 ∧ M 68 1 ≤ 600) ∧ (0 ≤ M 68 2 ∧ M 68 2 ≤ 600)) : Ct 209 [vr 64, vi a, vi b] M (fun q0 M' => (((0 ≤ a ∧ a < M 65 1) ∧ (0 ≤ b ∧ b < M 65 1) ∧ a ≠ b) ∧ q0 = some (vi 6) ∧ M = M') ∨ (¬ ((0 ≤ a ∧ a < M 65 1) ∧ (0 ≤ b ∧ b < M 65 1) ∧ a ≠ b) ∧ q0 = some (vi (-2)) ∧ up M 68 0 (M 68 0 + 1) = M')) := by
  obtain ⟨r0, r1, r2, r3, r40, r61, r80, r111, rF, rG⟩ := (show (0 ≤ M 65 0 ∧ M 65 0 ≤ 3) ∧ (0 ≤ M 65 1 ∧ M 65 1 ≤ 6) ∧ (0 ≤ M 65 2 ∧ M 65 2 ≤ 9999) ∧ (0 ≤ M 65 3 ∧ M 65 3 ≤ 9000) ∧ (0 ≤ M 65 40 ∧ M 65 40 ≤ 5) ∧ (0 ≤ M 65 61 ∧ M 65 61 ≤ 6) ∧ (0 ≤ M 65 80 ∧ M 65 80 ≤ 6) ∧ (0 ≤ M 65 111 ∧ M 65 111 ≤ 8) ∧ (∀ f : Int, 0 ≤ f → f < M 65 0 → (0 ≤ M 65 (4 + f) ∧ M 65 (4 + f) ≤ 5) ∧ (1 ≤ M 65 (7 + f) ∧ M 65 (7 + f) ≤ 10)) ∧ (∀ i : Int, 0 ≤ i → i < M 65 1 → (0 ≤ M 65 (10 + i) ∧ M 65 (10 + i) ≤ 5) ∧ (1 ≤ M 65 (16 + i) ∧ M 65 (16 + i) ≤ 4) ∧ (0 ≤ M 65 (22 + i) ∧ M 65 (22 + i) < M 65 0) ∧ (0 ≤ M 65 (28 + i) ∧ M 65 (28 + i) ≤ 11) ∧ (0 ≤ M 65 (34 + i) ∧ M 65 (34 + i) ≤ 9)) from hI)
  refine Hx.run 2 (pc' := 2) (L' := [some (vr 64), some (vi a), some (vi b), none, none, none, none, none]) (st' := [vi a, vr 64]) (M' := M) rfl ?_
  refine Hx.call (t := 137) (as := [vr 64, vi a]) (pc' := 5) (rest := []) rfl (r_isGoer a M (by omega)) ?_
  rintro _ _ (⟨q80, rfl, rfl⟩ | ⟨q80, rfl, rfl⟩)
  · skip
    have gq80 := rG a q80.1 q80.2
    have fq80 := rF (M 65 (22 + a)) (by omega) (by omega)
    refine Hx.run 3 (pc' := 10) (L' := [some (vr 64), some (vi a), some (vi b), none, none, none, none, none]) (st' := [vi b, vr 64]) (M' := M) rfl ?_
    refine Hx.call (t := 137) (as := [vr 64, vi b]) (pc' := 13) (rest := []) rfl (r_isGoer b M (by omega)) ?_
    rintro _ _ (⟨q81, rfl, rfl⟩ | ⟨q81, rfl, rfl⟩)
    · skip
      have gq81 := rG b q81.1 q81.2
      have fq81 := rF (M 65 (22 + b)) (by omega) (by omega)
      refine Hx.run 3 (pc' := 18) (L' := [some (vr 64), some (vi a), some (vi b), none, none, none, none, none]) (st' := [vi b, vi a]) (M' := M) rfl ?_
      refine Hx.br (c := a = b) (t := 21) (f := 28) rfl (fun h1 => ?_) (fun h1 => ?_)
      · skip
        refine Hx.run 2 (pc' := 24) (L' := [some (vr 64), some (vi a), some (vi b), none, none, none, none, none]) (st' := [vi (-2), vr 64]) (M' := M) rfl ?_
        refine Hx.call (t := 132) (as := [vr 64, vi (-2)]) (pc' := 27) (rest := []) rfl (r_bad (-2) M (by omega)) ?_
        rintro _ _ ⟨rfl, rfl⟩
        refine Hx.run 0 (pc' := 27) (L' := [some (vr 64), some (vi a), some (vi b), none, none, none, none, none]) (st' := [vi (-2)]) (M' := (up M 68 0 ((M 68 0) + 1))) rfl ?_
        refine Hx.ret rfl ?_
        first | exact Or.inl ⟨by omega, rfl, rfl⟩ | exact Or.inr ⟨by omega, rfl, rfl⟩ | (exfalso; omega)
      · skip
        refine Hx.run 12 (pc' := 48) (L' := [some (vr 64), some (vi a), some (vi b), some (vi 0), some (vi 0), none, none, none]) (st' := [vi 3, vi 0]) (M' := M) rfl ?_
        refine Hx.run 12 (pc' := 81) (L' := [some (vr 64), some (vi a), some (vi b), some (vi 0), some (vi 0), some (vi 0), some (vi 0), none]) (st' := [vi 1]) (M' := M) rfl ?_
        refine Hx.run 5 (pc' := 90) (L' := [some (vr 64), some (vi a), some (vi b), some (vi 0), some (vi 0), some (vi 0), some (vi 0), none]) (st' := [vi a, vi 34, vr 65, vi 0, vi 1]) (M' := M) rfl ?_
        refine Hx.add rfl (by omega) ?_
        refine Hx.aldI (n := 1032) rfl rfl (by omega) ?_
        refine Hx.call (t := 208) (as := [vi 1, vi 0, vi (M 65 (34 + a))]) (pc' := 95) (rest := []) rfl (show Ct 208 [vi 1, vi 0, vi (M 65 (34 + a))] M (fun q0 M' => q0 = some (vi 4) ∧ M = M') from r_gets 1 0 (M 65 (34 + a)) M (by omega)) ?_
        rintro _ _ ⟨rfl, rfl⟩
        refine Hx.run 0 (pc' := 95) (L' := [some (vr 64), some (vi a), some (vi b), some (vi 0), some (vi 0), some (vi 0), some (vi 0), none]) (st' := [vi 4]) (M' := M) rfl ?_
        refine Hx.run 6 (pc' := 106) (L' := [some (vr 64), some (vi a), some (vi b), some (vi 0), some (vi 0), some (vi 0), some (vi 0), none]) (st' := [vi a, vi 34, vr 65, vi 0, vi 0, vi 4]) (M' := M) rfl ?_
        refine Hx.add rfl (by omega) ?_
        refine Hx.aldI (n := 1032) rfl rfl (by omega) ?_
        refine Hx.call (t := 208) (as := [vi 0, vi 0, vi (M 65 (34 + a))]) (pc' := 111) (rest := [vi 4]) rfl (show Ct 208 [vi 0, vi 0, vi (M 65 (34 + a))] M (fun q0 M' => q0 = some (vi 2) ∧ M = M') from r_gets 0 0 (M 65 (34 + a)) M (by omega)) ?_
        rintro _ _ ⟨rfl, rfl⟩
        refine Hx.run 0 (pc' := 111) (L' := [some (vr 64), some (vi a), some (vi b), some (vi 0), some (vi 0), some (vi 0), some (vi 0), none]) (st' := [vi 2, vi 4]) (M' := M) rfl ?_
        refine Hx.run 9 (pc' := 180) (L' := [some (vr 64), some (vi a), some (vi b), some (vi 0), some (vi 0), some (vi 0), some (vi 0), some (vi 0)]) (st' := []) (M' := M) rfl ?_
        refine Hx.inc rfl rfl (by omega) ?_
        refine Hx.run 0 (pc' := 183) (L' := [some (vr 64), some (vi a), some (vi b), some (vi 0), some (vi 1), some (vi 0), some (vi 0), some (vi 0)]) (st' := []) (M' := M) rfl ?_
        refine Hx.run 12 (pc' := 61) (L' := [some (vr 64), some (vi a), some (vi b), some (vi 0), some (vi 1), some (vi 1), some (vi 0), some (vi 0)]) (st' := [vi 1, vi 1]) (M' := M) rfl ?_
        refine Hx.run 11 (pc' := 90) (L' := [some (vr 64), some (vi a), some (vi b), some (vi 0), some (vi 1), some (vi 1), some (vi 0), some (vi 0)]) (st' := [vi a, vi 34, vr 65, vi 0, vi 0]) (M' := M) rfl ?_
        refine Hx.add rfl (by omega) ?_
        refine Hx.aldI (n := 1032) rfl rfl (by omega) ?_
        refine Hx.call (t := 208) (as := [vi 0, vi 0, vi (M 65 (34 + a))]) (pc' := 95) (rest := []) rfl (show Ct 208 [vi 0, vi 0, vi (M 65 (34 + a))] M (fun q0 M' => q0 = some (vi 2) ∧ M = M') from r_gets 0 0 (M 65 (34 + a)) M (by omega)) ?_
        rintro _ _ ⟨rfl, rfl⟩
        refine Hx.run 0 (pc' := 95) (L' := [some (vr 64), some (vi a), some (vi b), some (vi 0), some (vi 1), some (vi 1), some (vi 0), some (vi 0)]) (st' := [vi 2]) (M' := M) rfl ?_
        refine Hx.run 6 (pc' := 106) (L' := [some (vr 64), some (vi a), some (vi b), some (vi 0), some (vi 1), some (vi 1), some (vi 0), some (vi 0)]) (st' := [vi a, vi 34, vr 65, vi 0, vi 1, vi 2]) (M' := M) rfl ?_
        refine Hx.add rfl (by omega) ?_
        refine Hx.aldI (n := 1032) rfl rfl (by omega) ?_
        refine Hx.call (t := 208) (as := [vi 1, vi 0, vi (M 65 (34 + a))]) (pc' := 111) (rest := [vi 2]) rfl (show Ct 208 [vi 1, vi 0, vi (M 65 (34 + a))] M (fun q0 M' => q0 = some (vi 4) ∧ M = M') from r_gets 1 0 (M 65 (34 + a)) M (by omega)) ?_
        rintro _ _ ⟨rfl, rfl⟩
        refine Hx.run 0 (pc' := 111) (L' := [some (vr 64), some (vi a), some (vi b), some (vi 0), some (vi 1), some (vi 1), some (vi 0), some (vi 0)]) (st' := [vi 4, vi 2]) (M' := M) rfl ?_
        refine Hx.run 10 (pc' := 133) (L' := [some (vr 64), some (vi a), some (vi b), some (vi 0), some (vi 1), some (vi 1), some (vi 0), some (vi 0)]) (st' := [vi b, vi 34, vr 65, vi 1, vi 1]) (M' := M) rfl ?_
        refine Hx.add rfl (by omega) ?_
        refine Hx.aldI (n := 1032) rfl rfl (by omega) ?_
        refine Hx.call (t := 208) (as := [vi 1, vi 1, vi (M 65 (34 + b))]) (pc' := 138) (rest := []) rfl (show Ct 208 [vi 1, vi 1, vi (M 65 (34 + b))] M (fun q0 M' => q0 = some (vi (-(M 65 (34 + b)) - 2)) ∧ M = M') from r_gets 1 1 (M 65 (34 + b)) M (by omega)) ?_
        rintro _ _ ⟨rfl, rfl⟩
        refine Hx.run 0 (pc' := 138) (L' := [some (vr 64), some (vi a), some (vi b), some (vi 0), some (vi 1), some (vi 1), some (vi 0), some (vi 0)]) (st' := [vi (-(M 65 (34 + b)) - 2)]) (M' := M) rfl ?_
        refine Hx.run 6 (pc' := 149) (L' := [some (vr 64), some (vi a), some (vi b), some (vi 0), some (vi 1), some (vi 1), some (vi 0), some (vi 0)]) (st' := [vi b, vi 34, vr 65, vi 1, vi 0, vi (-(M 65 (34 + b)) - 2)]) (M' := M) rfl ?_
        refine Hx.add rfl (by omega) ?_
        refine Hx.aldI (n := 1032) rfl rfl (by omega) ?_
        refine Hx.call (t := 208) (as := [vi 0, vi 1, vi (M 65 (34 + b))]) (pc' := 154) (rest := [vi (-(M 65 (34 + b)) - 2)]) rfl (show Ct 208 [vi 0, vi 1, vi (M 65 (34 + b))] M (fun q0 M' => q0 = some (vi 1) ∧ M = M') from r_gets 0 1 (M 65 (34 + b)) M (by omega)) ?_
        rintro _ _ ⟨rfl, rfl⟩
        refine Hx.run 0 (pc' := 154) (L' := [some (vr 64), some (vi a), some (vi b), some (vi 0), some (vi 1), some (vi 1), some (vi 0), some (vi 0)]) (st' := [vi 1, vi (-(M 65 (34 + b)) - 2)]) (M' := M) rfl ?_
        refine Hx.br (c := 1 < (-(M 65 (34 + b)) - 2)) (t := 161) (f := 157) rfl (fun h2 => ?_) (fun h2 => ?_)
        · skip
          refine Hx.run 8 (pc' := 180) (L' := [some (vr 64), some (vi a), some (vi b), some (vi 0), some (vi 1), some (vi 1), some (vi 0), some (vi 0)]) (st' := []) (M' := M) rfl ?_
          refine Hx.inc rfl rfl (by omega) ?_
          refine Hx.run 0 (pc' := 183) (L' := [some (vr 64), some (vi a), some (vi b), some (vi 0), some (vi 2), some (vi 1), some (vi 0), some (vi 0)]) (st' := []) (M' := M) rfl ?_
          refine Hx.run 12 (pc' := 58) (L' := [some (vr 64), some (vi a), some (vi b), some (vi 0), some (vi 2), some (vi 0), some (vi 0), some (vi 0)]) (st' := []) (M' := M) rfl ?_
          refine Hx.run 12 (pc' := 84) (L' := [some (vr 64), some (vi a), some (vi b), some (vi 0), some (vi 2), some (vi 0), some (vi 1), some (vi 0)]) (st' := [vr 64, vi 1, vi 1]) (M' := M) rfl ?_
          refine Hx.run 3 (pc' := 90) (L' := [some (vr 64), some (vi a), some (vi b), some (vi 0), some (vi 2), some (vi 0), some (vi 1), some (vi 0)]) (st' := [vi a, vi 34, vr 65, vi 1, vi 1]) (M' := M) rfl ?_
          refine Hx.add rfl (by omega) ?_
          refine Hx.aldI (n := 1032) rfl rfl (by omega) ?_
          refine Hx.call (t := 208) (as := [vi 1, vi 1, vi (M 65 (34 + a))]) (pc' := 95) (rest := []) rfl (show Ct 208 [vi 1, vi 1, vi (M 65 (34 + a))] M (fun q0 M' => q0 = some (vi (-(M 65 (34 + a)) - 2)) ∧ M = M') from r_gets 1 1 (M 65 (34 + a)) M (by omega)) ?_
          rintro _ _ ⟨rfl, rfl⟩
          refine Hx.run 0 (pc' := 95) (L' := [some (vr 64), some (vi a), some (vi b), some (vi 0), some (vi 2), some (vi 0), some (vi 1), some (vi 0)]) (st' := [vi (-(M 65 (34 + a)) - 2)]) (M' := M) rfl ?_
          refine Hx.run 6 (pc' := 106) (L' := [some (vr 64), some (vi a), some (vi b), some (vi 0), some (vi 2), some (vi 0), some (vi 1), some (vi 0)]) (st' := [vi a, vi 34, vr 65, vi 1, vi 0, vi (-(M 65 (34 + a)) - 2)]) (M' := M) rfl ?_
          refine Hx.add rfl (by omega) ?_
          refine Hx.aldI (n := 1032) rfl rfl (by omega) ?_
          refine Hx.call (t := 208) (as := [vi 0, vi 1, vi (M 65 (34 + a))]) (pc' := 111) (rest := [vi (-(M 65 (34 + a)) - 2)]) rfl (show Ct 208 [vi 0, vi 1, vi (M 65 (34 + a))] M (fun q0 M' => q0 = some (vi 1) ∧ M = M') from r_gets 0 1 (M 65 (34 + a)) M (by omega)) ?_
          rintro _ _ ⟨rfl, rfl⟩
          refine Hx.run 0 (pc' := 111) (L' := [some (vr 64), some (vi a), some (vi b), some (vi 0), some (vi 2), some (vi 0), some (vi 1), some (vi 0)]) (st' := [vi 1, vi (-(M 65 (34 + a)) - 2)]) (M' := M) rfl ?_
          refine Hx.br (c := 1 < (-(M 65 (34 + a)) - 2)) (t := 161) (f := 114) rfl (fun h3 => ?_) (fun h3 => ?_)
          · skip
            refine Hx.run 8 (pc' := 180) (L' := [some (vr 64), some (vi a), some (vi b), some (vi 0), some (vi 2), some (vi 0), some (vi 1), some (vi 0)]) (st' := []) (M' := M) rfl ?_
            refine Hx.inc rfl rfl (by omega) ?_
            refine Hx.run 0 (pc' := 183) (L' := [some (vr 64), some (vi a), some (vi b), some (vi 0), some (vi 3), some (vi 0), some (vi 1), some (vi 0)]) (st' := []) (M' := M) rfl ?_
            refine Hx.run 12 (pc' := 56) (L' := [some (vr 64), some (vi a), some (vi b), some (vi 0), some (vi 3), some (vi 0), some (vi 1), some (vi 0)]) (st' := [vi 1]) (M' := M) rfl ?_
            refine Hx.run 12 (pc' := 84) (L' := [some (vr 64), some (vi a), some (vi b), some (vi 0), some (vi 3), some (vi 1), some (vi 1), some (vi 0)]) (st' := [vr 64, vi 1, vi 0]) (M' := M) rfl ?_
            refine Hx.run 3 (pc' := 90) (L' := [some (vr 64), some (vi a), some (vi b), some (vi 0), some (vi 3), some (vi 1), some (vi 1), some (vi 0)]) (st' := [vi a, vi 34, vr 65, vi 1, vi 0]) (M' := M) rfl ?_
            refine Hx.add rfl (by omega) ?_
            refine Hx.aldI (n := 1032) rfl rfl (by omega) ?_
            refine Hx.call (t := 208) (as := [vi 0, vi 1, vi (M 65 (34 + a))]) (pc' := 95) (rest := []) rfl (show Ct 208 [vi 0, vi 1, vi (M 65 (34 + a))] M (fun q0 M' => q0 = some (vi 1) ∧ M = M') from r_gets 0 1 (M 65 (34 + a)) M (by omega)) ?_
            rintro _ _ ⟨rfl, rfl⟩
            refine Hx.run 0 (pc' := 95) (L' := [some (vr 64), some (vi a), some (vi b), some (vi 0), some (vi 3), some (vi 1), some (vi 1), some (vi 0)]) (st' := [vi 1]) (M' := M) rfl ?_
            refine Hx.run 6 (pc' := 106) (L' := [some (vr 64), some (vi a), some (vi b), some (vi 0), some (vi 3), some (vi 1), some (vi 1), some (vi 0)]) (st' := [vi a, vi 34, vr 65, vi 1, vi 1, vi 1]) (M' := M) rfl ?_
            refine Hx.add rfl (by omega) ?_
            refine Hx.aldI (n := 1032) rfl rfl (by omega) ?_
            refine Hx.call (t := 208) (as := [vi 1, vi 1, vi (M 65 (34 + a))]) (pc' := 111) (rest := [vi 1]) rfl (show Ct 208 [vi 1, vi 1, vi (M 65 (34 + a))] M (fun q0 M' => q0 = some (vi (-(M 65 (34 + a)) - 2)) ∧ M = M') from r_gets 1 1 (M 65 (34 + a)) M (by omega)) ?_
            rintro _ _ ⟨rfl, rfl⟩
            refine Hx.run 0 (pc' := 111) (L' := [some (vr 64), some (vi a), some (vi b), some (vi 0), some (vi 3), some (vi 1), some (vi 1), some (vi 0)]) (st' := [vi (-(M 65 (34 + a)) - 2), vi 1]) (M' := M) rfl ?_
            refine Hx.br (c := (-(M 65 (34 + a)) - 2) < 1) (t := 161) (f := 114) rfl (fun h4 => ?_) (fun h4 => ?_)
            · skip
              refine Hx.run 8 (pc' := 180) (L' := [some (vr 64), some (vi a), some (vi b), some (vi 0), some (vi 3), some (vi 1), some (vi 1), some (vi 0)]) (st' := []) (M' := M) rfl ?_
              refine Hx.inc rfl rfl (by omega) ?_
              refine Hx.run 0 (pc' := 183) (L' := [some (vr 64), some (vi a), some (vi b), some (vi 0), some (vi 4), some (vi 1), some (vi 1), some (vi 0)]) (st' := []) (M' := M) rfl ?_
              refine Hx.run 5 (pc' := 187) (L' := [some (vr 64), some (vi a), some (vi b), some (vi 0), some (vi 4), some (vi 1), some (vi 1), some (vi 0)]) (st' := [vi 0]) (M' := M) rfl ?_
              refine Hx.ret rfl ?_
              first | exact Or.inl ⟨by omega, rfl, rfl⟩ | exact Or.inr ⟨by omega, rfl, rfl⟩ | (exfalso; omega)
            · skip
              refine Hx.run 8 (pc' := 133) (L' := [some (vr 64), some (vi a), some (vi b), some (vi 0), some (vi 3), some (vi 1), some (vi 1), some (vi 0)]) (st' := [vi b, vi 34, vr 65, vi 1, vi 0]) (M' := M) rfl ?_
              refine Hx.add rfl (by omega) ?_
              refine Hx.aldI (n := 1032) rfl rfl (by omega) ?_
              refine Hx.call (t := 208) (as := [vi 0, vi 1, vi (M 65 (34 + b))]) (pc' := 138) (rest := []) rfl (show Ct 208 [vi 0, vi 1, vi (M 65 (34 + b))] M (fun q0 M' => q0 = some (vi 1) ∧ M = M') from r_gets 0 1 (M 65 (34 + b)) M (by omega)) ?_
              rintro _ _ ⟨rfl, rfl⟩
              refine Hx.run 0 (pc' := 138) (L' := [some (vr 64), some (vi a), some (vi b), some (vi 0), some (vi 3), some (vi 1), some (vi 1), some (vi 0)]) (st' := [vi 1]) (M' := M) rfl ?_
              refine Hx.run 6 (pc' := 149) (L' := [some (vr 64), some (vi a), some (vi b), some (vi 0), some (vi 3), some (vi 1), some (vi 1), some (vi 0)]) (st' := [vi b, vi 34, vr 65, vi 1, vi 1, vi 1]) (M' := M) rfl ?_
              refine Hx.add rfl (by omega) ?_
              refine Hx.aldI (n := 1032) rfl rfl (by omega) ?_
              refine Hx.call (t := 208) (as := [vi 1, vi 1, vi (M 65 (34 + b))]) (pc' := 154) (rest := [vi 1]) rfl (show Ct 208 [vi 1, vi 1, vi (M 65 (34 + b))] M (fun q0 M' => q0 = some (vi (-(M 65 (34 + b)) - 2)) ∧ M = M') from r_gets 1 1 (M 65 (34 + b)) M (by omega)) ?_
              rintro _ _ ⟨rfl, rfl⟩
              refine Hx.run 0 (pc' := 154) (L' := [some (vr 64), some (vi a), some (vi b), some (vi 0), some (vi 3), some (vi 1), some (vi 1), some (vi 0)]) (st' := [vi (-(M 65 (34 + b)) - 2), vi 1]) (M' := M) rfl ?_
              refine Hx.br (c := (-(M 65 (34 + b)) - 2) < 1) (t := 161) (f := 157) rfl (fun h5 => ?_) (fun h5 => ?_)
              · skip
                refine Hx.run 8 (pc' := 180) (L' := [some (vr 64), some (vi a), some (vi b), some (vi 0), some (vi 3), some (vi 1), some (vi 1), some (vi 0)]) (st' := []) (M' := M) rfl ?_
                refine Hx.inc rfl rfl (by omega) ?_
                refine Hx.run 0 (pc' := 183) (L' := [some (vr 64), some (vi a), some (vi b), some (vi 0), some (vi 4), some (vi 1), some (vi 1), some (vi 0)]) (st' := []) (M' := M) rfl ?_
                refine Hx.run 5 (pc' := 187) (L' := [some (vr 64), some (vi a), some (vi b), some (vi 0), some (vi 4), some (vi 1), some (vi 1), some (vi 0)]) (st' := [vi 0]) (M' := M) rfl ?_
                refine Hx.ret rfl ?_
                first | exact Or.inl ⟨by omega, rfl, rfl⟩ | exact Or.inr ⟨by omega, rfl, rfl⟩ | (exfalso; omega)
              · skip
                refine Hx.run 12 (pc' := 180) (L' := [some (vr 64), some (vi a), some (vi b), some (vi 8), some (vi 3), some (vi 1), some (vi 1), some (vi 1)]) (st' := []) (M' := M) rfl ?_
                refine Hx.inc rfl rfl (by omega) ?_
                refine Hx.run 0 (pc' := 183) (L' := [some (vr 64), some (vi a), some (vi b), some (vi 8), some (vi 4), some (vi 1), some (vi 1), some (vi 1)]) (st' := []) (M' := M) rfl ?_
                refine Hx.run 5 (pc' := 187) (L' := [some (vr 64), some (vi a), some (vi b), some (vi 8), some (vi 4), some (vi 1), some (vi 1), some (vi 1)]) (st' := [vi 8]) (M' := M) rfl ?_
                refine Hx.ret rfl ?_
                first | exact Or.inl ⟨by omega, rfl, rfl⟩ | exact Or.inr ⟨by omega, rfl, rfl⟩ | (exfalso; omega)
          · skip
            refine Hx.run 8 (pc' := 133) (L' := [some (vr 64), some (vi a), some (vi b), some (vi 0), some (vi 2), some (vi 0), some (vi 1), some (vi 0)]) (st' := [vi b, vi 34, vr 65, vi 0, vi 0]) (M' := M) rfl ?_
            refine Hx.add rfl (by omega) ?_
            refine Hx.aldI (n := 1032) rfl rfl (by omega) ?_
            refine Hx.call (t := 208) (as := [vi 0, vi 0, vi (M 65 (34 + b))]) (pc' := 138) (rest := []) rfl (show Ct 208 [vi 0, vi 0, vi (M 65 (34 + b))] M (fun q0 M' => q0 = some (vi 2) ∧ M = M') from r_gets 0 0 (M 65 (34 + b)) M (by omega)) ?_
            rintro _ _ ⟨rfl, rfl⟩
            refine Hx.run 0 (pc' := 138) (L' := [some (vr 64), some (vi a), some (vi b), some (vi 0), some (vi 2), some (vi 0), some (vi 1), some (vi 0)]) (st' := [vi 2]) (M' := M) rfl ?_
            refine Hx.run 6 (pc' := 149) (L' := [some (vr 64), some (vi a), some (vi b), some (vi 0), some (vi 2), some (vi 0), some (vi 1), some (vi 0)]) (st' := [vi b, vi 34, vr 65, vi 0, vi 1, vi 2]) (M' := M) rfl ?_
            refine Hx.add rfl (by omega) ?_
            refine Hx.aldI (n := 1032) rfl rfl (by omega) ?_
            refine Hx.call (t := 208) (as := [vi 1, vi 0, vi (M 65 (34 + b))]) (pc' := 154) (rest := [vi 2]) rfl (show Ct 208 [vi 1, vi 0, vi (M 65 (34 + b))] M (fun q0 M' => q0 = some (vi 4) ∧ M = M') from r_gets 1 0 (M 65 (34 + b)) M (by omega)) ?_
            rintro _ _ ⟨rfl, rfl⟩
            refine Hx.run 0 (pc' := 154) (L' := [some (vr 64), some (vi a), some (vi b), some (vi 0), some (vi 2), some (vi 0), some (vi 1), some (vi 0)]) (st' := [vi 4, vi 2]) (M' := M) rfl ?_
            refine Hx.run 12 (pc' := 179) (L' := [some (vr 64), some (vi a), some (vi b), some (vi 0), some (vi 2), some (vi 0), some (vi 1), some (vi 1)]) (st' := [vi 4]) (M' := M) rfl ?_
            refine Hx.run 1 (pc' := 180) (L' := [some (vr 64), some (vi a), some (vi b), some (vi 4), some (vi 2), some (vi 0), some (vi 1), some (vi 1)]) (st' := []) (M' := M) rfl ?_
            refine Hx.inc rfl rfl (by omega) ?_
            refine Hx.run 0 (pc' := 183) (L' := [some (vr 64), some (vi a), some (vi b), some (vi 4), some (vi 3), some (vi 0), some (vi 1), some (vi 1)]) (st' := []) (M' := M) rfl ?_
            refine Hx.run 12 (pc' := 56) (L' := [some (vr 64), some (vi a), some (vi b), some (vi 4), some (vi 3), some (vi 0), some (vi 1), some (vi 1)]) (st' := [vi 1]) (M' := M) rfl ?_
            refine Hx.run 12 (pc' := 84) (L' := [some (vr 64), some (vi a), some (vi b), some (vi 4), some (vi 3), some (vi 1), some (vi 1), some (vi 1)]) (st' := [vr 64, vi 1, vi 0]) (M' := M) rfl ?_
            refine Hx.run 3 (pc' := 90) (L' := [some (vr 64), some (vi a), some (vi b), some (vi 4), some (vi 3), some (vi 1), some (vi 1), some (vi 1)]) (st' := [vi a, vi 34, vr 65, vi 1, vi 0]) (M' := M) rfl ?_
            refine Hx.add rfl (by omega) ?_
            refine Hx.aldI (n := 1032) rfl rfl (by omega) ?_
            refine Hx.call (t := 208) (as := [vi 0, vi 1, vi (M 65 (34 + a))]) (pc' := 95) (rest := []) rfl (show Ct 208 [vi 0, vi 1, vi (M 65 (34 + a))] M (fun q0 M' => q0 = some (vi 1) ∧ M = M') from r_gets 0 1 (M 65 (34 + a)) M (by omega)) ?_
            rintro _ _ ⟨rfl, rfl⟩
            refine Hx.run 0 (pc' := 95) (L' := [some (vr 64), some (vi a), some (vi b), some (vi 4), some (vi 3), some (vi 1), some (vi 1), some (vi 1)]) (st' := [vi 1]) (M' := M) rfl ?_
            refine Hx.run 6 (pc' := 106) (L' := [some (vr 64), some (vi a), some (vi b), some (vi 4), some (vi 3), some (vi 1), some (vi 1), some (vi 1)]) (st' := [vi a, vi 34, vr 65, vi 1, vi 1, vi 1]) (M' := M) rfl ?_
            refine Hx.add rfl (by omega) ?_
            refine Hx.aldI (n := 1032) rfl rfl (by omega) ?_
            refine Hx.call (t := 208) (as := [vi 1, vi 1, vi (M 65 (34 + a))]) (pc' := 111) (rest := [vi 1]) rfl (show Ct 208 [vi 1, vi 1, vi (M 65 (34 + a))] M (fun q0 M' => q0 = some (vi (-(M 65 (34 + a)) - 2)) ∧ M = M') from r_gets 1 1 (M 65 (34 + a)) M (by omega)) ?_
            rintro _ _ ⟨rfl, rfl⟩
            refine Hx.run 0 (pc' := 111) (L' := [some (vr 64), some (vi a), some (vi b), some (vi 4), some (vi 3), some (vi 1), some (vi 1), some (vi 1)]) (st' := [vi (-(M 65 (34 + a)) - 2), vi 1]) (M' := M) rfl ?_
            refine Hx.br (c := (-(M 65 (34 + a)) - 2) < 1) (t := 161) (f := 114) rfl (fun h6 => ?_) (fun h6 => ?_)
            · skip
              refine Hx.run 8 (pc' := 180) (L' := [some (vr 64), some (vi a), some (vi b), some (vi 4), some (vi 3), some (vi 1), some (vi 1), some (vi 0)]) (st' := []) (M' := M) rfl ?_
              refine Hx.inc rfl rfl (by omega) ?_
              refine Hx.run 0 (pc' := 183) (L' := [some (vr 64), some (vi a), some (vi b), some (vi 4), some (vi 4), some (vi 1), some (vi 1), some (vi 0)]) (st' := []) (M' := M) rfl ?_
              refine Hx.run 5 (pc' := 187) (L' := [some (vr 64), some (vi a), some (vi b), some (vi 4), some (vi 4), some (vi 1), some (vi 1), some (vi 0)]) (st' := [vi 4]) (M' := M) rfl ?_
              refine Hx.ret rfl ?_
              first | exact Or.inl ⟨by omega, rfl, rfl⟩ | exact Or.inr ⟨by omega, rfl, rfl⟩ | (exfalso; omega)
            · skip
              refine Hx.run 8 (pc' := 133) (L' := [some (vr 64), some (vi a), some (vi b), some (vi 4), some (vi 3), some (vi 1), some (vi 1), some (vi 1)]) (st' := [vi b, vi 34, vr 65, vi 1, vi 0]) (M' := M) rfl ?_
              refine Hx.add rfl (by omega) ?_
              refine Hx.aldI (n := 1032) rfl rfl (by omega) ?_
              refine Hx.call (t := 208) (as := [vi 0, vi 1, vi (M 65 (34 + b))]) (pc' := 138) (rest := []) rfl (show Ct 208 [vi 0, vi 1, vi (M 65 (34 + b))] M (fun q0 M' => q0 = some (vi 1) ∧ M = M') from r_gets 0 1 (M 65 (34 + b)) M (by omega)) ?_
              rintro _ _ ⟨rfl, rfl⟩
              refine Hx.run 0 (pc' := 138) (L' := [some (vr 64), some (vi a), some (vi b), some (vi 4), some (vi 3), some (vi 1), some (vi 1), some (vi 1)]) (st' := [vi 1]) (M' := M) rfl ?_
              refine Hx.run 6 (pc' := 149) (L' := [some (vr 64), some (vi a), some (vi b), some (vi 4), some (vi 3), some (vi 1), some (vi 1), some (vi 1)]) (st' := [vi b, vi 34, vr 65, vi 1, vi 1, vi 1]) (M' := M) rfl ?_
              refine Hx.add rfl (by omega) ?_
              refine Hx.aldI (n := 1032) rfl rfl (by omega) ?_
              refine Hx.call (t := 208) (as := [vi 1, vi 1, vi (M 65 (34 + b))]) (pc' := 154) (rest := [vi 1]) rfl (show Ct 208 [vi 1, vi 1, vi (M 65 (34 + b))] M (fun q0 M' => q0 = some (vi (-(M 65 (34 + b)) - 2)) ∧ M = M') from r_gets 1 1 (M 65 (34 + b)) M (by omega)) ?_
              rintro _ _ ⟨rfl, rfl⟩
              refine Hx.run 0 (pc' := 154) (L' := [some (vr 64), some (vi a), some (vi b), some (vi 4), some (vi 3), some (vi 1), some (vi 1), some (vi 1)]) (st' := [vi (-(M 65 (34 + b)) - 2), vi 1]) (M' := M) rfl ?_
              refine Hx.br (c := (-(M 65 (34 + b)) - 2) < 1) (t := 161) (f := 157) rfl (fun h7 => ?_) (fun h7 => ?_)
              · skip
                refine Hx.run 8 (pc' := 180) (L' := [some (vr 64), some (vi a), some (vi b), some (vi 4), some (vi 3), some (vi 1), some (vi 1), some (vi 0)]) (st' := []) (M' := M) rfl ?_
                refine Hx.inc rfl rfl (by omega) ?_
                refine Hx.run 0 (pc' := 183) (L' := [some (vr 64), some (vi a), some (vi b), some (vi 4), some (vi 4), some (vi 1), some (vi 1), some (vi 0)]) (st' := []) (M' := M) rfl ?_
                refine Hx.run 5 (pc' := 187) (L' := [some (vr 64), some (vi a), some (vi b), some (vi 4), some (vi 4), some (vi 1), some (vi 1), some (vi 0)]) (st' := [vi 4]) (M' := M) rfl ?_
                refine Hx.ret rfl ?_
                first | exact Or.inl ⟨by omega, rfl, rfl⟩ | exact Or.inr ⟨by omega, rfl, rfl⟩ | (exfalso; omega)
              · skip
                refine Hx.run 12 (pc' := 180) (L' := [some (vr 64), some (vi a), some (vi b), some (vi 12), some (vi 3), some (vi 1), some (vi 1), some (vi 1)]) (st' := []) (M' := M) rfl ?_
                refine Hx.inc rfl rfl (by omega) ?_
                refine Hx.run 0 (pc' := 183) (L' := [some (vr 64), some (vi a), some (vi b), some (vi 12), some (vi 4), some (vi 1), some (vi 1), some (vi 1)]) (st' := []) (M' := M) rfl ?_
                refine Hx.run 5 (pc' := 187) (L' := [some (vr 64), some (vi a), some (vi b), some (vi 12), some (vi 4), some (vi 1), some (vi 1), some (vi 1)]) (st' := [vi 12]) (M' := M) rfl ?_
                refine Hx.ret rfl ?_
                first | exact Or.inl ⟨by omega, rfl, rfl⟩ | exact Or.inr ⟨by omega, rfl, rfl⟩ | (exfalso; omega)
        · skip
          refine Hx.run 12 (pc' := 180) (L' := [some (vr 64), some (vi a), some (vi b), some (vi 2), some (vi 1), some (vi 1), some (vi 0), some (vi 1)]) (st' := []) (M' := M) rfl ?_
          refine Hx.inc rfl rfl (by omega) ?_
          refine Hx.run 0 (pc' := 183) (L' := [some (vr 64), some (vi a), some (vi b), some (vi 2), some (vi 2), some (vi 1), some (vi 0), some (vi 1)]) (st' := []) (M' := M) rfl ?_
          refine Hx.run 12 (pc' := 58) (L' := [some (vr 64), some (vi a), some (vi b), some (vi 2), some (vi 2), some (vi 0), some (vi 0), some (vi 1)]) (st' := []) (M' := M) rfl ?_
          refine Hx.run 12 (pc' := 84) (L' := [some (vr 64), some (vi a), some (vi b), some (vi 2), some (vi 2), some (vi 0), some (vi 1), some (vi 1)]) (st' := [vr 64, vi 1, vi 1]) (M' := M) rfl ?_
          refine Hx.run 3 (pc' := 90) (L' := [some (vr 64), some (vi a), some (vi b), some (vi 2), some (vi 2), some (vi 0), some (vi 1), some (vi 1)]) (st' := [vi a, vi 34, vr 65, vi 1, vi 1]) (M' := M) rfl ?_
          refine Hx.add rfl (by omega) ?_
          refine Hx.aldI (n := 1032) rfl rfl (by omega) ?_
          refine Hx.call (t := 208) (as := [vi 1, vi 1, vi (M 65 (34 + a))]) (pc' := 95) (rest := []) rfl (show Ct 208 [vi 1, vi 1, vi (M 65 (34 + a))] M (fun q0 M' => q0 = some (vi (-(M 65 (34 + a)) - 2)) ∧ M = M') from r_gets 1 1 (M 65 (34 + a)) M (by omega)) ?_
          rintro _ _ ⟨rfl, rfl⟩
          refine Hx.run 0 (pc' := 95) (L' := [some (vr 64), some (vi a), some (vi b), some (vi 2), some (vi 2), some (vi 0), some (vi 1), some (vi 1)]) (st' := [vi (-(M 65 (34 + a)) - 2)]) (M' := M) rfl ?_
          refine Hx.run 6 (pc' := 106) (L' := [some (vr 64), some (vi a), some (vi b), some (vi 2), some (vi 2), some (vi 0), some (vi 1), some (vi 1)]) (st' := [vi a, vi 34, vr 65, vi 1, vi 0, vi (-(M 65 (34 + a)) - 2)]) (M' := M) rfl ?_
          refine Hx.add rfl (by omega) ?_
          refine Hx.aldI (n := 1032) rfl rfl (by omega) ?_
          refine Hx.call (t := 208) (as := [vi 0, vi 1, vi (M 65 (34 + a))]) (pc' := 111) (rest := [vi (-(M 65 (34 + a)) - 2)]) rfl (show Ct 208 [vi 0, vi 1, vi (M 65 (34 + a))] M (fun q0 M' => q0 = some (vi 1) ∧ M = M') from r_gets 0 1 (M 65 (34 + a)) M (by omega)) ?_
          rintro _ _ ⟨rfl, rfl⟩
          refine Hx.run 0 (pc' := 111) (L' := [some (vr 64), some (vi a), some (vi b), some (vi 2), some (vi 2), some (vi 0), some (vi 1), some (vi 1)]) (st' := [vi 1, vi (-(M 65 (34 + a)) - 2)]) (M' := M) rfl ?_
          refine Hx.br (c := 1 < (-(M 65 (34 + a)) - 2)) (t := 161) (f := 114) rfl (fun h8 => ?_) (fun h8 => ?_)
          · skip
            refine Hx.run 8 (pc' := 180) (L' := [some (vr 64), some (vi a), some (vi b), some (vi 2), some (vi 2), some (vi 0), some (vi 1), some (vi 0)]) (st' := []) (M' := M) rfl ?_
            refine Hx.inc rfl rfl (by omega) ?_
            refine Hx.run 0 (pc' := 183) (L' := [some (vr 64), some (vi a), some (vi b), some (vi 2), some (vi 3), some (vi 0), some (vi 1), some (vi 0)]) (st' := []) (M' := M) rfl ?_
            refine Hx.run 12 (pc' := 56) (L' := [some (vr 64), some (vi a), some (vi b), some (vi 2), some (vi 3), some (vi 0), some (vi 1), some (vi 0)]) (st' := [vi 1]) (M' := M) rfl ?_
            refine Hx.run 12 (pc' := 84) (L' := [some (vr 64), some (vi a), some (vi b), some (vi 2), some (vi 3), some (vi 1), some (vi 1), some (vi 0)]) (st' := [vr 64, vi 1, vi 0]) (M' := M) rfl ?_
            refine Hx.run 3 (pc' := 90) (L' := [some (vr 64), some (vi a), some (vi b), some (vi 2), some (vi 3), some (vi 1), some (vi 1), some (vi 0)]) (st' := [vi a, vi 34, vr 65, vi 1, vi 0]) (M' := M) rfl ?_
            refine Hx.add rfl (by omega) ?_
            refine Hx.aldI (n := 1032) rfl rfl (by omega) ?_
            refine Hx.call (t := 208) (as := [vi 0, vi 1, vi (M 65 (34 + a))]) (pc' := 95) (rest := []) rfl (show Ct 208 [vi 0, vi 1, vi (M 65 (34 + a))] M (fun q0 M' => q0 = some (vi 1) ∧ M = M') from r_gets 0 1 (M 65 (34 + a)) M (by omega)) ?_
            rintro _ _ ⟨rfl, rfl⟩
            refine Hx.run 0 (pc' := 95) (L' := [some (vr 64), some (vi a), some (vi b), some (vi 2), some (vi 3), some (vi 1), some (vi 1), some (vi 0)]) (st' := [vi 1]) (M' := M) rfl ?_
            refine Hx.run 6 (pc' := 106) (L' := [some (vr 64), some (vi a), some (vi b), some (vi 2), some (vi 3), some (vi 1), some (vi 1), some (vi 0)]) (st' := [vi a, vi 34, vr 65, vi 1, vi 1, vi 1]) (M' := M) rfl ?_
            refine Hx.add rfl (by omega) ?_
            refine Hx.aldI (n := 1032) rfl rfl (by omega) ?_
            refine Hx.call (t := 208) (as := [vi 1, vi 1, vi (M 65 (34 + a))]) (pc' := 111) (rest := [vi 1]) rfl (show Ct 208 [vi 1, vi 1, vi (M 65 (34 + a))] M (fun q0 M' => q0 = some (vi (-(M 65 (34 + a)) - 2)) ∧ M = M') from r_gets 1 1 (M 65 (34 + a)) M (by omega)) ?_
            rintro _ _ ⟨rfl, rfl⟩
            refine Hx.run 0 (pc' := 111) (L' := [some (vr 64), some (vi a), some (vi b), some (vi 2), some (vi 3), some (vi 1), some (vi 1), some (vi 0)]) (st' := [vi (-(M 65 (34 + a)) - 2), vi 1]) (M' := M) rfl ?_
            refine Hx.br (c := (-(M 65 (34 + a)) - 2) < 1) (t := 161) (f := 114) rfl (fun h9 => ?_) (fun h9 => ?_)
            · skip
              refine Hx.run 8 (pc' := 180) (L' := [some (vr 64), some (vi a), some (vi b), some (vi 2), some (vi 3), some (vi 1), some (vi 1), some (vi 0)]) (st' := []) (M' := M) rfl ?_
              refine Hx.inc rfl rfl (by omega) ?_
              refine Hx.run 0 (pc' := 183) (L' := [some (vr 64), some (vi a), some (vi b), some (vi 2), some (vi 4), some (vi 1), some (vi 1), some (vi 0)]) (st' := []) (M' := M) rfl ?_
              refine Hx.run 5 (pc' := 187) (L' := [some (vr 64), some (vi a), some (vi b), some (vi 2), some (vi 4), some (vi 1), some (vi 1), some (vi 0)]) (st' := [vi 2]) (M' := M) rfl ?_
              refine Hx.ret rfl ?_
              first | exact Or.inl ⟨by omega, rfl, rfl⟩ | exact Or.inr ⟨by omega, rfl, rfl⟩ | (exfalso; omega)
            · skip
              refine Hx.run 8 (pc' := 133) (L' := [some (vr 64), some (vi a), some (vi b), some (vi 2), some (vi 3), some (vi 1), some (vi 1), some (vi 0)]) (st' := [vi b, vi 34, vr 65, vi 1, vi 0]) (M' := M) rfl ?_
              refine Hx.add rfl (by omega) ?_
              refine Hx.aldI (n := 1032) rfl rfl (by omega) ?_
              refine Hx.call (t := 208) (as := [vi 0, vi 1, vi (M 65 (34 + b))]) (pc' := 138) (rest := []) rfl (show Ct 208 [vi 0, vi 1, vi (M 65 (34 + b))] M (fun q0 M' => q0 = some (vi 1) ∧ M = M') from r_gets 0 1 (M 65 (34 + b)) M (by omega)) ?_
              rintro _ _ ⟨rfl, rfl⟩
              refine Hx.run 0 (pc' := 138) (L' := [some (vr 64), some (vi a), some (vi b), some (vi 2), some (vi 3), some (vi 1), some (vi 1), some (vi 0)]) (st' := [vi 1]) (M' := M) rfl ?_
              refine Hx.run 6 (pc' := 149) (L' := [some (vr 64), some (vi a), some (vi b), some (vi 2), some (vi 3), some (vi 1), some (vi 1), some (vi 0)]) (st' := [vi b, vi 34, vr 65, vi 1, vi 1, vi 1]) (M' := M) rfl ?_
              refine Hx.add rfl (by omega) ?_
              refine Hx.aldI (n := 1032) rfl rfl (by omega) ?_
              refine Hx.call (t := 208) (as := [vi 1, vi 1, vi (M 65 (34 + b))]) (pc' := 154) (rest := [vi 1]) rfl (show Ct 208 [vi 1, vi 1, vi (M 65 (34 + b))] M (fun q0 M' => q0 = some (vi (-(M 65 (34 + b)) - 2)) ∧ M = M') from r_gets 1 1 (M 65 (34 + b)) M (by omega)) ?_
              rintro _ _ ⟨rfl, rfl⟩
              refine Hx.run 0 (pc' := 154) (L' := [some (vr 64), some (vi a), some (vi b), some (vi 2), some (vi 3), some (vi 1), some (vi 1), some (vi 0)]) (st' := [vi (-(M 65 (34 + b)) - 2), vi 1]) (M' := M) rfl ?_
              refine Hx.br (c := (-(M 65 (34 + b)) - 2) < 1) (t := 161) (f := 157) rfl (fun h10 => ?_) (fun h10 => ?_)
              · skip
                refine Hx.run 8 (pc' := 180) (L' := [some (vr 64), some (vi a), some (vi b), some (vi 2), some (vi 3), some (vi 1), some (vi 1), some (vi 0)]) (st' := []) (M' := M) rfl ?_
                refine Hx.inc rfl rfl (by omega) ?_
                refine Hx.run 0 (pc' := 183) (L' := [some (vr 64), some (vi a), some (vi b), some (vi 2), some (vi 4), some (vi 1), some (vi 1), some (vi 0)]) (st' := []) (M' := M) rfl ?_
                refine Hx.run 5 (pc' := 187) (L' := [some (vr 64), some (vi a), some (vi b), some (vi 2), some (vi 4), some (vi 1), some (vi 1), some (vi 0)]) (st' := [vi 2]) (M' := M) rfl ?_
                refine Hx.ret rfl ?_
                first | exact Or.inl ⟨by omega, rfl, rfl⟩ | exact Or.inr ⟨by omega, rfl, rfl⟩ | (exfalso; omega)
              · skip
                refine Hx.run 12 (pc' := 180) (L' := [some (vr 64), some (vi a), some (vi b), some (vi 10), some (vi 3), some (vi 1), some (vi 1), some (vi 1)]) (st' := []) (M' := M) rfl ?_
                refine Hx.inc rfl rfl (by omega) ?_
                refine Hx.run 0 (pc' := 183) (L' := [some (vr 64), some (vi a), some (vi b), some (vi 10), some (vi 4), some (vi 1), some (vi 1), some (vi 1)]) (st' := []) (M' := M) rfl ?_
                refine Hx.run 5 (pc' := 187) (L' := [some (vr 64), some (vi a), some (vi b), some (vi 10), some (vi 4), some (vi 1), some (vi 1), some (vi 1)]) (st' := [vi 10]) (M' := M) rfl ?_
                refine Hx.ret rfl ?_
                first | exact Or.inl ⟨by omega, rfl, rfl⟩ | exact Or.inr ⟨by omega, rfl, rfl⟩ | (exfalso; omega)
          · skip
            refine Hx.run 8 (pc' := 133) (L' := [some (vr 64), some (vi a), some (vi b), some (vi 2), some (vi 2), some (vi 0), some (vi 1), some (vi 1)]) (st' := [vi b, vi 34, vr 65, vi 0, vi 0]) (M' := M) rfl ?_
            refine Hx.add rfl (by omega) ?_
            refine Hx.aldI (n := 1032) rfl rfl (by omega) ?_
            refine Hx.call (t := 208) (as := [vi 0, vi 0, vi (M 65 (34 + b))]) (pc' := 138) (rest := []) rfl (show Ct 208 [vi 0, vi 0, vi (M 65 (34 + b))] M (fun q0 M' => q0 = some (vi 2) ∧ M = M') from r_gets 0 0 (M 65 (34 + b)) M (by omega)) ?_
            rintro _ _ ⟨rfl, rfl⟩
            refine Hx.run 0 (pc' := 138) (L' := [some (vr 64), some (vi a), some (vi b), some (vi 2), some (vi 2), some (vi 0), some (vi 1), some (vi 1)]) (st' := [vi 2]) (M' := M) rfl ?_
            refine Hx.run 6 (pc' := 149) (L' := [some (vr 64), some (vi a), some (vi b), some (vi 2), some (vi 2), some (vi 0), some (vi 1), some (vi 1)]) (st' := [vi b, vi 34, vr 65, vi 0, vi 1, vi 2]) (M' := M) rfl ?_
            refine Hx.add rfl (by omega) ?_
            refine Hx.aldI (n := 1032) rfl rfl (by omega) ?_
            refine Hx.call (t := 208) (as := [vi 1, vi 0, vi (M 65 (34 + b))]) (pc' := 154) (rest := [vi 2]) rfl (show Ct 208 [vi 1, vi 0, vi (M 65 (34 + b))] M (fun q0 M' => q0 = some (vi 4) ∧ M = M') from r_gets 1 0 (M 65 (34 + b)) M (by omega)) ?_
            rintro _ _ ⟨rfl, rfl⟩
            refine Hx.run 0 (pc' := 154) (L' := [some (vr 64), some (vi a), some (vi b), some (vi 2), some (vi 2), some (vi 0), some (vi 1), some (vi 1)]) (st' := [vi 4, vi 2]) (M' := M) rfl ?_
            refine Hx.run 12 (pc' := 179) (L' := [some (vr 64), some (vi a), some (vi b), some (vi 2), some (vi 2), some (vi 0), some (vi 1), some (vi 1)]) (st' := [vi 6]) (M' := M) rfl ?_
            refine Hx.run 1 (pc' := 180) (L' := [some (vr 64), some (vi a), some (vi b), some (vi 6), some (vi 2), some (vi 0), some (vi 1), some (vi 1)]) (st' := []) (M' := M) rfl ?_
            refine Hx.inc rfl rfl (by omega) ?_
            refine Hx.run 0 (pc' := 183) (L' := [some (vr 64), some (vi a), some (vi b), some (vi 6), some (vi 3), some (vi 0), some (vi 1), some (vi 1)]) (st' := []) (M' := M) rfl ?_
            refine Hx.run 12 (pc' := 56) (L' := [some (vr 64), some (vi a), some (vi b), some (vi 6), some (vi 3), some (vi 0), some (vi 1), some (vi 1)]) (st' := [vi 1]) (M' := M) rfl ?_
            refine Hx.run 12 (pc' := 84) (L' := [some (vr 64), some (vi a), some (vi b), some (vi 6), some (vi 3), some (vi 1), some (vi 1), some (vi 1)]) (st' := [vr 64, vi 1, vi 0]) (M' := M) rfl ?_
            refine Hx.run 3 (pc' := 90) (L' := [some (vr 64), some (vi a), some (vi b), some (vi 6), some (vi 3), some (vi 1), some (vi 1), some (vi 1)]) (st' := [vi a, vi 34, vr 65, vi 1, vi 0]) (M' := M) rfl ?_
            refine Hx.add rfl (by omega) ?_
            refine Hx.aldI (n := 1032) rfl rfl (by omega) ?_
            refine Hx.call (t := 208) (as := [vi 0, vi 1, vi (M 65 (34 + a))]) (pc' := 95) (rest := []) rfl (show Ct 208 [vi 0, vi 1, vi (M 65 (34 + a))] M (fun q0 M' => q0 = some (vi 1) ∧ M = M') from r_gets 0 1 (M 65 (34 + a)) M (by omega)) ?_
            rintro _ _ ⟨rfl, rfl⟩
            refine Hx.run 0 (pc' := 95) (L' := [some (vr 64), some (vi a), some (vi b), some (vi 6), some (vi 3), some (vi 1), some (vi 1), some (vi 1)]) (st' := [vi 1]) (M' := M) rfl ?_
            refine Hx.run 6 (pc' := 106) (L' := [some (vr 64), some (vi a), some (vi b), some (vi 6), some (vi 3), some (vi 1), some (vi 1), some (vi 1)]) (st' := [vi a, vi 34, vr 65, vi 1, vi 1, vi 1]) (M' := M) rfl ?_
            refine Hx.add rfl (by omega) ?_
            refine Hx.aldI (n := 1032) rfl rfl (by omega) ?_
            refine Hx.call (t := 208) (as := [vi 1, vi 1, vi (M 65 (34 + a))]) (pc' := 111) (rest := [vi 1]) rfl (show Ct 208 [vi 1, vi 1, vi (M 65 (34 + a))] M (fun q0 M' => q0 = some (vi (-(M 65 (34 + a)) - 2)) ∧ M = M') from r_gets 1 1 (M 65 (34 + a)) M (by omega)) ?_
            rintro _ _ ⟨rfl, rfl⟩
            refine Hx.run 0 (pc' := 111) (L' := [some (vr 64), some (vi a), some (vi b), some (vi 6), some (vi 3), some (vi 1), some (vi 1), some (vi 1)]) (st' := [vi (-(M 65 (34 + a)) - 2), vi 1]) (M' := M) rfl ?_
            refine Hx.br (c := (-(M 65 (34 + a)) - 2) < 1) (t := 161) (f := 114) rfl (fun h11 => ?_) (fun h11 => ?_)
            · skip
              refine Hx.run 8 (pc' := 180) (L' := [some (vr 64), some (vi a), some (vi b), some (vi 6), some (vi 3), some (vi 1), some (vi 1), some (vi 0)]) (st' := []) (M' := M) rfl ?_
              refine Hx.inc rfl rfl (by omega) ?_
              refine Hx.run 0 (pc' := 183) (L' := [some (vr 64), some (vi a), some (vi b), some (vi 6), some (vi 4), some (vi 1), some (vi 1), some (vi 0)]) (st' := []) (M' := M) rfl ?_
              refine Hx.run 5 (pc' := 187) (L' := [some (vr 64), some (vi a), some (vi b), some (vi 6), some (vi 4), some (vi 1), some (vi 1), some (vi 0)]) (st' := [vi 6]) (M' := M) rfl ?_
              refine Hx.ret rfl ?_
              first | exact Or.inl ⟨by omega, rfl, rfl⟩ | exact Or.inr ⟨by omega, rfl, rfl⟩ | (exfalso; omega)
            · skip
              refine Hx.run 8 (pc' := 133) (L' := [some (vr 64), some (vi a), some (vi b), some (vi 6), some (vi 3), some (vi 1), some (vi 1), some (vi 1)]) (st' := [vi b, vi 34, vr 65, vi 1, vi 0]) (M' := M) rfl ?_
              refine Hx.add rfl (by omega) ?_
              refine Hx.aldI (n := 1032) rfl rfl (by omega) ?_
              refine Hx.call (t := 208) (as := [vi 0, vi 1, vi (M 65 (34 + b))]) (pc' := 138) (rest := []) rfl (show Ct 208 [vi 0, vi 1, vi (M 65 (34 + b))] M (fun q0 M' => q0 = some (vi 1) ∧ M = M') from r_gets 0 1 (M 65 (34 + b)) M (by omega)) ?_
              rintro _ _ ⟨rfl, rfl⟩
              refine Hx.run 0 (pc' := 138) (L' := [some (vr 64), some (vi a), some (vi b), some (vi 6), some (vi 3), some (vi 1), some (vi 1), some (vi 1)]) (st' := [vi 1]) (M' := M) rfl ?_
              refine Hx.run 6 (pc' := 149) (L' := [some (vr 64), some (vi a), some (vi b), some (vi 6), some (vi 3), some (vi 1), some (vi 1), some (vi 1)]) (st' := [vi b, vi 34, vr 65, vi 1, vi 1, vi 1]) (M' := M) rfl ?_
              refine Hx.add rfl (by omega) ?_
              refine Hx.aldI (n := 1032) rfl rfl (by omega) ?_
              refine Hx.call (t := 208) (as := [vi 1, vi 1, vi (M 65 (34 + b))]) (pc' := 154) (rest := [vi 1]) rfl (show Ct 208 [vi 1, vi 1, vi (M 65 (34 + b))] M (fun q0 M' => q0 = some (vi (-(M 65 (34 + b)) - 2)) ∧ M = M') from r_gets 1 1 (M 65 (34 + b)) M (by omega)) ?_
              rintro _ _ ⟨rfl, rfl⟩
              refine Hx.run 0 (pc' := 154) (L' := [some (vr 64), some (vi a), some (vi b), some (vi 6), some (vi 3), some (vi 1), some (vi 1), some (vi 1)]) (st' := [vi (-(M 65 (34 + b)) - 2), vi 1]) (M' := M) rfl ?_
              refine Hx.br (c := (-(M 65 (34 + b)) - 2) < 1) (t := 161) (f := 157) rfl (fun h12 => ?_) (fun h12 => ?_)
              · skip
                refine Hx.run 8 (pc' := 180) (L' := [some (vr 64), some (vi a), some (vi b), some (vi 6), some (vi 3), some (vi 1), some (vi 1), some (vi 0)]) (st' := []) (M' := M) rfl ?_
                refine Hx.inc rfl rfl (by omega) ?_
                refine Hx.run 0 (pc' := 183) (L' := [some (vr 64), some (vi a), some (vi b), some (vi 6), some (vi 4), some (vi 1), some (vi 1), some (vi 0)]) (st' := []) (M' := M) rfl ?_
                refine Hx.run 5 (pc' := 187) (L' := [some (vr 64), some (vi a), some (vi b), some (vi 6), some (vi 4), some (vi 1), some (vi 1), some (vi 0)]) (st' := [vi 6]) (M' := M) rfl ?_
                refine Hx.ret rfl ?_
                first | exact Or.inl ⟨by omega, rfl, rfl⟩ | exact Or.inr ⟨by omega, rfl, rfl⟩ | (exfalso; omega)
              · skip
                refine Hx.run 12 (pc' := 180) (L' := [some (vr 64), some (vi a), some (vi b), some (vi 14), some (vi 3), some (vi 1), some (vi 1), some (vi 1)]) (st' := []) (M' := M) rfl ?_
                refine Hx.inc rfl rfl (by omega) ?_
                refine Hx.run 0 (pc' := 183) (L' := [some (vr 64), some (vi a), some (vi b), some (vi 14), some (vi 4), some (vi 1), some (vi 1), some (vi 1)]) (st' := []) (M' := M) rfl ?_
                refine Hx.run 5 (pc' := 187) (L' := [some (vr 64), some (vi a), some (vi b), some (vi 14), some (vi 4), some (vi 1), some (vi 1), some (vi 1)]) (st' := [vi 14]) (M' := M) rfl ?_
                refine Hx.ret rfl ?_
                first | exact Or.inl ⟨by omega, rfl, rfl⟩ | exact Or.inr ⟨by omega, rfl, rfl⟩ | (exfalso; omega)
    · skip
      refine Hx.run 3 (pc' := 24) (L' := [some (vr 64), some (vi a), some (vi b), none, none, none, none, none]) (st' := [vi (-2), vr 64]) (M' := M) rfl ?_
      refine Hx.call (t := 132) (as := [vr 64, vi (-2)]) (pc' := 27) (rest := []) rfl (r_bad (-2) M (by omega)) ?_
      rintro _ _ ⟨rfl, rfl⟩
      refine Hx.run 0 (pc' := 27) (L' := [some (vr 64), some (vi a), some (vi b), none, none, none, none, none]) (st' := [vi (-2)]) (M' := (up M 68 0 ((M 68 0) + 1))) rfl ?_
      refine Hx.ret rfl ?_
      first | exact Or.inl ⟨by omega, rfl, rfl⟩ | exact Or.inr ⟨by omega, rfl, rfl⟩ | (exfalso; omega)
  · skip
    refine Hx.run 3 (pc' := 24) (L' := [some (vr 64), some (vi a), some (vi b), none, none, none, none, none]) (st' := [vi (-2), vr 64]) (M' := M) rfl ?_
    refine Hx.call (t := 132) (as := [vr 64, vi (-2)]) (pc' := 27) (rest := []) rfl (r_bad (-2) M (by omega)) ?_
    rintro _ _ ⟨rfl, rfl⟩
    refine Hx.run 0 (pc' := 27) (L' := [some (vr 64), some (vi a), some (vi b), none, none, none, none, none]) (st' := [vi (-2)]) (M' := (up M 68 0 ((M 68 0) + 1))) rfl ?_
    refine Hx.ret rfl ?_
    first | exact Or.inl ⟨by omega, rfl, rfl⟩ | exact Or.inr ⟨by omega, rfl, rfl⟩ | (exfalso; omega)
