/-! the reference: its small members (written by wip/whole/gen21.py) -/
theorem bf_or : ∀ (s : Fin 11) (j : Fin 3), 1 ≤ s.val → s.val + j.val < 11 → i2 fior (bb (s.val : Int) (j.val : Int)) (i2 fshl 1 ((s.val : Int) + (j.val : Int))) = bb (s.val : Int) ((j.val : Int) + 1) := by decide +kernel
theorem bf_cut : ∀ (s : Fin 11) (j n : Fin 4), 1 ≤ s.val → s.val + j.val = 11 → j.val ≤ n.val → bb (s.val : Int) (j.val : Int) = bb (s.val : Int) (n.val : Int) := by decide +kernel
theorem bb_0 (s : Int) : bb s 0 = 0 := by unfold bb; simp
def cpR (M : Mm) (f t : Int) (n : Int) : Mm := fun a b => if a = 65 ∧ t ≤ b ∧ b < t + n then M 65 (f + (b - t)) else M a b
set_option maxRecDepth 100000 in
theorem r_in (v a b : Int) (M : Mm) : Ct 130 [vl v, vl a, vl b] M (fun q0 M' => ((a ≤ v ∧ v ≤ b) ∧ q0 = some (vi 1) ∧ M = M') ∨ (¬ (a ≤ v ∧ v ≤ b) ∧ q0 = some (vi 0) ∧ M = M')) := by
  refine Hx.run 3 (pc' := 3) (L' := [some (vl v), none, some (vl a), none, some (vl b), none]) (st' := [vi (lc v a)]) (M' := M) rfl ?_
  refine Hx.br (c := (lc v a) < 0) (t := 17) (f := 6) rfl (fun h1 => ?_) (fun h1 => ?_)
  · skip
    rw [lc_lt] at h1
    refine Hx.run 1 (pc' := 18) (L' := [some (vl v), none, some (vl a), none, some (vl b), none]) (st' := [vi 0]) (M' := M) rfl ?_
    refine Hx.ret rfl ?_
    first | exact Or.inl ⟨by omega, rfl, rfl⟩ | exact Or.inr ⟨by omega, rfl, rfl⟩
  · skip
    rw [lc_lt] at h1
    refine Hx.run 3 (pc' := 10) (L' := [some (vl v), none, some (vl a), none, some (vl b), none]) (st' := [vi (lc v b)]) (M' := M) rfl ?_
    refine Hx.br (c := 0 < (lc v b)) (t := 17) (f := 13) rfl (fun h2 => ?_) (fun h2 => ?_)
    · skip
      rw [lc_gt] at h2
      refine Hx.run 1 (pc' := 18) (L' := [some (vl v), none, some (vl a), none, some (vl b), none]) (st' := [vi 0]) (M' := M) rfl ?_
      refine Hx.ret rfl ?_
      first | exact Or.inl ⟨by omega, rfl, rfl⟩ | exact Or.inr ⟨by omega, rfl, rfl⟩
    · skip
      rw [lc_gt] at h2
      refine Hx.run 2 (pc' := 18) (L' := [some (vl v), none, some (vl a), none, some (vl b), none]) (st' := [vi 1]) (M' := M) rfl ?_
      refine Hx.ret rfl ?_
      first | exact Or.inl ⟨by omega, rfl, rfl⟩ | exact Or.inr ⟨by omega, rfl, rfl⟩
set_option maxRecDepth 100000 in
theorem r_has (b p : Int) (M : Mm) (h0 : 0 ≤ b ∧ b < 2147483648) (hp : 0 ≤ p ∧ p < 32) : Ct 131 [vi b, vi p] M (fun q0 M' => ((hb b p) ∧ q0 = some (vi 1) ∧ M = M') ∨ (¬ (hb b p) ∧ q0 = some (vi 0) ∧ M = M')) := by
  refine Hx.run 6 (pc' := 6) (L' := [some (vi b), some (vi p)]) (st' := [vi 1, vi (i2 fand (i2 fshr b p) 1)]) (M' := M) rfl ?_
  refine Hx.br (c := (i2 fand (i2 fshr b p) 1) = 1) (t := 9) (f := 13) rfl (fun h1 => ?_) (fun h1 => ?_)
  · skip
    refine Hx.run 2 (pc' := 14) (L' := [some (vi b), some (vi p)]) (st' := [vi 1]) (M' := M) rfl ?_
    refine Hx.ret rfl ?_
    first | exact Or.inl ⟨by unfold hb; rw [hb_e h0 hp] at h1; omega, rfl, rfl⟩ | exact Or.inr ⟨by unfold hb; rw [hb_e h0 hp] at h1; omega, rfl, rfl⟩
  · skip
    refine Hx.run 1 (pc' := 14) (L' := [some (vi b), some (vi p)]) (st' := [vi 0]) (M' := M) rfl ?_
    refine Hx.ret rfl ?_
    first | exact Or.inl ⟨by unfold hb; rw [hb_e h0 hp] at h1; omega, rfl, rfl⟩ | exact Or.inr ⟨by unfold hb; rw [hb_e h0 hp] at h1; omega, rfl, rfl⟩
set_option maxRecDepth 100000 in
theorem r_bad (x : Int) (M : Mm) (h : 0 ≤ M 68 0 ∧ M 68 0 ≤ 1000) : Ct 132 [vr 64, vi x] M (fun q0 M' => q0 = some (vi x) ∧ up M 68 0 (M 68 0 + 1) = M') := by
  refine Hx.run 6 (pc' := 8) (L' := [some (vr 64), some (vi x)]) (st' := [vi 1, vi (M 68 0), vi 0, vr 68]) (M' := M) rfl ?_
  refine Hx.add rfl (by omega) ?_
  refine Hx.astI (n := 3) rfl rfl (by omega) ?_
  refine Hx.run 1 (pc' := 11) (L' := [some (vr 64), some (vi x)]) (st' := [vi x]) (M' := (up M 68 0 ((M 68 0) + 1))) rfl ?_
  refine Hx.ret rfl ?_
  exact ⟨rfl, rfl⟩
set_option maxRecDepth 100000 in
theorem r_no (M : Mm) (h : 0 ≤ M 68 1 ∧ M 68 1 ≤ 1000) : Ct 133 [vr 64] M (fun q0 M' => q0 = some (vi (-3)) ∧ up M 68 1 (M 68 1 + 1) = M') := by
  refine Hx.run 6 (pc' := 8) (L' := [some (vr 64)]) (st' := [vi 1, vi (M 68 1), vi 1, vr 68]) (M' := M) rfl ?_
  refine Hx.add rfl (by omega) ?_
  refine Hx.astI (n := 3) rfl rfl (by omega) ?_
  refine Hx.run 1 (pc' := 12) (L' := [some (vr 64)]) (st' := [vi (-3)]) (M' := (up M 68 1 ((M 68 1) + 1))) rfl ?_
  refine Hx.ret rfl ?_
  exact ⟨rfl, rfl⟩
set_option maxRecDepth 100000 in
theorem r_full (M : Mm) (h : 0 ≤ M 68 2 ∧ M 68 2 ≤ 1000) : Ct 134 [vr 64] M (fun q0 M' => q0 = some (vi (-4)) ∧ up M 68 2 (M 68 2 + 1) = M') := by
  refine Hx.run 6 (pc' := 8) (L' := [some (vr 64)]) (st' := [vi 1, vi (M 68 2), vi 2, vr 68]) (M' := M) rfl ?_
  refine Hx.add rfl (by omega) ?_
  refine Hx.astI (n := 3) rfl rfl (by omega) ?_
  refine Hx.run 1 (pc' := 12) (L' := [some (vr 64)]) (st' := [vi (-4)]) (M' := (up M 68 2 ((M 68 2) + 1))) rfl ?_
  refine Hx.ret rfl ?_
  exact ⟨rfl, rfl⟩
set_option maxRecDepth 100000 in
theorem r_isGoer (x : Int) (M : Mm) (h : 0 ≤ M 65 1 ∧ M 65 1 ≤ 6) : Ct 137 [vr 64, vi x] M (fun q0 M' => ((0 ≤ x ∧ x < M 65 1) ∧ q0 = some (vi 1) ∧ M = M') ∨ (¬ (0 ≤ x ∧ x < M 65 1) ∧ q0 = some (vi 0) ∧ M = M')) := by
  refine Hx.run 8 (pc' := 10) (L' := [some (vr 64), some (vi x)]) (st' := [vi 1, vi (M 65 1), vl 0, vl x]) (M' := M) rfl ?_
  refine Hx.sub rfl (by omega) ?_
  refine Hx.run 1 (pc' := 12) (L' := [some (vr 64), some (vi x)]) (st' := [vl ((M 65 1) - 1), vl 0, vl x]) (M' := M) rfl ?_
  refine Hx.call (t := 130) (as := [vl x, vl 0, vl ((M 65 1) - 1)]) (pc' := 15) (rest := []) rfl (r_in x 0 ((M 65 1) - 1) M) ?_
  rintro _ _ (⟨q34, rfl, rfl⟩ | ⟨q34, rfl, rfl⟩)
  · skip
    refine Hx.ret rfl ?_
    first | exact Or.inl ⟨by omega, rfl, rfl⟩ | exact Or.inr ⟨by omega, rfl, rfl⟩
  · skip
    refine Hx.ret rfl ?_
    first | exact Or.inl ⟨by omega, rfl, rfl⟩ | exact Or.inr ⟨by omega, rfl, rfl⟩
set_option maxRecDepth 100000 in
theorem r_isFlight (x : Int) (M : Mm) (h : 0 ≤ M 65 0 ∧ M 65 0 ≤ 3) : Ct 138 [vr 64, vi x] M (fun q0 M' => ((0 ≤ x ∧ x < M 65 0) ∧ q0 = some (vi 1) ∧ M = M') ∨ (¬ (0 ≤ x ∧ x < M 65 0) ∧ q0 = some (vi 0) ∧ M = M')) := by
  refine Hx.run 8 (pc' := 10) (L' := [some (vr 64), some (vi x)]) (st' := [vi 1, vi (M 65 0), vl 0, vl x]) (M' := M) rfl ?_
  refine Hx.sub rfl (by omega) ?_
  refine Hx.run 1 (pc' := 12) (L' := [some (vr 64), some (vi x)]) (st' := [vl ((M 65 0) - 1), vl 0, vl x]) (M' := M) rfl ?_
  refine Hx.call (t := 130) (as := [vl x, vl 0, vl ((M 65 0) - 1)]) (pc' := 15) (rest := []) rfl (r_in x 0 ((M 65 0) - 1) M) ?_
  rintro _ _ (⟨q35, rfl, rfl⟩ | ⟨q35, rfl, rfl⟩)
  · skip
    refine Hx.ret rfl ?_
    first | exact Or.inl ⟨by omega, rfl, rfl⟩ | exact Or.inr ⟨by omega, rfl, rfl⟩
  · skip
    refine Hx.ret rfl ?_
    first | exact Or.inl ⟨by omega, rfl, rfl⟩ | exact Or.inr ⟨by omega, rfl, rfl⟩
set_option maxRecDepth 100000 in
theorem r_isHour (x : Int) (M : Mm) : Ct 139 [vi x] M (fun q0 M' => ((0 ≤ x ∧ x < 24) ∧ q0 = some (vi 1) ∧ M = M') ∨ (¬ (0 ≤ x ∧ x < 24) ∧ q0 = some (vi 0) ∧ M = M')) := by
  refine Hx.run 4 (pc' := 6) (L' := [some (vi x)]) (st' := [vl 23, vl 0, vl x]) (M' := M) rfl ?_
  refine Hx.call (t := 130) (as := [vl x, vl 0, vl 23]) (pc' := 9) (rest := []) rfl (r_in x 0 23 M) ?_
  rintro _ _ (⟨q36, rfl, rfl⟩ | ⟨q36, rfl, rfl⟩)
  · skip
    refine Hx.ret rfl ?_
    first | exact Or.inl ⟨by omega, rfl, rfl⟩ | exact Or.inr ⟨by omega, rfl, rfl⟩
  · skip
    refine Hx.ret rfl ?_
    first | exact Or.inl ⟨by omega, rfl, rfl⟩ | exact Or.inr ⟨by omega, rfl, rfl⟩
set_option maxRecDepth 100000 in
theorem r_clerk (t : Int) (M : Mm) : Ct 140 [vi t] M (fun q0 M' => q0 = some (vi (if 18 ≤ t then 2 else 1)) ∧ M = M') := by
  refine Hx.run 2 (pc' := 3) (L' := [some (vi t)]) (st' := [vi 18, vi t]) (M' := M) rfl ?_
  refine Hx.br (c := t < 18) (t := 10) (f := 6) rfl (fun h1 => ?_) (fun h1 => ?_)
  · skip
    refine Hx.run 1 (pc' := 11) (L' := [some (vi t)]) (st' := [vi 1]) (M' := M) rfl ?_
    refine Hx.ret rfl ?_
    exact ⟨some_vi (by repeat (first | rw [if_pos (by omega)] | rw [if_neg (by omega)])), rfl⟩
  · skip
    refine Hx.run 2 (pc' := 11) (L' := [some (vi t)]) (st' := [vi 2]) (M' := M) rfl ?_
    refine Hx.ret rfl ?_
    exact ⟨some_vi (by repeat (first | rw [if_pos (by omega)] | rw [if_neg (by omega)])), rfl⟩
set_option maxRecDepth 100000 in
theorem r_lady (t : Int) (M : Mm) : Ct 141 [vi t] M (fun q0 M' => q0 = some (vi (if 9 ≤ t ∧ t ≤ 16 then 3 else 1)) ∧ M = M') := by
  refine Hx.run 4 (pc' := 8) (L' := [some (vi t)]) (st' := [vl 16, vl 9, vl t]) (M' := M) rfl ?_
  refine Hx.call (t := 130) (as := [vl t, vl 9, vl 16]) (pc' := 11) (rest := []) rfl (r_in t 9 16 M) ?_
  rintro _ _ (⟨q37, rfl, rfl⟩ | ⟨q37, rfl, rfl⟩)
  · skip
    refine Hx.run 3 (pc' := 19) (L' := [some (vi t)]) (st' := [vi 3]) (M' := M) rfl ?_
    refine Hx.ret rfl ?_
    exact ⟨some_vi (by repeat (first | rw [if_pos (by omega)] | rw [if_neg (by omega)])), rfl⟩
  · skip
    refine Hx.run 2 (pc' := 19) (L' := [some (vi t)]) (st' := [vi 1]) (M' := M) rfl ?_
    refine Hx.ret rfl ?_
    exact ⟨some_vi (by repeat (first | rw [if_pos (by omega)] | rw [if_neg (by omega)])), rfl⟩
set_option maxRecDepth 100000 in
set_option maxHeartbeats 4000000 in
theorem r_barsOf (k t : Int) (M : Mm) (hk : 0 ≤ k ∧ k ≤ 5) (ht : 0 ≤ t ∧ t < 24) : Ct 142 [vi k, vi t] M (fun q0 M' => q0 = some (vi (bcF k t)) ∧ M = M') := by
  refine Hx.run 1 (pc' := 1) (L' := [some (vi k), some (vi t)]) (st' := [vi k]) (M' := M) rfl ?_
  rcases (show k = 1 ∨ k = 2 ∨ k = 3 ∨ k = 4 ∨ k = 5 ∨ (k < 1 ∨ 5 < k) by omega) with h1 | h1 | h1 | h1 | h1 | h1
  · refine Hx.tab (tgt := 36) 1 rfl h1 rfl ?_
    refine Hx.run 1 (pc' := 37) (L' := [some (vi k), some (vi t)]) (st' := [vi t]) (M' := M) rfl ?_
    refine Hx.call (t := 140) (as := [vi t]) (pc' := 40) (rest := []) rfl (r_clerk t M) ?_
    rintro _ _ ⟨rfl, rfl⟩
    refine Hx.run 0 (pc' := 40) (L' := [some (vi k), some (vi t)]) (st' := [vi (if 18 ≤ t then 2 else 1)]) (M' := M) rfl ?_
    refine Hx.ret rfl ?_
    exact ⟨some_vi (by unfold bcF; (repeat' split) <;> omega), rfl⟩
  · refine Hx.tab (tgt := 41) 2 rfl h1 rfl ?_
    refine Hx.run 2 (pc' := 44) (L' := [some (vi k), some (vi t)]) (st' := [vi 6, vi t]) (M' := M) rfl ?_
    refine Hx.rem rfl (by (first | omega | (split <;> omega))) ?_
    refine Hx.br (c := (t % 6) = 0) (t := 48) (f := 57) rfl (fun h2 => ?_) (fun h2 => ?_)
    · skip
      refine Hx.run 1 (pc' := 49) (L' := [some (vi k), some (vi t)]) (st' := [vi t]) (M' := M) rfl ?_
      refine Hx.call (t := 140) (as := [vi t]) (pc' := 52) (rest := []) rfl (r_clerk t M) ?_
      rintro _ _ ⟨rfl, rfl⟩
      refine Hx.run 0 (pc' := 52) (L' := [some (vi k), some (vi t)]) (st' := [vi (if 18 ≤ t then 2 else 1)]) (M' := M) rfl ?_
      refine Hx.run 1 (pc' := 53) (L' := [some (vi k), some (vi t)]) (st' := [vi 1, vi (if 18 ≤ t then 2 else 1)]) (M' := M) rfl ?_
      refine Hx.add rfl (by (first | omega | (split <;> omega))) ?_
      refine Hx.run 1 (pc' := 61) (L' := [some (vi k), some (vi t)]) (st' := [vi ((if 18 ≤ t then 2 else 1) + 1)]) (M' := M) rfl ?_
      refine Hx.ret rfl ?_
      exact ⟨some_vi (by unfold bcF; (repeat' split) <;> omega), rfl⟩
    · skip
      refine Hx.run 1 (pc' := 58) (L' := [some (vi k), some (vi t)]) (st' := [vi t]) (M' := M) rfl ?_
      refine Hx.call (t := 140) (as := [vi t]) (pc' := 61) (rest := []) rfl (r_clerk t M) ?_
      rintro _ _ ⟨rfl, rfl⟩
      refine Hx.run 0 (pc' := 61) (L' := [some (vi k), some (vi t)]) (st' := [vi (if 18 ≤ t then 2 else 1)]) (M' := M) rfl ?_
      refine Hx.ret rfl ?_
      exact ⟨some_vi (by unfold bcF; (repeat' split) <;> omega), rfl⟩
  · refine Hx.tab (tgt := 62) 3 rfl h1 rfl ?_
    refine Hx.run 1 (pc' := 63) (L' := [some (vi k), some (vi t)]) (st' := [vi t]) (M' := M) rfl ?_
    refine Hx.call (t := 141) (as := [vi t]) (pc' := 66) (rest := []) rfl (r_lady t M) ?_
    rintro _ _ ⟨rfl, rfl⟩
    refine Hx.run 0 (pc' := 66) (L' := [some (vi k), some (vi t)]) (st' := [vi (if 9 ≤ t ∧ t ≤ 16 then 3 else 1)]) (M' := M) rfl ?_
    refine Hx.ret rfl ?_
    exact ⟨some_vi (by unfold bcF; (repeat' split) <;> omega), rfl⟩
  · refine Hx.tab (tgt := 67) 4 rfl h1 rfl ?_
    refine Hx.run 1 (pc' := 68) (L' := [some (vi k), some (vi t)]) (st' := [vi t]) (M' := M) rfl ?_
    refine Hx.call (t := 141) (as := [vi t]) (pc' := 71) (rest := []) rfl (r_lady t M) ?_
    rintro _ _ ⟨rfl, rfl⟩
    refine Hx.run 0 (pc' := 71) (L' := [some (vi k), some (vi t)]) (st' := [vi (if 9 ≤ t ∧ t ≤ 16 then 3 else 1)]) (M' := M) rfl ?_
    refine Hx.run 1 (pc' := 72) (L' := [some (vi k), some (vi t)]) (st' := [vi 1, vi (if 9 ≤ t ∧ t ≤ 16 then 3 else 1)]) (M' := M) rfl ?_
    refine Hx.br (c := 1 < (if 9 ≤ t ∧ t ≤ 16 then 3 else 1)) (t := 75) (f := 84) rfl (fun h3 => ?_) (fun h3 => ?_)
    · skip
      refine Hx.run 1 (pc' := 76) (L' := [some (vi k), some (vi t)]) (st' := [vi t]) (M' := M) rfl ?_
      refine Hx.call (t := 141) (as := [vi t]) (pc' := 79) (rest := []) rfl (r_lady t M) ?_
      rintro _ _ ⟨rfl, rfl⟩
      refine Hx.run 0 (pc' := 79) (L' := [some (vi k), some (vi t)]) (st' := [vi (if 9 ≤ t ∧ t ≤ 16 then 3 else 1)]) (M' := M) rfl ?_
      refine Hx.run 1 (pc' := 80) (L' := [some (vi k), some (vi t)]) (st' := [vi 1, vi (if 9 ≤ t ∧ t ≤ 16 then 3 else 1)]) (M' := M) rfl ?_
      refine Hx.sub rfl (by (first | omega | (split <;> omega))) ?_
      refine Hx.run 1 (pc' := 85) (L' := [some (vi k), some (vi t)]) (st' := [vi ((if 9 ≤ t ∧ t ≤ 16 then 3 else 1) - 1)]) (M' := M) rfl ?_
      refine Hx.ret rfl ?_
      exact ⟨some_vi (by unfold bcF; (repeat' split) <;> omega), rfl⟩
    · skip
      refine Hx.run 1 (pc' := 85) (L' := [some (vi k), some (vi t)]) (st' := [vi 1]) (M' := M) rfl ?_
      refine Hx.ret rfl ?_
      exact ⟨some_vi (by unfold bcF; (repeat' split) <;> omega), rfl⟩
  · refine Hx.tab (tgt := 86) 5 rfl h1 rfl ?_
    refine Hx.run 2 (pc' := 88) (L' := [some (vi k), some (vi t)]) (st' := [vi 5, vi t]) (M' := M) rfl ?_
    refine Hx.br (c := t < 5) (t := 91) (f := 95) rfl (fun h4 => ?_) (fun h4 => ?_)
    · skip
      refine Hx.run 2 (pc' := 96) (L' := [some (vi k), some (vi t)]) (st' := [vi 0]) (M' := M) rfl ?_
      refine Hx.ret rfl ?_
      exact ⟨some_vi (by unfold bcF; (repeat' split) <;> omega), rfl⟩
    · skip
      refine Hx.run 1 (pc' := 96) (L' := [some (vi k), some (vi t)]) (st' := [vi 1]) (M' := M) rfl ?_
      refine Hx.ret rfl ?_
      exact ⟨some_vi (by unfold bcF; (repeat' split) <;> omega), rfl⟩
  · refine Hx.tabD (tgt := 97) rfl h1 rfl ?_
    refine Hx.run 1 (pc' := 98) (L' := [some (vi k), some (vi t)]) (st' := [vi 1]) (M' := M) rfl ?_
    refine Hx.ret rfl ?_
    exact ⟨some_vi (by unfold bcF; (repeat' split) <;> omega), rfl⟩
set_option maxRecDepth 100000 in
theorem r_porter (l x : Int) (M : Mm) (hl : 1 ≤ l ∧ l ≤ 4) (hx : 0 ≤ x ∧ x ≤ 9) : Ct 143 [vi l, vi x] M (fun q0 M' => q0 = some (vi (if 1 < l - x / 3 then l - x / 3 else 1)) ∧ M = M') := by
  refine Hx.run 3 (pc' := 3) (L' := [some (vi l), some (vi x)]) (st' := [vi 3, vi x, vi l]) (M' := M) rfl ?_
  refine Hx.div rfl (by omega) ?_
  refine Hx.sub rfl (by omega) ?_
  refine Hx.run 1 (pc' := 6) (L' := [some (vi l), some (vi x)]) (st' := [vi 1, vi (l - (x / 3))]) (M' := M) rfl ?_
  refine Hx.br (c := 1 < (l - (x / 3))) (t := 9) (f := 17) rfl (fun h1 => ?_) (fun h1 => ?_)
  · skip
    refine Hx.run 3 (pc' := 12) (L' := [some (vi l), some (vi x)]) (st' := [vi 3, vi x, vi l]) (M' := M) rfl ?_
    refine Hx.div rfl (by omega) ?_
    refine Hx.sub rfl (by omega) ?_
    refine Hx.run 1 (pc' := 18) (L' := [some (vi l), some (vi x)]) (st' := [vi (l - (x / 3))]) (M' := M) rfl ?_
    refine Hx.ret rfl ?_
    exact ⟨some_vi (by repeat (first | rw [if_pos (by omega)] | rw [if_neg (by omega)])), rfl⟩
  · skip
    refine Hx.run 1 (pc' := 18) (L' := [some (vi l), some (vi x)]) (st' := [vi 1]) (M' := M) rfl ?_
    refine Hx.ret rfl ?_
    exact ⟨some_vi (by repeat (first | rw [if_pos (by omega)] | rw [if_neg (by omega)])), rfl⟩
set_option maxRecDepth 100000 in
set_option maxHeartbeats 4000000 in
theorem r_stridesOf (k l x t : Int) (M : Mm) (hk : 0 ≤ k ∧ k ≤ 5) (hl : 1 ≤ l ∧ l ≤ 4) (hx : 0 ≤ x ∧ x ≤ 9) (ht : 0 ≤ t ∧ t < 24) : Ct 144 [vi k, vi l, vi x, vi t] M (fun q0 M' => q0 = some (vi (sfF k l x t)) ∧ M = M') := by
  refine Hx.run 1 (pc' := 1) (L' := [some (vi k), some (vi l), some (vi x), some (vi t)]) (st' := [vi k]) (M' := M) rfl ?_
  rcases (show k = 1 ∨ k = 2 ∨ k = 3 ∨ k = 4 ∨ k = 5 ∨ (k < 1 ∨ 5 < k) by omega) with h1 | h1 | h1 | h1 | h1 | h1
  · refine Hx.tab (tgt := 36) 1 rfl h1 rfl ?_
    refine Hx.run 2 (pc' := 38) (L' := [some (vi k), some (vi l), some (vi x), some (vi t)]) (st' := [vi 1, vi l]) (M' := M) rfl ?_
    refine Hx.add rfl (by omega) ?_
    refine Hx.run 1 (pc' := 40) (L' := [some (vi k), some (vi l), some (vi x), some (vi t)]) (st' := [vi 2, vi (l + 1)]) (M' := M) rfl ?_
    refine Hx.div rfl (by omega) ?_
    refine Hx.ret rfl ?_
    exact ⟨some_vi (by unfold sfF; (repeat' split) <;> omega), rfl⟩
  · refine Hx.tab (tgt := 42) 2 rfl h1 rfl ?_
    refine Hx.run 2 (pc' := 44) (L' := [some (vi k), some (vi l), some (vi x), some (vi t)]) (st' := [vi x, vi l]) (M' := M) rfl ?_
    refine Hx.call (t := 143) (as := [vi l, vi x]) (pc' := 47) (rest := []) rfl (r_porter l x M (by omega) (by omega)) ?_
    rintro _ _ ⟨rfl, rfl⟩
    refine Hx.run 0 (pc' := 47) (L' := [some (vi k), some (vi l), some (vi x), some (vi t)]) (st' := [vi (if 1 < l - x / 3 then l - x / 3 else 1)]) (M' := M) rfl ?_
    refine Hx.ret rfl ?_
    exact ⟨some_vi (by unfold sfF; (repeat' split) <;> omega), rfl⟩
  · refine Hx.tab (tgt := 48) 3 rfl h1 rfl ?_
    refine Hx.run 2 (pc' := 50) (L' := [some (vi k), some (vi l), some (vi x), some (vi t)]) (st' := [vi x, vi l]) (M' := M) rfl ?_
    refine Hx.call (t := 143) (as := [vi l, vi x]) (pc' := 53) (rest := []) rfl (r_porter l x M (by omega) (by omega)) ?_
    rintro _ _ ⟨rfl, rfl⟩
    refine Hx.run 0 (pc' := 53) (L' := [some (vi k), some (vi l), some (vi x), some (vi t)]) (st' := [vi (if 1 < l - x / 3 then l - x / 3 else 1)]) (M' := M) rfl ?_
    refine Hx.run 1 (pc' := 54) (L' := [some (vi k), some (vi l), some (vi x), some (vi t)]) (st' := [vi 2, vi (if 1 < l - x / 3 then l - x / 3 else 1)]) (M' := M) rfl ?_
    refine Hx.br (c := 2 < (if 1 < l - x / 3 then l - x / 3 else 1)) (t := 57) (f := 61) rfl (fun h2 => ?_) (fun h2 => ?_)
    · skip
      refine Hx.run 2 (pc' := 66) (L' := [some (vi k), some (vi l), some (vi x), some (vi t)]) (st' := [vi 2]) (M' := M) rfl ?_
      refine Hx.ret rfl ?_
      exact ⟨some_vi (by unfold sfF; (repeat' split) <;> omega), rfl⟩
    · skip
      refine Hx.run 2 (pc' := 63) (L' := [some (vi k), some (vi l), some (vi x), some (vi t)]) (st' := [vi x, vi l]) (M' := M) rfl ?_
      refine Hx.call (t := 143) (as := [vi l, vi x]) (pc' := 66) (rest := []) rfl (r_porter l x M (by omega) (by omega)) ?_
      rintro _ _ ⟨rfl, rfl⟩
      refine Hx.run 0 (pc' := 66) (L' := [some (vi k), some (vi l), some (vi x), some (vi t)]) (st' := [vi (if 1 < l - x / 3 then l - x / 3 else 1)]) (M' := M) rfl ?_
      refine Hx.ret rfl ?_
      exact ⟨some_vi (by unfold sfF; (repeat' split) <;> omega), rfl⟩
  · refine Hx.tab (tgt := 67) 4 rfl h1 rfl ?_
    refine Hx.run 2 (pc' := 70) (L' := [some (vi k), some (vi l), some (vi x), some (vi t)]) (st' := [vi 18, vi t]) (M' := M) rfl ?_
    refine Hx.br (c := t < 18) (t := 79) (f := 73) rfl (fun h3 => ?_) (fun h3 => ?_)
    · skip
      refine Hx.run 1 (pc' := 80) (L' := [some (vi k), some (vi l), some (vi x), some (vi t)]) (st' := [vi l]) (M' := M) rfl ?_
      refine Hx.ret rfl ?_
      exact ⟨some_vi (by unfold sfF; (repeat' split) <;> omega), rfl⟩
    · skip
      refine Hx.run 2 (pc' := 75) (L' := [some (vi k), some (vi l), some (vi x), some (vi t)]) (st' := [vi 1, vi l]) (M' := M) rfl ?_
      refine Hx.add rfl (by omega) ?_
      refine Hx.run 1 (pc' := 80) (L' := [some (vi k), some (vi l), some (vi x), some (vi t)]) (st' := [vi (l + 1)]) (M' := M) rfl ?_
      refine Hx.ret rfl ?_
      exact ⟨some_vi (by unfold sfF; (repeat' split) <;> omega), rfl⟩
  · refine Hx.tab (tgt := 81) 5 rfl h1 rfl ?_
    refine Hx.run 2 (pc' := 84) (L' := [some (vi k), some (vi l), some (vi x), some (vi t)]) (st' := [vi 8, vi t]) (M' := M) rfl ?_
    refine Hx.br (c := t < 8) (t := 87) (f := 91) rfl (fun h4 => ?_) (fun h4 => ?_)
    · skip
      refine Hx.run 2 (pc' := 96) (L' := [some (vi k), some (vi l), some (vi x), some (vi t)]) (st' := [vi 1]) (M' := M) rfl ?_
      refine Hx.ret rfl ?_
      exact ⟨some_vi (by unfold sfF; (repeat' split) <;> omega), rfl⟩
    · skip
      refine Hx.run 2 (pc' := 93) (L' := [some (vi k), some (vi l), some (vi x), some (vi t)]) (st' := [vi 1, vi l]) (M' := M) rfl ?_
      refine Hx.add rfl (by omega) ?_
      refine Hx.run 1 (pc' := 95) (L' := [some (vi k), some (vi l), some (vi x), some (vi t)]) (st' := [vi 2, vi (l + 1)]) (M' := M) rfl ?_
      refine Hx.div rfl (by omega) ?_
      refine Hx.ret rfl ?_
      exact ⟨some_vi (by unfold sfF; (repeat' split) <;> omega), rfl⟩
  · refine Hx.tabD (tgt := 97) rfl h1 rfl ?_
    refine Hx.run 1 (pc' := 98) (L' := [some (vi k), some (vi l), some (vi x), some (vi t)]) (st' := [vi l]) (M' := M) rfl ?_
    refine Hx.ret rfl ?_
    exact ⟨some_vi (by unfold sfF; (repeat' split) <;> omega), rfl⟩
