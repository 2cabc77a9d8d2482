/-! the first row: its next stride, in both (written by wip/whole/gen32.py) -/
/-- a stride by k from p is one of the fewest -/
def okk (far b p k : Int) : Prop := ¬ b / 2 ^ (min 11 (p + k)).toNat % 2 = 1 ∧ TV far b (min 11 (p + k)) = TV far b p - 1
/-- k is the next stride of the first row from p -/
def IsF (far b p k : Int) : Prop := 1 ≤ k ∧ k ≤ far ∧ p + k ≤ 11 ∧ okk far b p k ∧ ∀ k' : Int, 1 ≤ k' → k' < k → ¬ okk far b p k'
theorem IsF_one {far b p k k2 : Int} (h1 : IsF far b p k) (h2 : IsF far b p k2) : k = k2 := by
  rcases Int.lt_or_gt_of_ne (a := k) (b := k2) |> fun f => Classical.em (k = k2) |>.imp id f with h | h | h
  · exact h
  · exact absurd h1.2.2.2.1 (h2.2.2.2.2 k h1.1 h)
  · exact absurd h2.2.2.2.1 (h1.2.2.2.2 k2 h2.1 h)
theorem lin_wit {A : Int → Int} {b s : Int} : ∀ j : Nat, lin A b s j < 1000000 → ∃ k : Int, 1 ≤ k ∧ k ≤ j ∧ ¬ b / 2 ^ (min 11 (s + k)).toNat % 2 = 1 ∧ lin A b s j = A (min 11 (s + k)) + 1
  | 0, h => absurd h (by show ¬ (1000000 : Int) < 1000000; decide)
  | j + 1, h => by
    rw [lin_succ] at h ⊢
    split
    · rename_i hc
      exact ⟨(j : Int) + 1, by omega, by omega, hc.1, rfl⟩
    · rename_i hc
      rw [if_neg hc] at h
      obtain ⟨k, h1, h2, h3, h4⟩ := lin_wit j h
      exact ⟨k, h1, by omega, h3, h4⟩
/-- there is one, not past the top -/
theorem okk_ex {far b p : Int} (hfar : 1 ≤ far ∧ far ≤ 5) (hp : 0 ≤ p ∧ p ≤ 10) (h : TV far b p < 1000000) : ∃ k : Int, 1 ≤ k ∧ k ≤ far ∧ p + k ≤ 11 ∧ okk far b p k := by
  rw [TV_eq hp] at h
  obtain ⟨k, h1, h2, h3, h4⟩ := lin_wit _ h
  rw [← TV_eq hp] at h4
  by_cases hk : p + k ≤ 11
  · exact ⟨k, h1, by omega, hk, h3, by omega⟩
  · refine ⟨11 - p, by omega, by omega, by omega, ?_, ?_⟩
    · rw [show min 11 (p + (11 - p)) = min 11 (p + k) by omega]; exact h3
    · rw [show min 11 (p + (11 - p)) = min 11 (p + k) by omega]; omega
set_option maxRecDepth 100000 in
theorem cl_short_53 (p far b : Int) (M : Mm) (hfar : 1 ≤ far ∧ far ≤ 5) (hb0 : 0 ≤ b ∧ b < 2048) (hp : 0 ≤ p ∧ p ≤ 10) (hT : TV far b p < 1000000) (hF : ∀ x, p ≤ x → x ≤ 11 → M 54 x = dc (TV far b x)) : ∀ (kk : Nat) (k : Int), 1 ≤ k ∧ k ≤ 12 → (∀ k' : Int, 1 ≤ k' → k' < k → ¬ okk far b p k') → 20 - k < (kk : Int) → Hx 3 3 [some (vr 53), some (vi p), some (vi far), some (vi b), some (vi (TV far b p - 1)), some (vi k)] [] M (fun q0 M' => ∃ k : Int, IsF far b p k ∧ q0 = some (vi k) ∧ M = M') := by
  intro kk
  induction kk with
  | zero => intro k _ _ hkk; exact absurd hkk (by omega)
  | succ kk ih =>
    intro k hk hn hkk
    have hF1 : p + k ≤ 11 → M 54 (p + k) = dc (TV far b (p + k)) := fun h => hF _ (by omega) h
    have d1 := dc_cases (TV far b (p + k))
    have hT1 : p + k ≤ 11 → TV far b (p + k) = 1000000 ∨ (0 ≤ TV far b (p + k) ∧ TV far b (p + k) ≤ 11 - (p + k)) := fun h => TV_fin (by omega) h
    have hpp := TV_pos (far := far) (b := b) hp
    refine Hx.run 2 (pc' := 6) (L' := [some (vr 53), some (vi p), some (vi far), some (vi b), some (vi (TV far b p - 1)), some (vi k)]) (st' := [vi far, vi k]) (M' := M) rfl ?_
    refine Hx.br (c := far < k) (t := 41) (f := 9) rfl (fun h1 => ?_) (fun h1 => ?_)
    · skip
      refine Hx.run 1 (pc' := 42) (L' := [some (vr 53), some (vi p), some (vi far), some (vi b), some (vi (TV far b p - 1)), some (vi k)]) (st' := [vi 0]) (M' := M) rfl ?_
      refine Hx.ret rfl ?_
      exfalso
      obtain ⟨k0, a1, a2, a3, a4⟩ := okk_ex hfar hp hT
      exact hn k0 a1 (by omega) a4
    · skip
      refine Hx.run 2 (pc' := 12) (L' := [some (vr 53), some (vi p), some (vi far), some (vi b), some (vi (TV far b p - 1)), some (vi k)]) (st' := [vi k, vi p]) (M' := M) rfl ?_
      refine Hx.add rfl (by omega) ?_
      refine Hx.run 1 (pc' := 15) (L' := [some (vr 53), some (vi p), some (vi far), some (vi b), some (vi (TV far b p - 1)), some (vi k)]) (st' := [vi 11, vi (p + k)]) (M' := M) rfl ?_
      refine Hx.br (c := 11 < (p + k)) (t := 41) (f := 18) rfl (fun h2 => ?_) (fun h2 => ?_)
      · skip
        refine Hx.run 1 (pc' := 42) (L' := [some (vr 53), some (vi p), some (vi far), some (vi b), some (vi (TV far b p - 1)), some (vi k)]) (st' := [vi 0]) (M' := M) rfl ?_
        refine Hx.ret rfl ?_
        exfalso
        obtain ⟨k0, a1, a2, a3, a4⟩ := okk_ex hfar hp hT
        exact hn k0 a1 (by omega) a4
      · skip
        refine Hx.run 3 (pc' := 22) (L' := [some (vr 53), some (vi p), some (vi far), some (vi b), some (vi (TV far b p - 1)), some (vi k)]) (st' := [vi k, vi p, vr 53]) (M' := M) rfl ?_
        refine Hx.add rfl (by omega) ?_
        refine Hx.run 1 (pc' := 24) (L' := [some (vr 53), some (vi p), some (vi far), some (vi b), some (vi (TV far b p - 1)), some (vi k)]) (st' := [vi b, vi (p + k), vr 53]) (M' := M) rfl ?_
        refine Hx.call (t := 1) (as := [vr 53, vi (p + k), vi b]) (pc' := 27) (rest := []) rfl (c_restBehind_53 (p + k) b M (by omega) (by omega)) ?_
        rintro _ _ (⟨q86, rfl, rfl⟩ | ⟨q86, rfl, rfl⟩)
        · skip
          refine Hx.run 1 (pc' := 29) (L' := [some (vr 53), some (vi p), some (vi far), some (vi b), some (vi (TV far b p - 1)), some (vi k)]) (st' := [vi (TV far b p - 1), vi (-1)]) (M' := M) rfl ?_
          refine Hx.br (c := (-1) = (TV far b p - 1)) (t := 32) (f := 35) rfl (fun h3 => ?_) (fun h3 => ?_)
          · skip
            refine Hx.run 1 (pc' := 34) (L' := [some (vr 53), some (vi p), some (vi far), some (vi b), some (vi (TV far b p - 1)), some (vi k)]) (st' := [vi k]) (M' := M) rfl ?_
            refine Hx.ret rfl ?_
            unfold hb at q86
            first
              | (exfalso; omega)
              | exact ⟨k, ⟨by omega, by omega, by omega, by unfold okk; rw [show min 11 (p + k) = p + k by omega]; exact ⟨by omega, by omega⟩, hn⟩, rfl, rfl⟩
          · skip
            refine Hx.inc rfl rfl (by omega) ?_
            refine Hx.run 0 (pc' := 38) (L' := [some (vr 53), some (vi p), some (vi far), some (vi b), some (vi (TV far b p - 1)), some (vi (k + 1))]) (st' := []) (M' := M) rfl ?_
            refine Hx.run 1 (pc' := 3) (L' := [some (vr 53), some (vi p), some (vi far), some (vi b), some (vi (TV far b p - 1)), some (vi (k + 1))]) (st' := []) (M' := M) rfl ?_
            refine ih (k + 1) (by omega) (fun k2 g1 g2 => ?_) (by omega)
            by_cases hk2 : k2 = k
            · subst hk2
              intro hq
              unfold okk at hq
              rw [show min 11 (p + k2) = p + k2 by omega] at hq
              unfold hb at q86
              omega
            · exact hn k2 g1 (by omega)
        · skip
          refine Hx.run 1 (pc' := 29) (L' := [some (vr 53), some (vi p), some (vi far), some (vi b), some (vi (TV far b p - 1)), some (vi k)]) (st' := [vi (TV far b p - 1), vi (M 54 (p + k))]) (M' := M) rfl ?_
          refine Hx.br (c := (M 54 (p + k)) = (TV far b p - 1)) (t := 32) (f := 35) rfl (fun h4 => ?_) (fun h4 => ?_)
          · skip
            refine Hx.run 1 (pc' := 34) (L' := [some (vr 53), some (vi p), some (vi far), some (vi b), some (vi (TV far b p - 1)), some (vi k)]) (st' := [vi k]) (M' := M) rfl ?_
            refine Hx.ret rfl ?_
            unfold hb at q86
            first
              | (exfalso; omega)
              | exact ⟨k, ⟨by omega, by omega, by omega, by unfold okk; rw [show min 11 (p + k) = p + k by omega]; exact ⟨by omega, by omega⟩, hn⟩, rfl, rfl⟩
          · skip
            refine Hx.inc rfl rfl (by omega) ?_
            refine Hx.run 0 (pc' := 38) (L' := [some (vr 53), some (vi p), some (vi far), some (vi b), some (vi (TV far b p - 1)), some (vi (k + 1))]) (st' := []) (M' := M) rfl ?_
            refine Hx.run 1 (pc' := 3) (L' := [some (vr 53), some (vi p), some (vi far), some (vi b), some (vi (TV far b p - 1)), some (vi (k + 1))]) (st' := []) (M' := M) rfl ?_
            refine ih (k + 1) (by omega) (fun k2 g1 g2 => ?_) (by omega)
            by_cases hk2 : k2 = k
            · subst hk2
              intro hq
              unfold okk at hq
              rw [show min 11 (p + k2) = p + k2 by omega] at hq
              unfold hb at q86
              omega
            · exact hn k2 g1 (by omega)
set_option maxRecDepth 100000 in
theorem c_shortest_53 (p far b : Int) (M : Mm) (hfar : 1 ≤ far ∧ far ≤ 5) (hb0 : 0 ≤ b ∧ b < 2048) (hp : 0 ≤ p ∧ p ≤ 10) (hT : TV far b p < 1000000) (hF : ∀ x, p ≤ x → x ≤ 11 → M 54 x = dc (TV far b x)) : Ct 3 [vr 53, vi p, vi far, vi b, vi (TV far b p - 1)] M (fun q0 M' => ∃ k : Int, IsF far b p k ∧ q0 = some (vi k) ∧ M = M') := by
  refine Hx.run 2 (pc' := 3) (L' := [some (vr 53), some (vi p), some (vi far), some (vi b), some (vi (TV far b p - 1)), some (vi 1)]) (st' := []) (M' := M) rfl ?_
  exact cl_short_53 p far b M hfar hb0 hp hT hF 30 1 (by omega) (fun k2 g1 g2 => absurd g1 (by omega)) (by omega)
set_option maxRecDepth 100000 in
theorem cl_short_56 (p far b : Int) (M : Mm) (hfar : 1 ≤ far ∧ far ≤ 5) (hb0 : 0 ≤ b ∧ b < 2048) (hp : 0 ≤ p ∧ p ≤ 10) (hT : TV far b p < 1000000) (hF : ∀ x, p ≤ x → x ≤ 11 → M 57 x = dc (TV far b x)) : ∀ (kk : Nat) (k : Int), 1 ≤ k ∧ k ≤ 12 → (∀ k' : Int, 1 ≤ k' → k' < k → ¬ okk far b p k') → 20 - k < (kk : Int) → Hx 3 3 [some (vr 56), some (vi p), some (vi far), some (vi b), some (vi (TV far b p - 1)), some (vi k)] [] M (fun q0 M' => ∃ k : Int, IsF far b p k ∧ q0 = some (vi k) ∧ M = M') := by
  intro kk
  induction kk with
  | zero => intro k _ _ hkk; exact absurd hkk (by omega)
  | succ kk ih =>
    intro k hk hn hkk
    have hF1 : p + k ≤ 11 → M 57 (p + k) = dc (TV far b (p + k)) := fun h => hF _ (by omega) h
    have d1 := dc_cases (TV far b (p + k))
    have hT1 : p + k ≤ 11 → TV far b (p + k) = 1000000 ∨ (0 ≤ TV far b (p + k) ∧ TV far b (p + k) ≤ 11 - (p + k)) := fun h => TV_fin (by omega) h
    have hpp := TV_pos (far := far) (b := b) hp
    refine Hx.run 2 (pc' := 6) (L' := [some (vr 56), some (vi p), some (vi far), some (vi b), some (vi (TV far b p - 1)), some (vi k)]) (st' := [vi far, vi k]) (M' := M) rfl ?_
    refine Hx.br (c := far < k) (t := 41) (f := 9) rfl (fun h1 => ?_) (fun h1 => ?_)
    · skip
      refine Hx.run 1 (pc' := 42) (L' := [some (vr 56), some (vi p), some (vi far), some (vi b), some (vi (TV far b p - 1)), some (vi k)]) (st' := [vi 0]) (M' := M) rfl ?_
      refine Hx.ret rfl ?_
      exfalso
      obtain ⟨k0, a1, a2, a3, a4⟩ := okk_ex hfar hp hT
      exact hn k0 a1 (by omega) a4
    · skip
      refine Hx.run 2 (pc' := 12) (L' := [some (vr 56), some (vi p), some (vi far), some (vi b), some (vi (TV far b p - 1)), some (vi k)]) (st' := [vi k, vi p]) (M' := M) rfl ?_
      refine Hx.add rfl (by omega) ?_
      refine Hx.run 1 (pc' := 15) (L' := [some (vr 56), some (vi p), some (vi far), some (vi b), some (vi (TV far b p - 1)), some (vi k)]) (st' := [vi 11, vi (p + k)]) (M' := M) rfl ?_
      refine Hx.br (c := 11 < (p + k)) (t := 41) (f := 18) rfl (fun h2 => ?_) (fun h2 => ?_)
      · skip
        refine Hx.run 1 (pc' := 42) (L' := [some (vr 56), some (vi p), some (vi far), some (vi b), some (vi (TV far b p - 1)), some (vi k)]) (st' := [vi 0]) (M' := M) rfl ?_
        refine Hx.ret rfl ?_
        exfalso
        obtain ⟨k0, a1, a2, a3, a4⟩ := okk_ex hfar hp hT
        exact hn k0 a1 (by omega) a4
      · skip
        refine Hx.run 3 (pc' := 22) (L' := [some (vr 56), some (vi p), some (vi far), some (vi b), some (vi (TV far b p - 1)), some (vi k)]) (st' := [vi k, vi p, vr 56]) (M' := M) rfl ?_
        refine Hx.add rfl (by omega) ?_
        refine Hx.run 1 (pc' := 24) (L' := [some (vr 56), some (vi p), some (vi far), some (vi b), some (vi (TV far b p - 1)), some (vi k)]) (st' := [vi b, vi (p + k), vr 56]) (M' := M) rfl ?_
        refine Hx.call (t := 1) (as := [vr 56, vi (p + k), vi b]) (pc' := 27) (rest := []) rfl (c_restBehind_56 (p + k) b M (by omega) (by omega)) ?_
        rintro _ _ (⟨q87, rfl, rfl⟩ | ⟨q87, rfl, rfl⟩)
        · skip
          refine Hx.run 1 (pc' := 29) (L' := [some (vr 56), some (vi p), some (vi far), some (vi b), some (vi (TV far b p - 1)), some (vi k)]) (st' := [vi (TV far b p - 1), vi (-1)]) (M' := M) rfl ?_
          refine Hx.br (c := (-1) = (TV far b p - 1)) (t := 32) (f := 35) rfl (fun h3 => ?_) (fun h3 => ?_)
          · skip
            refine Hx.run 1 (pc' := 34) (L' := [some (vr 56), some (vi p), some (vi far), some (vi b), some (vi (TV far b p - 1)), some (vi k)]) (st' := [vi k]) (M' := M) rfl ?_
            refine Hx.ret rfl ?_
            unfold hb at q87
            first
              | (exfalso; omega)
              | exact ⟨k, ⟨by omega, by omega, by omega, by unfold okk; rw [show min 11 (p + k) = p + k by omega]; exact ⟨by omega, by omega⟩, hn⟩, rfl, rfl⟩
          · skip
            refine Hx.inc rfl rfl (by omega) ?_
            refine Hx.run 0 (pc' := 38) (L' := [some (vr 56), some (vi p), some (vi far), some (vi b), some (vi (TV far b p - 1)), some (vi (k + 1))]) (st' := []) (M' := M) rfl ?_
            refine Hx.run 1 (pc' := 3) (L' := [some (vr 56), some (vi p), some (vi far), some (vi b), some (vi (TV far b p - 1)), some (vi (k + 1))]) (st' := []) (M' := M) rfl ?_
            refine ih (k + 1) (by omega) (fun k2 g1 g2 => ?_) (by omega)
            by_cases hk2 : k2 = k
            · subst hk2
              intro hq
              unfold okk at hq
              rw [show min 11 (p + k2) = p + k2 by omega] at hq
              unfold hb at q87
              omega
            · exact hn k2 g1 (by omega)
        · skip
          refine Hx.run 1 (pc' := 29) (L' := [some (vr 56), some (vi p), some (vi far), some (vi b), some (vi (TV far b p - 1)), some (vi k)]) (st' := [vi (TV far b p - 1), vi (M 57 (p + k))]) (M' := M) rfl ?_
          refine Hx.br (c := (M 57 (p + k)) = (TV far b p - 1)) (t := 32) (f := 35) rfl (fun h4 => ?_) (fun h4 => ?_)
          · skip
            refine Hx.run 1 (pc' := 34) (L' := [some (vr 56), some (vi p), some (vi far), some (vi b), some (vi (TV far b p - 1)), some (vi k)]) (st' := [vi k]) (M' := M) rfl ?_
            refine Hx.ret rfl ?_
            unfold hb at q87
            first
              | (exfalso; omega)
              | exact ⟨k, ⟨by omega, by omega, by omega, by unfold okk; rw [show min 11 (p + k) = p + k by omega]; exact ⟨by omega, by omega⟩, hn⟩, rfl, rfl⟩
          · skip
            refine Hx.inc rfl rfl (by omega) ?_
            refine Hx.run 0 (pc' := 38) (L' := [some (vr 56), some (vi p), some (vi far), some (vi b), some (vi (TV far b p - 1)), some (vi (k + 1))]) (st' := []) (M' := M) rfl ?_
            refine Hx.run 1 (pc' := 3) (L' := [some (vr 56), some (vi p), some (vi far), some (vi b), some (vi (TV far b p - 1)), some (vi (k + 1))]) (st' := []) (M' := M) rfl ?_
            refine ih (k + 1) (by omega) (fun k2 g1 g2 => ?_) (by omega)
            by_cases hk2 : k2 = k
            · subst hk2
              intro hq
              unfold okk at hq
              rw [show min 11 (p + k2) = p + k2 by omega] at hq
              unfold hb at q87
              omega
            · exact hn k2 g1 (by omega)
set_option maxRecDepth 100000 in
theorem c_shortest_56 (p far b : Int) (M : Mm) (hfar : 1 ≤ far ∧ far ≤ 5) (hb0 : 0 ≤ b ∧ b < 2048) (hp : 0 ≤ p ∧ p ≤ 10) (hT : TV far b p < 1000000) (hF : ∀ x, p ≤ x → x ≤ 11 → M 57 x = dc (TV far b x)) : Ct 3 [vr 56, vi p, vi far, vi b, vi (TV far b p - 1)] M (fun q0 M' => ∃ k : Int, IsF far b p k ∧ q0 = some (vi k) ∧ M = M') := by
  refine Hx.run 2 (pc' := 3) (L' := [some (vr 56), some (vi p), some (vi far), some (vi b), some (vi (TV far b p - 1)), some (vi 1)]) (st' := []) (M' := M) rfl ?_
  exact cl_short_56 p far b M hfar hb0 hp hT hF 30 1 (by omega) (fun k2 g1 g2 => absurd g1 (by omega)) (by omega)
set_option maxRecDepth 100000 in
theorem r_stepUp (s k : Int) (M : Mm) (hs : 0 ≤ s ∧ s ≤ 11) (hk : 0 ≤ k ∧ k ≤ 9) : Ct 184 [vi s, vi k] M (fun q0 M' => q0 = some (vi (min 11 (s + k))) ∧ M = M') := by
  refine Hx.run 2 (pc' := 2) (L' := [some (vi s), some (vi k)]) (st' := [vi k, vi s]) (M' := M) rfl ?_
  refine Hx.add rfl (by omega) ?_
  refine Hx.run 1 (pc' := 5) (L' := [some (vi s), some (vi k)]) (st' := [vi 11, vi (s + k)]) (M' := M) rfl ?_
  refine Hx.br (c := 11 < (s + k)) (t := 8) (f := 13) rfl (fun h1 => ?_) (fun h1 => ?_)
  · skip
    refine Hx.run 2 (pc' := 16) (L' := [some (vi s), some (vi k)]) (st' := [vi 11]) (M' := M) rfl ?_
    refine Hx.ret rfl ?_
    exact ⟨some_vi (by omega), rfl⟩
  · skip
    refine Hx.run 2 (pc' := 15) (L' := [some (vi s), some (vi k)]) (st' := [vi k, vi s]) (M' := M) rfl ?_
    refine Hx.add rfl (by omega) ?_
    refine Hx.ret rfl ?_
    exact ⟨some_vi (by omega), rfl⟩
set_option maxRecDepth 100000 in
theorem rl_first (p far b : Int) (M : Mm) (hfar : 1 ≤ far ∧ far ≤ 5) (hb0 : 0 ≤ b ∧ b < 2048) (hp : 0 ≤ p ∧ p ≤ 10) (hT : TV far b p < 1000000) (hL : ∀ x, 0 ≤ x → x ≤ 11 → M 69 x = TV far b x) : ∀ (kk : Nat) (k : Int), 1 ≤ k ∧ k ≤ 12 → (∀ k' : Int, 1 ≤ k' → k' < k → ¬ okk far b p k') → 20 - k < (kk : Int) → Hx 183 2 [some (vr 64), some (vi p), some (vi b), some (vi k)] [] M (fun q0 M' => ∃ k : Int, IsF far b p k ∧ q0 = some (vi k) ∧ M = M') := by
  intro kk
  induction kk with
  | zero => intro k _ _ hkk; exact absurd hkk (by omega)
  | succ kk ih =>
    intro k hk hn hkk
    obtain ⟨k0, w1, w2, w3, w4⟩ := okk_ex hfar hp hT
    have hk0 : k ≤ k0 := by
      rcases Int.lt_or_le k0 k with q | q
      · exact absurd w4 (hn k0 w1 q)
      · exact q
    have hL1 := hL (p + k) (by omega) (by omega)
    have hLp := hL p (by omega) (by omega)
    have hT1 : p + k ≤ 11 → TV far b (p + k) = 1000000 ∨ (0 ≤ TV far b (p + k) ∧ TV far b (p + k) ≤ 11 - (p + k)) := fun h => TV_fin (by omega) h
    have hpp := TV_pos (far := far) (b := b) hp
    refine Hx.run 3 (pc' := 5) (L' := [some (vr 64), some (vi p), some (vi b), some (vi k)]) (st' := [vi k, vi p, vi b]) (M' := M) rfl ?_
    refine Hx.add rfl (by omega) ?_
    refine Hx.run 1 (pc' := 8) (L' := [some (vr 64), some (vi p), some (vi b), some (vi k)]) (st' := [vi 11, vi (p + k), vi b]) (M' := M) rfl ?_
    refine Hx.br (c := 11 < (p + k)) (t := 11) (f := 16) rfl (fun h1 => ?_) (fun h1 => ?_)
    · skip
      refine Hx.run 2 (pc' := 19) (L' := [some (vr 64), some (vi p), some (vi b), some (vi k)]) (st' := [vi 11, vi b]) (M' := M) rfl ?_
      refine Hx.call (t := 131) (as := [vi b, vi 11]) (pc' := 22) (rest := []) rfl (r_has b 11 M (by omega) (by omega)) ?_
      rintro _ _ (⟨q88, rfl, rfl⟩ | ⟨q88, rfl, rfl⟩)
      · skip
        refine Hx.run 1 (pc' := 57) (L' := [some (vr 64), some (vi p), some (vi b), some (vi k)]) (st' := []) (M' := M) rfl ?_
        refine Hx.inc rfl rfl (by omega) ?_
        refine Hx.run 0 (pc' := 60) (L' := [some (vr 64), some (vi p), some (vi b), some (vi (k + 1))]) (st' := []) (M' := M) rfl ?_
        refine Hx.run 1 (pc' := 2) (L' := [some (vr 64), some (vi p), some (vi b), some (vi (k + 1))]) (st' := []) (M' := M) rfl ?_
        refine ih (k + 1) (by omega) (fun k2 g1 g2 => ?_) (by omega)
        by_cases hk2 : k2 = k
        · subst hk2
          intro hq
          unfold okk at hq
          first | rw [show min 11 (p + k2) = p + k2 by omega] at hq | rw [show min 11 (p + k2) = 11 by omega] at hq
          unfold hb at q88
          omega
        · exact hn k2 g1 (by omega)
      · skip
        refine Hx.run 5 (pc' := 31) (L' := [some (vr 64), some (vi p), some (vi b), some (vi k)]) (st' := [vi k, vi p, vr 69]) (M' := M) rfl ?_
        refine Hx.add rfl (by omega) ?_
        refine Hx.run 1 (pc' := 34) (L' := [some (vr 64), some (vi p), some (vi b), some (vi k)]) (st' := [vi 11, vi (p + k), vr 69]) (M' := M) rfl ?_
        refine Hx.br (c := 11 < (p + k)) (t := 37) (f := 42) rfl (fun h2 => ?_) (fun h2 => ?_)
        · skip
          refine Hx.run 6 (pc' := 51) (L' := [some (vr 64), some (vi p), some (vi b), some (vi k)]) (st' := [vi p, vr 69, vi (M 69 11)]) (M' := M) rfl ?_
          refine Hx.aldI (n := 12) rfl rfl (by omega) ?_
          refine Hx.run 1 (pc' := 53) (L' := [some (vr 64), some (vi p), some (vi b), some (vi k)]) (st' := [vi 1, vi (M 69 p), vi (M 69 11)]) (M' := M) rfl ?_
          refine Hx.sub rfl (by omega) ?_
          refine Hx.br (c := (M 69 11) = ((M 69 p) - 1)) (t := 63) (f := 57) rfl (fun h3 => ?_) (fun h3 => ?_)
          · skip
            refine Hx.run 1 (pc' := 64) (L' := [some (vr 64), some (vi p), some (vi b), some (vi k)]) (st' := [vi k]) (M' := M) rfl ?_
            refine Hx.ret rfl ?_
            unfold hb at q88
            refine ⟨k, ⟨by omega, by omega, by omega, ?_, hn⟩, rfl, rfl⟩
            unfold okk
            first | rw [show min 11 (p + k) = p + k by omega] | rw [show min 11 (p + k) = 11 by omega]
            exact ⟨by omega, by omega⟩
          · skip
            refine Hx.inc rfl rfl (by omega) ?_
            refine Hx.run 0 (pc' := 60) (L' := [some (vr 64), some (vi p), some (vi b), some (vi (k + 1))]) (st' := []) (M' := M) rfl ?_
            refine Hx.run 1 (pc' := 2) (L' := [some (vr 64), some (vi p), some (vi b), some (vi (k + 1))]) (st' := []) (M' := M) rfl ?_
            refine ih (k + 1) (by omega) (fun k2 g1 g2 => ?_) (by omega)
            by_cases hk2 : k2 = k
            · subst hk2
              intro hq
              unfold okk at hq
              first | rw [show min 11 (p + k2) = p + k2 by omega] at hq | rw [show min 11 (p + k2) = 11 by omega] at hq
              unfold hb at q88
              omega
            · exact hn k2 g1 (by omega)
        · skip
          refine Hx.run 2 (pc' := 44) (L' := [some (vr 64), some (vi p), some (vi b), some (vi k)]) (st' := [vi k, vi p, vr 69]) (M' := M) rfl ?_
          refine Hx.add rfl (by omega) ?_
          refine Hx.aldI (n := 12) rfl rfl (by omega) ?_
          refine Hx.run 3 (pc' := 51) (L' := [some (vr 64), some (vi p), some (vi b), some (vi k)]) (st' := [vi p, vr 69, vi (M 69 (p + k))]) (M' := M) rfl ?_
          refine Hx.aldI (n := 12) rfl rfl (by omega) ?_
          refine Hx.run 1 (pc' := 53) (L' := [some (vr 64), some (vi p), some (vi b), some (vi k)]) (st' := [vi 1, vi (M 69 p), vi (M 69 (p + k))]) (M' := M) rfl ?_
          refine Hx.sub rfl (by omega) ?_
          refine Hx.br (c := (M 69 (p + k)) = ((M 69 p) - 1)) (t := 63) (f := 57) rfl (fun h4 => ?_) (fun h4 => ?_)
          · skip
            refine Hx.run 1 (pc' := 64) (L' := [some (vr 64), some (vi p), some (vi b), some (vi k)]) (st' := [vi k]) (M' := M) rfl ?_
            refine Hx.ret rfl ?_
            unfold hb at q88
            refine ⟨k, ⟨by omega, by omega, by omega, ?_, hn⟩, rfl, rfl⟩
            unfold okk
            first | rw [show min 11 (p + k) = p + k by omega] | rw [show min 11 (p + k) = 11 by omega]
            exact ⟨by omega, by omega⟩
          · skip
            refine Hx.inc rfl rfl (by omega) ?_
            refine Hx.run 0 (pc' := 60) (L' := [some (vr 64), some (vi p), some (vi b), some (vi (k + 1))]) (st' := []) (M' := M) rfl ?_
            refine Hx.run 1 (pc' := 2) (L' := [some (vr 64), some (vi p), some (vi b), some (vi (k + 1))]) (st' := []) (M' := M) rfl ?_
            refine ih (k + 1) (by omega) (fun k2 g1 g2 => ?_) (by omega)
            by_cases hk2 : k2 = k
            · subst hk2
              intro hq
              unfold okk at hq
              first | rw [show min 11 (p + k2) = p + k2 by omega] at hq | rw [show min 11 (p + k2) = 11 by omega] at hq
              unfold hb at q88
              omega
            · exact hn k2 g1 (by omega)
    · skip
      refine Hx.run 2 (pc' := 18) (L' := [some (vr 64), some (vi p), some (vi b), some (vi k)]) (st' := [vi k, vi p, vi b]) (M' := M) rfl ?_
      refine Hx.add rfl (by omega) ?_
      refine Hx.call (t := 131) (as := [vi b, vi (p + k)]) (pc' := 22) (rest := []) rfl (r_has b (p + k) M (by omega) (by omega)) ?_
      rintro _ _ (⟨q89, rfl, rfl⟩ | ⟨q89, rfl, rfl⟩)
      · skip
        refine Hx.run 1 (pc' := 57) (L' := [some (vr 64), some (vi p), some (vi b), some (vi k)]) (st' := []) (M' := M) rfl ?_
        refine Hx.inc rfl rfl (by omega) ?_
        refine Hx.run 0 (pc' := 60) (L' := [some (vr 64), some (vi p), some (vi b), some (vi (k + 1))]) (st' := []) (M' := M) rfl ?_
        refine Hx.run 1 (pc' := 2) (L' := [some (vr 64), some (vi p), some (vi b), some (vi (k + 1))]) (st' := []) (M' := M) rfl ?_
        refine ih (k + 1) (by omega) (fun k2 g1 g2 => ?_) (by omega)
        by_cases hk2 : k2 = k
        · subst hk2
          intro hq
          unfold okk at hq
          first | rw [show min 11 (p + k2) = p + k2 by omega] at hq | rw [show min 11 (p + k2) = 11 by omega] at hq
          unfold hb at q89
          omega
        · exact hn k2 g1 (by omega)
      · skip
        refine Hx.run 5 (pc' := 31) (L' := [some (vr 64), some (vi p), some (vi b), some (vi k)]) (st' := [vi k, vi p, vr 69]) (M' := M) rfl ?_
        refine Hx.add rfl (by omega) ?_
        refine Hx.run 1 (pc' := 34) (L' := [some (vr 64), some (vi p), some (vi b), some (vi k)]) (st' := [vi 11, vi (p + k), vr 69]) (M' := M) rfl ?_
        refine Hx.br (c := 11 < (p + k)) (t := 37) (f := 42) rfl (fun h5 => ?_) (fun h5 => ?_)
        · skip
          refine Hx.run 6 (pc' := 51) (L' := [some (vr 64), some (vi p), some (vi b), some (vi k)]) (st' := [vi p, vr 69, vi (M 69 11)]) (M' := M) rfl ?_
          refine Hx.aldI (n := 12) rfl rfl (by omega) ?_
          refine Hx.run 1 (pc' := 53) (L' := [some (vr 64), some (vi p), some (vi b), some (vi k)]) (st' := [vi 1, vi (M 69 p), vi (M 69 11)]) (M' := M) rfl ?_
          refine Hx.sub rfl (by omega) ?_
          refine Hx.br (c := (M 69 11) = ((M 69 p) - 1)) (t := 63) (f := 57) rfl (fun h6 => ?_) (fun h6 => ?_)
          · skip
            refine Hx.run 1 (pc' := 64) (L' := [some (vr 64), some (vi p), some (vi b), some (vi k)]) (st' := [vi k]) (M' := M) rfl ?_
            refine Hx.ret rfl ?_
            unfold hb at q89
            refine ⟨k, ⟨by omega, by omega, by omega, ?_, hn⟩, rfl, rfl⟩
            unfold okk
            first | rw [show min 11 (p + k) = p + k by omega] | rw [show min 11 (p + k) = 11 by omega]
            exact ⟨by omega, by omega⟩
          · skip
            refine Hx.inc rfl rfl (by omega) ?_
            refine Hx.run 0 (pc' := 60) (L' := [some (vr 64), some (vi p), some (vi b), some (vi (k + 1))]) (st' := []) (M' := M) rfl ?_
            refine Hx.run 1 (pc' := 2) (L' := [some (vr 64), some (vi p), some (vi b), some (vi (k + 1))]) (st' := []) (M' := M) rfl ?_
            refine ih (k + 1) (by omega) (fun k2 g1 g2 => ?_) (by omega)
            by_cases hk2 : k2 = k
            · subst hk2
              intro hq
              unfold okk at hq
              first | rw [show min 11 (p + k2) = p + k2 by omega] at hq | rw [show min 11 (p + k2) = 11 by omega] at hq
              unfold hb at q89
              omega
            · exact hn k2 g1 (by omega)
        · skip
          refine Hx.run 2 (pc' := 44) (L' := [some (vr 64), some (vi p), some (vi b), some (vi k)]) (st' := [vi k, vi p, vr 69]) (M' := M) rfl ?_
          refine Hx.add rfl (by omega) ?_
          refine Hx.aldI (n := 12) rfl rfl (by omega) ?_
          refine Hx.run 3 (pc' := 51) (L' := [some (vr 64), some (vi p), some (vi b), some (vi k)]) (st' := [vi p, vr 69, vi (M 69 (p + k))]) (M' := M) rfl ?_
          refine Hx.aldI (n := 12) rfl rfl (by omega) ?_
          refine Hx.run 1 (pc' := 53) (L' := [some (vr 64), some (vi p), some (vi b), some (vi k)]) (st' := [vi 1, vi (M 69 p), vi (M 69 (p + k))]) (M' := M) rfl ?_
          refine Hx.sub rfl (by omega) ?_
          refine Hx.br (c := (M 69 (p + k)) = ((M 69 p) - 1)) (t := 63) (f := 57) rfl (fun h7 => ?_) (fun h7 => ?_)
          · skip
            refine Hx.run 1 (pc' := 64) (L' := [some (vr 64), some (vi p), some (vi b), some (vi k)]) (st' := [vi k]) (M' := M) rfl ?_
            refine Hx.ret rfl ?_
            unfold hb at q89
            refine ⟨k, ⟨by omega, by omega, by omega, ?_, hn⟩, rfl, rfl⟩
            unfold okk
            first | rw [show min 11 (p + k) = p + k by omega] | rw [show min 11 (p + k) = 11 by omega]
            exact ⟨by omega, by omega⟩
          · skip
            refine Hx.inc rfl rfl (by omega) ?_
            refine Hx.run 0 (pc' := 60) (L' := [some (vr 64), some (vi p), some (vi b), some (vi (k + 1))]) (st' := []) (M' := M) rfl ?_
            refine Hx.run 1 (pc' := 2) (L' := [some (vr 64), some (vi p), some (vi b), some (vi (k + 1))]) (st' := []) (M' := M) rfl ?_
            refine ih (k + 1) (by omega) (fun k2 g1 g2 => ?_) (by omega)
            by_cases hk2 : k2 = k
            · subst hk2
              intro hq
              unfold okk at hq
              first | rw [show min 11 (p + k2) = p + k2 by omega] at hq | rw [show min 11 (p + k2) = 11 by omega] at hq
              unfold hb at q89
              omega
            · exact hn k2 g1 (by omega)
set_option maxRecDepth 100000 in
theorem r_firstFrom (p far b : Int) (M : Mm) (hfar : 1 ≤ far ∧ far ≤ 5) (hb0 : 0 ≤ b ∧ b < 2048) (hp : 0 ≤ p ∧ p ≤ 10) (hT : TV far b p < 1000000) (hL : ∀ x, 0 ≤ x → x ≤ 11 → M 69 x = TV far b x) : Ct 183 [vr 64, vi p, vi b] M (fun q0 M' => ∃ k : Int, IsF far b p k ∧ q0 = some (vi k) ∧ M = M') := by
  refine Hx.run 2 (pc' := 2) (L' := [some (vr 64), some (vi p), some (vi b), some (vi 1)]) (st' := []) (M' := M) rfl ?_
  exact rl_first p far b M hfar hb0 hp hT hL 30 1 (by omega) (fun k2 g1 g2 => absurd g1 (by omega)) (by omega)
