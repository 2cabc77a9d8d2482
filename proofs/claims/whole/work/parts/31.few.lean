/-! the fewest strides: the class (written by wip/whole/gen31.py) -/
theorem dc_cases (x : Int) : (dc x = -1 ∧ 1000000 ≤ x) ∨ (dc x = x ∧ x < 1000000) := by
  unfold dc; split <;> omega
theorem lin_fin {A : Int → Int} {b s : Int} (hs : 0 ≤ s ∧ s ≤ 10) (hA : ∀ x, s < x → x ≤ 11 → A x = 1000000 ∨ (0 ≤ A x ∧ A x ≤ 11 - x)) : ∀ j, lin A b s j = 1000000 ∨ lin A b s j ≤ 11 - s
  | 0 => Or.inl rfl
  | j + 1 => by
    have h := lin_fin hs hA (b := b) j
    have h2 := hA (min 11 (s + ((j : Int) + 1))) (by omega) (by omega)
    rw [lin_succ]
    split <;> omega
theorem TV_fin0 (far b : Int) : ∀ n : Nat, n ≤ 11 → ∀ m : Nat, m ≤ n → TV far b (11 - m) = 1000000 ∨ (0 ≤ TV far b (11 - m) ∧ TV far b (11 - m) ≤ m)
  | 0, _, m, hm => by
    have e : m = 0 := by omega
    subst e
    right
    rw [show (11 - ((0 : Nat) : Int)) = 11 from rfl, TV_11]
    decide
  | n + 1, hn, m, hm => by
    have ih := TV_fin0 far b n (by omega)
    by_cases e : m = n + 1
    · subst e
      have hs : 0 ≤ (11 - ((n + 1 : Nat) : Int)) ∧ (11 - ((n + 1 : Nat) : Int)) ≤ 10 := by omega
      have h := lin_fin hs (A := TV far b) (b := b) (fun x h1 h2 => by
        have := ih (11 - x).toNat (by omega)
        rw [show (11 - (((11 - x).toNat : Nat) : Int)) = x by omega] at this
        omega) far.toNat
      rw [← TV_eq hs] at h
      have := TV_pos (far := far) (b := b) hs
      omega
    · exact ih m (by omega)
theorem TV_fin {far b x : Int} (h1 : 0 ≤ x) (h2 : x ≤ 11) : TV far b x = 1000000 ∨ (0 ≤ TV far b x ∧ TV far b x ≤ 11 - x) := by
  have := TV_fin0 far b 11 (by omega) (11 - x).toNat (by omega)
  rw [show (11 - (((11 - x).toNat : Nat) : Int)) = x by omega] at this
  omega
set_option maxRecDepth 100000 in
theorem cl_few1_53 (p reach b q : Int) (M : Mm) (hre : 1 ≤ reach ∧ reach ≤ 5) (hb0 : 0 ≤ b ∧ b < 2048) (hq : 0 ≤ q ∧ q ≤ 10) (hF : ∀ x, q < x → x ≤ 11 → M 54 x = dc (TV reach b x)) {P : Option PV → Mm → Prop} (hk : ∀ jk jr : Option PV, Hx 0 87 [some (vr 53), some (vi p), some (vi reach), some (vi b), some (vi q), some (vi (dc (TV reach b q))), jk, jr] [] M P) : ∀ (kk : Nat) (j : Nat) (jr : Option PV), (j : Int) ≤ reach ∧ (j : Int) ≤ 11 - q → 11 - q - j < (kk : Int) → Hx 0 26 [some (vr 53), some (vi p), some (vi reach), some (vi b), some (vi q), some (vi (dc (lin (TV reach b) b q j))), some (vi ((j : Int) + 1)), jr] [] M P := by
  intro kk
  induction kk with
  | zero => intro j jr _ hkk; exact absurd hkk (by omega)
  | succ kk ih =>
    intro j jr hj hkk
    have hl := lin_rng hq (A := TV reach b) (b := b) (fun x h1 h2 => TV_rng (by omega) h2) j
    have d2 := dc_cases (lin (TV reach b) b q j)
    have d1 := dc_cases (TV reach b (q + ((j : Int) + 1)))
    have hF1 : q + ((j : Int) + 1) ≤ 11 → M 54 (q + ((j : Int) + 1)) = dc (TV reach b (q + ((j : Int) + 1))) := fun h => hF _ (by omega) h
    have hT1 : q + ((j : Int) + 1) ≤ 11 → TV reach b (q + ((j : Int) + 1)) = 1000000 ∨ (0 ≤ TV reach b (q + ((j : Int) + 1)) ∧ TV reach b (q + ((j : Int) + 1)) ≤ 11 - (q + ((j : Int) + 1))) := fun h => TV_fin (by omega) h
    refine Hx.run 2 (pc' := 29) (L' := [some (vr 53), some (vi p), some (vi reach), some (vi b), some (vi q), some (vi (dc (lin (TV reach b) b q j))), some (vi ((j : Int) + 1)), jr]) (st' := [vi reach, vi ((j : Int) + 1)]) (M' := M) rfl ?_
    refine Hx.br (c := reach < ((j : Int) + 1)) (t := 87) (f := 32) rfl (fun h1 => ?_) (fun h1 => ?_)
    · skip
      refine Hx.run 0 (pc' := 87) (L' := [some (vr 53), some (vi p), some (vi reach), some (vi b), some (vi q), some (vi (dc (lin (TV reach b) b q j))), some (vi ((j : Int) + 1)), jr]) (st' := []) (M' := M) rfl ?_
      have e : lin (TV reach b) b q j = TV reach b q := by
        rw [TV_eq hq]
        first
          | (rw [show j = reach.toNat by omega]; done)
          | (rw [lin_top hb0 hq j (by omega), lin_top hb0 hq reach.toNat (by omega)])
      rw [e]
      exact hk _ _
    · skip
      refine Hx.run 2 (pc' := 36) (L' := [some (vr 53), some (vi p), some (vi reach), some (vi b), some (vi q), some (vi (dc (lin (TV reach b) b q j))), some (vi ((j : Int) + 1)), jr]) (st' := [vi ((j : Int) + 1), vi q]) (M' := M) rfl ?_
      refine Hx.add rfl (by omega) ?_
      refine Hx.run 1 (pc' := 39) (L' := [some (vr 53), some (vi p), some (vi reach), some (vi b), some (vi q), some (vi (dc (lin (TV reach b) b q j))), some (vi ((j : Int) + 1)), jr]) (st' := [vi 11, vi (q + ((j : Int) + 1))]) (M' := M) rfl ?_
      refine Hx.br (c := 11 < (q + ((j : Int) + 1))) (t := 87) (f := 42) rfl (fun h2 => ?_) (fun h2 => ?_)
      · skip
        refine Hx.run 0 (pc' := 87) (L' := [some (vr 53), some (vi p), some (vi reach), some (vi b), some (vi q), some (vi (dc (lin (TV reach b) b q j))), some (vi ((j : Int) + 1)), jr]) (st' := []) (M' := M) rfl ?_
        have e : lin (TV reach b) b q j = TV reach b q := by
          rw [TV_eq hq]
          first
            | (rw [show j = reach.toNat by omega]; done)
            | (rw [lin_top hb0 hq j (by omega), lin_top hb0 hq reach.toNat (by omega)])
        rw [e]
        exact hk _ _
      · skip
        refine Hx.run 3 (pc' := 47) (L' := [some (vr 53), some (vi p), some (vi reach), some (vi b), some (vi q), some (vi (dc (lin (TV reach b) b q j))), some (vi ((j : Int) + 1)), jr]) (st' := [vi ((j : Int) + 1), vi q, vr 53]) (M' := M) rfl ?_
        refine Hx.add rfl (by omega) ?_
        refine Hx.run 1 (pc' := 49) (L' := [some (vr 53), some (vi p), some (vi reach), some (vi b), some (vi q), some (vi (dc (lin (TV reach b) b q j))), some (vi ((j : Int) + 1)), jr]) (st' := [vi b, vi (q + ((j : Int) + 1)), vr 53]) (M' := M) rfl ?_
        refine Hx.call (t := 1) (as := [vr 53, vi (q + ((j : Int) + 1)), vi b]) (pc' := 52) (rest := []) rfl (c_restBehind_53 (q + ((j : Int) + 1)) b M (by omega) (by omega)) ?_
        rintro _ _ (⟨q84, rfl, rfl⟩ | ⟨q84, rfl, rfl⟩)
        · skip
          refine Hx.run 4 (pc' := 81) (L' := [some (vr 53), some (vi p), some (vi reach), some (vi b), some (vi q), some (vi (dc (lin (TV reach b) b q j))), some (vi ((j : Int) + 1)), some (vi (-1))]) (st' := []) (M' := M) rfl ?_
          refine Hx.inc rfl rfl (by omega) ?_
          refine Hx.run 0 (pc' := 84) (L' := [some (vr 53), some (vi p), some (vi reach), some (vi b), some (vi q), some (vi (dc (lin (TV reach b) b q j))), some (vi (((j : Int) + 1) + 1)), some (vi (-1))]) (st' := []) (M' := M) rfl ?_
          refine Hx.run 1 (pc' := 26) (L' := [some (vr 53), some (vi p), some (vi reach), some (vi b), some (vi q), some (vi (dc (lin (TV reach b) b q j))), some (vi (((j : Int) + 1) + 1)), some (vi (-1))]) (st' := []) (M' := M) rfl ?_
          have e : dc (lin (TV reach b) b q (j + 1)) = (dc (lin (TV reach b) b q j)) := by
            rw [lin_succ, show min 11 (q + ((j : Int) + 1)) = q + ((j : Int) + 1) by omega]
            unfold hb at q84
            have d3 := dc_cases (TV reach b (q + ((j : Int) + 1)) + 1)
            split <;> omega
          have h9 := ih (j + 1) (some (vi (-1))) (by omega) (by omega)
          rw [e] at h9
          exact h9
        · skip
          refine Hx.run 3 (pc' := 57) (L' := [some (vr 53), some (vi p), some (vi reach), some (vi b), some (vi q), some (vi (dc (lin (TV reach b) b q j))), some (vi ((j : Int) + 1)), some (vi (M 54 (q + ((j : Int) + 1))))]) (st' := [vi (-1), vi (M 54 (q + ((j : Int) + 1)))]) (M' := M) rfl ?_
          refine Hx.br (c := (M 54 (q + ((j : Int) + 1))) = (-1)) (t := 81) (f := 60) rfl (fun h3 => ?_) (fun h3 => ?_)
          · skip
            refine Hx.inc rfl rfl (by omega) ?_
            refine Hx.run 0 (pc' := 84) (L' := [some (vr 53), some (vi p), some (vi reach), some (vi b), some (vi q), some (vi (dc (lin (TV reach b) b q j))), some (vi (((j : Int) + 1) + 1)), some (vi (M 54 (q + ((j : Int) + 1))))]) (st' := []) (M' := M) rfl ?_
            refine Hx.run 1 (pc' := 26) (L' := [some (vr 53), some (vi p), some (vi reach), some (vi b), some (vi q), some (vi (dc (lin (TV reach b) b q j))), some (vi (((j : Int) + 1) + 1)), some (vi (M 54 (q + ((j : Int) + 1))))]) (st' := []) (M' := M) rfl ?_
            have e : dc (lin (TV reach b) b q (j + 1)) = (dc (lin (TV reach b) b q j)) := by
              rw [lin_succ, show min 11 (q + ((j : Int) + 1)) = q + ((j : Int) + 1) by omega]
              unfold hb at q84
              have d3 := dc_cases (TV reach b (q + ((j : Int) + 1)) + 1)
              split <;> omega
            have h9 := ih (j + 1) (some (vi (M 54 (q + ((j : Int) + 1))))) (by omega) (by omega)
            rw [e] at h9
            exact h9
          · skip
            refine Hx.run 2 (pc' := 63) (L' := [some (vr 53), some (vi p), some (vi reach), some (vi b), some (vi q), some (vi (dc (lin (TV reach b) b q j))), some (vi ((j : Int) + 1)), some (vi (M 54 (q + ((j : Int) + 1))))]) (st' := [vi (-1), vi (dc (lin (TV reach b) b q j))]) (M' := M) rfl ?_
            refine Hx.br (c := (dc (lin (TV reach b) b q j)) = (-1)) (t := 75) (f := 66) rfl (fun h4 => ?_) (fun h4 => ?_)
            · skip
              refine Hx.run 2 (pc' := 78) (L' := [some (vr 53), some (vi p), some (vi reach), some (vi b), some (vi q), some (vi (dc (lin (TV reach b) b q j))), some (vi ((j : Int) + 1)), some (vi (M 54 (q + ((j : Int) + 1))))]) (st' := [vi 1, vi (M 54 (q + ((j : Int) + 1)))]) (M' := M) rfl ?_
              refine Hx.add rfl (by omega) ?_
              refine Hx.run 1 (pc' := 81) (L' := [some (vr 53), some (vi p), some (vi reach), some (vi b), some (vi q), some (vi ((M 54 (q + ((j : Int) + 1))) + 1)), some (vi ((j : Int) + 1)), some (vi (M 54 (q + ((j : Int) + 1))))]) (st' := []) (M' := M) rfl ?_
              refine Hx.inc rfl rfl (by omega) ?_
              refine Hx.run 0 (pc' := 84) (L' := [some (vr 53), some (vi p), some (vi reach), some (vi b), some (vi q), some (vi ((M 54 (q + ((j : Int) + 1))) + 1)), some (vi (((j : Int) + 1) + 1)), some (vi (M 54 (q + ((j : Int) + 1))))]) (st' := []) (M' := M) rfl ?_
              refine Hx.run 1 (pc' := 26) (L' := [some (vr 53), some (vi p), some (vi reach), some (vi b), some (vi q), some (vi ((M 54 (q + ((j : Int) + 1))) + 1)), some (vi (((j : Int) + 1) + 1)), some (vi (M 54 (q + ((j : Int) + 1))))]) (st' := []) (M' := M) rfl ?_
              have e : dc (lin (TV reach b) b q (j + 1)) = ((M 54 (q + ((j : Int) + 1))) + 1) := by
                rw [lin_succ, show min 11 (q + ((j : Int) + 1)) = q + ((j : Int) + 1) by omega]
                unfold hb at q84
                have d3 := dc_cases (TV reach b (q + ((j : Int) + 1)) + 1)
                split <;> omega
              have h9 := ih (j + 1) (some (vi (M 54 (q + ((j : Int) + 1))))) (by omega) (by omega)
              rw [e] at h9
              exact h9
            · skip
              refine Hx.run 2 (pc' := 69) (L' := [some (vr 53), some (vi p), some (vi reach), some (vi b), some (vi q), some (vi (dc (lin (TV reach b) b q j))), some (vi ((j : Int) + 1)), some (vi (M 54 (q + ((j : Int) + 1))))]) (st' := [vi 1, vi (M 54 (q + ((j : Int) + 1)))]) (M' := M) rfl ?_
              refine Hx.add rfl (by omega) ?_
              refine Hx.run 1 (pc' := 72) (L' := [some (vr 53), some (vi p), some (vi reach), some (vi b), some (vi q), some (vi (dc (lin (TV reach b) b q j))), some (vi ((j : Int) + 1)), some (vi (M 54 (q + ((j : Int) + 1))))]) (st' := [vi (dc (lin (TV reach b) b q j)), vi ((M 54 (q + ((j : Int) + 1))) + 1)]) (M' := M) rfl ?_
              refine Hx.br (c := ((M 54 (q + ((j : Int) + 1))) + 1) < (dc (lin (TV reach b) b q j))) (t := 75) (f := 81) rfl (fun h5 => ?_) (fun h5 => ?_)
              · skip
                refine Hx.run 2 (pc' := 78) (L' := [some (vr 53), some (vi p), some (vi reach), some (vi b), some (vi q), some (vi (dc (lin (TV reach b) b q j))), some (vi ((j : Int) + 1)), some (vi (M 54 (q + ((j : Int) + 1))))]) (st' := [vi 1, vi (M 54 (q + ((j : Int) + 1)))]) (M' := M) rfl ?_
                refine Hx.add rfl (by omega) ?_
                refine Hx.run 1 (pc' := 81) (L' := [some (vr 53), some (vi p), some (vi reach), some (vi b), some (vi q), some (vi ((M 54 (q + ((j : Int) + 1))) + 1)), some (vi ((j : Int) + 1)), some (vi (M 54 (q + ((j : Int) + 1))))]) (st' := []) (M' := M) rfl ?_
                refine Hx.inc rfl rfl (by omega) ?_
                refine Hx.run 0 (pc' := 84) (L' := [some (vr 53), some (vi p), some (vi reach), some (vi b), some (vi q), some (vi ((M 54 (q + ((j : Int) + 1))) + 1)), some (vi (((j : Int) + 1) + 1)), some (vi (M 54 (q + ((j : Int) + 1))))]) (st' := []) (M' := M) rfl ?_
                refine Hx.run 1 (pc' := 26) (L' := [some (vr 53), some (vi p), some (vi reach), some (vi b), some (vi q), some (vi ((M 54 (q + ((j : Int) + 1))) + 1)), some (vi (((j : Int) + 1) + 1)), some (vi (M 54 (q + ((j : Int) + 1))))]) (st' := []) (M' := M) rfl ?_
                have e : dc (lin (TV reach b) b q (j + 1)) = ((M 54 (q + ((j : Int) + 1))) + 1) := by
                  rw [lin_succ, show min 11 (q + ((j : Int) + 1)) = q + ((j : Int) + 1) by omega]
                  unfold hb at q84
                  have d3 := dc_cases (TV reach b (q + ((j : Int) + 1)) + 1)
                  split <;> omega
                have h9 := ih (j + 1) (some (vi (M 54 (q + ((j : Int) + 1))))) (by omega) (by omega)
                rw [e] at h9
                exact h9
              · skip
                refine Hx.inc rfl rfl (by omega) ?_
                refine Hx.run 0 (pc' := 84) (L' := [some (vr 53), some (vi p), some (vi reach), some (vi b), some (vi q), some (vi (dc (lin (TV reach b) b q j))), some (vi (((j : Int) + 1) + 1)), some (vi (M 54 (q + ((j : Int) + 1))))]) (st' := []) (M' := M) rfl ?_
                refine Hx.run 1 (pc' := 26) (L' := [some (vr 53), some (vi p), some (vi reach), some (vi b), some (vi q), some (vi (dc (lin (TV reach b) b q j))), some (vi (((j : Int) + 1) + 1)), some (vi (M 54 (q + ((j : Int) + 1))))]) (st' := []) (M' := M) rfl ?_
                have e : dc (lin (TV reach b) b q (j + 1)) = (dc (lin (TV reach b) b q j)) := by
                  rw [lin_succ, show min 11 (q + ((j : Int) + 1)) = q + ((j : Int) + 1) by omega]
                  unfold hb at q84
                  have d3 := dc_cases (TV reach b (q + ((j : Int) + 1)) + 1)
                  split <;> omega
                have h9 := ih (j + 1) (some (vi (M 54 (q + ((j : Int) + 1))))) (by omega) (by omega)
                rw [e] at h9
                exact h9
set_option maxRecDepth 100000 in
theorem cl_few2_53 (p reach b : Int) (M : Mm) (hp : 0 ≤ p ∧ p ≤ 11) (hre : 1 ≤ reach ∧ reach ≤ 5) (hb0 : 0 ≤ b ∧ b < 2048) : ∀ (kk : Nat) (n : Nat) (F : Int → Int) (j5 : Option PV) (j6 : Option PV) (j7 : Option PV), (n : Int) ≤ 11 - p → (∀ x, 10 - (n : Int) < x → x ≤ 11 → F x = dc (TV reach b x)) → 11 - (n : Int) < (kk : Int) → Hx 0 14 [some (vr 53), some (vi p), some (vi reach), some (vi b), some (vi (10 - (n : Int))), j5, j6, j7] [] (sr M 54 F) (fun q0 M' => q0 = some (vi (dc (TV reach b p))) ∧ ∃ F' : Int → Int, (∀ x, p ≤ x → x ≤ 11 → F' x = dc (TV reach b x)) ∧ sr M 54 F' = M') := by
  intro kk
  induction kk with
  | zero => intro n F j5 j6 j7 _ _ hkk; exact absurd hkk (by omega)
  | succ kk ih =>
    intro n F j5 j6 j7 hn hF hkk
    refine Hx.run 2 (pc' := 17) (L' := [some (vr 53), some (vi p), some (vi reach), some (vi b), some (vi (10 - (n : Int))), j5, j6, j7]) (st' := [vi p, vi (10 - (n : Int))]) (M' := (sr M 54 F)) rfl ?_
    refine Hx.br (c := (10 - (n : Int)) < p) (t := 104) (f := 20) rfl (fun h1 => ?_) (fun h1 => ?_)
    · skip
      refine Hx.run 3 (pc' := 109) (L' := [some (vr 53), some (vi p), some (vi reach), some (vi b), some (vi (10 - (n : Int))), j5, j6, j7]) (st' := [vi p, vr 54]) (M' := (sr M 54 F)) rfl ?_
      refine Hx.call (t := 121) (as := [vr 54, vi p]) (pc' := 112) (rest := []) rfl (c_at (r := 54) (n := 12) rfl (by decide) (i := p) (by omega) (sr M 54 F)) ?_
      rintro _ _ ⟨rfl, rfl⟩
      refine Hx.run 0 (pc' := 112) (L' := [some (vr 53), some (vi p), some (vi reach), some (vi b), some (vi (10 - (n : Int))), j5, j6, j7]) (st' := [vi ((sr M 54 F) 54 p)]) (M' := (sr M 54 F)) rfl ?_
      refine Hx.ret rfl ?_
      refine ⟨some_vi (by rw [sr_at]; exact hF p (by omega) (by omega)), F, fun x h1 h2 => hF x (by omega) h2, rfl⟩
    · skip
      refine Hx.run 4 (pc' := 26) (L' := [some (vr 53), some (vi p), some (vi reach), some (vi b), some (vi (10 - (n : Int))), some (vi (-1)), some (vi 1), j7]) (st' := []) (M' := (sr M 54 F)) rfl ?_
      have e0 : dc (lin (TV reach b) b (10 - (n : Int)) 0) = -1 := rfl
      have h0 := fun hk => cl_few1_53 p reach b (10 - (n : Int)) (sr M 54 F) (P := (fun q0 M' => q0 = some (vi (dc (TV reach b p))) ∧ ∃ F' : Int → Int, (∀ x, p ≤ x → x ≤ 11 → F' x = dc (TV reach b x)) ∧ sr M 54 F' = M')) hre hb0 (by omega) (by rw [sr_at]; exact hF) hk 20 0 j7 (by omega) (by omega)
      rw [e0] at h0
      refine h0 ?_
      intro jk jr
      refine Hx.run 4 (pc' := 95) (L' := [some (vr 53), some (vi p), some (vi reach), some (vi b), some (vi (10 - (n : Int))), some (vi (dc (TV reach b (10 - (n : Int))))), jk, jr]) (st' := [vi (dc (TV reach b (10 - (n : Int)))), vi (10 - (n : Int)), vr 54]) (M' := (sr M 54 F)) rfl ?_
      refine Hx.call (t := 122) (as := [vr 54, vi (10 - (n : Int)), vi (dc (TV reach b (10 - (n : Int))))]) (pc' := 98) (rest := []) rfl (c_put (r := 54) (n := 12) rfl (by decide) (i := (10 - (n : Int))) (by omega) (dc (TV reach b (10 - (n : Int)))) (sr M 54 F)) ?_
      rintro _ _ ⟨rfl, rfl⟩
      refine Hx.run 0 (pc' := 98) (L' := [some (vr 53), some (vi p), some (vi reach), some (vi b), some (vi (10 - (n : Int))), some (vi (dc (TV reach b (10 - (n : Int))))), jk, jr]) (st' := []) (M' := (up (sr M 54 F) 54 (10 - (n : Int)) (dc (TV reach b (10 - (n : Int)))))) rfl ?_
      refine Hx.inc rfl rfl (by omega) ?_
      refine Hx.run 0 (pc' := 101) (L' := [some (vr 53), some (vi p), some (vi reach), some (vi b), some (vi ((10 - (n : Int)) + (-1))), some (vi (dc (TV reach b (10 - (n : Int))))), jk, jr]) (st' := []) (M' := (up (sr M 54 F) 54 (10 - (n : Int)) (dc (TV reach b (10 - (n : Int)))))) rfl ?_
      refine Hx.run 1 (pc' := 14) (L' := [some (vr 53), some (vi p), some (vi reach), some (vi b), some (vi ((10 - (n : Int)) + (-1))), some (vi (dc (TV reach b (10 - (n : Int))))), jk, jr]) (st' := []) (M' := (up (sr M 54 F) 54 (10 - (n : Int)) (dc (TV reach b (10 - (n : Int)))))) rfl ?_
      rw [sr_up]
      have h9 := ih (n + 1) (st1 F (10 - (n : Int)) (dc (TV reach b (10 - (n : Int))))) (some (vi (dc (TV reach b (10 - (n : Int)))))) jk jr (by omega) (fun x h1 h2 => by
        by_cases hx : x = 10 - (n : Int)
        · rw [hx, st1_at]
        · rw [st1_ne hx]; exact hF x (by omega) h2) (by omega)
      rw [show (10 - ((n + 1 : Nat) : Int)) = 10 - (n : Int) + (-1) by omega] at h9
      exact h9
set_option maxRecDepth 100000 in
theorem c_fewestFrom_53 (p reach b : Int) (M : Mm) (hp : 0 ≤ p ∧ p ≤ 11) (hre : 1 ≤ reach ∧ reach ≤ 5) (hb0 : 0 ≤ b ∧ b < 2048) : Ct 0 [vr 53, vi p, vi reach, vi b] M (fun q0 M' => q0 = some (vi (dc (TV reach b p))) ∧ ∃ F' : Int → Int, (∀ x, p ≤ x → x ≤ 11 → F' x = dc (TV reach b x)) ∧ sr M 54 F' = M') := by
  refine Hx.run 4 (pc' := 7) (L' := [some (vr 53), some (vi p), some (vi reach), some (vi b), none, none, none, none]) (st' := [vi 0, vi 11, vr 54]) (M' := M) rfl ?_
  refine Hx.call (t := 122) (as := [vr 54, vi 11, vi 0]) (pc' := 10) (rest := []) rfl (c_put (r := 54) (n := 12) rfl (by decide) (i := 11) (by omega) 0 M) ?_
  rintro _ _ ⟨rfl, rfl⟩
  refine Hx.run 0 (pc' := 10) (L' := [some (vr 53), some (vi p), some (vi reach), some (vi b), none, none, none, none]) (st' := []) (M' := (up M 54 11 0)) rfl ?_
  refine Hx.run 2 (pc' := 14) (L' := [some (vr 53), some (vi p), some (vi reach), some (vi b), some (vi 10), none, none, none]) (st' := []) (M' := (up M 54 11 0)) rfl ?_
  have h0 := cl_few2_53 p reach b M hp hre hb0 20 0 (st1 (M 54) 11 0) none none none (by omega) (fun x h1 h2 => by
    have e : x = 11 := by omega
    rw [e, st1_at, TV_11]; rfl) (by omega)
  rw [← sr_up, sr_self] at h0
  exact h0
set_option maxRecDepth 100000 in
theorem cl_few1_56 (p reach b q : Int) (M : Mm) (hre : 1 ≤ reach ∧ reach ≤ 5) (hb0 : 0 ≤ b ∧ b < 2048) (hq : 0 ≤ q ∧ q ≤ 10) (hF : ∀ x, q < x → x ≤ 11 → M 57 x = dc (TV reach b x)) {P : Option PV → Mm → Prop} (hk : ∀ jk jr : Option PV, Hx 0 87 [some (vr 56), some (vi p), some (vi reach), some (vi b), some (vi q), some (vi (dc (TV reach b q))), jk, jr] [] M P) : ∀ (kk : Nat) (j : Nat) (jr : Option PV), (j : Int) ≤ reach ∧ (j : Int) ≤ 11 - q → 11 - q - j < (kk : Int) → Hx 0 26 [some (vr 56), some (vi p), some (vi reach), some (vi b), some (vi q), some (vi (dc (lin (TV reach b) b q j))), some (vi ((j : Int) + 1)), jr] [] M P := by
  intro kk
  induction kk with
  | zero => intro j jr _ hkk; exact absurd hkk (by omega)
  | succ kk ih =>
    intro j jr hj hkk
    have hl := lin_rng hq (A := TV reach b) (b := b) (fun x h1 h2 => TV_rng (by omega) h2) j
    have d2 := dc_cases (lin (TV reach b) b q j)
    have d1 := dc_cases (TV reach b (q + ((j : Int) + 1)))
    have hF1 : q + ((j : Int) + 1) ≤ 11 → M 57 (q + ((j : Int) + 1)) = dc (TV reach b (q + ((j : Int) + 1))) := fun h => hF _ (by omega) h
    have hT1 : q + ((j : Int) + 1) ≤ 11 → TV reach b (q + ((j : Int) + 1)) = 1000000 ∨ (0 ≤ TV reach b (q + ((j : Int) + 1)) ∧ TV reach b (q + ((j : Int) + 1)) ≤ 11 - (q + ((j : Int) + 1))) := fun h => TV_fin (by omega) h
    refine Hx.run 2 (pc' := 29) (L' := [some (vr 56), some (vi p), some (vi reach), some (vi b), some (vi q), some (vi (dc (lin (TV reach b) b q j))), some (vi ((j : Int) + 1)), jr]) (st' := [vi reach, vi ((j : Int) + 1)]) (M' := M) rfl ?_
    refine Hx.br (c := reach < ((j : Int) + 1)) (t := 87) (f := 32) rfl (fun h1 => ?_) (fun h1 => ?_)
    · skip
      refine Hx.run 0 (pc' := 87) (L' := [some (vr 56), some (vi p), some (vi reach), some (vi b), some (vi q), some (vi (dc (lin (TV reach b) b q j))), some (vi ((j : Int) + 1)), jr]) (st' := []) (M' := M) rfl ?_
      have e : lin (TV reach b) b q j = TV reach b q := by
        rw [TV_eq hq]
        first
          | (rw [show j = reach.toNat by omega]; done)
          | (rw [lin_top hb0 hq j (by omega), lin_top hb0 hq reach.toNat (by omega)])
      rw [e]
      exact hk _ _
    · skip
      refine Hx.run 2 (pc' := 36) (L' := [some (vr 56), some (vi p), some (vi reach), some (vi b), some (vi q), some (vi (dc (lin (TV reach b) b q j))), some (vi ((j : Int) + 1)), jr]) (st' := [vi ((j : Int) + 1), vi q]) (M' := M) rfl ?_
      refine Hx.add rfl (by omega) ?_
      refine Hx.run 1 (pc' := 39) (L' := [some (vr 56), some (vi p), some (vi reach), some (vi b), some (vi q), some (vi (dc (lin (TV reach b) b q j))), some (vi ((j : Int) + 1)), jr]) (st' := [vi 11, vi (q + ((j : Int) + 1))]) (M' := M) rfl ?_
      refine Hx.br (c := 11 < (q + ((j : Int) + 1))) (t := 87) (f := 42) rfl (fun h2 => ?_) (fun h2 => ?_)
      · skip
        refine Hx.run 0 (pc' := 87) (L' := [some (vr 56), some (vi p), some (vi reach), some (vi b), some (vi q), some (vi (dc (lin (TV reach b) b q j))), some (vi ((j : Int) + 1)), jr]) (st' := []) (M' := M) rfl ?_
        have e : lin (TV reach b) b q j = TV reach b q := by
          rw [TV_eq hq]
          first
            | (rw [show j = reach.toNat by omega]; done)
            | (rw [lin_top hb0 hq j (by omega), lin_top hb0 hq reach.toNat (by omega)])
        rw [e]
        exact hk _ _
      · skip
        refine Hx.run 3 (pc' := 47) (L' := [some (vr 56), some (vi p), some (vi reach), some (vi b), some (vi q), some (vi (dc (lin (TV reach b) b q j))), some (vi ((j : Int) + 1)), jr]) (st' := [vi ((j : Int) + 1), vi q, vr 56]) (M' := M) rfl ?_
        refine Hx.add rfl (by omega) ?_
        refine Hx.run 1 (pc' := 49) (L' := [some (vr 56), some (vi p), some (vi reach), some (vi b), some (vi q), some (vi (dc (lin (TV reach b) b q j))), some (vi ((j : Int) + 1)), jr]) (st' := [vi b, vi (q + ((j : Int) + 1)), vr 56]) (M' := M) rfl ?_
        refine Hx.call (t := 1) (as := [vr 56, vi (q + ((j : Int) + 1)), vi b]) (pc' := 52) (rest := []) rfl (c_restBehind_56 (q + ((j : Int) + 1)) b M (by omega) (by omega)) ?_
        rintro _ _ (⟨q85, rfl, rfl⟩ | ⟨q85, rfl, rfl⟩)
        · skip
          refine Hx.run 4 (pc' := 81) (L' := [some (vr 56), some (vi p), some (vi reach), some (vi b), some (vi q), some (vi (dc (lin (TV reach b) b q j))), some (vi ((j : Int) + 1)), some (vi (-1))]) (st' := []) (M' := M) rfl ?_
          refine Hx.inc rfl rfl (by omega) ?_
          refine Hx.run 0 (pc' := 84) (L' := [some (vr 56), some (vi p), some (vi reach), some (vi b), some (vi q), some (vi (dc (lin (TV reach b) b q j))), some (vi (((j : Int) + 1) + 1)), some (vi (-1))]) (st' := []) (M' := M) rfl ?_
          refine Hx.run 1 (pc' := 26) (L' := [some (vr 56), some (vi p), some (vi reach), some (vi b), some (vi q), some (vi (dc (lin (TV reach b) b q j))), some (vi (((j : Int) + 1) + 1)), some (vi (-1))]) (st' := []) (M' := M) rfl ?_
          have e : dc (lin (TV reach b) b q (j + 1)) = (dc (lin (TV reach b) b q j)) := by
            rw [lin_succ, show min 11 (q + ((j : Int) + 1)) = q + ((j : Int) + 1) by omega]
            unfold hb at q85
            have d3 := dc_cases (TV reach b (q + ((j : Int) + 1)) + 1)
            split <;> omega
          have h9 := ih (j + 1) (some (vi (-1))) (by omega) (by omega)
          rw [e] at h9
          exact h9
        · skip
          refine Hx.run 3 (pc' := 57) (L' := [some (vr 56), some (vi p), some (vi reach), some (vi b), some (vi q), some (vi (dc (lin (TV reach b) b q j))), some (vi ((j : Int) + 1)), some (vi (M 57 (q + ((j : Int) + 1))))]) (st' := [vi (-1), vi (M 57 (q + ((j : Int) + 1)))]) (M' := M) rfl ?_
          refine Hx.br (c := (M 57 (q + ((j : Int) + 1))) = (-1)) (t := 81) (f := 60) rfl (fun h3 => ?_) (fun h3 => ?_)
          · skip
            refine Hx.inc rfl rfl (by omega) ?_
            refine Hx.run 0 (pc' := 84) (L' := [some (vr 56), some (vi p), some (vi reach), some (vi b), some (vi q), some (vi (dc (lin (TV reach b) b q j))), some (vi (((j : Int) + 1) + 1)), some (vi (M 57 (q + ((j : Int) + 1))))]) (st' := []) (M' := M) rfl ?_
            refine Hx.run 1 (pc' := 26) (L' := [some (vr 56), some (vi p), some (vi reach), some (vi b), some (vi q), some (vi (dc (lin (TV reach b) b q j))), some (vi (((j : Int) + 1) + 1)), some (vi (M 57 (q + ((j : Int) + 1))))]) (st' := []) (M' := M) rfl ?_
            have e : dc (lin (TV reach b) b q (j + 1)) = (dc (lin (TV reach b) b q j)) := by
              rw [lin_succ, show min 11 (q + ((j : Int) + 1)) = q + ((j : Int) + 1) by omega]
              unfold hb at q85
              have d3 := dc_cases (TV reach b (q + ((j : Int) + 1)) + 1)
              split <;> omega
            have h9 := ih (j + 1) (some (vi (M 57 (q + ((j : Int) + 1))))) (by omega) (by omega)
            rw [e] at h9
            exact h9
          · skip
            refine Hx.run 2 (pc' := 63) (L' := [some (vr 56), some (vi p), some (vi reach), some (vi b), some (vi q), some (vi (dc (lin (TV reach b) b q j))), some (vi ((j : Int) + 1)), some (vi (M 57 (q + ((j : Int) + 1))))]) (st' := [vi (-1), vi (dc (lin (TV reach b) b q j))]) (M' := M) rfl ?_
            refine Hx.br (c := (dc (lin (TV reach b) b q j)) = (-1)) (t := 75) (f := 66) rfl (fun h4 => ?_) (fun h4 => ?_)
            · skip
              refine Hx.run 2 (pc' := 78) (L' := [some (vr 56), some (vi p), some (vi reach), some (vi b), some (vi q), some (vi (dc (lin (TV reach b) b q j))), some (vi ((j : Int) + 1)), some (vi (M 57 (q + ((j : Int) + 1))))]) (st' := [vi 1, vi (M 57 (q + ((j : Int) + 1)))]) (M' := M) rfl ?_
              refine Hx.add rfl (by omega) ?_
              refine Hx.run 1 (pc' := 81) (L' := [some (vr 56), some (vi p), some (vi reach), some (vi b), some (vi q), some (vi ((M 57 (q + ((j : Int) + 1))) + 1)), some (vi ((j : Int) + 1)), some (vi (M 57 (q + ((j : Int) + 1))))]) (st' := []) (M' := M) rfl ?_
              refine Hx.inc rfl rfl (by omega) ?_
              refine Hx.run 0 (pc' := 84) (L' := [some (vr 56), some (vi p), some (vi reach), some (vi b), some (vi q), some (vi ((M 57 (q + ((j : Int) + 1))) + 1)), some (vi (((j : Int) + 1) + 1)), some (vi (M 57 (q + ((j : Int) + 1))))]) (st' := []) (M' := M) rfl ?_
              refine Hx.run 1 (pc' := 26) (L' := [some (vr 56), some (vi p), some (vi reach), some (vi b), some (vi q), some (vi ((M 57 (q + ((j : Int) + 1))) + 1)), some (vi (((j : Int) + 1) + 1)), some (vi (M 57 (q + ((j : Int) + 1))))]) (st' := []) (M' := M) rfl ?_
              have e : dc (lin (TV reach b) b q (j + 1)) = ((M 57 (q + ((j : Int) + 1))) + 1) := by
                rw [lin_succ, show min 11 (q + ((j : Int) + 1)) = q + ((j : Int) + 1) by omega]
                unfold hb at q85
                have d3 := dc_cases (TV reach b (q + ((j : Int) + 1)) + 1)
                split <;> omega
              have h9 := ih (j + 1) (some (vi (M 57 (q + ((j : Int) + 1))))) (by omega) (by omega)
              rw [e] at h9
              exact h9
            · skip
              refine Hx.run 2 (pc' := 69) (L' := [some (vr 56), some (vi p), some (vi reach), some (vi b), some (vi q), some (vi (dc (lin (TV reach b) b q j))), some (vi ((j : Int) + 1)), some (vi (M 57 (q + ((j : Int) + 1))))]) (st' := [vi 1, vi (M 57 (q + ((j : Int) + 1)))]) (M' := M) rfl ?_
              refine Hx.add rfl (by omega) ?_
              refine Hx.run 1 (pc' := 72) (L' := [some (vr 56), some (vi p), some (vi reach), some (vi b), some (vi q), some (vi (dc (lin (TV reach b) b q j))), some (vi ((j : Int) + 1)), some (vi (M 57 (q + ((j : Int) + 1))))]) (st' := [vi (dc (lin (TV reach b) b q j)), vi ((M 57 (q + ((j : Int) + 1))) + 1)]) (M' := M) rfl ?_
              refine Hx.br (c := ((M 57 (q + ((j : Int) + 1))) + 1) < (dc (lin (TV reach b) b q j))) (t := 75) (f := 81) rfl (fun h5 => ?_) (fun h5 => ?_)
              · skip
                refine Hx.run 2 (pc' := 78) (L' := [some (vr 56), some (vi p), some (vi reach), some (vi b), some (vi q), some (vi (dc (lin (TV reach b) b q j))), some (vi ((j : Int) + 1)), some (vi (M 57 (q + ((j : Int) + 1))))]) (st' := [vi 1, vi (M 57 (q + ((j : Int) + 1)))]) (M' := M) rfl ?_
                refine Hx.add rfl (by omega) ?_
                refine Hx.run 1 (pc' := 81) (L' := [some (vr 56), some (vi p), some (vi reach), some (vi b), some (vi q), some (vi ((M 57 (q + ((j : Int) + 1))) + 1)), some (vi ((j : Int) + 1)), some (vi (M 57 (q + ((j : Int) + 1))))]) (st' := []) (M' := M) rfl ?_
                refine Hx.inc rfl rfl (by omega) ?_
                refine Hx.run 0 (pc' := 84) (L' := [some (vr 56), some (vi p), some (vi reach), some (vi b), some (vi q), some (vi ((M 57 (q + ((j : Int) + 1))) + 1)), some (vi (((j : Int) + 1) + 1)), some (vi (M 57 (q + ((j : Int) + 1))))]) (st' := []) (M' := M) rfl ?_
                refine Hx.run 1 (pc' := 26) (L' := [some (vr 56), some (vi p), some (vi reach), some (vi b), some (vi q), some (vi ((M 57 (q + ((j : Int) + 1))) + 1)), some (vi (((j : Int) + 1) + 1)), some (vi (M 57 (q + ((j : Int) + 1))))]) (st' := []) (M' := M) rfl ?_
                have e : dc (lin (TV reach b) b q (j + 1)) = ((M 57 (q + ((j : Int) + 1))) + 1) := by
                  rw [lin_succ, show min 11 (q + ((j : Int) + 1)) = q + ((j : Int) + 1) by omega]
                  unfold hb at q85
                  have d3 := dc_cases (TV reach b (q + ((j : Int) + 1)) + 1)
                  split <;> omega
                have h9 := ih (j + 1) (some (vi (M 57 (q + ((j : Int) + 1))))) (by omega) (by omega)
                rw [e] at h9
                exact h9
              · skip
                refine Hx.inc rfl rfl (by omega) ?_
                refine Hx.run 0 (pc' := 84) (L' := [some (vr 56), some (vi p), some (vi reach), some (vi b), some (vi q), some (vi (dc (lin (TV reach b) b q j))), some (vi (((j : Int) + 1) + 1)), some (vi (M 57 (q + ((j : Int) + 1))))]) (st' := []) (M' := M) rfl ?_
                refine Hx.run 1 (pc' := 26) (L' := [some (vr 56), some (vi p), some (vi reach), some (vi b), some (vi q), some (vi (dc (lin (TV reach b) b q j))), some (vi (((j : Int) + 1) + 1)), some (vi (M 57 (q + ((j : Int) + 1))))]) (st' := []) (M' := M) rfl ?_
                have e : dc (lin (TV reach b) b q (j + 1)) = (dc (lin (TV reach b) b q j)) := by
                  rw [lin_succ, show min 11 (q + ((j : Int) + 1)) = q + ((j : Int) + 1) by omega]
                  unfold hb at q85
                  have d3 := dc_cases (TV reach b (q + ((j : Int) + 1)) + 1)
                  split <;> omega
                have h9 := ih (j + 1) (some (vi (M 57 (q + ((j : Int) + 1))))) (by omega) (by omega)
                rw [e] at h9
                exact h9
set_option maxRecDepth 100000 in
theorem cl_few2_56 (p reach b : Int) (M : Mm) (hp : 0 ≤ p ∧ p ≤ 11) (hre : 1 ≤ reach ∧ reach ≤ 5) (hb0 : 0 ≤ b ∧ b < 2048) : ∀ (kk : Nat) (n : Nat) (F : Int → Int) (j5 : Option PV) (j6 : Option PV) (j7 : Option PV), (n : Int) ≤ 11 - p → (∀ x, 10 - (n : Int) < x → x ≤ 11 → F x = dc (TV reach b x)) → 11 - (n : Int) < (kk : Int) → Hx 0 14 [some (vr 56), some (vi p), some (vi reach), some (vi b), some (vi (10 - (n : Int))), j5, j6, j7] [] (sr M 57 F) (fun q0 M' => q0 = some (vi (dc (TV reach b p))) ∧ ∃ F' : Int → Int, (∀ x, p ≤ x → x ≤ 11 → F' x = dc (TV reach b x)) ∧ sr M 57 F' = M') := by
  intro kk
  induction kk with
  | zero => intro n F j5 j6 j7 _ _ hkk; exact absurd hkk (by omega)
  | succ kk ih =>
    intro n F j5 j6 j7 hn hF hkk
    refine Hx.run 2 (pc' := 17) (L' := [some (vr 56), some (vi p), some (vi reach), some (vi b), some (vi (10 - (n : Int))), j5, j6, j7]) (st' := [vi p, vi (10 - (n : Int))]) (M' := (sr M 57 F)) rfl ?_
    refine Hx.br (c := (10 - (n : Int)) < p) (t := 104) (f := 20) rfl (fun h1 => ?_) (fun h1 => ?_)
    · skip
      refine Hx.run 3 (pc' := 109) (L' := [some (vr 56), some (vi p), some (vi reach), some (vi b), some (vi (10 - (n : Int))), j5, j6, j7]) (st' := [vi p, vr 57]) (M' := (sr M 57 F)) rfl ?_
      refine Hx.call (t := 121) (as := [vr 57, vi p]) (pc' := 112) (rest := []) rfl (c_at (r := 57) (n := 12) rfl (by decide) (i := p) (by omega) (sr M 57 F)) ?_
      rintro _ _ ⟨rfl, rfl⟩
      refine Hx.run 0 (pc' := 112) (L' := [some (vr 56), some (vi p), some (vi reach), some (vi b), some (vi (10 - (n : Int))), j5, j6, j7]) (st' := [vi ((sr M 57 F) 57 p)]) (M' := (sr M 57 F)) rfl ?_
      refine Hx.ret rfl ?_
      refine ⟨some_vi (by rw [sr_at]; exact hF p (by omega) (by omega)), F, fun x h1 h2 => hF x (by omega) h2, rfl⟩
    · skip
      refine Hx.run 4 (pc' := 26) (L' := [some (vr 56), some (vi p), some (vi reach), some (vi b), some (vi (10 - (n : Int))), some (vi (-1)), some (vi 1), j7]) (st' := []) (M' := (sr M 57 F)) rfl ?_
      have e0 : dc (lin (TV reach b) b (10 - (n : Int)) 0) = -1 := rfl
      have h0 := fun hk => cl_few1_56 p reach b (10 - (n : Int)) (sr M 57 F) (P := (fun q0 M' => q0 = some (vi (dc (TV reach b p))) ∧ ∃ F' : Int → Int, (∀ x, p ≤ x → x ≤ 11 → F' x = dc (TV reach b x)) ∧ sr M 57 F' = M')) hre hb0 (by omega) (by rw [sr_at]; exact hF) hk 20 0 j7 (by omega) (by omega)
      rw [e0] at h0
      refine h0 ?_
      intro jk jr
      refine Hx.run 4 (pc' := 95) (L' := [some (vr 56), some (vi p), some (vi reach), some (vi b), some (vi (10 - (n : Int))), some (vi (dc (TV reach b (10 - (n : Int))))), jk, jr]) (st' := [vi (dc (TV reach b (10 - (n : Int)))), vi (10 - (n : Int)), vr 57]) (M' := (sr M 57 F)) rfl ?_
      refine Hx.call (t := 122) (as := [vr 57, vi (10 - (n : Int)), vi (dc (TV reach b (10 - (n : Int))))]) (pc' := 98) (rest := []) rfl (c_put (r := 57) (n := 12) rfl (by decide) (i := (10 - (n : Int))) (by omega) (dc (TV reach b (10 - (n : Int)))) (sr M 57 F)) ?_
      rintro _ _ ⟨rfl, rfl⟩
      refine Hx.run 0 (pc' := 98) (L' := [some (vr 56), some (vi p), some (vi reach), some (vi b), some (vi (10 - (n : Int))), some (vi (dc (TV reach b (10 - (n : Int))))), jk, jr]) (st' := []) (M' := (up (sr M 57 F) 57 (10 - (n : Int)) (dc (TV reach b (10 - (n : Int)))))) rfl ?_
      refine Hx.inc rfl rfl (by omega) ?_
      refine Hx.run 0 (pc' := 101) (L' := [some (vr 56), some (vi p), some (vi reach), some (vi b), some (vi ((10 - (n : Int)) + (-1))), some (vi (dc (TV reach b (10 - (n : Int))))), jk, jr]) (st' := []) (M' := (up (sr M 57 F) 57 (10 - (n : Int)) (dc (TV reach b (10 - (n : Int)))))) rfl ?_
      refine Hx.run 1 (pc' := 14) (L' := [some (vr 56), some (vi p), some (vi reach), some (vi b), some (vi ((10 - (n : Int)) + (-1))), some (vi (dc (TV reach b (10 - (n : Int))))), jk, jr]) (st' := []) (M' := (up (sr M 57 F) 57 (10 - (n : Int)) (dc (TV reach b (10 - (n : Int)))))) rfl ?_
      rw [sr_up]
      have h9 := ih (n + 1) (st1 F (10 - (n : Int)) (dc (TV reach b (10 - (n : Int))))) (some (vi (dc (TV reach b (10 - (n : Int)))))) jk jr (by omega) (fun x h1 h2 => by
        by_cases hx : x = 10 - (n : Int)
        · rw [hx, st1_at]
        · rw [st1_ne hx]; exact hF x (by omega) h2) (by omega)
      rw [show (10 - ((n + 1 : Nat) : Int)) = 10 - (n : Int) + (-1) by omega] at h9
      exact h9
set_option maxRecDepth 100000 in
theorem c_fewestFrom_56 (p reach b : Int) (M : Mm) (hp : 0 ≤ p ∧ p ≤ 11) (hre : 1 ≤ reach ∧ reach ≤ 5) (hb0 : 0 ≤ b ∧ b < 2048) : Ct 0 [vr 56, vi p, vi reach, vi b] M (fun q0 M' => q0 = some (vi (dc (TV reach b p))) ∧ ∃ F' : Int → Int, (∀ x, p ≤ x → x ≤ 11 → F' x = dc (TV reach b x)) ∧ sr M 57 F' = M') := by
  refine Hx.run 4 (pc' := 7) (L' := [some (vr 56), some (vi p), some (vi reach), some (vi b), none, none, none, none]) (st' := [vi 0, vi 11, vr 57]) (M' := M) rfl ?_
  refine Hx.call (t := 122) (as := [vr 57, vi 11, vi 0]) (pc' := 10) (rest := []) rfl (c_put (r := 57) (n := 12) rfl (by decide) (i := 11) (by omega) 0 M) ?_
  rintro _ _ ⟨rfl, rfl⟩
  refine Hx.run 0 (pc' := 10) (L' := [some (vr 56), some (vi p), some (vi reach), some (vi b), none, none, none, none]) (st' := []) (M' := (up M 57 11 0)) rfl ?_
  refine Hx.run 2 (pc' := 14) (L' := [some (vr 56), some (vi p), some (vi reach), some (vi b), some (vi 10), none, none, none]) (st' := []) (M' := (up M 57 11 0)) rfl ?_
  have h0 := cl_few2_56 p reach b M hp hre hb0 20 0 (st1 (M 57) 11 0) none none none (by omega) (fun x h1 h2 => by
    have e : x = 11 := by omega
    rw [e, st1_at, TV_11]; rfl) (by omega)
  rw [← sr_up, sr_self] at h0
  exact h0
