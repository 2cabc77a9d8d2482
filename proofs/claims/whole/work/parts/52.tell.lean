/-! tell of the reference (written by wip/whole/gen52.py) -/
set_option maxRecDepth 100000 in
set_option maxHeartbeats 4000000 in
theorem rl_tell1 (f : Int) (M : Mm) (hI : RI M 0) (hS : ∀ n : Int, 0 ≤ n → n < M 65 40 → (1 ≤ M 65 (41 + 4 * n + 1) ∧ M 65 (41 + 4 * n + 1) ≤ 10) ∧ (0 ≤ M 65 (41 + 4 * n + 2) ∧ M 65 (41 + 4 * n + 2) ≤ 23)) (hf : 0 ≤ f ∧ f < M 65 0) (b l s t : Int) (hs : 1 ≤ s ∧ s ≤ 10) (ht : 0 ≤ t ∧ t < 24) {P : Option PV → Mm → Prop} (hk : ∀ j10 : Option PV, Hx 196 143 [some (vr 64), some (vi f), some (vi (bS (gR M f) 11)), some (vi b), some (vi l), some (vi s), some (vi t), some (vi (sS (tlY (gR M f) (M 65 (4 + f)) s t) 11)), some (vi (sS (tlN (gR M f) (M 65 (4 + f)) s t) 11)), some (vi 11), j10] [] M P) : ∀ (kk : Nat) (n : Nat) (j10 : Option PV), n ≤ 10 → 10 - (n : Int) < (kk : Int) → Hx 196 60 [some (vr 64), some (vi f), some (vi (bS (gR M f) 11)), some (vi b), some (vi l), some (vi s), some (vi t), some (vi (sS (tlY (gR M f) (M 65 (4 + f)) s t) (n + 1))), some (vi (sS (tlN (gR M f) (M 65 (4 + f)) s t) (n + 1))), some (vi ((n : Int) + 1)), j10] [] M P := by
  intro kk
  induction kk with
  | zero => intro n j10 _ hkk; exact absurd hkk (by omega)
  | succ kk ih =>
    intro n j10 hn hkk
    obtain ⟨r0, r1, r2, r3, r40, r61, r80, r111, rF, rG⟩ := (show (0 ≤ M 65 0 ∧ M 65 0 ≤ 3) ∧ (0 ≤ M 65 1 ∧ M 65 1 ≤ 6) ∧ (0 ≤ M 65 2 ∧ M 65 2 ≤ 9999) ∧ (0 ≤ M 65 3 ∧ M 65 3 ≤ 9000) ∧ (0 ≤ M 65 40 ∧ M 65 40 ≤ 5) ∧ (0 ≤ M 65 61 ∧ M 65 61 ≤ 6) ∧ (0 ≤ M 65 80 ∧ M 65 80 ≤ 6) ∧ (0 ≤ M 65 111 ∧ M 65 111 ≤ 8) ∧ (∀ f : Int, 0 ≤ f → f < M 65 0 → (0 ≤ M 65 (4 + f) ∧ M 65 (4 + f) ≤ 5) ∧ (1 ≤ M 65 (7 + f) ∧ M 65 (7 + f) ≤ 10)) ∧ (∀ i : Int, 0 ≤ i → i < M 65 1 → (0 ≤ M 65 (10 + i) ∧ M 65 (10 + i) ≤ 5) ∧ (1 ≤ M 65 (16 + i) ∧ M 65 (16 + i) ≤ 4) ∧ (0 ≤ M 65 (22 + i) ∧ M 65 (22 + i) < M 65 0) ∧ (0 ≤ M 65 (28 + i) ∧ M 65 (28 + i) ≤ 11) ∧ (0 ≤ M 65 (34 + i) ∧ M 65 (34 + i) ≤ 9)) from hI)
    have gF := rF f (by omega) (by omega)
    have bq := bcF_rng (k := (M 65 (4 + f))) (t := t)
    have q5 := tlY_rng (gR M f) (M 65 (4 + f)) s t (n + 1)
    have q6 := tlN_rng (gR M f) (M 65 (4 + f)) s t (n + 1)
    refine Hx.run 2 (pc' := 64) (L' := [some (vr 64), some (vi f), some (vi (bS (gR M f) 11)), some (vi b), some (vi l), some (vi s), some (vi t), some (vi (sS (tlY (gR M f) (M 65 (4 + f)) s t) (n + 1))), some (vi (sS (tlN (gR M f) (M 65 (4 + f)) s t) (n + 1))), some (vi ((n : Int) + 1)), j10]) (st' := [vi 10, vi ((n : Int) + 1)]) (M' := M) rfl ?_
    refine Hx.br (c := 10 < ((n : Int) + 1)) (t := 143) (f := 67) rfl (fun h1 => ?_) (fun h1 => ?_)
    · skip
      refine Hx.run 0 (pc' := 143) (L' := [some (vr 64), some (vi f), some (vi (bS (gR M f) 11)), some (vi b), some (vi l), some (vi s), some (vi t), some (vi (sS (tlY (gR M f) (M 65 (4 + f)) s t) (n + 1))), some (vi (sS (tlN (gR M f) (M 65 (4 + f)) s t) (n + 1))), some (vi ((n : Int) + 1)), j10]) (st' := []) (M' := M) rfl ?_
      have e : n = 10 := by omega
      subst e
      exact hk j10
    · skip
      refine Hx.run 4 (pc' := 73) (L' := [some (vr 64), some (vi f), some (vi (bS (gR M f) 11)), some (vi b), some (vi l), some (vi s), some (vi t), some (vi (sS (tlY (gR M f) (M 65 (4 + f)) s t) (n + 1))), some (vi (sS (tlN (gR M f) (M 65 (4 + f)) s t) (n + 1))), some (vi ((n : Int) + 1)), j10]) (st' := [vi f, vi 4, vr 65]) (M' := M) rfl ?_
      refine Hx.add rfl (by omega) ?_
      refine Hx.aldI (n := 1032) rfl rfl (by omega) ?_
      refine Hx.run 2 (pc' := 79) (L' := [some (vr 64), some (vi f), some (vi (bS (gR M f) 11)), some (vi b), some (vi l), some (vi s), some (vi t), some (vi (sS (tlY (gR M f) (M 65 (4 + f)) s t) (n + 1))), some (vi (sS (tlN (gR M f) (M 65 (4 + f)) s t) (n + 1))), some (vi ((n : Int) + 1)), j10]) (st' := [vi t, vi ((n : Int) + 1), vi (M 65 (4 + f))]) (M' := M) rfl ?_
      refine Hx.call (t := 145) (as := [vi (M 65 (4 + f)), vi ((n : Int) + 1), vi t]) (pc' := 82) (rest := []) rfl (r_barsFrom (M 65 (4 + f)) ((n : Int) + 1) t M (by omega) (by omega) (by omega)) ?_
      rintro _ _ ⟨rfl, rfl⟩
      refine Hx.run 0 (pc' := 82) (L' := [some (vr 64), some (vi f), some (vi (bS (gR M f) 11)), some (vi b), some (vi l), some (vi s), some (vi t), some (vi (sS (tlY (gR M f) (M 65 (4 + f)) s t) (n + 1))), some (vi (sS (tlN (gR M f) (M 65 (4 + f)) s t) (n + 1))), some (vi ((n : Int) + 1)), j10]) (st' := [vi (bb ((n : Int) + 1) (bcF (M 65 (4 + f)) t))]) (M' := M) rfl ?_
      refine Hx.run 1 (pc' := 84) (L' := [some (vr 64), some (vi f), some (vi (bS (gR M f) 11)), some (vi b), some (vi l), some (vi s), some (vi t), some (vi (sS (tlY (gR M f) (M 65 (4 + f)) s t) (n + 1))), some (vi (sS (tlN (gR M f) (M 65 (4 + f)) s t) (n + 1))), some (vi ((n : Int) + 1)), j10]) (st' := [vi s, vi (bb ((n : Int) + 1) (bcF (M 65 (4 + f)) t))]) (M' := M) rfl ?_
      refine Hx.call (t := 131) (as := [vi (bb ((n : Int) + 1) (bcF (M 65 (4 + f)) t)), vi s]) (pc' := 87) (rest := []) rfl (r_hasBB ((n : Int) + 1) (bcF (M 65 (4 + f)) t) s M (by omega) (by omega) (by omega)) ?_
      rintro _ _ (⟨q110, rfl, rfl⟩ | ⟨q110, rfl, rfl⟩)
      · skip
        refine Hx.run 4 (pc' := 94) (L' := [some (vr 64), some (vi f), some (vi (bS (gR M f) 11)), some (vi b), some (vi l), some (vi s), some (vi t), some (vi (sS (tlY (gR M f) (M 65 (4 + f)) s t) (n + 1))), some (vi (sS (tlN (gR M f) (M 65 (4 + f)) s t) (n + 1))), some (vi ((n : Int) + 1)), some (vi 1)]) (st' := [vi ((n : Int) + 1), vi (bS (gR M f) 11), vi (sS (tlY (gR M f) (M 65 (4 + f)) s t) (n + 1))]) (M' := M) rfl ?_
        refine Hx.call (t := 131) (as := [vi (bS (gR M f) 11), vi ((n : Int) + 1)]) (pc' := 97) (rest := [vi (sS (tlY (gR M f) (M 65 (4 + f)) s t) (n + 1))]) rfl (by rw [show ((n : Int) + 1) = ((((n + 1) : Nat)) : Int) from rfl]; exact r_hasBS (gR M f) 11 (n + 1) M (by omega) (by omega)) ?_
        rintro _ _ (⟨q111, rfl, rfl⟩ | ⟨q111, rfl, rfl⟩)
        · skip
          refine Hx.run 5 (pc' := 110) (L' := [some (vr 64), some (vi f), some (vi (bS (gR M f) 11)), some (vi b), some (vi l), some (vi s), some (vi t), some (vi (sS (tlY (gR M f) (M 65 (4 + f)) s t) (n + 1))), some (vi (sS (tlN (gR M f) (M 65 (4 + f)) s t) (n + 1))), some (vi ((n : Int) + 1)), some (vi 1)]) (st' := [vi 1, vi (sS (tlY (gR M f) (M 65 (4 + f)) s t) (n + 1))]) (M' := M) rfl ?_
          refine Hx.add rfl (by omega) ?_
          refine Hx.run 4 (pc' := 118) (L' := [some (vr 64), some (vi f), some (vi (bS (gR M f) 11)), some (vi b), some (vi l), some (vi s), some (vi t), some (vi ((sS (tlY (gR M f) (M 65 (4 + f)) s t) (n + 1)) + 1)), some (vi (sS (tlN (gR M f) (M 65 (4 + f)) s t) (n + 1))), some (vi ((n : Int) + 1)), some (vi 1)]) (st' := [vi ((n : Int) + 1), vi (bS (gR M f) 11), vi (sS (tlN (gR M f) (M 65 (4 + f)) s t) (n + 1))]) (M' := M) rfl ?_
          refine Hx.call (t := 131) (as := [vi (bS (gR M f) 11), vi ((n : Int) + 1)]) (pc' := 121) (rest := [vi (sS (tlN (gR M f) (M 65 (4 + f)) s t) (n + 1))]) rfl (by rw [show ((n : Int) + 1) = ((((n + 1) : Nat)) : Int) from rfl]; exact r_hasBS (gR M f) 11 (n + 1) M (by omega) (by omega)) ?_
          rintro _ _ (⟨q112, rfl, rfl⟩ | ⟨q112, rfl, rfl⟩)
          · skip
            refine Hx.run 4 (pc' := 134) (L' := [some (vr 64), some (vi f), some (vi (bS (gR M f) 11)), some (vi b), some (vi l), some (vi s), some (vi t), some (vi ((sS (tlY (gR M f) (M 65 (4 + f)) s t) (n + 1)) + 1)), some (vi (sS (tlN (gR M f) (M 65 (4 + f)) s t) (n + 1))), some (vi ((n : Int) + 1)), some (vi 1)]) (st' := [vi 0, vi (sS (tlN (gR M f) (M 65 (4 + f)) s t) (n + 1))]) (M' := M) rfl ?_
            refine Hx.add rfl (by omega) ?_
            refine Hx.run 1 (pc' := 137) (L' := [some (vr 64), some (vi f), some (vi (bS (gR M f) 11)), some (vi b), some (vi l), some (vi s), some (vi t), some (vi ((sS (tlY (gR M f) (M 65 (4 + f)) s t) (n + 1)) + 1)), some (vi ((sS (tlN (gR M f) (M 65 (4 + f)) s t) (n + 1)) + 0)), some (vi ((n : Int) + 1)), some (vi 1)]) (st' := []) (M' := M) rfl ?_
            refine Hx.inc rfl rfl (by omega) ?_
            refine Hx.run 0 (pc' := 140) (L' := [some (vr 64), some (vi f), some (vi (bS (gR M f) 11)), some (vi b), some (vi l), some (vi s), some (vi t), some (vi ((sS (tlY (gR M f) (M 65 (4 + f)) s t) (n + 1)) + 1)), some (vi ((sS (tlN (gR M f) (M 65 (4 + f)) s t) (n + 1)) + 0)), some (vi (((n : Int) + 1) + 1)), some (vi 1)]) (st' := []) (M' := M) rfl ?_
            refine Hx.run 1 (pc' := 60) (L' := [some (vr 64), some (vi f), some (vi (bS (gR M f) 11)), some (vi b), some (vi l), some (vi s), some (vi t), some (vi ((sS (tlY (gR M f) (M 65 (4 + f)) s t) (n + 1)) + 1)), some (vi ((sS (tlN (gR M f) (M 65 (4 + f)) s t) (n + 1)) + 0)), some (vi (((n : Int) + 1) + 1)), some (vi 1)]) (st' := []) (M' := M) rfl ?_
            have e1 : sS (tlY (gR M f) (M 65 (4 + f)) s t) (n + 1 + 1) = ((sS (tlY (gR M f) (M 65 (4 + f)) s t) (n + 1)) + 1) := by
              rw [sS_succ]
              first
                | contradiction
                | rw [tlY_1 (by assumption) (by omega)]
                | (rw [tlY_0 (by assumption)] <;> omega)
                | (rw [tlY_n (by omega)] <;> omega)
            have e2 : sS (tlN (gR M f) (M 65 (4 + f)) s t) (n + 1 + 1) = ((sS (tlN (gR M f) (M 65 (4 + f)) s t) (n + 1)) + 0) := by
              rw [sS_succ]
              first
                | contradiction
                | rw [tlN_1 (by assumption) (by omega)]
                | (rw [tlN_0 (by assumption)] <;> omega)
                | (rw [tlN_n (by omega)] <;> omega)
            have h9 := ih (n + 1) (some (vi 1)) (by omega) (by omega)
            rw [e1, e2] at h9
            exact h9
          · skip
            refine Hx.run 2 (pc' := 134) (L' := [some (vr 64), some (vi f), some (vi (bS (gR M f) 11)), some (vi b), some (vi l), some (vi s), some (vi t), some (vi ((sS (tlY (gR M f) (M 65 (4 + f)) s t) (n + 1)) + 1)), some (vi (sS (tlN (gR M f) (M 65 (4 + f)) s t) (n + 1))), some (vi ((n : Int) + 1)), some (vi 1)]) (st' := [vi 0, vi (sS (tlN (gR M f) (M 65 (4 + f)) s t) (n + 1))]) (M' := M) rfl ?_
            refine Hx.add rfl (by omega) ?_
            refine Hx.run 1 (pc' := 137) (L' := [some (vr 64), some (vi f), some (vi (bS (gR M f) 11)), some (vi b), some (vi l), some (vi s), some (vi t), some (vi ((sS (tlY (gR M f) (M 65 (4 + f)) s t) (n + 1)) + 1)), some (vi ((sS (tlN (gR M f) (M 65 (4 + f)) s t) (n + 1)) + 0)), some (vi ((n : Int) + 1)), some (vi 1)]) (st' := []) (M' := M) rfl ?_
            refine Hx.inc rfl rfl (by omega) ?_
            refine Hx.run 0 (pc' := 140) (L' := [some (vr 64), some (vi f), some (vi (bS (gR M f) 11)), some (vi b), some (vi l), some (vi s), some (vi t), some (vi ((sS (tlY (gR M f) (M 65 (4 + f)) s t) (n + 1)) + 1)), some (vi ((sS (tlN (gR M f) (M 65 (4 + f)) s t) (n + 1)) + 0)), some (vi (((n : Int) + 1) + 1)), some (vi 1)]) (st' := []) (M' := M) rfl ?_
            refine Hx.run 1 (pc' := 60) (L' := [some (vr 64), some (vi f), some (vi (bS (gR M f) 11)), some (vi b), some (vi l), some (vi s), some (vi t), some (vi ((sS (tlY (gR M f) (M 65 (4 + f)) s t) (n + 1)) + 1)), some (vi ((sS (tlN (gR M f) (M 65 (4 + f)) s t) (n + 1)) + 0)), some (vi (((n : Int) + 1) + 1)), some (vi 1)]) (st' := []) (M' := M) rfl ?_
            have e1 : sS (tlY (gR M f) (M 65 (4 + f)) s t) (n + 1 + 1) = ((sS (tlY (gR M f) (M 65 (4 + f)) s t) (n + 1)) + 1) := by
              rw [sS_succ]
              first
                | contradiction
                | rw [tlY_1 (by assumption) (by omega)]
                | (rw [tlY_0 (by assumption)] <;> omega)
                | (rw [tlY_n (by omega)] <;> omega)
            have e2 : sS (tlN (gR M f) (M 65 (4 + f)) s t) (n + 1 + 1) = ((sS (tlN (gR M f) (M 65 (4 + f)) s t) (n + 1)) + 0) := by
              rw [sS_succ]
              first
                | contradiction
                | rw [tlN_1 (by assumption) (by omega)]
                | (rw [tlN_0 (by assumption)] <;> omega)
                | (rw [tlN_n (by omega)] <;> omega)
            have h9 := ih (n + 1) (some (vi 1)) (by omega) (by omega)
            rw [e1, e2] at h9
            exact h9
        · skip
          refine Hx.run 2 (pc' := 110) (L' := [some (vr 64), some (vi f), some (vi (bS (gR M f) 11)), some (vi b), some (vi l), some (vi s), some (vi t), some (vi (sS (tlY (gR M f) (M 65 (4 + f)) s t) (n + 1))), some (vi (sS (tlN (gR M f) (M 65 (4 + f)) s t) (n + 1))), some (vi ((n : Int) + 1)), some (vi 1)]) (st' := [vi 0, vi (sS (tlY (gR M f) (M 65 (4 + f)) s t) (n + 1))]) (M' := M) rfl ?_
          refine Hx.add rfl (by omega) ?_
          refine Hx.run 4 (pc' := 118) (L' := [some (vr 64), some (vi f), some (vi (bS (gR M f) 11)), some (vi b), some (vi l), some (vi s), some (vi t), some (vi ((sS (tlY (gR M f) (M 65 (4 + f)) s t) (n + 1)) + 0)), some (vi (sS (tlN (gR M f) (M 65 (4 + f)) s t) (n + 1))), some (vi ((n : Int) + 1)), some (vi 1)]) (st' := [vi ((n : Int) + 1), vi (bS (gR M f) 11), vi (sS (tlN (gR M f) (M 65 (4 + f)) s t) (n + 1))]) (M' := M) rfl ?_
          refine Hx.call (t := 131) (as := [vi (bS (gR M f) 11), vi ((n : Int) + 1)]) (pc' := 121) (rest := [vi (sS (tlN (gR M f) (M 65 (4 + f)) s t) (n + 1))]) rfl (by rw [show ((n : Int) + 1) = ((((n + 1) : Nat)) : Int) from rfl]; exact r_hasBS (gR M f) 11 (n + 1) M (by omega) (by omega)) ?_
          rintro _ _ (⟨q113, rfl, rfl⟩ | ⟨q113, rfl, rfl⟩)
          · skip
            refine Hx.run 4 (pc' := 134) (L' := [some (vr 64), some (vi f), some (vi (bS (gR M f) 11)), some (vi b), some (vi l), some (vi s), some (vi t), some (vi ((sS (tlY (gR M f) (M 65 (4 + f)) s t) (n + 1)) + 0)), some (vi (sS (tlN (gR M f) (M 65 (4 + f)) s t) (n + 1))), some (vi ((n : Int) + 1)), some (vi 1)]) (st' := [vi 0, vi (sS (tlN (gR M f) (M 65 (4 + f)) s t) (n + 1))]) (M' := M) rfl ?_
            refine Hx.add rfl (by omega) ?_
            refine Hx.run 1 (pc' := 137) (L' := [some (vr 64), some (vi f), some (vi (bS (gR M f) 11)), some (vi b), some (vi l), some (vi s), some (vi t), some (vi ((sS (tlY (gR M f) (M 65 (4 + f)) s t) (n + 1)) + 0)), some (vi ((sS (tlN (gR M f) (M 65 (4 + f)) s t) (n + 1)) + 0)), some (vi ((n : Int) + 1)), some (vi 1)]) (st' := []) (M' := M) rfl ?_
            refine Hx.inc rfl rfl (by omega) ?_
            refine Hx.run 0 (pc' := 140) (L' := [some (vr 64), some (vi f), some (vi (bS (gR M f) 11)), some (vi b), some (vi l), some (vi s), some (vi t), some (vi ((sS (tlY (gR M f) (M 65 (4 + f)) s t) (n + 1)) + 0)), some (vi ((sS (tlN (gR M f) (M 65 (4 + f)) s t) (n + 1)) + 0)), some (vi (((n : Int) + 1) + 1)), some (vi 1)]) (st' := []) (M' := M) rfl ?_
            refine Hx.run 1 (pc' := 60) (L' := [some (vr 64), some (vi f), some (vi (bS (gR M f) 11)), some (vi b), some (vi l), some (vi s), some (vi t), some (vi ((sS (tlY (gR M f) (M 65 (4 + f)) s t) (n + 1)) + 0)), some (vi ((sS (tlN (gR M f) (M 65 (4 + f)) s t) (n + 1)) + 0)), some (vi (((n : Int) + 1) + 1)), some (vi 1)]) (st' := []) (M' := M) rfl ?_
            have e1 : sS (tlY (gR M f) (M 65 (4 + f)) s t) (n + 1 + 1) = ((sS (tlY (gR M f) (M 65 (4 + f)) s t) (n + 1)) + 0) := by
              rw [sS_succ]
              first
                | contradiction
                | rw [tlY_1 (by assumption) (by omega)]
                | (rw [tlY_0 (by assumption)] <;> omega)
                | (rw [tlY_n (by omega)] <;> omega)
            have e2 : sS (tlN (gR M f) (M 65 (4 + f)) s t) (n + 1 + 1) = ((sS (tlN (gR M f) (M 65 (4 + f)) s t) (n + 1)) + 0) := by
              rw [sS_succ]
              first
                | contradiction
                | rw [tlN_1 (by assumption) (by omega)]
                | (rw [tlN_0 (by assumption)] <;> omega)
                | (rw [tlN_n (by omega)] <;> omega)
            have h9 := ih (n + 1) (some (vi 1)) (by omega) (by omega)
            rw [e1, e2] at h9
            exact h9
          · skip
            refine Hx.run 2 (pc' := 134) (L' := [some (vr 64), some (vi f), some (vi (bS (gR M f) 11)), some (vi b), some (vi l), some (vi s), some (vi t), some (vi ((sS (tlY (gR M f) (M 65 (4 + f)) s t) (n + 1)) + 0)), some (vi (sS (tlN (gR M f) (M 65 (4 + f)) s t) (n + 1))), some (vi ((n : Int) + 1)), some (vi 1)]) (st' := [vi 0, vi (sS (tlN (gR M f) (M 65 (4 + f)) s t) (n + 1))]) (M' := M) rfl ?_
            refine Hx.add rfl (by omega) ?_
            refine Hx.run 1 (pc' := 137) (L' := [some (vr 64), some (vi f), some (vi (bS (gR M f) 11)), some (vi b), some (vi l), some (vi s), some (vi t), some (vi ((sS (tlY (gR M f) (M 65 (4 + f)) s t) (n + 1)) + 0)), some (vi ((sS (tlN (gR M f) (M 65 (4 + f)) s t) (n + 1)) + 0)), some (vi ((n : Int) + 1)), some (vi 1)]) (st' := []) (M' := M) rfl ?_
            refine Hx.inc rfl rfl (by omega) ?_
            refine Hx.run 0 (pc' := 140) (L' := [some (vr 64), some (vi f), some (vi (bS (gR M f) 11)), some (vi b), some (vi l), some (vi s), some (vi t), some (vi ((sS (tlY (gR M f) (M 65 (4 + f)) s t) (n + 1)) + 0)), some (vi ((sS (tlN (gR M f) (M 65 (4 + f)) s t) (n + 1)) + 0)), some (vi (((n : Int) + 1) + 1)), some (vi 1)]) (st' := []) (M' := M) rfl ?_
            refine Hx.run 1 (pc' := 60) (L' := [some (vr 64), some (vi f), some (vi (bS (gR M f) 11)), some (vi b), some (vi l), some (vi s), some (vi t), some (vi ((sS (tlY (gR M f) (M 65 (4 + f)) s t) (n + 1)) + 0)), some (vi ((sS (tlN (gR M f) (M 65 (4 + f)) s t) (n + 1)) + 0)), some (vi (((n : Int) + 1) + 1)), some (vi 1)]) (st' := []) (M' := M) rfl ?_
            have e1 : sS (tlY (gR M f) (M 65 (4 + f)) s t) (n + 1 + 1) = ((sS (tlY (gR M f) (M 65 (4 + f)) s t) (n + 1)) + 0) := by
              rw [sS_succ]
              first
                | contradiction
                | rw [tlY_1 (by assumption) (by omega)]
                | (rw [tlY_0 (by assumption)] <;> omega)
                | (rw [tlY_n (by omega)] <;> omega)
            have e2 : sS (tlN (gR M f) (M 65 (4 + f)) s t) (n + 1 + 1) = ((sS (tlN (gR M f) (M 65 (4 + f)) s t) (n + 1)) + 0) := by
              rw [sS_succ]
              first
                | contradiction
                | rw [tlN_1 (by assumption) (by omega)]
                | (rw [tlN_0 (by assumption)] <;> omega)
                | (rw [tlN_n (by omega)] <;> omega)
            have h9 := ih (n + 1) (some (vi 1)) (by omega) (by omega)
            rw [e1, e2] at h9
            exact h9
      · skip
        refine Hx.run 4 (pc' := 94) (L' := [some (vr 64), some (vi f), some (vi (bS (gR M f) 11)), some (vi b), some (vi l), some (vi s), some (vi t), some (vi (sS (tlY (gR M f) (M 65 (4 + f)) s t) (n + 1))), some (vi (sS (tlN (gR M f) (M 65 (4 + f)) s t) (n + 1))), some (vi ((n : Int) + 1)), some (vi 0)]) (st' := [vi ((n : Int) + 1), vi (bS (gR M f) 11), vi (sS (tlY (gR M f) (M 65 (4 + f)) s t) (n + 1))]) (M' := M) rfl ?_
        refine Hx.call (t := 131) (as := [vi (bS (gR M f) 11), vi ((n : Int) + 1)]) (pc' := 97) (rest := [vi (sS (tlY (gR M f) (M 65 (4 + f)) s t) (n + 1))]) rfl (by rw [show ((n : Int) + 1) = ((((n + 1) : Nat)) : Int) from rfl]; exact r_hasBS (gR M f) 11 (n + 1) M (by omega) (by omega)) ?_
        rintro _ _ (⟨q114, rfl, rfl⟩ | ⟨q114, rfl, rfl⟩)
        · skip
          refine Hx.run 4 (pc' := 110) (L' := [some (vr 64), some (vi f), some (vi (bS (gR M f) 11)), some (vi b), some (vi l), some (vi s), some (vi t), some (vi (sS (tlY (gR M f) (M 65 (4 + f)) s t) (n + 1))), some (vi (sS (tlN (gR M f) (M 65 (4 + f)) s t) (n + 1))), some (vi ((n : Int) + 1)), some (vi 0)]) (st' := [vi 0, vi (sS (tlY (gR M f) (M 65 (4 + f)) s t) (n + 1))]) (M' := M) rfl ?_
          refine Hx.add rfl (by omega) ?_
          refine Hx.run 4 (pc' := 118) (L' := [some (vr 64), some (vi f), some (vi (bS (gR M f) 11)), some (vi b), some (vi l), some (vi s), some (vi t), some (vi ((sS (tlY (gR M f) (M 65 (4 + f)) s t) (n + 1)) + 0)), some (vi (sS (tlN (gR M f) (M 65 (4 + f)) s t) (n + 1))), some (vi ((n : Int) + 1)), some (vi 0)]) (st' := [vi ((n : Int) + 1), vi (bS (gR M f) 11), vi (sS (tlN (gR M f) (M 65 (4 + f)) s t) (n + 1))]) (M' := M) rfl ?_
          refine Hx.call (t := 131) (as := [vi (bS (gR M f) 11), vi ((n : Int) + 1)]) (pc' := 121) (rest := [vi (sS (tlN (gR M f) (M 65 (4 + f)) s t) (n + 1))]) rfl (by rw [show ((n : Int) + 1) = ((((n + 1) : Nat)) : Int) from rfl]; exact r_hasBS (gR M f) 11 (n + 1) M (by omega) (by omega)) ?_
          rintro _ _ (⟨q115, rfl, rfl⟩ | ⟨q115, rfl, rfl⟩)
          · skip
            refine Hx.run 5 (pc' := 134) (L' := [some (vr 64), some (vi f), some (vi (bS (gR M f) 11)), some (vi b), some (vi l), some (vi s), some (vi t), some (vi ((sS (tlY (gR M f) (M 65 (4 + f)) s t) (n + 1)) + 0)), some (vi (sS (tlN (gR M f) (M 65 (4 + f)) s t) (n + 1))), some (vi ((n : Int) + 1)), some (vi 0)]) (st' := [vi 1, vi (sS (tlN (gR M f) (M 65 (4 + f)) s t) (n + 1))]) (M' := M) rfl ?_
            refine Hx.add rfl (by omega) ?_
            refine Hx.run 1 (pc' := 137) (L' := [some (vr 64), some (vi f), some (vi (bS (gR M f) 11)), some (vi b), some (vi l), some (vi s), some (vi t), some (vi ((sS (tlY (gR M f) (M 65 (4 + f)) s t) (n + 1)) + 0)), some (vi ((sS (tlN (gR M f) (M 65 (4 + f)) s t) (n + 1)) + 1)), some (vi ((n : Int) + 1)), some (vi 0)]) (st' := []) (M' := M) rfl ?_
            refine Hx.inc rfl rfl (by omega) ?_
            refine Hx.run 0 (pc' := 140) (L' := [some (vr 64), some (vi f), some (vi (bS (gR M f) 11)), some (vi b), some (vi l), some (vi s), some (vi t), some (vi ((sS (tlY (gR M f) (M 65 (4 + f)) s t) (n + 1)) + 0)), some (vi ((sS (tlN (gR M f) (M 65 (4 + f)) s t) (n + 1)) + 1)), some (vi (((n : Int) + 1) + 1)), some (vi 0)]) (st' := []) (M' := M) rfl ?_
            refine Hx.run 1 (pc' := 60) (L' := [some (vr 64), some (vi f), some (vi (bS (gR M f) 11)), some (vi b), some (vi l), some (vi s), some (vi t), some (vi ((sS (tlY (gR M f) (M 65 (4 + f)) s t) (n + 1)) + 0)), some (vi ((sS (tlN (gR M f) (M 65 (4 + f)) s t) (n + 1)) + 1)), some (vi (((n : Int) + 1) + 1)), some (vi 0)]) (st' := []) (M' := M) rfl ?_
            have e1 : sS (tlY (gR M f) (M 65 (4 + f)) s t) (n + 1 + 1) = ((sS (tlY (gR M f) (M 65 (4 + f)) s t) (n + 1)) + 0) := by
              rw [sS_succ]
              first
                | contradiction
                | rw [tlY_1 (by assumption) (by omega)]
                | (rw [tlY_0 (by assumption)] <;> omega)
                | (rw [tlY_n (by omega)] <;> omega)
            have e2 : sS (tlN (gR M f) (M 65 (4 + f)) s t) (n + 1 + 1) = ((sS (tlN (gR M f) (M 65 (4 + f)) s t) (n + 1)) + 1) := by
              rw [sS_succ]
              first
                | contradiction
                | rw [tlN_1 (by assumption) (by omega)]
                | (rw [tlN_0 (by assumption)] <;> omega)
                | (rw [tlN_n (by omega)] <;> omega)
            have h9 := ih (n + 1) (some (vi 0)) (by omega) (by omega)
            rw [e1, e2] at h9
            exact h9
          · skip
            refine Hx.run 2 (pc' := 134) (L' := [some (vr 64), some (vi f), some (vi (bS (gR M f) 11)), some (vi b), some (vi l), some (vi s), some (vi t), some (vi ((sS (tlY (gR M f) (M 65 (4 + f)) s t) (n + 1)) + 0)), some (vi (sS (tlN (gR M f) (M 65 (4 + f)) s t) (n + 1))), some (vi ((n : Int) + 1)), some (vi 0)]) (st' := [vi 0, vi (sS (tlN (gR M f) (M 65 (4 + f)) s t) (n + 1))]) (M' := M) rfl ?_
            refine Hx.add rfl (by omega) ?_
            refine Hx.run 1 (pc' := 137) (L' := [some (vr 64), some (vi f), some (vi (bS (gR M f) 11)), some (vi b), some (vi l), some (vi s), some (vi t), some (vi ((sS (tlY (gR M f) (M 65 (4 + f)) s t) (n + 1)) + 0)), some (vi ((sS (tlN (gR M f) (M 65 (4 + f)) s t) (n + 1)) + 0)), some (vi ((n : Int) + 1)), some (vi 0)]) (st' := []) (M' := M) rfl ?_
            refine Hx.inc rfl rfl (by omega) ?_
            refine Hx.run 0 (pc' := 140) (L' := [some (vr 64), some (vi f), some (vi (bS (gR M f) 11)), some (vi b), some (vi l), some (vi s), some (vi t), some (vi ((sS (tlY (gR M f) (M 65 (4 + f)) s t) (n + 1)) + 0)), some (vi ((sS (tlN (gR M f) (M 65 (4 + f)) s t) (n + 1)) + 0)), some (vi (((n : Int) + 1) + 1)), some (vi 0)]) (st' := []) (M' := M) rfl ?_
            refine Hx.run 1 (pc' := 60) (L' := [some (vr 64), some (vi f), some (vi (bS (gR M f) 11)), some (vi b), some (vi l), some (vi s), some (vi t), some (vi ((sS (tlY (gR M f) (M 65 (4 + f)) s t) (n + 1)) + 0)), some (vi ((sS (tlN (gR M f) (M 65 (4 + f)) s t) (n + 1)) + 0)), some (vi (((n : Int) + 1) + 1)), some (vi 0)]) (st' := []) (M' := M) rfl ?_
            have e1 : sS (tlY (gR M f) (M 65 (4 + f)) s t) (n + 1 + 1) = ((sS (tlY (gR M f) (M 65 (4 + f)) s t) (n + 1)) + 0) := by
              rw [sS_succ]
              first
                | contradiction
                | rw [tlY_1 (by assumption) (by omega)]
                | (rw [tlY_0 (by assumption)] <;> omega)
                | (rw [tlY_n (by omega)] <;> omega)
            have e2 : sS (tlN (gR M f) (M 65 (4 + f)) s t) (n + 1 + 1) = ((sS (tlN (gR M f) (M 65 (4 + f)) s t) (n + 1)) + 0) := by
              rw [sS_succ]
              first
                | contradiction
                | rw [tlN_1 (by assumption) (by omega)]
                | (rw [tlN_0 (by assumption)] <;> omega)
                | (rw [tlN_n (by omega)] <;> omega)
            have h9 := ih (n + 1) (some (vi 0)) (by omega) (by omega)
            rw [e1, e2] at h9
            exact h9
        · skip
          refine Hx.run 2 (pc' := 110) (L' := [some (vr 64), some (vi f), some (vi (bS (gR M f) 11)), some (vi b), some (vi l), some (vi s), some (vi t), some (vi (sS (tlY (gR M f) (M 65 (4 + f)) s t) (n + 1))), some (vi (sS (tlN (gR M f) (M 65 (4 + f)) s t) (n + 1))), some (vi ((n : Int) + 1)), some (vi 0)]) (st' := [vi 0, vi (sS (tlY (gR M f) (M 65 (4 + f)) s t) (n + 1))]) (M' := M) rfl ?_
          refine Hx.add rfl (by omega) ?_
          refine Hx.run 4 (pc' := 118) (L' := [some (vr 64), some (vi f), some (vi (bS (gR M f) 11)), some (vi b), some (vi l), some (vi s), some (vi t), some (vi ((sS (tlY (gR M f) (M 65 (4 + f)) s t) (n + 1)) + 0)), some (vi (sS (tlN (gR M f) (M 65 (4 + f)) s t) (n + 1))), some (vi ((n : Int) + 1)), some (vi 0)]) (st' := [vi ((n : Int) + 1), vi (bS (gR M f) 11), vi (sS (tlN (gR M f) (M 65 (4 + f)) s t) (n + 1))]) (M' := M) rfl ?_
          refine Hx.call (t := 131) (as := [vi (bS (gR M f) 11), vi ((n : Int) + 1)]) (pc' := 121) (rest := [vi (sS (tlN (gR M f) (M 65 (4 + f)) s t) (n + 1))]) rfl (by rw [show ((n : Int) + 1) = ((((n + 1) : Nat)) : Int) from rfl]; exact r_hasBS (gR M f) 11 (n + 1) M (by omega) (by omega)) ?_
          rintro _ _ (⟨q116, rfl, rfl⟩ | ⟨q116, rfl, rfl⟩)
          · skip
            refine Hx.run 5 (pc' := 134) (L' := [some (vr 64), some (vi f), some (vi (bS (gR M f) 11)), some (vi b), some (vi l), some (vi s), some (vi t), some (vi ((sS (tlY (gR M f) (M 65 (4 + f)) s t) (n + 1)) + 0)), some (vi (sS (tlN (gR M f) (M 65 (4 + f)) s t) (n + 1))), some (vi ((n : Int) + 1)), some (vi 0)]) (st' := [vi 1, vi (sS (tlN (gR M f) (M 65 (4 + f)) s t) (n + 1))]) (M' := M) rfl ?_
            refine Hx.add rfl (by omega) ?_
            refine Hx.run 1 (pc' := 137) (L' := [some (vr 64), some (vi f), some (vi (bS (gR M f) 11)), some (vi b), some (vi l), some (vi s), some (vi t), some (vi ((sS (tlY (gR M f) (M 65 (4 + f)) s t) (n + 1)) + 0)), some (vi ((sS (tlN (gR M f) (M 65 (4 + f)) s t) (n + 1)) + 1)), some (vi ((n : Int) + 1)), some (vi 0)]) (st' := []) (M' := M) rfl ?_
            refine Hx.inc rfl rfl (by omega) ?_
            refine Hx.run 0 (pc' := 140) (L' := [some (vr 64), some (vi f), some (vi (bS (gR M f) 11)), some (vi b), some (vi l), some (vi s), some (vi t), some (vi ((sS (tlY (gR M f) (M 65 (4 + f)) s t) (n + 1)) + 0)), some (vi ((sS (tlN (gR M f) (M 65 (4 + f)) s t) (n + 1)) + 1)), some (vi (((n : Int) + 1) + 1)), some (vi 0)]) (st' := []) (M' := M) rfl ?_
            refine Hx.run 1 (pc' := 60) (L' := [some (vr 64), some (vi f), some (vi (bS (gR M f) 11)), some (vi b), some (vi l), some (vi s), some (vi t), some (vi ((sS (tlY (gR M f) (M 65 (4 + f)) s t) (n + 1)) + 0)), some (vi ((sS (tlN (gR M f) (M 65 (4 + f)) s t) (n + 1)) + 1)), some (vi (((n : Int) + 1) + 1)), some (vi 0)]) (st' := []) (M' := M) rfl ?_
            have e1 : sS (tlY (gR M f) (M 65 (4 + f)) s t) (n + 1 + 1) = ((sS (tlY (gR M f) (M 65 (4 + f)) s t) (n + 1)) + 0) := by
              rw [sS_succ]
              first
                | contradiction
                | rw [tlY_1 (by assumption) (by omega)]
                | (rw [tlY_0 (by assumption)] <;> omega)
                | (rw [tlY_n (by omega)] <;> omega)
            have e2 : sS (tlN (gR M f) (M 65 (4 + f)) s t) (n + 1 + 1) = ((sS (tlN (gR M f) (M 65 (4 + f)) s t) (n + 1)) + 1) := by
              rw [sS_succ]
              first
                | contradiction
                | rw [tlN_1 (by assumption) (by omega)]
                | (rw [tlN_0 (by assumption)] <;> omega)
                | (rw [tlN_n (by omega)] <;> omega)
            have h9 := ih (n + 1) (some (vi 0)) (by omega) (by omega)
            rw [e1, e2] at h9
            exact h9
          · skip
            refine Hx.run 2 (pc' := 134) (L' := [some (vr 64), some (vi f), some (vi (bS (gR M f) 11)), some (vi b), some (vi l), some (vi s), some (vi t), some (vi ((sS (tlY (gR M f) (M 65 (4 + f)) s t) (n + 1)) + 0)), some (vi (sS (tlN (gR M f) (M 65 (4 + f)) s t) (n + 1))), some (vi ((n : Int) + 1)), some (vi 0)]) (st' := [vi 0, vi (sS (tlN (gR M f) (M 65 (4 + f)) s t) (n + 1))]) (M' := M) rfl ?_
            refine Hx.add rfl (by omega) ?_
            refine Hx.run 1 (pc' := 137) (L' := [some (vr 64), some (vi f), some (vi (bS (gR M f) 11)), some (vi b), some (vi l), some (vi s), some (vi t), some (vi ((sS (tlY (gR M f) (M 65 (4 + f)) s t) (n + 1)) + 0)), some (vi ((sS (tlN (gR M f) (M 65 (4 + f)) s t) (n + 1)) + 0)), some (vi ((n : Int) + 1)), some (vi 0)]) (st' := []) (M' := M) rfl ?_
            refine Hx.inc rfl rfl (by omega) ?_
            refine Hx.run 0 (pc' := 140) (L' := [some (vr 64), some (vi f), some (vi (bS (gR M f) 11)), some (vi b), some (vi l), some (vi s), some (vi t), some (vi ((sS (tlY (gR M f) (M 65 (4 + f)) s t) (n + 1)) + 0)), some (vi ((sS (tlN (gR M f) (M 65 (4 + f)) s t) (n + 1)) + 0)), some (vi (((n : Int) + 1) + 1)), some (vi 0)]) (st' := []) (M' := M) rfl ?_
            refine Hx.run 1 (pc' := 60) (L' := [some (vr 64), some (vi f), some (vi (bS (gR M f) 11)), some (vi b), some (vi l), some (vi s), some (vi t), some (vi ((sS (tlY (gR M f) (M 65 (4 + f)) s t) (n + 1)) + 0)), some (vi ((sS (tlN (gR M f) (M 65 (4 + f)) s t) (n + 1)) + 0)), some (vi (((n : Int) + 1) + 1)), some (vi 0)]) (st' := []) (M' := M) rfl ?_
            have e1 : sS (tlY (gR M f) (M 65 (4 + f)) s t) (n + 1 + 1) = ((sS (tlY (gR M f) (M 65 (4 + f)) s t) (n + 1)) + 0) := by
              rw [sS_succ]
              first
                | contradiction
                | rw [tlY_1 (by assumption) (by omega)]
                | (rw [tlY_0 (by assumption)] <;> omega)
                | (rw [tlY_n (by omega)] <;> omega)
            have e2 : sS (tlN (gR M f) (M 65 (4 + f)) s t) (n + 1 + 1) = ((sS (tlN (gR M f) (M 65 (4 + f)) s t) (n + 1)) + 0) := by
              rw [sS_succ]
              first
                | contradiction
                | rw [tlN_1 (by assumption) (by omega)]
                | (rw [tlN_0 (by assumption)] <;> omega)
                | (rw [tlN_n (by omega)] <;> omega)
            have h9 := ih (n + 1) (some (vi 0)) (by omega) (by omega)
            rw [e1, e2] at h9
            exact h9
set_option maxRecDepth 100000 in
set_option maxHeartbeats 4000000 in
theorem rl_tell2 (f : Int) (M : Mm) (hI : RI M 0) (hS : ∀ n : Int, 0 ≤ n → n < M 65 40 → (1 ≤ M 65 (41 + 4 * n + 1) ∧ M 65 (41 + 4 * n + 1) ≤ 10) ∧ (0 ≤ M 65 (41 + 4 * n + 2) ∧ M 65 (41 + 4 * n + 2) ≤ 23)) (hf : 0 ≤ f ∧ f < M 65 0) (a : Nat) (ha : a < 10) {P : Option PV → Mm → Prop} (hk : ∀ (j7 j8 j9 j10 : Option PV), Hx 196 201 [some (vr 64), some (vi f), some (vi (bS (gR M f) 11)), some (vi (am4 tlL (tlV (gR M f) (M 65 (4 + f))) (24 * a + 24)).1), some (vi (am4 tlL (tlV (gR M f) (M 65 (4 + f))) (24 * a + 24)).2), some (vi ((a : Int) + 1)), some (vi 24), j7, j8, j9, j10] [] M P) : ∀ (kk : Nat) (t : Nat) (j7 : Option PV) (j8 : Option PV) (j9 : Option PV) (j10 : Option PV), t ≤ 24 → 24 - (t : Int) < (kk : Int) → Hx 196 44 [some (vr 64), some (vi f), some (vi (bS (gR M f) 11)), some (vi (am4 tlL (tlV (gR M f) (M 65 (4 + f))) (24 * a + t)).1), some (vi (am4 tlL (tlV (gR M f) (M 65 (4 + f))) (24 * a + t)).2), some (vi ((a : Int) + 1)), some (vi (t : Int)), j7, j8, j9, j10] [] M P := by
  intro kk
  induction kk with
  | zero => intro t j7 j8 j9 j10 _ hkk; exact absurd hkk (by omega)
  | succ kk ih =>
    intro t j7 j8 j9 j10 ht hkk
    have q5 := tlY_rng (gR M f) (M 65 (4 + f)) ((a : Int) + 1) (t : Int) 11
    have q6 := tlN_rng (gR M f) (M 65 (4 + f)) ((a : Int) + 1) (t : Int) 11
    have am := am4_rngT (gR M f) (M 65 (4 + f)) (24 * a + t) (by omega)
    have hV : t < 24 → tlV (gR M f) (M 65 (4 + f)) (24 * a + t) = max (sS (tlY (gR M f) (M 65 (4 + f)) ((a : Int) + 1) (t : Int)) 11) (sS (tlN (gR M f) (M 65 (4 + f)) ((a : Int) + 1) (t : Int)) 11) := tlV_e _ _ a t
    have hL : t < 24 → tlL (24 * a + t) = 100 * ((a : Int) + 1) + (t : Int) := tlL_e a t
    refine Hx.run 2 (pc' := 48) (L' := [some (vr 64), some (vi f), some (vi (bS (gR M f) 11)), some (vi (am4 tlL (tlV (gR M f) (M 65 (4 + f))) (24 * a + t)).1), some (vi (am4 tlL (tlV (gR M f) (M 65 (4 + f))) (24 * a + t)).2), some (vi ((a : Int) + 1)), some (vi (t : Int)), j7, j8, j9, j10]) (st' := [vi 24, vi (t : Int)]) (M' := M) rfl ?_
    refine Hx.br (c := (t : Int) < 24) (t := 51) (f := 201) rfl (fun h1 => ?_) (fun h1 => ?_)
    · skip
      refine Hx.run 6 (pc' := 60) (L' := [some (vr 64), some (vi f), some (vi (bS (gR M f) 11)), some (vi (am4 tlL (tlV (gR M f) (M 65 (4 + f))) (24 * a + t)).1), some (vi (am4 tlL (tlV (gR M f) (M 65 (4 + f))) (24 * a + t)).2), some (vi ((a : Int) + 1)), some (vi (t : Int)), some (vi 0), some (vi 0), some (vi 1), j10]) (st' := []) (M' := M) rfl ?_
      have h1 := rl_tell1 f M hI hS hf (am4 tlL (tlV (gR M f) (M 65 (4 + f))) (24 * a + t)).1 (am4 tlL (tlV (gR M f) (M 65 (4 + f))) (24 * a + t)).2 ((a : Int) + 1) (t : Int) (by omega) (by omega) (P := P) (fun k10 => ?_) 20 0 j10 (by omega) (by omega)
      · rw [tlY_g0 (gR_00 M f), tlN_g0 (gR_00 M f)] at h1
        exact h1
      · skip
        refine Hx.run 2 (pc' := 147) (L' := [some (vr 64), some (vi f), some (vi (bS (gR M f) 11)), some (vi (am4 tlL (tlV (gR M f) (M 65 (4 + f))) (24 * a + t)).1), some (vi (am4 tlL (tlV (gR M f) (M 65 (4 + f))) (24 * a + t)).2), some (vi ((a : Int) + 1)), some (vi (t : Int)), some (vi (sS (tlY (gR M f) (M 65 (4 + f)) ((a : Int) + 1) (t : Int)) 11)), some (vi (sS (tlN (gR M f) (M 65 (4 + f)) ((a : Int) + 1) (t : Int)) 11)), some (vi 11), k10]) (st' := [vi (sS (tlN (gR M f) (M 65 (4 + f)) ((a : Int) + 1) (t : Int)) 11), vi (sS (tlY (gR M f) (M 65 (4 + f)) ((a : Int) + 1) (t : Int)) 11)]) (M' := M) rfl ?_
        refine Hx.br (c := (sS (tlN (gR M f) (M 65 (4 + f)) ((a : Int) + 1) (t : Int)) 11) < (sS (tlY (gR M f) (M 65 (4 + f)) ((a : Int) + 1) (t : Int)) 11)) (t := 150) (f := 155) rfl (fun h2 => ?_) (fun h2 => ?_)
        · skip
          refine Hx.run 5 (pc' := 163) (L' := [some (vr 64), some (vi f), some (vi (bS (gR M f) 11)), some (vi (am4 tlL (tlV (gR M f) (M 65 (4 + f))) (24 * a + t)).1), some (vi (am4 tlL (tlV (gR M f) (M 65 (4 + f))) (24 * a + t)).2), some (vi ((a : Int) + 1)), some (vi (t : Int)), some (vi (sS (tlY (gR M f) (M 65 (4 + f)) ((a : Int) + 1) (t : Int)) 11)), some (vi (sS (tlN (gR M f) (M 65 (4 + f)) ((a : Int) + 1) (t : Int)) 11)), some (vi (sS (tlY (gR M f) (M 65 (4 + f)) ((a : Int) + 1) (t : Int)) 11)), k10]) (st' := [vi (am4 tlL (tlV (gR M f) (M 65 (4 + f))) (24 * a + t)).2, vi (sS (tlY (gR M f) (M 65 (4 + f)) ((a : Int) + 1) (t : Int)) 11)]) (M' := M) rfl ?_
          refine Hx.br (c := (sS (tlY (gR M f) (M 65 (4 + f)) ((a : Int) + 1) (t : Int)) 11) < (am4 tlL (tlV (gR M f) (M 65 (4 + f))) (24 * a + t)).2) (t := 166) (f := 177) rfl (fun h3 => ?_) (fun h3 => ?_)
          · skip
            refine Hx.run 2 (pc' := 170) (L' := [some (vr 64), some (vi f), some (vi (bS (gR M f) 11)), some (vi (am4 tlL (tlV (gR M f) (M 65 (4 + f))) (24 * a + t)).1), some (vi (am4 tlL (tlV (gR M f) (M 65 (4 + f))) (24 * a + t)).2), some (vi ((a : Int) + 1)), some (vi (t : Int)), some (vi (sS (tlY (gR M f) (M 65 (4 + f)) ((a : Int) + 1) (t : Int)) 11)), some (vi (sS (tlN (gR M f) (M 65 (4 + f)) ((a : Int) + 1) (t : Int)) 11)), some (vi (sS (tlY (gR M f) (M 65 (4 + f)) ((a : Int) + 1) (t : Int)) 11)), k10]) (st' := [vi ((a : Int) + 1), vi 100]) (M' := M) rfl ?_
            refine Hx.mul rfl (by omega) ?_
            refine Hx.run 1 (pc' := 173) (L' := [some (vr 64), some (vi f), some (vi (bS (gR M f) 11)), some (vi (am4 tlL (tlV (gR M f) (M 65 (4 + f))) (24 * a + t)).1), some (vi (am4 tlL (tlV (gR M f) (M 65 (4 + f))) (24 * a + t)).2), some (vi ((a : Int) + 1)), some (vi (t : Int)), some (vi (sS (tlY (gR M f) (M 65 (4 + f)) ((a : Int) + 1) (t : Int)) 11)), some (vi (sS (tlN (gR M f) (M 65 (4 + f)) ((a : Int) + 1) (t : Int)) 11)), some (vi (sS (tlY (gR M f) (M 65 (4 + f)) ((a : Int) + 1) (t : Int)) 11)), k10]) (st' := [vi (t : Int), vi (100 * ((a : Int) + 1))]) (M' := M) rfl ?_
            refine Hx.add rfl (by omega) ?_
            refine Hx.run 4 (pc' := 183) (L' := [some (vr 64), some (vi f), some (vi (bS (gR M f) 11)), some (vi ((100 * ((a : Int) + 1)) + (t : Int))), some (vi (am4 tlL (tlV (gR M f) (M 65 (4 + f))) (24 * a + t)).2), some (vi ((a : Int) + 1)), some (vi (t : Int)), some (vi (sS (tlY (gR M f) (M 65 (4 + f)) ((a : Int) + 1) (t : Int)) 11)), some (vi (sS (tlN (gR M f) (M 65 (4 + f)) ((a : Int) + 1) (t : Int)) 11)), some (vi (sS (tlY (gR M f) (M 65 (4 + f)) ((a : Int) + 1) (t : Int)) 11)), k10]) (st' := [vi (am4 tlL (tlV (gR M f) (M 65 (4 + f))) (24 * a + t)).2, vi (sS (tlY (gR M f) (M 65 (4 + f)) ((a : Int) + 1) (t : Int)) 11)]) (M' := M) rfl ?_
            refine Hx.br (c := (sS (tlY (gR M f) (M 65 (4 + f)) ((a : Int) + 1) (t : Int)) 11) < (am4 tlL (tlV (gR M f) (M 65 (4 + f))) (24 * a + t)).2) (t := 186) (f := 191) rfl (fun h4 => ?_) (fun h4 => ?_)
            · skip
              refine Hx.run 3 (pc' := 195) (L' := [some (vr 64), some (vi f), some (vi (bS (gR M f) 11)), some (vi ((100 * ((a : Int) + 1)) + (t : Int))), some (vi (sS (tlY (gR M f) (M 65 (4 + f)) ((a : Int) + 1) (t : Int)) 11)), some (vi ((a : Int) + 1)), some (vi (t : Int)), some (vi (sS (tlY (gR M f) (M 65 (4 + f)) ((a : Int) + 1) (t : Int)) 11)), some (vi (sS (tlN (gR M f) (M 65 (4 + f)) ((a : Int) + 1) (t : Int)) 11)), some (vi (sS (tlY (gR M f) (M 65 (4 + f)) ((a : Int) + 1) (t : Int)) 11)), k10]) (st' := []) (M' := M) rfl ?_
              refine Hx.inc rfl rfl (by omega) ?_
              refine Hx.run 0 (pc' := 198) (L' := [some (vr 64), some (vi f), some (vi (bS (gR M f) 11)), some (vi ((100 * ((a : Int) + 1)) + (t : Int))), some (vi (sS (tlY (gR M f) (M 65 (4 + f)) ((a : Int) + 1) (t : Int)) 11)), some (vi ((a : Int) + 1)), some (vi ((t : Int) + 1)), some (vi (sS (tlY (gR M f) (M 65 (4 + f)) ((a : Int) + 1) (t : Int)) 11)), some (vi (sS (tlN (gR M f) (M 65 (4 + f)) ((a : Int) + 1) (t : Int)) 11)), some (vi (sS (tlY (gR M f) (M 65 (4 + f)) ((a : Int) + 1) (t : Int)) 11)), k10]) (st' := []) (M' := M) rfl ?_
              refine Hx.run 1 (pc' := 44) (L' := [some (vr 64), some (vi f), some (vi (bS (gR M f) 11)), some (vi ((100 * ((a : Int) + 1)) + (t : Int))), some (vi (sS (tlY (gR M f) (M 65 (4 + f)) ((a : Int) + 1) (t : Int)) 11)), some (vi ((a : Int) + 1)), some (vi ((t : Int) + 1)), some (vi (sS (tlY (gR M f) (M 65 (4 + f)) ((a : Int) + 1) (t : Int)) 11)), some (vi (sS (tlN (gR M f) (M 65 (4 + f)) ((a : Int) + 1) (t : Int)) 11)), some (vi (sS (tlY (gR M f) (M 65 (4 + f)) ((a : Int) + 1) (t : Int)) 11)), k10]) (st' := []) (M' := M) rfl ?_
              have e1 : (am4 tlL (tlV (gR M f) (M 65 (4 + f))) (24 * a + (t + 1))).1 = ((100 * ((a : Int) + 1)) + (t : Int)) := by rw [show 24 * a + (t + 1) = 24 * a + t + 1 from rfl, am4_succ]; split <;> first | rfl | omega | (dsimp only; omega)
              have e2 : (am4 tlL (tlV (gR M f) (M 65 (4 + f))) (24 * a + (t + 1))).2 = (sS (tlY (gR M f) (M 65 (4 + f)) ((a : Int) + 1) (t : Int)) 11) := by rw [show 24 * a + (t + 1) = 24 * a + t + 1 from rfl, am4_succ]; split <;> first | rfl | omega | (dsimp only; omega)
              have h9 := ih (t + 1) (some (vi (sS (tlY (gR M f) (M 65 (4 + f)) ((a : Int) + 1) (t : Int)) 11))) (some (vi (sS (tlN (gR M f) (M 65 (4 + f)) ((a : Int) + 1) (t : Int)) 11))) (some (vi (sS (tlY (gR M f) (M 65 (4 + f)) ((a : Int) + 1) (t : Int)) 11))) k10 (by omega) (by omega)
              rw [e1, e2] at h9
              exact h9
            · skip
              refine Hx.run 2 (pc' := 195) (L' := [some (vr 64), some (vi f), some (vi (bS (gR M f) 11)), some (vi ((100 * ((a : Int) + 1)) + (t : Int))), some (vi (am4 tlL (tlV (gR M f) (M 65 (4 + f))) (24 * a + t)).2), some (vi ((a : Int) + 1)), some (vi (t : Int)), some (vi (sS (tlY (gR M f) (M 65 (4 + f)) ((a : Int) + 1) (t : Int)) 11)), some (vi (sS (tlN (gR M f) (M 65 (4 + f)) ((a : Int) + 1) (t : Int)) 11)), some (vi (sS (tlY (gR M f) (M 65 (4 + f)) ((a : Int) + 1) (t : Int)) 11)), k10]) (st' := []) (M' := M) rfl ?_
              refine Hx.inc rfl rfl (by omega) ?_
              refine Hx.run 0 (pc' := 198) (L' := [some (vr 64), some (vi f), some (vi (bS (gR M f) 11)), some (vi ((100 * ((a : Int) + 1)) + (t : Int))), some (vi (am4 tlL (tlV (gR M f) (M 65 (4 + f))) (24 * a + t)).2), some (vi ((a : Int) + 1)), some (vi ((t : Int) + 1)), some (vi (sS (tlY (gR M f) (M 65 (4 + f)) ((a : Int) + 1) (t : Int)) 11)), some (vi (sS (tlN (gR M f) (M 65 (4 + f)) ((a : Int) + 1) (t : Int)) 11)), some (vi (sS (tlY (gR M f) (M 65 (4 + f)) ((a : Int) + 1) (t : Int)) 11)), k10]) (st' := []) (M' := M) rfl ?_
              refine Hx.run 1 (pc' := 44) (L' := [some (vr 64), some (vi f), some (vi (bS (gR M f) 11)), some (vi ((100 * ((a : Int) + 1)) + (t : Int))), some (vi (am4 tlL (tlV (gR M f) (M 65 (4 + f))) (24 * a + t)).2), some (vi ((a : Int) + 1)), some (vi ((t : Int) + 1)), some (vi (sS (tlY (gR M f) (M 65 (4 + f)) ((a : Int) + 1) (t : Int)) 11)), some (vi (sS (tlN (gR M f) (M 65 (4 + f)) ((a : Int) + 1) (t : Int)) 11)), some (vi (sS (tlY (gR M f) (M 65 (4 + f)) ((a : Int) + 1) (t : Int)) 11)), k10]) (st' := []) (M' := M) rfl ?_
              have e1 : (am4 tlL (tlV (gR M f) (M 65 (4 + f))) (24 * a + (t + 1))).1 = ((100 * ((a : Int) + 1)) + (t : Int)) := by rw [show 24 * a + (t + 1) = 24 * a + t + 1 from rfl, am4_succ]; split <;> first | rfl | omega | (dsimp only; omega)
              have e2 : (am4 tlL (tlV (gR M f) (M 65 (4 + f))) (24 * a + (t + 1))).2 = (am4 tlL (tlV (gR M f) (M 65 (4 + f))) (24 * a + t)).2 := by rw [show 24 * a + (t + 1) = 24 * a + t + 1 from rfl, am4_succ]; split <;> first | rfl | omega | (dsimp only; omega)
              have h9 := ih (t + 1) (some (vi (sS (tlY (gR M f) (M 65 (4 + f)) ((a : Int) + 1) (t : Int)) 11))) (some (vi (sS (tlN (gR M f) (M 65 (4 + f)) ((a : Int) + 1) (t : Int)) 11))) (some (vi (sS (tlY (gR M f) (M 65 (4 + f)) ((a : Int) + 1) (t : Int)) 11))) k10 (by omega) (by omega)
              rw [e1, e2] at h9
              exact h9
          · skip
            refine Hx.run 4 (pc' := 183) (L' := [some (vr 64), some (vi f), some (vi (bS (gR M f) 11)), some (vi (am4 tlL (tlV (gR M f) (M 65 (4 + f))) (24 * a + t)).1), some (vi (am4 tlL (tlV (gR M f) (M 65 (4 + f))) (24 * a + t)).2), some (vi ((a : Int) + 1)), some (vi (t : Int)), some (vi (sS (tlY (gR M f) (M 65 (4 + f)) ((a : Int) + 1) (t : Int)) 11)), some (vi (sS (tlN (gR M f) (M 65 (4 + f)) ((a : Int) + 1) (t : Int)) 11)), some (vi (sS (tlY (gR M f) (M 65 (4 + f)) ((a : Int) + 1) (t : Int)) 11)), k10]) (st' := [vi (am4 tlL (tlV (gR M f) (M 65 (4 + f))) (24 * a + t)).2, vi (sS (tlY (gR M f) (M 65 (4 + f)) ((a : Int) + 1) (t : Int)) 11)]) (M' := M) rfl ?_
            refine Hx.br (c := (sS (tlY (gR M f) (M 65 (4 + f)) ((a : Int) + 1) (t : Int)) 11) < (am4 tlL (tlV (gR M f) (M 65 (4 + f))) (24 * a + t)).2) (t := 186) (f := 191) rfl (fun h5 => ?_) (fun h5 => ?_)
            · skip
              refine Hx.run 3 (pc' := 195) (L' := [some (vr 64), some (vi f), some (vi (bS (gR M f) 11)), some (vi (am4 tlL (tlV (gR M f) (M 65 (4 + f))) (24 * a + t)).1), some (vi (sS (tlY (gR M f) (M 65 (4 + f)) ((a : Int) + 1) (t : Int)) 11)), some (vi ((a : Int) + 1)), some (vi (t : Int)), some (vi (sS (tlY (gR M f) (M 65 (4 + f)) ((a : Int) + 1) (t : Int)) 11)), some (vi (sS (tlN (gR M f) (M 65 (4 + f)) ((a : Int) + 1) (t : Int)) 11)), some (vi (sS (tlY (gR M f) (M 65 (4 + f)) ((a : Int) + 1) (t : Int)) 11)), k10]) (st' := []) (M' := M) rfl ?_
              refine Hx.inc rfl rfl (by omega) ?_
              refine Hx.run 0 (pc' := 198) (L' := [some (vr 64), some (vi f), some (vi (bS (gR M f) 11)), some (vi (am4 tlL (tlV (gR M f) (M 65 (4 + f))) (24 * a + t)).1), some (vi (sS (tlY (gR M f) (M 65 (4 + f)) ((a : Int) + 1) (t : Int)) 11)), some (vi ((a : Int) + 1)), some (vi ((t : Int) + 1)), some (vi (sS (tlY (gR M f) (M 65 (4 + f)) ((a : Int) + 1) (t : Int)) 11)), some (vi (sS (tlN (gR M f) (M 65 (4 + f)) ((a : Int) + 1) (t : Int)) 11)), some (vi (sS (tlY (gR M f) (M 65 (4 + f)) ((a : Int) + 1) (t : Int)) 11)), k10]) (st' := []) (M' := M) rfl ?_
              refine Hx.run 1 (pc' := 44) (L' := [some (vr 64), some (vi f), some (vi (bS (gR M f) 11)), some (vi (am4 tlL (tlV (gR M f) (M 65 (4 + f))) (24 * a + t)).1), some (vi (sS (tlY (gR M f) (M 65 (4 + f)) ((a : Int) + 1) (t : Int)) 11)), some (vi ((a : Int) + 1)), some (vi ((t : Int) + 1)), some (vi (sS (tlY (gR M f) (M 65 (4 + f)) ((a : Int) + 1) (t : Int)) 11)), some (vi (sS (tlN (gR M f) (M 65 (4 + f)) ((a : Int) + 1) (t : Int)) 11)), some (vi (sS (tlY (gR M f) (M 65 (4 + f)) ((a : Int) + 1) (t : Int)) 11)), k10]) (st' := []) (M' := M) rfl ?_
              have e1 : (am4 tlL (tlV (gR M f) (M 65 (4 + f))) (24 * a + (t + 1))).1 = (am4 tlL (tlV (gR M f) (M 65 (4 + f))) (24 * a + t)).1 := by rw [show 24 * a + (t + 1) = 24 * a + t + 1 from rfl, am4_succ]; split <;> first | rfl | omega | (dsimp only; omega)
              have e2 : (am4 tlL (tlV (gR M f) (M 65 (4 + f))) (24 * a + (t + 1))).2 = (sS (tlY (gR M f) (M 65 (4 + f)) ((a : Int) + 1) (t : Int)) 11) := by rw [show 24 * a + (t + 1) = 24 * a + t + 1 from rfl, am4_succ]; split <;> first | rfl | omega | (dsimp only; omega)
              have h9 := ih (t + 1) (some (vi (sS (tlY (gR M f) (M 65 (4 + f)) ((a : Int) + 1) (t : Int)) 11))) (some (vi (sS (tlN (gR M f) (M 65 (4 + f)) ((a : Int) + 1) (t : Int)) 11))) (some (vi (sS (tlY (gR M f) (M 65 (4 + f)) ((a : Int) + 1) (t : Int)) 11))) k10 (by omega) (by omega)
              rw [e1, e2] at h9
              exact h9
            · skip
              refine Hx.run 2 (pc' := 195) (L' := [some (vr 64), some (vi f), some (vi (bS (gR M f) 11)), some (vi (am4 tlL (tlV (gR M f) (M 65 (4 + f))) (24 * a + t)).1), some (vi (am4 tlL (tlV (gR M f) (M 65 (4 + f))) (24 * a + t)).2), some (vi ((a : Int) + 1)), some (vi (t : Int)), some (vi (sS (tlY (gR M f) (M 65 (4 + f)) ((a : Int) + 1) (t : Int)) 11)), some (vi (sS (tlN (gR M f) (M 65 (4 + f)) ((a : Int) + 1) (t : Int)) 11)), some (vi (sS (tlY (gR M f) (M 65 (4 + f)) ((a : Int) + 1) (t : Int)) 11)), k10]) (st' := []) (M' := M) rfl ?_
              refine Hx.inc rfl rfl (by omega) ?_
              refine Hx.run 0 (pc' := 198) (L' := [some (vr 64), some (vi f), some (vi (bS (gR M f) 11)), some (vi (am4 tlL (tlV (gR M f) (M 65 (4 + f))) (24 * a + t)).1), some (vi (am4 tlL (tlV (gR M f) (M 65 (4 + f))) (24 * a + t)).2), some (vi ((a : Int) + 1)), some (vi ((t : Int) + 1)), some (vi (sS (tlY (gR M f) (M 65 (4 + f)) ((a : Int) + 1) (t : Int)) 11)), some (vi (sS (tlN (gR M f) (M 65 (4 + f)) ((a : Int) + 1) (t : Int)) 11)), some (vi (sS (tlY (gR M f) (M 65 (4 + f)) ((a : Int) + 1) (t : Int)) 11)), k10]) (st' := []) (M' := M) rfl ?_
              refine Hx.run 1 (pc' := 44) (L' := [some (vr 64), some (vi f), some (vi (bS (gR M f) 11)), some (vi (am4 tlL (tlV (gR M f) (M 65 (4 + f))) (24 * a + t)).1), some (vi (am4 tlL (tlV (gR M f) (M 65 (4 + f))) (24 * a + t)).2), some (vi ((a : Int) + 1)), some (vi ((t : Int) + 1)), some (vi (sS (tlY (gR M f) (M 65 (4 + f)) ((a : Int) + 1) (t : Int)) 11)), some (vi (sS (tlN (gR M f) (M 65 (4 + f)) ((a : Int) + 1) (t : Int)) 11)), some (vi (sS (tlY (gR M f) (M 65 (4 + f)) ((a : Int) + 1) (t : Int)) 11)), k10]) (st' := []) (M' := M) rfl ?_
              have e1 : (am4 tlL (tlV (gR M f) (M 65 (4 + f))) (24 * a + (t + 1))).1 = (am4 tlL (tlV (gR M f) (M 65 (4 + f))) (24 * a + t)).1 := by rw [show 24 * a + (t + 1) = 24 * a + t + 1 from rfl, am4_succ]; split <;> first | rfl | omega | (dsimp only; omega)
              have e2 : (am4 tlL (tlV (gR M f) (M 65 (4 + f))) (24 * a + (t + 1))).2 = (am4 tlL (tlV (gR M f) (M 65 (4 + f))) (24 * a + t)).2 := by rw [show 24 * a + (t + 1) = 24 * a + t + 1 from rfl, am4_succ]; split <;> first | rfl | omega | (dsimp only; omega)
              have h9 := ih (t + 1) (some (vi (sS (tlY (gR M f) (M 65 (4 + f)) ((a : Int) + 1) (t : Int)) 11))) (some (vi (sS (tlN (gR M f) (M 65 (4 + f)) ((a : Int) + 1) (t : Int)) 11))) (some (vi (sS (tlY (gR M f) (M 65 (4 + f)) ((a : Int) + 1) (t : Int)) 11))) k10 (by omega) (by omega)
              rw [e1, e2] at h9
              exact h9
        · skip
          refine Hx.run 4 (pc' := 163) (L' := [some (vr 64), some (vi f), some (vi (bS (gR M f) 11)), some (vi (am4 tlL (tlV (gR M f) (M 65 (4 + f))) (24 * a + t)).1), some (vi (am4 tlL (tlV (gR M f) (M 65 (4 + f))) (24 * a + t)).2), some (vi ((a : Int) + 1)), some (vi (t : Int)), some (vi (sS (tlY (gR M f) (M 65 (4 + f)) ((a : Int) + 1) (t : Int)) 11)), some (vi (sS (tlN (gR M f) (M 65 (4 + f)) ((a : Int) + 1) (t : Int)) 11)), some (vi (sS (tlN (gR M f) (M 65 (4 + f)) ((a : Int) + 1) (t : Int)) 11)), k10]) (st' := [vi (am4 tlL (tlV (gR M f) (M 65 (4 + f))) (24 * a + t)).2, vi (sS (tlN (gR M f) (M 65 (4 + f)) ((a : Int) + 1) (t : Int)) 11)]) (M' := M) rfl ?_
          refine Hx.br (c := (sS (tlN (gR M f) (M 65 (4 + f)) ((a : Int) + 1) (t : Int)) 11) < (am4 tlL (tlV (gR M f) (M 65 (4 + f))) (24 * a + t)).2) (t := 166) (f := 177) rfl (fun h6 => ?_) (fun h6 => ?_)
          · skip
            refine Hx.run 2 (pc' := 170) (L' := [some (vr 64), some (vi f), some (vi (bS (gR M f) 11)), some (vi (am4 tlL (tlV (gR M f) (M 65 (4 + f))) (24 * a + t)).1), some (vi (am4 tlL (tlV (gR M f) (M 65 (4 + f))) (24 * a + t)).2), some (vi ((a : Int) + 1)), some (vi (t : Int)), some (vi (sS (tlY (gR M f) (M 65 (4 + f)) ((a : Int) + 1) (t : Int)) 11)), some (vi (sS (tlN (gR M f) (M 65 (4 + f)) ((a : Int) + 1) (t : Int)) 11)), some (vi (sS (tlN (gR M f) (M 65 (4 + f)) ((a : Int) + 1) (t : Int)) 11)), k10]) (st' := [vi ((a : Int) + 1), vi 100]) (M' := M) rfl ?_
            refine Hx.mul rfl (by omega) ?_
            refine Hx.run 1 (pc' := 173) (L' := [some (vr 64), some (vi f), some (vi (bS (gR M f) 11)), some (vi (am4 tlL (tlV (gR M f) (M 65 (4 + f))) (24 * a + t)).1), some (vi (am4 tlL (tlV (gR M f) (M 65 (4 + f))) (24 * a + t)).2), some (vi ((a : Int) + 1)), some (vi (t : Int)), some (vi (sS (tlY (gR M f) (M 65 (4 + f)) ((a : Int) + 1) (t : Int)) 11)), some (vi (sS (tlN (gR M f) (M 65 (4 + f)) ((a : Int) + 1) (t : Int)) 11)), some (vi (sS (tlN (gR M f) (M 65 (4 + f)) ((a : Int) + 1) (t : Int)) 11)), k10]) (st' := [vi (t : Int), vi (100 * ((a : Int) + 1))]) (M' := M) rfl ?_
            refine Hx.add rfl (by omega) ?_
            refine Hx.run 4 (pc' := 183) (L' := [some (vr 64), some (vi f), some (vi (bS (gR M f) 11)), some (vi ((100 * ((a : Int) + 1)) + (t : Int))), some (vi (am4 tlL (tlV (gR M f) (M 65 (4 + f))) (24 * a + t)).2), some (vi ((a : Int) + 1)), some (vi (t : Int)), some (vi (sS (tlY (gR M f) (M 65 (4 + f)) ((a : Int) + 1) (t : Int)) 11)), some (vi (sS (tlN (gR M f) (M 65 (4 + f)) ((a : Int) + 1) (t : Int)) 11)), some (vi (sS (tlN (gR M f) (M 65 (4 + f)) ((a : Int) + 1) (t : Int)) 11)), k10]) (st' := [vi (am4 tlL (tlV (gR M f) (M 65 (4 + f))) (24 * a + t)).2, vi (sS (tlN (gR M f) (M 65 (4 + f)) ((a : Int) + 1) (t : Int)) 11)]) (M' := M) rfl ?_
            refine Hx.br (c := (sS (tlN (gR M f) (M 65 (4 + f)) ((a : Int) + 1) (t : Int)) 11) < (am4 tlL (tlV (gR M f) (M 65 (4 + f))) (24 * a + t)).2) (t := 186) (f := 191) rfl (fun h7 => ?_) (fun h7 => ?_)
            · skip
              refine Hx.run 3 (pc' := 195) (L' := [some (vr 64), some (vi f), some (vi (bS (gR M f) 11)), some (vi ((100 * ((a : Int) + 1)) + (t : Int))), some (vi (sS (tlN (gR M f) (M 65 (4 + f)) ((a : Int) + 1) (t : Int)) 11)), some (vi ((a : Int) + 1)), some (vi (t : Int)), some (vi (sS (tlY (gR M f) (M 65 (4 + f)) ((a : Int) + 1) (t : Int)) 11)), some (vi (sS (tlN (gR M f) (M 65 (4 + f)) ((a : Int) + 1) (t : Int)) 11)), some (vi (sS (tlN (gR M f) (M 65 (4 + f)) ((a : Int) + 1) (t : Int)) 11)), k10]) (st' := []) (M' := M) rfl ?_
              refine Hx.inc rfl rfl (by omega) ?_
              refine Hx.run 0 (pc' := 198) (L' := [some (vr 64), some (vi f), some (vi (bS (gR M f) 11)), some (vi ((100 * ((a : Int) + 1)) + (t : Int))), some (vi (sS (tlN (gR M f) (M 65 (4 + f)) ((a : Int) + 1) (t : Int)) 11)), some (vi ((a : Int) + 1)), some (vi ((t : Int) + 1)), some (vi (sS (tlY (gR M f) (M 65 (4 + f)) ((a : Int) + 1) (t : Int)) 11)), some (vi (sS (tlN (gR M f) (M 65 (4 + f)) ((a : Int) + 1) (t : Int)) 11)), some (vi (sS (tlN (gR M f) (M 65 (4 + f)) ((a : Int) + 1) (t : Int)) 11)), k10]) (st' := []) (M' := M) rfl ?_
              refine Hx.run 1 (pc' := 44) (L' := [some (vr 64), some (vi f), some (vi (bS (gR M f) 11)), some (vi ((100 * ((a : Int) + 1)) + (t : Int))), some (vi (sS (tlN (gR M f) (M 65 (4 + f)) ((a : Int) + 1) (t : Int)) 11)), some (vi ((a : Int) + 1)), some (vi ((t : Int) + 1)), some (vi (sS (tlY (gR M f) (M 65 (4 + f)) ((a : Int) + 1) (t : Int)) 11)), some (vi (sS (tlN (gR M f) (M 65 (4 + f)) ((a : Int) + 1) (t : Int)) 11)), some (vi (sS (tlN (gR M f) (M 65 (4 + f)) ((a : Int) + 1) (t : Int)) 11)), k10]) (st' := []) (M' := M) rfl ?_
              have e1 : (am4 tlL (tlV (gR M f) (M 65 (4 + f))) (24 * a + (t + 1))).1 = ((100 * ((a : Int) + 1)) + (t : Int)) := by rw [show 24 * a + (t + 1) = 24 * a + t + 1 from rfl, am4_succ]; split <;> first | rfl | omega | (dsimp only; omega)
              have e2 : (am4 tlL (tlV (gR M f) (M 65 (4 + f))) (24 * a + (t + 1))).2 = (sS (tlN (gR M f) (M 65 (4 + f)) ((a : Int) + 1) (t : Int)) 11) := by rw [show 24 * a + (t + 1) = 24 * a + t + 1 from rfl, am4_succ]; split <;> first | rfl | omega | (dsimp only; omega)
              have h9 := ih (t + 1) (some (vi (sS (tlY (gR M f) (M 65 (4 + f)) ((a : Int) + 1) (t : Int)) 11))) (some (vi (sS (tlN (gR M f) (M 65 (4 + f)) ((a : Int) + 1) (t : Int)) 11))) (some (vi (sS (tlN (gR M f) (M 65 (4 + f)) ((a : Int) + 1) (t : Int)) 11))) k10 (by omega) (by omega)
              rw [e1, e2] at h9
              exact h9
            · skip
              refine Hx.run 2 (pc' := 195) (L' := [some (vr 64), some (vi f), some (vi (bS (gR M f) 11)), some (vi ((100 * ((a : Int) + 1)) + (t : Int))), some (vi (am4 tlL (tlV (gR M f) (M 65 (4 + f))) (24 * a + t)).2), some (vi ((a : Int) + 1)), some (vi (t : Int)), some (vi (sS (tlY (gR M f) (M 65 (4 + f)) ((a : Int) + 1) (t : Int)) 11)), some (vi (sS (tlN (gR M f) (M 65 (4 + f)) ((a : Int) + 1) (t : Int)) 11)), some (vi (sS (tlN (gR M f) (M 65 (4 + f)) ((a : Int) + 1) (t : Int)) 11)), k10]) (st' := []) (M' := M) rfl ?_
              refine Hx.inc rfl rfl (by omega) ?_
              refine Hx.run 0 (pc' := 198) (L' := [some (vr 64), some (vi f), some (vi (bS (gR M f) 11)), some (vi ((100 * ((a : Int) + 1)) + (t : Int))), some (vi (am4 tlL (tlV (gR M f) (M 65 (4 + f))) (24 * a + t)).2), some (vi ((a : Int) + 1)), some (vi ((t : Int) + 1)), some (vi (sS (tlY (gR M f) (M 65 (4 + f)) ((a : Int) + 1) (t : Int)) 11)), some (vi (sS (tlN (gR M f) (M 65 (4 + f)) ((a : Int) + 1) (t : Int)) 11)), some (vi (sS (tlN (gR M f) (M 65 (4 + f)) ((a : Int) + 1) (t : Int)) 11)), k10]) (st' := []) (M' := M) rfl ?_
              refine Hx.run 1 (pc' := 44) (L' := [some (vr 64), some (vi f), some (vi (bS (gR M f) 11)), some (vi ((100 * ((a : Int) + 1)) + (t : Int))), some (vi (am4 tlL (tlV (gR M f) (M 65 (4 + f))) (24 * a + t)).2), some (vi ((a : Int) + 1)), some (vi ((t : Int) + 1)), some (vi (sS (tlY (gR M f) (M 65 (4 + f)) ((a : Int) + 1) (t : Int)) 11)), some (vi (sS (tlN (gR M f) (M 65 (4 + f)) ((a : Int) + 1) (t : Int)) 11)), some (vi (sS (tlN (gR M f) (M 65 (4 + f)) ((a : Int) + 1) (t : Int)) 11)), k10]) (st' := []) (M' := M) rfl ?_
              have e1 : (am4 tlL (tlV (gR M f) (M 65 (4 + f))) (24 * a + (t + 1))).1 = ((100 * ((a : Int) + 1)) + (t : Int)) := by rw [show 24 * a + (t + 1) = 24 * a + t + 1 from rfl, am4_succ]; split <;> first | rfl | omega | (dsimp only; omega)
              have e2 : (am4 tlL (tlV (gR M f) (M 65 (4 + f))) (24 * a + (t + 1))).2 = (am4 tlL (tlV (gR M f) (M 65 (4 + f))) (24 * a + t)).2 := by rw [show 24 * a + (t + 1) = 24 * a + t + 1 from rfl, am4_succ]; split <;> first | rfl | omega | (dsimp only; omega)
              have h9 := ih (t + 1) (some (vi (sS (tlY (gR M f) (M 65 (4 + f)) ((a : Int) + 1) (t : Int)) 11))) (some (vi (sS (tlN (gR M f) (M 65 (4 + f)) ((a : Int) + 1) (t : Int)) 11))) (some (vi (sS (tlN (gR M f) (M 65 (4 + f)) ((a : Int) + 1) (t : Int)) 11))) k10 (by omega) (by omega)
              rw [e1, e2] at h9
              exact h9
          · skip
            refine Hx.run 4 (pc' := 183) (L' := [some (vr 64), some (vi f), some (vi (bS (gR M f) 11)), some (vi (am4 tlL (tlV (gR M f) (M 65 (4 + f))) (24 * a + t)).1), some (vi (am4 tlL (tlV (gR M f) (M 65 (4 + f))) (24 * a + t)).2), some (vi ((a : Int) + 1)), some (vi (t : Int)), some (vi (sS (tlY (gR M f) (M 65 (4 + f)) ((a : Int) + 1) (t : Int)) 11)), some (vi (sS (tlN (gR M f) (M 65 (4 + f)) ((a : Int) + 1) (t : Int)) 11)), some (vi (sS (tlN (gR M f) (M 65 (4 + f)) ((a : Int) + 1) (t : Int)) 11)), k10]) (st' := [vi (am4 tlL (tlV (gR M f) (M 65 (4 + f))) (24 * a + t)).2, vi (sS (tlN (gR M f) (M 65 (4 + f)) ((a : Int) + 1) (t : Int)) 11)]) (M' := M) rfl ?_
            refine Hx.br (c := (sS (tlN (gR M f) (M 65 (4 + f)) ((a : Int) + 1) (t : Int)) 11) < (am4 tlL (tlV (gR M f) (M 65 (4 + f))) (24 * a + t)).2) (t := 186) (f := 191) rfl (fun h8 => ?_) (fun h8 => ?_)
            · skip
              refine Hx.run 3 (pc' := 195) (L' := [some (vr 64), some (vi f), some (vi (bS (gR M f) 11)), some (vi (am4 tlL (tlV (gR M f) (M 65 (4 + f))) (24 * a + t)).1), some (vi (sS (tlN (gR M f) (M 65 (4 + f)) ((a : Int) + 1) (t : Int)) 11)), some (vi ((a : Int) + 1)), some (vi (t : Int)), some (vi (sS (tlY (gR M f) (M 65 (4 + f)) ((a : Int) + 1) (t : Int)) 11)), some (vi (sS (tlN (gR M f) (M 65 (4 + f)) ((a : Int) + 1) (t : Int)) 11)), some (vi (sS (tlN (gR M f) (M 65 (4 + f)) ((a : Int) + 1) (t : Int)) 11)), k10]) (st' := []) (M' := M) rfl ?_
              refine Hx.inc rfl rfl (by omega) ?_
              refine Hx.run 0 (pc' := 198) (L' := [some (vr 64), some (vi f), some (vi (bS (gR M f) 11)), some (vi (am4 tlL (tlV (gR M f) (M 65 (4 + f))) (24 * a + t)).1), some (vi (sS (tlN (gR M f) (M 65 (4 + f)) ((a : Int) + 1) (t : Int)) 11)), some (vi ((a : Int) + 1)), some (vi ((t : Int) + 1)), some (vi (sS (tlY (gR M f) (M 65 (4 + f)) ((a : Int) + 1) (t : Int)) 11)), some (vi (sS (tlN (gR M f) (M 65 (4 + f)) ((a : Int) + 1) (t : Int)) 11)), some (vi (sS (tlN (gR M f) (M 65 (4 + f)) ((a : Int) + 1) (t : Int)) 11)), k10]) (st' := []) (M' := M) rfl ?_
              refine Hx.run 1 (pc' := 44) (L' := [some (vr 64), some (vi f), some (vi (bS (gR M f) 11)), some (vi (am4 tlL (tlV (gR M f) (M 65 (4 + f))) (24 * a + t)).1), some (vi (sS (tlN (gR M f) (M 65 (4 + f)) ((a : Int) + 1) (t : Int)) 11)), some (vi ((a : Int) + 1)), some (vi ((t : Int) + 1)), some (vi (sS (tlY (gR M f) (M 65 (4 + f)) ((a : Int) + 1) (t : Int)) 11)), some (vi (sS (tlN (gR M f) (M 65 (4 + f)) ((a : Int) + 1) (t : Int)) 11)), some (vi (sS (tlN (gR M f) (M 65 (4 + f)) ((a : Int) + 1) (t : Int)) 11)), k10]) (st' := []) (M' := M) rfl ?_
              have e1 : (am4 tlL (tlV (gR M f) (M 65 (4 + f))) (24 * a + (t + 1))).1 = (am4 tlL (tlV (gR M f) (M 65 (4 + f))) (24 * a + t)).1 := by rw [show 24 * a + (t + 1) = 24 * a + t + 1 from rfl, am4_succ]; split <;> first | rfl | omega | (dsimp only; omega)
              have e2 : (am4 tlL (tlV (gR M f) (M 65 (4 + f))) (24 * a + (t + 1))).2 = (sS (tlN (gR M f) (M 65 (4 + f)) ((a : Int) + 1) (t : Int)) 11) := by rw [show 24 * a + (t + 1) = 24 * a + t + 1 from rfl, am4_succ]; split <;> first | rfl | omega | (dsimp only; omega)
              have h9 := ih (t + 1) (some (vi (sS (tlY (gR M f) (M 65 (4 + f)) ((a : Int) + 1) (t : Int)) 11))) (some (vi (sS (tlN (gR M f) (M 65 (4 + f)) ((a : Int) + 1) (t : Int)) 11))) (some (vi (sS (tlN (gR M f) (M 65 (4 + f)) ((a : Int) + 1) (t : Int)) 11))) k10 (by omega) (by omega)
              rw [e1, e2] at h9
              exact h9
            · skip
              refine Hx.run 2 (pc' := 195) (L' := [some (vr 64), some (vi f), some (vi (bS (gR M f) 11)), some (vi (am4 tlL (tlV (gR M f) (M 65 (4 + f))) (24 * a + t)).1), some (vi (am4 tlL (tlV (gR M f) (M 65 (4 + f))) (24 * a + t)).2), some (vi ((a : Int) + 1)), some (vi (t : Int)), some (vi (sS (tlY (gR M f) (M 65 (4 + f)) ((a : Int) + 1) (t : Int)) 11)), some (vi (sS (tlN (gR M f) (M 65 (4 + f)) ((a : Int) + 1) (t : Int)) 11)), some (vi (sS (tlN (gR M f) (M 65 (4 + f)) ((a : Int) + 1) (t : Int)) 11)), k10]) (st' := []) (M' := M) rfl ?_
              refine Hx.inc rfl rfl (by omega) ?_
              refine Hx.run 0 (pc' := 198) (L' := [some (vr 64), some (vi f), some (vi (bS (gR M f) 11)), some (vi (am4 tlL (tlV (gR M f) (M 65 (4 + f))) (24 * a + t)).1), some (vi (am4 tlL (tlV (gR M f) (M 65 (4 + f))) (24 * a + t)).2), some (vi ((a : Int) + 1)), some (vi ((t : Int) + 1)), some (vi (sS (tlY (gR M f) (M 65 (4 + f)) ((a : Int) + 1) (t : Int)) 11)), some (vi (sS (tlN (gR M f) (M 65 (4 + f)) ((a : Int) + 1) (t : Int)) 11)), some (vi (sS (tlN (gR M f) (M 65 (4 + f)) ((a : Int) + 1) (t : Int)) 11)), k10]) (st' := []) (M' := M) rfl ?_
              refine Hx.run 1 (pc' := 44) (L' := [some (vr 64), some (vi f), some (vi (bS (gR M f) 11)), some (vi (am4 tlL (tlV (gR M f) (M 65 (4 + f))) (24 * a + t)).1), some (vi (am4 tlL (tlV (gR M f) (M 65 (4 + f))) (24 * a + t)).2), some (vi ((a : Int) + 1)), some (vi ((t : Int) + 1)), some (vi (sS (tlY (gR M f) (M 65 (4 + f)) ((a : Int) + 1) (t : Int)) 11)), some (vi (sS (tlN (gR M f) (M 65 (4 + f)) ((a : Int) + 1) (t : Int)) 11)), some (vi (sS (tlN (gR M f) (M 65 (4 + f)) ((a : Int) + 1) (t : Int)) 11)), k10]) (st' := []) (M' := M) rfl ?_
              have e1 : (am4 tlL (tlV (gR M f) (M 65 (4 + f))) (24 * a + (t + 1))).1 = (am4 tlL (tlV (gR M f) (M 65 (4 + f))) (24 * a + t)).1 := by rw [show 24 * a + (t + 1) = 24 * a + t + 1 from rfl, am4_succ]; split <;> first | rfl | omega | (dsimp only; omega)
              have e2 : (am4 tlL (tlV (gR M f) (M 65 (4 + f))) (24 * a + (t + 1))).2 = (am4 tlL (tlV (gR M f) (M 65 (4 + f))) (24 * a + t)).2 := by rw [show 24 * a + (t + 1) = 24 * a + t + 1 from rfl, am4_succ]; split <;> first | rfl | omega | (dsimp only; omega)
              have h9 := ih (t + 1) (some (vi (sS (tlY (gR M f) (M 65 (4 + f)) ((a : Int) + 1) (t : Int)) 11))) (some (vi (sS (tlN (gR M f) (M 65 (4 + f)) ((a : Int) + 1) (t : Int)) 11))) (some (vi (sS (tlN (gR M f) (M 65 (4 + f)) ((a : Int) + 1) (t : Int)) 11))) k10 (by omega) (by omega)
              rw [e1, e2] at h9
              exact h9
    · skip
      refine Hx.run 0 (pc' := 201) (L' := [some (vr 64), some (vi f), some (vi (bS (gR M f) 11)), some (vi (am4 tlL (tlV (gR M f) (M 65 (4 + f))) (24 * a + t)).1), some (vi (am4 tlL (tlV (gR M f) (M 65 (4 + f))) (24 * a + t)).2), some (vi ((a : Int) + 1)), some (vi (t : Int)), j7, j8, j9, j10]) (st' := []) (M' := M) rfl ?_
      have e : t = 24 := by omega
      subst e
      exact hk j7 j8 j9 j10
set_option maxRecDepth 100000 in
theorem rl_tell3 (f : Int) (M : Mm) (hI : RI M 0) (hS : ∀ n : Int, 0 ≤ n → n < M 65 40 → (1 ≤ M 65 (41 + 4 * n + 1) ∧ M 65 (41 + 4 * n + 1) ≤ 10) ∧ (0 ≤ M 65 (41 + 4 * n + 2) ∧ M 65 (41 + 4 * n + 2) ≤ 23)) (hf : 0 ≤ f ∧ f < M 65 0) (hpos : 0 < (bS (gR M f) 11)) : ∀ (kk : Nat) (a : Nat) (j6 : Option PV) (j7 : Option PV) (j8 : Option PV) (j9 : Option PV) (j10 : Option PV), a ≤ 10 → 10 - (a : Int) < (kk : Int) → Hx 196 30 [some (vr 64), some (vi f), some (vi (bS (gR M f) 11)), some (vi (am4 tlL (tlV (gR M f) (M 65 (4 + f))) (24 * a)).1), some (vi (am4 tlL (tlV (gR M f) (M 65 (4 + f))) (24 * a)).2), some (vi ((a : Int) + 1)), j6, j7, j8, j9, j10] [] M (fun q0 M' => q0 = some (vi (am4 tlL (tlV (gR M f) (M 65 (4 + f))) (240)).1) ∧ M = M') := by
  intro kk
  induction kk with
  | zero => intro a j6 j7 j8 j9 j10 _ hkk; exact absurd hkk (by omega)
  | succ kk ih =>
    intro a j6 j7 j8 j9 j10 ha hkk
    refine Hx.run 2 (pc' := 34) (L' := [some (vr 64), some (vi f), some (vi (bS (gR M f) 11)), some (vi (am4 tlL (tlV (gR M f) (M 65 (4 + f))) (24 * a)).1), some (vi (am4 tlL (tlV (gR M f) (M 65 (4 + f))) (24 * a)).2), some (vi ((a : Int) + 1)), j6, j7, j8, j9, j10]) (st' := [vi 10, vi ((a : Int) + 1)]) (M' := M) rfl ?_
    refine Hx.br (c := 10 < ((a : Int) + 1)) (t := 207) (f := 37) rfl (fun h1 => ?_) (fun h1 => ?_)
    · skip
      refine Hx.run 1 (pc' := 208) (L' := [some (vr 64), some (vi f), some (vi (bS (gR M f) 11)), some (vi (am4 tlL (tlV (gR M f) (M 65 (4 + f))) (24 * a)).1), some (vi (am4 tlL (tlV (gR M f) (M 65 (4 + f))) (24 * a)).2), some (vi ((a : Int) + 1)), j6, j7, j8, j9, j10]) (st' := [vi (am4 tlL (tlV (gR M f) (M 65 (4 + f))) (24 * a)).1]) (M' := M) rfl ?_
      refine Hx.ret rfl ?_
      first | exact absurd hpos (by omega) | exact ⟨by rw [show a = 10 by omega], rfl⟩
    · skip
      refine Hx.run 1 (pc' := 38) (L' := [some (vr 64), some (vi f), some (vi (bS (gR M f) 11)), some (vi (am4 tlL (tlV (gR M f) (M 65 (4 + f))) (24 * a)).1), some (vi (am4 tlL (tlV (gR M f) (M 65 (4 + f))) (24 * a)).2), some (vi ((a : Int) + 1)), j6, j7, j8, j9, j10]) (st' := [vi (bS (gR M f) 11)]) (M' := M) rfl ?_
      refine Hx.br (c := 0 < (bS (gR M f) 11)) (t := 41) (f := 207) rfl (fun h2 => ?_) (fun h2 => ?_)
      · skip
        refine Hx.run 2 (pc' := 44) (L' := [some (vr 64), some (vi f), some (vi (bS (gR M f) 11)), some (vi (am4 tlL (tlV (gR M f) (M 65 (4 + f))) (24 * a)).1), some (vi (am4 tlL (tlV (gR M f) (M 65 (4 + f))) (24 * a)).2), some (vi ((a : Int) + 1)), some (vi 0), j7, j8, j9, j10]) (st' := []) (M' := M) rfl ?_
        refine rl_tell2 f M hI hS hf a (by omega) (fun k7 k8 k9 k10 => ?_) 30 0 j7 j8 j9 j10 (by omega) (by omega)
        refine Hx.inc rfl rfl (by omega) ?_
        refine Hx.run 0 (pc' := 204) (L' := [some (vr 64), some (vi f), some (vi (bS (gR M f) 11)), some (vi (am4 tlL (tlV (gR M f) (M 65 (4 + f))) (24 * a + 24)).1), some (vi (am4 tlL (tlV (gR M f) (M 65 (4 + f))) (24 * a + 24)).2), some (vi (((a : Int) + 1) + 1)), some (vi 24), k7, k8, k9, k10]) (st' := []) (M' := M) rfl ?_
        refine Hx.run 1 (pc' := 30) (L' := [some (vr 64), some (vi f), some (vi (bS (gR M f) 11)), some (vi (am4 tlL (tlV (gR M f) (M 65 (4 + f))) (24 * a + 24)).1), some (vi (am4 tlL (tlV (gR M f) (M 65 (4 + f))) (24 * a + 24)).2), some (vi (((a : Int) + 1) + 1)), some (vi 24), k7, k8, k9, k10]) (st' := []) (M' := M) rfl ?_
        exact ih (a + 1) (some (vi 24)) k7 k8 k9 k10 (by omega) (by omega)
      · skip
        refine Hx.run 1 (pc' := 208) (L' := [some (vr 64), some (vi f), some (vi (bS (gR M f) 11)), some (vi (am4 tlL (tlV (gR M f) (M 65 (4 + f))) (24 * a)).1), some (vi (am4 tlL (tlV (gR M f) (M 65 (4 + f))) (24 * a)).2), some (vi ((a : Int) + 1)), j6, j7, j8, j9, j10]) (st' := [vi (am4 tlL (tlV (gR M f) (M 65 (4 + f))) (24 * a)).1]) (M' := M) rfl ?_
        refine Hx.ret rfl ?_
        first | exact absurd hpos (by omega) | exact ⟨by rw [show a = 10 by omega], rfl⟩
set_option maxRecDepth 100000 in
theorem R_tell (f : Int) (M : Mm) (hI : RI M 0) (hs : (0 ≤ M 68 0 ∧ M 68 0 ≤ 600) ∧ (0 ≤ M 68 1 ∧ M 68 1 ≤ 600) ∧ (0 ≤ M 68 2 ∧ M 68 2 ≤ 600)) (hS : ∀ n : Int, 0 ≤ n → n < M 65 40 → (1 ≤ M 65 (41 + 4 * n + 1) ∧ M 65 (41 + 4 * n + 1) ≤ 10) ∧ (0 ≤ M 65 (41 + 4 * n + 2) ∧ M 65 (41 + 4 * n + 2) ≤ 23)) : Ct 196 [vr 64, vi f] M (fun q0 M' => (¬ (0 ≤ f ∧ f < M 65 0) ∧ q0 = some (vi (-2)) ∧ up M 68 0 (M 68 0 + 1) = M') ∨ ((0 ≤ f ∧ f < M 65 0) ∧ q0 = some (vi (if (bS (gR M f) 11) = 0 then -1 else (am4 tlL (tlV (gR M f) (M 65 (4 + f))) (240)).1)) ∧ M = M')) := by
  obtain ⟨r0, r1, r2, r3, r40, r61, r80, r111, rF, rG⟩ := (show (0 ≤ M 65 0 ∧ M 65 0 ≤ 3) ∧ (0 ≤ M 65 1 ∧ M 65 1 ≤ 6) ∧ (0 ≤ M 65 2 ∧ M 65 2 ≤ 9999) ∧ (0 ≤ M 65 3 ∧ M 65 3 ≤ 9000) ∧ (0 ≤ M 65 40 ∧ M 65 40 ≤ 5) ∧ (0 ≤ M 65 61 ∧ M 65 61 ≤ 6) ∧ (0 ≤ M 65 80 ∧ M 65 80 ≤ 6) ∧ (0 ≤ M 65 111 ∧ M 65 111 ≤ 8) ∧ (∀ f : Int, 0 ≤ f → f < M 65 0 → (0 ≤ M 65 (4 + f) ∧ M 65 (4 + f) ≤ 5) ∧ (1 ≤ M 65 (7 + f) ∧ M 65 (7 + f) ≤ 10)) ∧ (∀ i : Int, 0 ≤ i → i < M 65 1 → (0 ≤ M 65 (10 + i) ∧ M 65 (10 + i) ≤ 5) ∧ (1 ≤ M 65 (16 + i) ∧ M 65 (16 + i) ≤ 4) ∧ (0 ≤ M 65 (22 + i) ∧ M 65 (22 + i) < M 65 0) ∧ (0 ≤ M 65 (28 + i) ∧ M 65 (28 + i) ≤ 11) ∧ (0 ≤ M 65 (34 + i) ∧ M 65 (34 + i) ≤ 9)) from hI)
  refine Hx.run 2 (pc' := 2) (L' := [some (vr 64), some (vi f), none, none, none, none, none, none, none, none, none]) (st' := [vi f, vr 64]) (M' := M) rfl ?_
  refine Hx.call (t := 138) (as := [vr 64, vi f]) (pc' := 5) (rest := []) rfl (r_isFlight f M (by omega)) ?_
  rintro _ _ (⟨q117, rfl, rfl⟩ | ⟨q117, rfl, rfl⟩)
  · skip
    have fq117 := rF f q117.1 q117.2
    refine Hx.run 3 (pc' := 17) (L' := [some (vr 64), some (vi f), none, none, none, none, none, none, none, none, none]) (st' := [vi f, vr 64]) (M' := M) rfl ?_
    refine Hx.call (t := 194) (as := [vr 64, vi f]) (pc' := 20) (rest := []) rfl (r_whoseOf2 f M hI hS (by omega)) ?_
    rintro _ _ ⟨rfl, rfl⟩
    refine Hx.run 0 (pc' := 20) (L' := [some (vr 64), some (vi f), none, none, none, none, none, none, none, none, none]) (st' := [vi (bS (gR M f) 11)]) (M' := M) rfl ?_
    refine Hx.run 7 (pc' := 30) (L' := [some (vr 64), some (vi f), some (vi (bS (gR M f) 11)), some (vi (-1)), some (vi 1000000), some (vi 1), none, none, none, none, none]) (st' := []) (M' := M) rfl ?_
    have wr := bS_rng (gR M f) 11
    by_cases hz : 0 < (bS (gR M f) 11)
    · have h0 := rl_tell3 f M hI hS (by omega) hz 20 0 none none none none none (by omega) (by omega)
      rw [show (am4 tlL (tlV (gR M f) (M 65 (4 + f))) (24 * 0)).2 = 1000000 from rfl, show (am4 tlL (tlV (gR M f) (M 65 (4 + f))) (24 * 0)).1 = -1 from rfl] at h0
      exact Hx.imp h0 (fun r M' h => Or.inr ⟨by omega, by rw [if_neg (by omega)]; exact h.1, h.2⟩)
    · skip
      refine Hx.run 4 (pc' := 38) (L' := [some (vr 64), some (vi f), some (vi (bS (gR M f) 11)), some (vi (-1)), some (vi 1000000), some (vi 1), none, none, none, none, none]) (st' := [vi (bS (gR M f) 11)]) (M' := M) rfl ?_
      refine Hx.br (c := 0 < (bS (gR M f) 11)) (t := 41) (f := 207) rfl (fun h1 => ?_) (fun h1 => ?_)
      · skip
        exact absurd h1 hz
      · skip
        refine Hx.run 1 (pc' := 208) (L' := [some (vr 64), some (vi f), some (vi (bS (gR M f) 11)), some (vi (-1)), some (vi 1000000), some (vi 1), none, none, none, none, none]) (st' := [vi (-1)]) (M' := M) rfl ?_
        refine Hx.ret rfl ?_
        first | exact Or.inl ⟨by omega, rfl, rfl⟩ | exact Or.inr ⟨by omega, by rw [if_pos (by omega)], rfl⟩ | omega
  · skip
    refine Hx.run 3 (pc' := 11) (L' := [some (vr 64), some (vi f), none, none, none, none, none, none, none, none, none]) (st' := [vi (-2), vr 64]) (M' := M) rfl ?_
    refine Hx.call (t := 132) (as := [vr 64, vi (-2)]) (pc' := 14) (rest := []) rfl (r_bad (-2) M (by omega)) ?_
    rintro _ _ ⟨rfl, rfl⟩
    refine Hx.run 0 (pc' := 14) (L' := [some (vr 64), some (vi f), none, none, none, none, none, none, none, none, none]) (st' := [vi (-2)]) (M' := (up M 68 0 ((M 68 0) + 1))) rfl ?_
    refine Hx.ret rfl ?_
    first | exact Or.inl ⟨by omega, rfl, rfl⟩ | exact Or.inr ⟨by omega, by rw [if_pos (by omega)], rfl⟩ | omega
