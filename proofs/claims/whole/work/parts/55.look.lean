/-! look and ask of the reference (written by wip/whole/gen55.py) -/
theorem ctA_yes {g : Nat → Bool} {v : Nat → Int} {a n : Nat} (h1 : g a = true) (h2 : g n = true) (h3 : v a = v n) : ctA g v a (n + 1) = ctA g v a n + 1 := by
  unfold ctA
  rw [if_pos h1, if_pos h1, cnt_succ, if_pos ⟨h2, h3.symm⟩]
theorem ctA_noA {g : Nat → Bool} {v : Nat → Int} {a n : Nat} (h1 : ¬ g a = true) : ctA g v a (n + 1) = ctA g v a n := by
  unfold ctA
  rw [if_neg h1, if_neg h1]
theorem ctA_noN {g : Nat → Bool} {v : Nat → Int} {a n : Nat} (h1 : ¬ g n = true) : ctA g v a (n + 1) = ctA g v a n := by
  unfold ctA
  split
  · rw [cnt_succ, if_neg (fun z => h1 z.1), Int.add_zero]
  · rfl
theorem ctA_noV {g : Nat → Bool} {v : Nat → Int} {a n : Nat} (h1 : ¬ v a = v n) : ctA g v a (n + 1) = ctA g v a n := by
  unfold ctA
  split
  · rw [cnt_succ, if_neg (fun z => h1 z.2.symm), Int.add_zero]
  · rfl
theorem ctA_rng (g : Nat → Bool) (v : Nat → Int) (a n : Nat) : 0 ≤ ctA g v a n ∧ ctA g v a n ≤ n := by
  unfold ctA
  have := cnt_rng g v (v a) n
  split <;> omega
theorem ctA_0 (g : Nat → Bool) (v : Nat → Int) (a : Nat) : ctA g v a 0 = 0 := by
  unfold ctA
  split <;> rfl
set_option maxRecDepth 100000 in
set_option maxHeartbeats 2000000 in
theorem rl_X5_lookb (f : Int) (M : Mm) (hI : RI M 0) (hf : 0 ≤ f ∧ f < M 65 0) (b l t : Int) (ht : 0 ≤ t ∧ t < 24) (ms : Int) (a : Nat) (ha : a < 6) {P : Option PV → Mm → Prop} (hk : Hx 203 116 [some (vr 64), some (vi f), some (vi (bS (hO M f) 6)), some (vi b), some (vi l), some (vi t), some (vi ms), some (vi (a : Int)), some (vi (ctA (hO M f) (vO t) a 6)), some (vi 6)] [] M P) : ∀ (kk : Nat) (n : Nat), n ≤ 6 → 6 - (n : Int) < (kk : Int) → Hx 203 59 [some (vr 64), some (vi f), some (vi (bS (hO M f) 6)), some (vi b), some (vi l), some (vi t), some (vi ms), some (vi (a : Int)), some (vi (ctA (hO M f) (vO t) a n)), some (vi (n : Int))] [] M P := by
  intro kk
  induction kk with
  | zero => intro n _ hkk; exact absurd hkk (by omega)
  | succ kk ih =>
    intro n hn hkk
    obtain ⟨r0, r1, r2, r3, r40, r61, r80, r111, rF, rG⟩ := (show (0 ≤ M 65 0 ∧ M 65 0 ≤ 3) ∧ (0 ≤ M 65 1 ∧ M 65 1 ≤ 6) ∧ (0 ≤ M 65 2 ∧ M 65 2 ≤ 9999) ∧ (0 ≤ M 65 3 ∧ M 65 3 ≤ 9000) ∧ (0 ≤ M 65 40 ∧ M 65 40 ≤ 5) ∧ (0 ≤ M 65 61 ∧ M 65 61 ≤ 6) ∧ (0 ≤ M 65 80 ∧ M 65 80 ≤ 6) ∧ (0 ≤ M 65 111 ∧ M 65 111 ≤ 8) ∧ (∀ f : Int, 0 ≤ f → f < M 65 0 → (0 ≤ M 65 (4 + f) ∧ M 65 (4 + f) ≤ 5) ∧ (1 ≤ M 65 (7 + f) ∧ M 65 (7 + f) ≤ 10)) ∧ (∀ i : Int, 0 ≤ i → i < M 65 1 → (0 ≤ M 65 (10 + i) ∧ M 65 (10 + i) ≤ 5) ∧ (1 ≤ M 65 (16 + i) ∧ M 65 (16 + i) ≤ 4) ∧ (0 ≤ M 65 (22 + i) ∧ M 65 (22 + i) < M 65 0) ∧ (0 ≤ M 65 (28 + i) ∧ M 65 (28 + i) ≤ 11) ∧ (0 ≤ M 65 (34 + i) ∧ M 65 (34 + i) ≤ 9)) from hI)
    have cr := ctA_rng (hO M f) (vO t) a n
    refine Hx.run 2 (pc' := 62) (L' := [some (vr 64), some (vi f), some (vi (bS (hO M f) 6)), some (vi b), some (vi l), some (vi t), some (vi ms), some (vi (a : Int)), some (vi (ctA (hO M f) (vO t) a n)), some (vi (n : Int))]) (st' := [vi 5, vi (n : Int)]) (M' := M) rfl ?_
    refine Hx.br (c := 5 < (n : Int)) (t := 116) (f := 65) rfl (fun h1 => ?_) (fun h1 => ?_)
    · skip
      refine Hx.run 0 (pc' := 116) (L' := [some (vr 64), some (vi f), some (vi (bS (hO M f) 6)), some (vi b), some (vi l), some (vi t), some (vi ms), some (vi (a : Int)), some (vi (ctA (hO M f) (vO t) a n)), some (vi (n : Int))]) (st' := []) (M' := M) rfl ?_
      have e : n = 6 := by omega
      subst e
      exact hk
    · skip
      refine Hx.run 3 (pc' := 70) (L' := [some (vr 64), some (vi f), some (vi (bS (hO M f) 6)), some (vi b), some (vi l), some (vi t), some (vi ms), some (vi (a : Int)), some (vi (ctA (hO M f) (vO t) a n)), some (vi (n : Int))]) (st' := [vi (a : Int), vi (bS (hO M f) 6), vi (ctA (hO M f) (vO t) a n)]) (M' := M) rfl ?_
      refine Hx.call (t := 131) (as := [vi (bS (hO M f) 6), vi (a : Int)]) (pc' := 73) (rest := [vi (ctA (hO M f) (vO t) a n)]) rfl (by rw [show (a : Int) = (((a : Nat)) : Int) from rfl]; exact r_hasBS (hO M f) 6 a M (by omega) (by omega)) ?_
      rintro _ _ (⟨q126, rfl, rfl⟩ | ⟨q126, rfl, rfl⟩)
      · skip
        refine Hx.run 3 (pc' := 79) (L' := [some (vr 64), some (vi f), some (vi (bS (hO M f) 6)), some (vi b), some (vi l), some (vi t), some (vi ms), some (vi (a : Int)), some (vi (ctA (hO M f) (vO t) a n)), some (vi (n : Int))]) (st' := [vi (n : Int), vi (bS (hO M f) 6), vi (ctA (hO M f) (vO t) a n)]) (M' := M) rfl ?_
        refine Hx.call (t := 131) (as := [vi (bS (hO M f) 6), vi (n : Int)]) (pc' := 82) (rest := [vi (ctA (hO M f) (vO t) a n)]) rfl (by rw [show (n : Int) = (((n : Nat)) : Int) from rfl]; exact r_hasBS (hO M f) 6 n M (by omega) (by omega)) ?_
        rintro _ _ (⟨q127, rfl, rfl⟩ | ⟨q127, rfl, rfl⟩)
        · skip
          refine Hx.run 3 (pc' := 89) (L' := [some (vr 64), some (vi f), some (vi (bS (hO M f) 6)), some (vi b), some (vi l), some (vi t), some (vi ms), some (vi (a : Int)), some (vi (ctA (hO M f) (vO t) a n)), some (vi (n : Int))]) (st' := [vi t, vi (a : Int), vi (ctA (hO M f) (vO t) a n)]) (M' := M) rfl ?_
          refine Hx.call (t := 142) (as := [vi (a : Int), vi t]) (pc' := 92) (rest := [vi (ctA (hO M f) (vO t) a n)]) rfl (r_barsOf (a : Int) t M (by omega) (by omega)) ?_
          rintro _ _ ⟨rfl, rfl⟩
          refine Hx.run 0 (pc' := 92) (L' := [some (vr 64), some (vi f), some (vi (bS (hO M f) 6)), some (vi b), some (vi l), some (vi t), some (vi ms), some (vi (a : Int)), some (vi (ctA (hO M f) (vO t) a n)), some (vi (n : Int))]) (st' := [vi (bcF (a : Int) t), vi (ctA (hO M f) (vO t) a n)]) (M' := M) rfl ?_
          refine Hx.run 2 (pc' := 96) (L' := [some (vr 64), some (vi f), some (vi (bS (hO M f) 6)), some (vi b), some (vi l), some (vi t), some (vi ms), some (vi (a : Int)), some (vi (ctA (hO M f) (vO t) a n)), some (vi (n : Int))]) (st' := [vi t, vi (n : Int), vi (bcF (a : Int) t), vi (ctA (hO M f) (vO t) a n)]) (M' := M) rfl ?_
          refine Hx.call (t := 142) (as := [vi (n : Int), vi t]) (pc' := 99) (rest := [vi (bcF (a : Int) t), vi (ctA (hO M f) (vO t) a n)]) rfl (r_barsOf (n : Int) t M (by omega) (by omega)) ?_
          rintro _ _ ⟨rfl, rfl⟩
          refine Hx.run 0 (pc' := 99) (L' := [some (vr 64), some (vi f), some (vi (bS (hO M f) 6)), some (vi b), some (vi l), some (vi t), some (vi ms), some (vi (a : Int)), some (vi (ctA (hO M f) (vO t) a n)), some (vi (n : Int))]) (st' := [vi (bcF (n : Int) t), vi (bcF (a : Int) t), vi (ctA (hO M f) (vO t) a n)]) (M' := M) rfl ?_
          refine Hx.br (c := (bcF (a : Int) t) = (bcF (n : Int) t)) (t := 102) (f := 106) rfl (fun h2 => ?_) (fun h2 => ?_)
          · skip
            refine Hx.run 2 (pc' := 107) (L' := [some (vr 64), some (vi f), some (vi (bS (hO M f) 6)), some (vi b), some (vi l), some (vi t), some (vi ms), some (vi (a : Int)), some (vi (ctA (hO M f) (vO t) a n)), some (vi (n : Int))]) (st' := [vi 1, vi (ctA (hO M f) (vO t) a n)]) (M' := M) rfl ?_
            refine Hx.add rfl (by omega) ?_
            refine Hx.run 1 (pc' := 110) (L' := [some (vr 64), some (vi f), some (vi (bS (hO M f) 6)), some (vi b), some (vi l), some (vi t), some (vi ms), some (vi (a : Int)), some (vi ((ctA (hO M f) (vO t) a n) + 1)), some (vi (n : Int))]) (st' := []) (M' := M) rfl ?_
            refine Hx.inc rfl rfl (by omega) ?_
            refine Hx.run 0 (pc' := 113) (L' := [some (vr 64), some (vi f), some (vi (bS (hO M f) 6)), some (vi b), some (vi l), some (vi t), some (vi ms), some (vi (a : Int)), some (vi ((ctA (hO M f) (vO t) a n) + 1)), some (vi ((n : Int) + 1))]) (st' := []) (M' := M) rfl ?_
            refine Hx.run 1 (pc' := 59) (L' := [some (vr 64), some (vi f), some (vi (bS (hO M f) 6)), some (vi b), some (vi l), some (vi t), some (vi ms), some (vi (a : Int)), some (vi ((ctA (hO M f) (vO t) a n) + 1)), some (vi ((n : Int) + 1))]) (st' := []) (M' := M) rfl ?_
            have e : ctA (hO M f) (vO t) a (n + 1) = ((ctA (hO M f) (vO t) a n) + 1) := by
              first
                | exact ctA_yes (by assumption) (by assumption) (by unfold vO; assumption)
                | (rw [ctA_noA (by assumption)]; omega)
                | (rw [ctA_noN (by assumption)]; omega)
                | (rw [ctA_noV (by unfold vO; assumption)]; omega)
            have h9 := ih (n + 1) (by omega) (by omega)
            rw [e] at h9
            exact h9
          · skip
            refine Hx.run 1 (pc' := 107) (L' := [some (vr 64), some (vi f), some (vi (bS (hO M f) 6)), some (vi b), some (vi l), some (vi t), some (vi ms), some (vi (a : Int)), some (vi (ctA (hO M f) (vO t) a n)), some (vi (n : Int))]) (st' := [vi 0, vi (ctA (hO M f) (vO t) a n)]) (M' := M) rfl ?_
            refine Hx.add rfl (by omega) ?_
            refine Hx.run 1 (pc' := 110) (L' := [some (vr 64), some (vi f), some (vi (bS (hO M f) 6)), some (vi b), some (vi l), some (vi t), some (vi ms), some (vi (a : Int)), some (vi ((ctA (hO M f) (vO t) a n) + 0)), some (vi (n : Int))]) (st' := []) (M' := M) rfl ?_
            refine Hx.inc rfl rfl (by omega) ?_
            refine Hx.run 0 (pc' := 113) (L' := [some (vr 64), some (vi f), some (vi (bS (hO M f) 6)), some (vi b), some (vi l), some (vi t), some (vi ms), some (vi (a : Int)), some (vi ((ctA (hO M f) (vO t) a n) + 0)), some (vi ((n : Int) + 1))]) (st' := []) (M' := M) rfl ?_
            refine Hx.run 1 (pc' := 59) (L' := [some (vr 64), some (vi f), some (vi (bS (hO M f) 6)), some (vi b), some (vi l), some (vi t), some (vi ms), some (vi (a : Int)), some (vi ((ctA (hO M f) (vO t) a n) + 0)), some (vi ((n : Int) + 1))]) (st' := []) (M' := M) rfl ?_
            have e : ctA (hO M f) (vO t) a (n + 1) = ((ctA (hO M f) (vO t) a n) + 0) := by
              first
                | exact ctA_yes (by assumption) (by assumption) (by unfold vO; assumption)
                | (rw [ctA_noA (by assumption)]; omega)
                | (rw [ctA_noN (by assumption)]; omega)
                | (rw [ctA_noV (by unfold vO; assumption)]; omega)
            have h9 := ih (n + 1) (by omega) (by omega)
            rw [e] at h9
            exact h9
        · skip
          refine Hx.run 2 (pc' := 107) (L' := [some (vr 64), some (vi f), some (vi (bS (hO M f) 6)), some (vi b), some (vi l), some (vi t), some (vi ms), some (vi (a : Int)), some (vi (ctA (hO M f) (vO t) a n)), some (vi (n : Int))]) (st' := [vi 0, vi (ctA (hO M f) (vO t) a n)]) (M' := M) rfl ?_
          refine Hx.add rfl (by omega) ?_
          refine Hx.run 1 (pc' := 110) (L' := [some (vr 64), some (vi f), some (vi (bS (hO M f) 6)), some (vi b), some (vi l), some (vi t), some (vi ms), some (vi (a : Int)), some (vi ((ctA (hO M f) (vO t) a n) + 0)), some (vi (n : Int))]) (st' := []) (M' := M) rfl ?_
          refine Hx.inc rfl rfl (by omega) ?_
          refine Hx.run 0 (pc' := 113) (L' := [some (vr 64), some (vi f), some (vi (bS (hO M f) 6)), some (vi b), some (vi l), some (vi t), some (vi ms), some (vi (a : Int)), some (vi ((ctA (hO M f) (vO t) a n) + 0)), some (vi ((n : Int) + 1))]) (st' := []) (M' := M) rfl ?_
          refine Hx.run 1 (pc' := 59) (L' := [some (vr 64), some (vi f), some (vi (bS (hO M f) 6)), some (vi b), some (vi l), some (vi t), some (vi ms), some (vi (a : Int)), some (vi ((ctA (hO M f) (vO t) a n) + 0)), some (vi ((n : Int) + 1))]) (st' := []) (M' := M) rfl ?_
          have e : ctA (hO M f) (vO t) a (n + 1) = ((ctA (hO M f) (vO t) a n) + 0) := by
            first
              | exact ctA_yes (by assumption) (by assumption) (by unfold vO; assumption)
              | (rw [ctA_noA (by assumption)]; omega)
              | (rw [ctA_noN (by assumption)]; omega)
              | (rw [ctA_noV (by unfold vO; assumption)]; omega)
          have h9 := ih (n + 1) (by omega) (by omega)
          rw [e] at h9
          exact h9
      · skip
        refine Hx.run 2 (pc' := 107) (L' := [some (vr 64), some (vi f), some (vi (bS (hO M f) 6)), some (vi b), some (vi l), some (vi t), some (vi ms), some (vi (a : Int)), some (vi (ctA (hO M f) (vO t) a n)), some (vi (n : Int))]) (st' := [vi 0, vi (ctA (hO M f) (vO t) a n)]) (M' := M) rfl ?_
        refine Hx.add rfl (by omega) ?_
        refine Hx.run 1 (pc' := 110) (L' := [some (vr 64), some (vi f), some (vi (bS (hO M f) 6)), some (vi b), some (vi l), some (vi t), some (vi ms), some (vi (a : Int)), some (vi ((ctA (hO M f) (vO t) a n) + 0)), some (vi (n : Int))]) (st' := []) (M' := M) rfl ?_
        refine Hx.inc rfl rfl (by omega) ?_
        refine Hx.run 0 (pc' := 113) (L' := [some (vr 64), some (vi f), some (vi (bS (hO M f) 6)), some (vi b), some (vi l), some (vi t), some (vi ms), some (vi (a : Int)), some (vi ((ctA (hO M f) (vO t) a n) + 0)), some (vi ((n : Int) + 1))]) (st' := []) (M' := M) rfl ?_
        refine Hx.run 1 (pc' := 59) (L' := [some (vr 64), some (vi f), some (vi (bS (hO M f) 6)), some (vi b), some (vi l), some (vi t), some (vi ms), some (vi (a : Int)), some (vi ((ctA (hO M f) (vO t) a n) + 0)), some (vi ((n : Int) + 1))]) (st' := []) (M' := M) rfl ?_
        have e : ctA (hO M f) (vO t) a (n + 1) = ((ctA (hO M f) (vO t) a n) + 0) := by
          first
            | exact ctA_yes (by assumption) (by assumption) (by unfold vO; assumption)
            | (rw [ctA_noA (by assumption)]; omega)
            | (rw [ctA_noN (by assumption)]; omega)
            | (rw [ctA_noV (by unfold vO; assumption)]; omega)
        have h9 := ih (n + 1) (by omega) (by omega)
        rw [e] at h9
        exact h9
set_option maxRecDepth 100000 in
set_option maxHeartbeats 2000000 in
theorem rl_X5_looka (f : Int) (M : Mm) (hI : RI M 0) (hf : 0 ≤ f ∧ f < M 65 0) (b l t : Int) (ht : 0 ≤ t ∧ t < 24) {P : Option PV → Mm → Prop} (hk : ∀ (j8 j9 : Option PV), Hx 203 138 [some (vr 64), some (vi f), some (vi (bS (hO M f) 6)), some (vi b), some (vi l), some (vi t), some (vi (rmx (hO M f) (vO t) 6)), some (vi 6), j8, j9] [] M P) : ∀ (kk : Nat) (a : Nat) (j8 : Option PV) (j9 : Option PV), a ≤ 6 → 6 - (a : Int) < (kk : Int) → Hx 203 47 [some (vr 64), some (vi f), some (vi (bS (hO M f) 6)), some (vi b), some (vi l), some (vi t), some (vi (tmx (hO M f) (vO t) 6 a)), some (vi (a : Int)), j8, j9] [] M P := by
  intro kk
  induction kk with
  | zero => intro a j8 j9 _ hkk; exact absurd hkk (by omega)
  | succ kk ih =>
    intro a j8 j9 ha hkk
    have tr := tmx_rng (hO M f) (vO t) 6 a
    have cr := ctA_rng (hO M f) (vO t) a 6
    refine Hx.run 2 (pc' := 50) (L' := [some (vr 64), some (vi f), some (vi (bS (hO M f) 6)), some (vi b), some (vi l), some (vi t), some (vi (tmx (hO M f) (vO t) 6 a)), some (vi (a : Int)), j8, j9]) (st' := [vi 5, vi (a : Int)]) (M' := M) rfl ?_
    refine Hx.br (c := 5 < (a : Int)) (t := 138) (f := 53) rfl (fun h1 => ?_) (fun h1 => ?_)
    · skip
      refine Hx.run 0 (pc' := 138) (L' := [some (vr 64), some (vi f), some (vi (bS (hO M f) 6)), some (vi b), some (vi l), some (vi t), some (vi (tmx (hO M f) (vO t) 6 a)), some (vi (a : Int)), j8, j9]) (st' := []) (M' := M) rfl ?_
      have e : a = 6 := by omega
      subst e
      rw [rmx_tmx]
      exact hk j8 j9
    · skip
      refine Hx.run 4 (pc' := 59) (L' := [some (vr 64), some (vi f), some (vi (bS (hO M f) 6)), some (vi b), some (vi l), some (vi t), some (vi (tmx (hO M f) (vO t) 6 a)), some (vi (a : Int)), some (vi 0), some (vi 0)]) (st' := []) (M' := M) rfl ?_
      have h1 := rl_X5_lookb f M hI hf b l t ht (tmx (hO M f) (vO t) 6 a) a (by omega) (P := P) ?_ 10 0 (by omega) (by omega)
      · rw [ctA_0] at h1
        exact h1
      · skip
        refine Hx.run 2 (pc' := 120) (L' := [some (vr 64), some (vi f), some (vi (bS (hO M f) 6)), some (vi b), some (vi l), some (vi t), some (vi (tmx (hO M f) (vO t) 6 a)), some (vi (a : Int)), some (vi (ctA (hO M f) (vO t) a 6)), some (vi 6)]) (st' := [vi (tmx (hO M f) (vO t) 6 a), vi (ctA (hO M f) (vO t) a 6)]) (M' := M) rfl ?_
        refine Hx.br (c := (tmx (hO M f) (vO t) 6 a) < (ctA (hO M f) (vO t) a 6)) (t := 123) (f := 128) rfl (fun h2 => ?_) (fun h2 => ?_)
        · skip
          refine Hx.run 3 (pc' := 132) (L' := [some (vr 64), some (vi f), some (vi (bS (hO M f) 6)), some (vi b), some (vi l), some (vi t), some (vi (ctA (hO M f) (vO t) a 6)), some (vi (a : Int)), some (vi (ctA (hO M f) (vO t) a 6)), some (vi 6)]) (st' := []) (M' := M) rfl ?_
          refine Hx.inc rfl rfl (by omega) ?_
          refine Hx.run 0 (pc' := 135) (L' := [some (vr 64), some (vi f), some (vi (bS (hO M f) 6)), some (vi b), some (vi l), some (vi t), some (vi (ctA (hO M f) (vO t) a 6)), some (vi ((a : Int) + 1)), some (vi (ctA (hO M f) (vO t) a 6)), some (vi 6)]) (st' := []) (M' := M) rfl ?_
          refine Hx.run 1 (pc' := 47) (L' := [some (vr 64), some (vi f), some (vi (bS (hO M f) 6)), some (vi b), some (vi l), some (vi t), some (vi (ctA (hO M f) (vO t) a 6)), some (vi ((a : Int) + 1)), some (vi (ctA (hO M f) (vO t) a 6)), some (vi 6)]) (st' := []) (M' := M) rfl ?_
          have e : tmx (hO M f) (vO t) 6 (a + 1) = (ctA (hO M f) (vO t) a 6) := by rw [tmx_succ]; omega
          have h9 := ih (a + 1) (some (vi (ctA (hO M f) (vO t) a 6))) (some (vi 6)) (by omega) (by omega)
          rw [e] at h9
          exact h9
        · skip
          refine Hx.run 2 (pc' := 132) (L' := [some (vr 64), some (vi f), some (vi (bS (hO M f) 6)), some (vi b), some (vi l), some (vi t), some (vi (tmx (hO M f) (vO t) 6 a)), some (vi (a : Int)), some (vi (ctA (hO M f) (vO t) a 6)), some (vi 6)]) (st' := []) (M' := M) rfl ?_
          refine Hx.inc rfl rfl (by omega) ?_
          refine Hx.run 0 (pc' := 135) (L' := [some (vr 64), some (vi f), some (vi (bS (hO M f) 6)), some (vi b), some (vi l), some (vi t), some (vi (tmx (hO M f) (vO t) 6 a)), some (vi ((a : Int) + 1)), some (vi (ctA (hO M f) (vO t) a 6)), some (vi 6)]) (st' := []) (M' := M) rfl ?_
          refine Hx.run 1 (pc' := 47) (L' := [some (vr 64), some (vi f), some (vi (bS (hO M f) 6)), some (vi b), some (vi l), some (vi t), some (vi (tmx (hO M f) (vO t) 6 a)), some (vi ((a : Int) + 1)), some (vi (ctA (hO M f) (vO t) a 6)), some (vi 6)]) (st' := []) (M' := M) rfl ?_
          have e : tmx (hO M f) (vO t) 6 (a + 1) = (tmx (hO M f) (vO t) 6 a) := by rw [tmx_succ]; omega
          have h9 := ih (a + 1) (some (vi (ctA (hO M f) (vO t) a 6))) (some (vi 6)) (by omega) (by omega)
          rw [e] at h9
          exact h9
set_option maxRecDepth 100000 in
set_option maxHeartbeats 2000000 in
theorem rl_lookt (f : Int) (M : Mm) (hI : RI M 0) (hf : 0 ≤ f ∧ f < M 65 0) (hpos : 0 < (bS (hO M f) 6)) : ∀ (kk : Nat) (t : Nat) (j6 : Option PV) (j7 : Option PV) (j8 : Option PV) (j9 : Option PV), t ≤ 24 → 24 - (t : Int) < (kk : Int) → Hx 203 30 [some (vr 64), some (vi f), some (vi (bS (hO M f) 6)), some (vi (am1 (lkV (hO M f)) t).1), some (vi (am1 (lkV (hO M f)) t).2), some (vi (t : Int)), j6, j7, j8, j9] [] M (fun q0 M' => q0 = some (vi (am1 (lkV (hO M f)) 24).1) ∧ M = M') := by
  intro kk
  induction kk with
  | zero => intro t j6 j7 j8 j9 _ hkk; exact absurd hkk (by omega)
  | succ kk ih =>
    intro t j6 j7 j8 j9 ht hkk
    have lv := rmx_rng (hO M f) (vO (t : Int)) 6
    have am := am1_rng (f := lkV (hO M f)) (lkV_rng (hO M f)) t
    have hsn : lkV (hO M f) t = rmx (hO M f) (vO (t : Int)) 6 := rfl
    refine Hx.run 2 (pc' := 34) (L' := [some (vr 64), some (vi f), some (vi (bS (hO M f) 6)), some (vi (am1 (lkV (hO M f)) t).1), some (vi (am1 (lkV (hO M f)) t).2), some (vi (t : Int)), j6, j7, j8, j9]) (st' := [vi 24, vi (t : Int)]) (M' := M) rfl ?_
    refine Hx.br (c := (t : Int) < 24) (t := 37) (f := 174) rfl (fun h1 => ?_) (fun h1 => ?_)
    · skip
      refine Hx.run 1 (pc' := 38) (L' := [some (vr 64), some (vi f), some (vi (bS (hO M f) 6)), some (vi (am1 (lkV (hO M f)) t).1), some (vi (am1 (lkV (hO M f)) t).2), some (vi (t : Int)), j6, j7, j8, j9]) (st' := [vi (bS (hO M f) 6)]) (M' := M) rfl ?_
      refine Hx.br (c := 0 < (bS (hO M f) 6)) (t := 41) (f := 174) rfl (fun h2 => ?_) (fun h2 => ?_)
      · skip
        refine Hx.run 4 (pc' := 47) (L' := [some (vr 64), some (vi f), some (vi (bS (hO M f) 6)), some (vi (am1 (lkV (hO M f)) t).1), some (vi (am1 (lkV (hO M f)) t).2), some (vi (t : Int)), some (vi 0), some (vi 0), j8, j9]) (st' := []) (M' := M) rfl ?_
        refine rl_X5_looka f M hI hf (am1 (lkV (hO M f)) t).1 (am1 (lkV (hO M f)) t).2 (t : Int) (by omega) (fun k8 k9 => ?_) 10 0 j8 j9 (by omega) (by omega)
        refine Hx.run 2 (pc' := 142) (L' := [some (vr 64), some (vi f), some (vi (bS (hO M f) 6)), some (vi (am1 (lkV (hO M f)) t).1), some (vi (am1 (lkV (hO M f)) t).2), some (vi (t : Int)), some (vi (rmx (hO M f) (vO (t : Int)) 6)), some (vi 6), k8, k9]) (st' := [vi (am1 (lkV (hO M f)) t).2, vi (rmx (hO M f) (vO (t : Int)) 6)]) (M' := M) rfl ?_
        refine Hx.br (c := (rmx (hO M f) (vO (t : Int)) 6) < (am1 (lkV (hO M f)) t).2) (t := 145) (f := 150) rfl (fun h3 => ?_) (fun h3 => ?_)
        · skip
          refine Hx.run 5 (pc' := 156) (L' := [some (vr 64), some (vi f), some (vi (bS (hO M f) 6)), some (vi (t : Int)), some (vi (am1 (lkV (hO M f)) t).2), some (vi (t : Int)), some (vi (rmx (hO M f) (vO (t : Int)) 6)), some (vi 6), k8, k9]) (st' := [vi (am1 (lkV (hO M f)) t).2, vi (rmx (hO M f) (vO (t : Int)) 6)]) (M' := M) rfl ?_
          refine Hx.br (c := (rmx (hO M f) (vO (t : Int)) 6) < (am1 (lkV (hO M f)) t).2) (t := 159) (f := 164) rfl (fun h4 => ?_) (fun h4 => ?_)
          · skip
            refine Hx.run 3 (pc' := 168) (L' := [some (vr 64), some (vi f), some (vi (bS (hO M f) 6)), some (vi (t : Int)), some (vi (rmx (hO M f) (vO (t : Int)) 6)), some (vi (t : Int)), some (vi (rmx (hO M f) (vO (t : Int)) 6)), some (vi 6), k8, k9]) (st' := []) (M' := M) rfl ?_
            refine Hx.inc rfl rfl (by omega) ?_
            refine Hx.run 0 (pc' := 171) (L' := [some (vr 64), some (vi f), some (vi (bS (hO M f) 6)), some (vi (t : Int)), some (vi (rmx (hO M f) (vO (t : Int)) 6)), some (vi ((t : Int) + 1)), some (vi (rmx (hO M f) (vO (t : Int)) 6)), some (vi 6), k8, k9]) (st' := []) (M' := M) rfl ?_
            refine Hx.run 1 (pc' := 30) (L' := [some (vr 64), some (vi f), some (vi (bS (hO M f) 6)), some (vi (t : Int)), some (vi (rmx (hO M f) (vO (t : Int)) 6)), some (vi ((t : Int) + 1)), some (vi (rmx (hO M f) (vO (t : Int)) 6)), some (vi 6), k8, k9]) (st' := []) (M' := M) rfl ?_
            have e1 : (am1 (lkV (hO M f)) (t + 1)).1 = (t : Int) := by rw [am1_succ, hsn]; split <;> first | rfl | omega | (dsimp only; omega)
            have e2 : (am1 (lkV (hO M f)) (t + 1)).2 = (rmx (hO M f) (vO (t : Int)) 6) := by rw [am1_succ, hsn]; split <;> first | rfl | omega | (dsimp only; omega)
            have h9 := ih (t + 1) (some (vi (rmx (hO M f) (vO (t : Int)) 6))) (some (vi 6)) k8 k9 (by omega) (by omega)
            rw [e1, e2] at h9
            exact h9
          · skip
            refine Hx.run 2 (pc' := 168) (L' := [some (vr 64), some (vi f), some (vi (bS (hO M f) 6)), some (vi (t : Int)), some (vi (am1 (lkV (hO M f)) t).2), some (vi (t : Int)), some (vi (rmx (hO M f) (vO (t : Int)) 6)), some (vi 6), k8, k9]) (st' := []) (M' := M) rfl ?_
            refine Hx.inc rfl rfl (by omega) ?_
            refine Hx.run 0 (pc' := 171) (L' := [some (vr 64), some (vi f), some (vi (bS (hO M f) 6)), some (vi (t : Int)), some (vi (am1 (lkV (hO M f)) t).2), some (vi ((t : Int) + 1)), some (vi (rmx (hO M f) (vO (t : Int)) 6)), some (vi 6), k8, k9]) (st' := []) (M' := M) rfl ?_
            refine Hx.run 1 (pc' := 30) (L' := [some (vr 64), some (vi f), some (vi (bS (hO M f) 6)), some (vi (t : Int)), some (vi (am1 (lkV (hO M f)) t).2), some (vi ((t : Int) + 1)), some (vi (rmx (hO M f) (vO (t : Int)) 6)), some (vi 6), k8, k9]) (st' := []) (M' := M) rfl ?_
            have e1 : (am1 (lkV (hO M f)) (t + 1)).1 = (t : Int) := by rw [am1_succ, hsn]; split <;> first | rfl | omega | (dsimp only; omega)
            have e2 : (am1 (lkV (hO M f)) (t + 1)).2 = (am1 (lkV (hO M f)) t).2 := by rw [am1_succ, hsn]; split <;> first | rfl | omega | (dsimp only; omega)
            have h9 := ih (t + 1) (some (vi (rmx (hO M f) (vO (t : Int)) 6))) (some (vi 6)) k8 k9 (by omega) (by omega)
            rw [e1, e2] at h9
            exact h9
        · skip
          refine Hx.run 4 (pc' := 156) (L' := [some (vr 64), some (vi f), some (vi (bS (hO M f) 6)), some (vi (am1 (lkV (hO M f)) t).1), some (vi (am1 (lkV (hO M f)) t).2), some (vi (t : Int)), some (vi (rmx (hO M f) (vO (t : Int)) 6)), some (vi 6), k8, k9]) (st' := [vi (am1 (lkV (hO M f)) t).2, vi (rmx (hO M f) (vO (t : Int)) 6)]) (M' := M) rfl ?_
          refine Hx.br (c := (rmx (hO M f) (vO (t : Int)) 6) < (am1 (lkV (hO M f)) t).2) (t := 159) (f := 164) rfl (fun h5 => ?_) (fun h5 => ?_)
          · skip
            refine Hx.run 3 (pc' := 168) (L' := [some (vr 64), some (vi f), some (vi (bS (hO M f) 6)), some (vi (am1 (lkV (hO M f)) t).1), some (vi (rmx (hO M f) (vO (t : Int)) 6)), some (vi (t : Int)), some (vi (rmx (hO M f) (vO (t : Int)) 6)), some (vi 6), k8, k9]) (st' := []) (M' := M) rfl ?_
            refine Hx.inc rfl rfl (by omega) ?_
            refine Hx.run 0 (pc' := 171) (L' := [some (vr 64), some (vi f), some (vi (bS (hO M f) 6)), some (vi (am1 (lkV (hO M f)) t).1), some (vi (rmx (hO M f) (vO (t : Int)) 6)), some (vi ((t : Int) + 1)), some (vi (rmx (hO M f) (vO (t : Int)) 6)), some (vi 6), k8, k9]) (st' := []) (M' := M) rfl ?_
            refine Hx.run 1 (pc' := 30) (L' := [some (vr 64), some (vi f), some (vi (bS (hO M f) 6)), some (vi (am1 (lkV (hO M f)) t).1), some (vi (rmx (hO M f) (vO (t : Int)) 6)), some (vi ((t : Int) + 1)), some (vi (rmx (hO M f) (vO (t : Int)) 6)), some (vi 6), k8, k9]) (st' := []) (M' := M) rfl ?_
            have e1 : (am1 (lkV (hO M f)) (t + 1)).1 = (am1 (lkV (hO M f)) t).1 := by rw [am1_succ, hsn]; split <;> first | rfl | omega | (dsimp only; omega)
            have e2 : (am1 (lkV (hO M f)) (t + 1)).2 = (rmx (hO M f) (vO (t : Int)) 6) := by rw [am1_succ, hsn]; split <;> first | rfl | omega | (dsimp only; omega)
            have h9 := ih (t + 1) (some (vi (rmx (hO M f) (vO (t : Int)) 6))) (some (vi 6)) k8 k9 (by omega) (by omega)
            rw [e1, e2] at h9
            exact h9
          · skip
            refine Hx.run 2 (pc' := 168) (L' := [some (vr 64), some (vi f), some (vi (bS (hO M f) 6)), some (vi (am1 (lkV (hO M f)) t).1), some (vi (am1 (lkV (hO M f)) t).2), some (vi (t : Int)), some (vi (rmx (hO M f) (vO (t : Int)) 6)), some (vi 6), k8, k9]) (st' := []) (M' := M) rfl ?_
            refine Hx.inc rfl rfl (by omega) ?_
            refine Hx.run 0 (pc' := 171) (L' := [some (vr 64), some (vi f), some (vi (bS (hO M f) 6)), some (vi (am1 (lkV (hO M f)) t).1), some (vi (am1 (lkV (hO M f)) t).2), some (vi ((t : Int) + 1)), some (vi (rmx (hO M f) (vO (t : Int)) 6)), some (vi 6), k8, k9]) (st' := []) (M' := M) rfl ?_
            refine Hx.run 1 (pc' := 30) (L' := [some (vr 64), some (vi f), some (vi (bS (hO M f) 6)), some (vi (am1 (lkV (hO M f)) t).1), some (vi (am1 (lkV (hO M f)) t).2), some (vi ((t : Int) + 1)), some (vi (rmx (hO M f) (vO (t : Int)) 6)), some (vi 6), k8, k9]) (st' := []) (M' := M) rfl ?_
            have e1 : (am1 (lkV (hO M f)) (t + 1)).1 = (am1 (lkV (hO M f)) t).1 := by rw [am1_succ, hsn]; split <;> first | rfl | omega | (dsimp only; omega)
            have e2 : (am1 (lkV (hO M f)) (t + 1)).2 = (am1 (lkV (hO M f)) t).2 := by rw [am1_succ, hsn]; split <;> first | rfl | omega | (dsimp only; omega)
            have h9 := ih (t + 1) (some (vi (rmx (hO M f) (vO (t : Int)) 6))) (some (vi 6)) k8 k9 (by omega) (by omega)
            rw [e1, e2] at h9
            exact h9
      · skip
        refine Hx.run 1 (pc' := 175) (L' := [some (vr 64), some (vi f), some (vi (bS (hO M f) 6)), some (vi (am1 (lkV (hO M f)) t).1), some (vi (am1 (lkV (hO M f)) t).2), some (vi (t : Int)), j6, j7, j8, j9]) (st' := [vi (am1 (lkV (hO M f)) t).1]) (M' := M) rfl ?_
        refine Hx.ret rfl ?_
        first | exact absurd hpos (by omega) | exact ⟨by rw [show t = 24 by omega], rfl⟩
    · skip
      refine Hx.run 1 (pc' := 175) (L' := [some (vr 64), some (vi f), some (vi (bS (hO M f) 6)), some (vi (am1 (lkV (hO M f)) t).1), some (vi (am1 (lkV (hO M f)) t).2), some (vi (t : Int)), j6, j7, j8, j9]) (st' := [vi (am1 (lkV (hO M f)) t).1]) (M' := M) rfl ?_
      refine Hx.ret rfl ?_
      first | exact absurd hpos (by omega) | exact ⟨by rw [show t = 24 by omega], rfl⟩
set_option maxRecDepth 100000 in
theorem R_look (f : Int) (M : Mm) (hI : RI M 0) (hs : (0 ≤ M 68 0 ∧ M 68 0 ≤ 600) ∧ (0 ≤ M 68 1 ∧ M 68 1 ≤ 600) ∧ (0 ≤ M 68 2 ∧ M 68 2 ≤ 600)) (hS : ∀ n : Int, 0 ≤ n → n < M 65 61 → (0 ≤ M 65 (62 + 3 * n + 1) ∧ M 65 (62 + 3 * n + 1) ≤ 23)) : Ct 203 [vr 64, vi f] M (fun q0 M' => (¬ (0 ≤ f ∧ f < M 65 0) ∧ q0 = some (vi (-2)) ∧ up M 68 0 (M 68 0 + 1) = M') ∨ ((0 ≤ f ∧ f < M 65 0) ∧ q0 = some (vi (if (bS (hO M f) 6) = 0 then -1 else (am1 (lkV (hO M f)) 24).1)) ∧ M = M')) := by
  obtain ⟨r0, r1, r2, r3, r40, r61, r80, r111, rF, rG⟩ := (show (0 ≤ M 65 0 ∧ M 65 0 ≤ 3) ∧ (0 ≤ M 65 1 ∧ M 65 1 ≤ 6) ∧ (0 ≤ M 65 2 ∧ M 65 2 ≤ 9999) ∧ (0 ≤ M 65 3 ∧ M 65 3 ≤ 9000) ∧ (0 ≤ M 65 40 ∧ M 65 40 ≤ 5) ∧ (0 ≤ M 65 61 ∧ M 65 61 ≤ 6) ∧ (0 ≤ M 65 80 ∧ M 65 80 ≤ 6) ∧ (0 ≤ M 65 111 ∧ M 65 111 ≤ 8) ∧ (∀ f : Int, 0 ≤ f → f < M 65 0 → (0 ≤ M 65 (4 + f) ∧ M 65 (4 + f) ≤ 5) ∧ (1 ≤ M 65 (7 + f) ∧ M 65 (7 + f) ≤ 10)) ∧ (∀ i : Int, 0 ≤ i → i < M 65 1 → (0 ≤ M 65 (10 + i) ∧ M 65 (10 + i) ≤ 5) ∧ (1 ≤ M 65 (16 + i) ∧ M 65 (16 + i) ≤ 4) ∧ (0 ≤ M 65 (22 + i) ∧ M 65 (22 + i) < M 65 0) ∧ (0 ≤ M 65 (28 + i) ∧ M 65 (28 + i) ≤ 11) ∧ (0 ≤ M 65 (34 + i) ∧ M 65 (34 + i) ≤ 9)) from hI)
  refine Hx.run 2 (pc' := 2) (L' := [some (vr 64), some (vi f), none, none, none, none, none, none, none, none]) (st' := [vi f, vr 64]) (M' := M) rfl ?_
  refine Hx.call (t := 138) (as := [vr 64, vi f]) (pc' := 5) (rest := []) rfl (r_isFlight f M (by omega)) ?_
  rintro _ _ (⟨q128, rfl, rfl⟩ | ⟨q128, rfl, rfl⟩)
  · skip
    have fq128 := rF f q128.1 q128.2
    refine Hx.run 3 (pc' := 17) (L' := [some (vr 64), some (vi f), none, none, none, none, none, none, none, none]) (st' := [vi f, vr 64]) (M' := M) rfl ?_
    refine Hx.call (t := 201) (as := [vr 64, vi f]) (pc' := 20) (rest := []) rfl (r_ofO f M hI hS) ?_
    rintro _ _ ⟨rfl, rfl⟩
    refine Hx.run 0 (pc' := 20) (L' := [some (vr 64), some (vi f), none, none, none, none, none, none, none, none]) (st' := [vi (bS (hO M f) 6)]) (M' := M) rfl ?_
    refine Hx.run 7 (pc' := 30) (L' := [some (vr 64), some (vi f), some (vi (bS (hO M f) 6)), some (vi (-1)), some (vi 1000000), some (vi 0), none, none, none, none]) (st' := []) (M' := M) rfl ?_
    have wr := bS_rng (hO M f) 6
    by_cases hz : 0 < (bS (hO M f) 6)
    · have h0 := rl_lookt f M hI (by omega) hz 30 0 none none none none (by omega) (by omega)
      rw [show (am1 (lkV (hO M f)) 0).2 = 1000000 from rfl, show (am1 (lkV (hO M f)) 0).1 = -1 from rfl] at h0
      exact Hx.imp h0 (fun r M' h => Or.inr ⟨by omega, by rw [if_neg (by omega)]; exact h.1, h.2⟩)
    · skip
      refine Hx.run 4 (pc' := 38) (L' := [some (vr 64), some (vi f), some (vi (bS (hO M f) 6)), some (vi (-1)), some (vi 1000000), some (vi 0), none, none, none, none]) (st' := [vi (bS (hO M f) 6)]) (M' := M) rfl ?_
      refine Hx.br (c := 0 < (bS (hO M f) 6)) (t := 41) (f := 174) rfl (fun h1 => ?_) (fun h1 => ?_)
      · skip
        exact absurd h1 hz
      · skip
        refine Hx.run 1 (pc' := 175) (L' := [some (vr 64), some (vi f), some (vi (bS (hO M f) 6)), some (vi (-1)), some (vi 1000000), some (vi 0), none, none, none, none]) (st' := [vi (-1)]) (M' := M) rfl ?_
        refine Hx.ret rfl ?_
        first | exact Or.inl ⟨by omega, rfl, rfl⟩ | exact Or.inr ⟨by omega, by rw [if_pos (by omega)], rfl⟩ | omega
  · skip
    refine Hx.run 3 (pc' := 11) (L' := [some (vr 64), some (vi f), none, none, none, none, none, none, none, none]) (st' := [vi (-2), vr 64]) (M' := M) rfl ?_
    refine Hx.call (t := 132) (as := [vr 64, vi (-2)]) (pc' := 14) (rest := []) rfl (r_bad (-2) M (by omega)) ?_
    rintro _ _ ⟨rfl, rfl⟩
    refine Hx.run 0 (pc' := 14) (L' := [some (vr 64), some (vi f), none, none, none, none, none, none, none, none]) (st' := [vi (-2)]) (M' := (up M 68 0 ((M 68 0) + 1))) rfl ?_
    refine Hx.ret rfl ?_
    first | exact Or.inl ⟨by omega, rfl, rfl⟩ | exact Or.inr ⟨by omega, by rw [if_pos (by omega)], rfl⟩ | omega
set_option maxRecDepth 100000 in
set_option maxHeartbeats 2000000 in
theorem rl_X5_askb (f : Int) (M : Mm) (hI : RI M 0) (hf : 0 ≤ f ∧ f < M 65 1) (b l x t : Int) (hx : 0 ≤ x ∧ x ≤ 9) (ht : 0 ≤ t ∧ t < 24) (ms : Int) (a : Nat) (ha : a < 6) {P : Option PV → Mm → Prop} (hk : Hx 207 148 [some (vr 64), some (vi f), some (vi (bS (hG M f) 6)), some (vi b), some (vi l), some (vi x), some (vi t), some (vi ms), some (vi (a : Int)), some (vi (ctA (hG M f) (vG (M 65 (16 + f)) x t) a 6)), some (vi 6)] [] M P) : ∀ (kk : Nat) (n : Nat), n ≤ 6 → 6 - (n : Int) < (kk : Int) → Hx 207 69 [some (vr 64), some (vi f), some (vi (bS (hG M f) 6)), some (vi b), some (vi l), some (vi x), some (vi t), some (vi ms), some (vi (a : Int)), some (vi (ctA (hG M f) (vG (M 65 (16 + f)) x t) a n)), some (vi (n : Int))] [] M P := by
  intro kk
  induction kk with
  | zero => intro n _ hkk; exact absurd hkk (by omega)
  | succ kk ih =>
    intro n hn hkk
    obtain ⟨r0, r1, r2, r3, r40, r61, r80, r111, rF, rG⟩ := (show (0 ≤ M 65 0 ∧ M 65 0 ≤ 3) ∧ (0 ≤ M 65 1 ∧ M 65 1 ≤ 6) ∧ (0 ≤ M 65 2 ∧ M 65 2 ≤ 9999) ∧ (0 ≤ M 65 3 ∧ M 65 3 ≤ 9000) ∧ (0 ≤ M 65 40 ∧ M 65 40 ≤ 5) ∧ (0 ≤ M 65 61 ∧ M 65 61 ≤ 6) ∧ (0 ≤ M 65 80 ∧ M 65 80 ≤ 6) ∧ (0 ≤ M 65 111 ∧ M 65 111 ≤ 8) ∧ (∀ f : Int, 0 ≤ f → f < M 65 0 → (0 ≤ M 65 (4 + f) ∧ M 65 (4 + f) ≤ 5) ∧ (1 ≤ M 65 (7 + f) ∧ M 65 (7 + f) ≤ 10)) ∧ (∀ i : Int, 0 ≤ i → i < M 65 1 → (0 ≤ M 65 (10 + i) ∧ M 65 (10 + i) ≤ 5) ∧ (1 ≤ M 65 (16 + i) ∧ M 65 (16 + i) ≤ 4) ∧ (0 ≤ M 65 (22 + i) ∧ M 65 (22 + i) < M 65 0) ∧ (0 ≤ M 65 (28 + i) ∧ M 65 (28 + i) ≤ 11) ∧ (0 ≤ M 65 (34 + i) ∧ M 65 (34 + i) ≤ 9)) from hI)
    have gQ := rG f (by omega) (by omega)
    have cr := ctA_rng (hG M f) (vG (M 65 (16 + f)) x t) a n
    refine Hx.run 2 (pc' := 72) (L' := [some (vr 64), some (vi f), some (vi (bS (hG M f) 6)), some (vi b), some (vi l), some (vi x), some (vi t), some (vi ms), some (vi (a : Int)), some (vi (ctA (hG M f) (vG (M 65 (16 + f)) x t) a n)), some (vi (n : Int))]) (st' := [vi 5, vi (n : Int)]) (M' := M) rfl ?_
    refine Hx.br (c := 5 < (n : Int)) (t := 148) (f := 75) rfl (fun h1 => ?_) (fun h1 => ?_)
    · skip
      refine Hx.run 0 (pc' := 148) (L' := [some (vr 64), some (vi f), some (vi (bS (hG M f) 6)), some (vi b), some (vi l), some (vi x), some (vi t), some (vi ms), some (vi (a : Int)), some (vi (ctA (hG M f) (vG (M 65 (16 + f)) x t) a n)), some (vi (n : Int))]) (st' := []) (M' := M) rfl ?_
      have e : n = 6 := by omega
      subst e
      exact hk
    · skip
      refine Hx.run 3 (pc' := 80) (L' := [some (vr 64), some (vi f), some (vi (bS (hG M f) 6)), some (vi b), some (vi l), some (vi x), some (vi t), some (vi ms), some (vi (a : Int)), some (vi (ctA (hG M f) (vG (M 65 (16 + f)) x t) a n)), some (vi (n : Int))]) (st' := [vi (a : Int), vi (bS (hG M f) 6), vi (ctA (hG M f) (vG (M 65 (16 + f)) x t) a n)]) (M' := M) rfl ?_
      refine Hx.call (t := 131) (as := [vi (bS (hG M f) 6), vi (a : Int)]) (pc' := 83) (rest := [vi (ctA (hG M f) (vG (M 65 (16 + f)) x t) a n)]) rfl (by rw [show (a : Int) = (((a : Nat)) : Int) from rfl]; exact r_hasBS (hG M f) 6 a M (by omega) (by omega)) ?_
      rintro _ _ (⟨q129, rfl, rfl⟩ | ⟨q129, rfl, rfl⟩)
      · skip
        refine Hx.run 3 (pc' := 89) (L' := [some (vr 64), some (vi f), some (vi (bS (hG M f) 6)), some (vi b), some (vi l), some (vi x), some (vi t), some (vi ms), some (vi (a : Int)), some (vi (ctA (hG M f) (vG (M 65 (16 + f)) x t) a n)), some (vi (n : Int))]) (st' := [vi (n : Int), vi (bS (hG M f) 6), vi (ctA (hG M f) (vG (M 65 (16 + f)) x t) a n)]) (M' := M) rfl ?_
        refine Hx.call (t := 131) (as := [vi (bS (hG M f) 6), vi (n : Int)]) (pc' := 92) (rest := [vi (ctA (hG M f) (vG (M 65 (16 + f)) x t) a n)]) rfl (by rw [show (n : Int) = (((n : Nat)) : Int) from rfl]; exact r_hasBS (hG M f) 6 n M (by omega) (by omega)) ?_
        rintro _ _ (⟨q130, rfl, rfl⟩ | ⟨q130, rfl, rfl⟩)
        · skip
          refine Hx.run 6 (pc' := 104) (L' := [some (vr 64), some (vi f), some (vi (bS (hG M f) 6)), some (vi b), some (vi l), some (vi x), some (vi t), some (vi ms), some (vi (a : Int)), some (vi (ctA (hG M f) (vG (M 65 (16 + f)) x t) a n)), some (vi (n : Int))]) (st' := [vi f, vi 16, vr 65, vi (a : Int), vi (ctA (hG M f) (vG (M 65 (16 + f)) x t) a n)]) (M' := M) rfl ?_
          refine Hx.add rfl (by omega) ?_
          refine Hx.aldI (n := 1032) rfl rfl (by omega) ?_
          refine Hx.run 2 (pc' := 110) (L' := [some (vr 64), some (vi f), some (vi (bS (hG M f) 6)), some (vi b), some (vi l), some (vi x), some (vi t), some (vi ms), some (vi (a : Int)), some (vi (ctA (hG M f) (vG (M 65 (16 + f)) x t) a n)), some (vi (n : Int))]) (st' := [vi t, vi x, vi (M 65 (16 + f)), vi (a : Int), vi (ctA (hG M f) (vG (M 65 (16 + f)) x t) a n)]) (M' := M) rfl ?_
          refine Hx.call (t := 144) (as := [vi (a : Int), vi (M 65 (16 + f)), vi x, vi t]) (pc' := 113) (rest := [vi (ctA (hG M f) (vG (M 65 (16 + f)) x t) a n)]) rfl (r_stridesOf (a : Int) (M 65 (16 + f)) x t M (by omega) (by omega) (by omega) (by omega)) ?_
          rintro _ _ ⟨rfl, rfl⟩
          refine Hx.run 0 (pc' := 113) (L' := [some (vr 64), some (vi f), some (vi (bS (hG M f) 6)), some (vi b), some (vi l), some (vi x), some (vi t), some (vi ms), some (vi (a : Int)), some (vi (ctA (hG M f) (vG (M 65 (16 + f)) x t) a n)), some (vi (n : Int))]) (st' := [vi (sfF (a : Int) (M 65 (16 + f)) x t), vi (ctA (hG M f) (vG (M 65 (16 + f)) x t) a n)]) (M' := M) rfl ?_
          refine Hx.run 5 (pc' := 122) (L' := [some (vr 64), some (vi f), some (vi (bS (hG M f) 6)), some (vi b), some (vi l), some (vi x), some (vi t), some (vi ms), some (vi (a : Int)), some (vi (ctA (hG M f) (vG (M 65 (16 + f)) x t) a n)), some (vi (n : Int))]) (st' := [vi f, vi 16, vr 65, vi (n : Int), vi (sfF (a : Int) (M 65 (16 + f)) x t), vi (ctA (hG M f) (vG (M 65 (16 + f)) x t) a n)]) (M' := M) rfl ?_
          refine Hx.add rfl (by omega) ?_
          refine Hx.aldI (n := 1032) rfl rfl (by omega) ?_
          refine Hx.run 2 (pc' := 128) (L' := [some (vr 64), some (vi f), some (vi (bS (hG M f) 6)), some (vi b), some (vi l), some (vi x), some (vi t), some (vi ms), some (vi (a : Int)), some (vi (ctA (hG M f) (vG (M 65 (16 + f)) x t) a n)), some (vi (n : Int))]) (st' := [vi t, vi x, vi (M 65 (16 + f)), vi (n : Int), vi (sfF (a : Int) (M 65 (16 + f)) x t), vi (ctA (hG M f) (vG (M 65 (16 + f)) x t) a n)]) (M' := M) rfl ?_
          refine Hx.call (t := 144) (as := [vi (n : Int), vi (M 65 (16 + f)), vi x, vi t]) (pc' := 131) (rest := [vi (sfF (a : Int) (M 65 (16 + f)) x t), vi (ctA (hG M f) (vG (M 65 (16 + f)) x t) a n)]) rfl (r_stridesOf (n : Int) (M 65 (16 + f)) x t M (by omega) (by omega) (by omega) (by omega)) ?_
          rintro _ _ ⟨rfl, rfl⟩
          refine Hx.run 0 (pc' := 131) (L' := [some (vr 64), some (vi f), some (vi (bS (hG M f) 6)), some (vi b), some (vi l), some (vi x), some (vi t), some (vi ms), some (vi (a : Int)), some (vi (ctA (hG M f) (vG (M 65 (16 + f)) x t) a n)), some (vi (n : Int))]) (st' := [vi (sfF (n : Int) (M 65 (16 + f)) x t), vi (sfF (a : Int) (M 65 (16 + f)) x t), vi (ctA (hG M f) (vG (M 65 (16 + f)) x t) a n)]) (M' := M) rfl ?_
          refine Hx.br (c := (sfF (a : Int) (M 65 (16 + f)) x t) = (sfF (n : Int) (M 65 (16 + f)) x t)) (t := 134) (f := 138) rfl (fun h2 => ?_) (fun h2 => ?_)
          · skip
            refine Hx.run 2 (pc' := 139) (L' := [some (vr 64), some (vi f), some (vi (bS (hG M f) 6)), some (vi b), some (vi l), some (vi x), some (vi t), some (vi ms), some (vi (a : Int)), some (vi (ctA (hG M f) (vG (M 65 (16 + f)) x t) a n)), some (vi (n : Int))]) (st' := [vi 1, vi (ctA (hG M f) (vG (M 65 (16 + f)) x t) a n)]) (M' := M) rfl ?_
            refine Hx.add rfl (by omega) ?_
            refine Hx.run 1 (pc' := 142) (L' := [some (vr 64), some (vi f), some (vi (bS (hG M f) 6)), some (vi b), some (vi l), some (vi x), some (vi t), some (vi ms), some (vi (a : Int)), some (vi ((ctA (hG M f) (vG (M 65 (16 + f)) x t) a n) + 1)), some (vi (n : Int))]) (st' := []) (M' := M) rfl ?_
            refine Hx.inc rfl rfl (by omega) ?_
            refine Hx.run 0 (pc' := 145) (L' := [some (vr 64), some (vi f), some (vi (bS (hG M f) 6)), some (vi b), some (vi l), some (vi x), some (vi t), some (vi ms), some (vi (a : Int)), some (vi ((ctA (hG M f) (vG (M 65 (16 + f)) x t) a n) + 1)), some (vi ((n : Int) + 1))]) (st' := []) (M' := M) rfl ?_
            refine Hx.run 1 (pc' := 69) (L' := [some (vr 64), some (vi f), some (vi (bS (hG M f) 6)), some (vi b), some (vi l), some (vi x), some (vi t), some (vi ms), some (vi (a : Int)), some (vi ((ctA (hG M f) (vG (M 65 (16 + f)) x t) a n) + 1)), some (vi ((n : Int) + 1))]) (st' := []) (M' := M) rfl ?_
            have e : ctA (hG M f) (vG (M 65 (16 + f)) x t) a (n + 1) = ((ctA (hG M f) (vG (M 65 (16 + f)) x t) a n) + 1) := by
              first
                | exact ctA_yes (by assumption) (by assumption) (by unfold vG; assumption)
                | (rw [ctA_noA (by assumption)]; omega)
                | (rw [ctA_noN (by assumption)]; omega)
                | (rw [ctA_noV (by unfold vG; assumption)]; omega)
            have h9 := ih (n + 1) (by omega) (by omega)
            rw [e] at h9
            exact h9
          · skip
            refine Hx.run 1 (pc' := 139) (L' := [some (vr 64), some (vi f), some (vi (bS (hG M f) 6)), some (vi b), some (vi l), some (vi x), some (vi t), some (vi ms), some (vi (a : Int)), some (vi (ctA (hG M f) (vG (M 65 (16 + f)) x t) a n)), some (vi (n : Int))]) (st' := [vi 0, vi (ctA (hG M f) (vG (M 65 (16 + f)) x t) a n)]) (M' := M) rfl ?_
            refine Hx.add rfl (by omega) ?_
            refine Hx.run 1 (pc' := 142) (L' := [some (vr 64), some (vi f), some (vi (bS (hG M f) 6)), some (vi b), some (vi l), some (vi x), some (vi t), some (vi ms), some (vi (a : Int)), some (vi ((ctA (hG M f) (vG (M 65 (16 + f)) x t) a n) + 0)), some (vi (n : Int))]) (st' := []) (M' := M) rfl ?_
            refine Hx.inc rfl rfl (by omega) ?_
            refine Hx.run 0 (pc' := 145) (L' := [some (vr 64), some (vi f), some (vi (bS (hG M f) 6)), some (vi b), some (vi l), some (vi x), some (vi t), some (vi ms), some (vi (a : Int)), some (vi ((ctA (hG M f) (vG (M 65 (16 + f)) x t) a n) + 0)), some (vi ((n : Int) + 1))]) (st' := []) (M' := M) rfl ?_
            refine Hx.run 1 (pc' := 69) (L' := [some (vr 64), some (vi f), some (vi (bS (hG M f) 6)), some (vi b), some (vi l), some (vi x), some (vi t), some (vi ms), some (vi (a : Int)), some (vi ((ctA (hG M f) (vG (M 65 (16 + f)) x t) a n) + 0)), some (vi ((n : Int) + 1))]) (st' := []) (M' := M) rfl ?_
            have e : ctA (hG M f) (vG (M 65 (16 + f)) x t) a (n + 1) = ((ctA (hG M f) (vG (M 65 (16 + f)) x t) a n) + 0) := by
              first
                | exact ctA_yes (by assumption) (by assumption) (by unfold vG; assumption)
                | (rw [ctA_noA (by assumption)]; omega)
                | (rw [ctA_noN (by assumption)]; omega)
                | (rw [ctA_noV (by unfold vG; assumption)]; omega)
            have h9 := ih (n + 1) (by omega) (by omega)
            rw [e] at h9
            exact h9
        · skip
          refine Hx.run 2 (pc' := 139) (L' := [some (vr 64), some (vi f), some (vi (bS (hG M f) 6)), some (vi b), some (vi l), some (vi x), some (vi t), some (vi ms), some (vi (a : Int)), some (vi (ctA (hG M f) (vG (M 65 (16 + f)) x t) a n)), some (vi (n : Int))]) (st' := [vi 0, vi (ctA (hG M f) (vG (M 65 (16 + f)) x t) a n)]) (M' := M) rfl ?_
          refine Hx.add rfl (by omega) ?_
          refine Hx.run 1 (pc' := 142) (L' := [some (vr 64), some (vi f), some (vi (bS (hG M f) 6)), some (vi b), some (vi l), some (vi x), some (vi t), some (vi ms), some (vi (a : Int)), some (vi ((ctA (hG M f) (vG (M 65 (16 + f)) x t) a n) + 0)), some (vi (n : Int))]) (st' := []) (M' := M) rfl ?_
          refine Hx.inc rfl rfl (by omega) ?_
          refine Hx.run 0 (pc' := 145) (L' := [some (vr 64), some (vi f), some (vi (bS (hG M f) 6)), some (vi b), some (vi l), some (vi x), some (vi t), some (vi ms), some (vi (a : Int)), some (vi ((ctA (hG M f) (vG (M 65 (16 + f)) x t) a n) + 0)), some (vi ((n : Int) + 1))]) (st' := []) (M' := M) rfl ?_
          refine Hx.run 1 (pc' := 69) (L' := [some (vr 64), some (vi f), some (vi (bS (hG M f) 6)), some (vi b), some (vi l), some (vi x), some (vi t), some (vi ms), some (vi (a : Int)), some (vi ((ctA (hG M f) (vG (M 65 (16 + f)) x t) a n) + 0)), some (vi ((n : Int) + 1))]) (st' := []) (M' := M) rfl ?_
          have e : ctA (hG M f) (vG (M 65 (16 + f)) x t) a (n + 1) = ((ctA (hG M f) (vG (M 65 (16 + f)) x t) a n) + 0) := by
            first
              | exact ctA_yes (by assumption) (by assumption) (by unfold vG; assumption)
              | (rw [ctA_noA (by assumption)]; omega)
              | (rw [ctA_noN (by assumption)]; omega)
              | (rw [ctA_noV (by unfold vG; assumption)]; omega)
          have h9 := ih (n + 1) (by omega) (by omega)
          rw [e] at h9
          exact h9
      · skip
        refine Hx.run 2 (pc' := 139) (L' := [some (vr 64), some (vi f), some (vi (bS (hG M f) 6)), some (vi b), some (vi l), some (vi x), some (vi t), some (vi ms), some (vi (a : Int)), some (vi (ctA (hG M f) (vG (M 65 (16 + f)) x t) a n)), some (vi (n : Int))]) (st' := [vi 0, vi (ctA (hG M f) (vG (M 65 (16 + f)) x t) a n)]) (M' := M) rfl ?_
        refine Hx.add rfl (by omega) ?_
        refine Hx.run 1 (pc' := 142) (L' := [some (vr 64), some (vi f), some (vi (bS (hG M f) 6)), some (vi b), some (vi l), some (vi x), some (vi t), some (vi ms), some (vi (a : Int)), some (vi ((ctA (hG M f) (vG (M 65 (16 + f)) x t) a n) + 0)), some (vi (n : Int))]) (st' := []) (M' := M) rfl ?_
        refine Hx.inc rfl rfl (by omega) ?_
        refine Hx.run 0 (pc' := 145) (L' := [some (vr 64), some (vi f), some (vi (bS (hG M f) 6)), some (vi b), some (vi l), some (vi x), some (vi t), some (vi ms), some (vi (a : Int)), some (vi ((ctA (hG M f) (vG (M 65 (16 + f)) x t) a n) + 0)), some (vi ((n : Int) + 1))]) (st' := []) (M' := M) rfl ?_
        refine Hx.run 1 (pc' := 69) (L' := [some (vr 64), some (vi f), some (vi (bS (hG M f) 6)), some (vi b), some (vi l), some (vi x), some (vi t), some (vi ms), some (vi (a : Int)), some (vi ((ctA (hG M f) (vG (M 65 (16 + f)) x t) a n) + 0)), some (vi ((n : Int) + 1))]) (st' := []) (M' := M) rfl ?_
        have e : ctA (hG M f) (vG (M 65 (16 + f)) x t) a (n + 1) = ((ctA (hG M f) (vG (M 65 (16 + f)) x t) a n) + 0) := by
          first
            | exact ctA_yes (by assumption) (by assumption) (by unfold vG; assumption)
            | (rw [ctA_noA (by assumption)]; omega)
            | (rw [ctA_noN (by assumption)]; omega)
            | (rw [ctA_noV (by unfold vG; assumption)]; omega)
        have h9 := ih (n + 1) (by omega) (by omega)
        rw [e] at h9
        exact h9
set_option maxRecDepth 100000 in
set_option maxHeartbeats 2000000 in
theorem rl_X5_aska (f : Int) (M : Mm) (hI : RI M 0) (hf : 0 ≤ f ∧ f < M 65 1) (b l x t : Int) (hx : 0 ≤ x ∧ x ≤ 9) (ht : 0 ≤ t ∧ t < 24) {P : Option PV → Mm → Prop} (hk : ∀ (j8 j9 : Option PV), Hx 207 170 [some (vr 64), some (vi f), some (vi (bS (hG M f) 6)), some (vi b), some (vi l), some (vi x), some (vi t), some (vi (rmx (hG M f) (vG (M 65 (16 + f)) x t) 6)), some (vi 6), j8, j9] [] M P) : ∀ (kk : Nat) (a : Nat) (j8 : Option PV) (j9 : Option PV), a ≤ 6 → 6 - (a : Int) < (kk : Int) → Hx 207 57 [some (vr 64), some (vi f), some (vi (bS (hG M f) 6)), some (vi b), some (vi l), some (vi x), some (vi t), some (vi (tmx (hG M f) (vG (M 65 (16 + f)) x t) 6 a)), some (vi (a : Int)), j8, j9] [] M P := by
  intro kk
  induction kk with
  | zero => intro a j8 j9 _ hkk; exact absurd hkk (by omega)
  | succ kk ih =>
    intro a j8 j9 ha hkk
    have tr := tmx_rng (hG M f) (vG (M 65 (16 + f)) x t) 6 a
    have cr := ctA_rng (hG M f) (vG (M 65 (16 + f)) x t) a 6
    refine Hx.run 2 (pc' := 60) (L' := [some (vr 64), some (vi f), some (vi (bS (hG M f) 6)), some (vi b), some (vi l), some (vi x), some (vi t), some (vi (tmx (hG M f) (vG (M 65 (16 + f)) x t) 6 a)), some (vi (a : Int)), j8, j9]) (st' := [vi 5, vi (a : Int)]) (M' := M) rfl ?_
    refine Hx.br (c := 5 < (a : Int)) (t := 170) (f := 63) rfl (fun h1 => ?_) (fun h1 => ?_)
    · skip
      refine Hx.run 0 (pc' := 170) (L' := [some (vr 64), some (vi f), some (vi (bS (hG M f) 6)), some (vi b), some (vi l), some (vi x), some (vi t), some (vi (tmx (hG M f) (vG (M 65 (16 + f)) x t) 6 a)), some (vi (a : Int)), j8, j9]) (st' := []) (M' := M) rfl ?_
      have e : a = 6 := by omega
      subst e
      rw [rmx_tmx]
      exact hk j8 j9
    · skip
      refine Hx.run 4 (pc' := 69) (L' := [some (vr 64), some (vi f), some (vi (bS (hG M f) 6)), some (vi b), some (vi l), some (vi x), some (vi t), some (vi (tmx (hG M f) (vG (M 65 (16 + f)) x t) 6 a)), some (vi (a : Int)), some (vi 0), some (vi 0)]) (st' := []) (M' := M) rfl ?_
      have h1 := rl_X5_askb f M hI hf b l x t hx ht (tmx (hG M f) (vG (M 65 (16 + f)) x t) 6 a) a (by omega) (P := P) ?_ 10 0 (by omega) (by omega)
      · rw [ctA_0] at h1
        exact h1
      · skip
        refine Hx.run 2 (pc' := 152) (L' := [some (vr 64), some (vi f), some (vi (bS (hG M f) 6)), some (vi b), some (vi l), some (vi x), some (vi t), some (vi (tmx (hG M f) (vG (M 65 (16 + f)) x t) 6 a)), some (vi (a : Int)), some (vi (ctA (hG M f) (vG (M 65 (16 + f)) x t) a 6)), some (vi 6)]) (st' := [vi (tmx (hG M f) (vG (M 65 (16 + f)) x t) 6 a), vi (ctA (hG M f) (vG (M 65 (16 + f)) x t) a 6)]) (M' := M) rfl ?_
        refine Hx.br (c := (tmx (hG M f) (vG (M 65 (16 + f)) x t) 6 a) < (ctA (hG M f) (vG (M 65 (16 + f)) x t) a 6)) (t := 155) (f := 160) rfl (fun h2 => ?_) (fun h2 => ?_)
        · skip
          refine Hx.run 3 (pc' := 164) (L' := [some (vr 64), some (vi f), some (vi (bS (hG M f) 6)), some (vi b), some (vi l), some (vi x), some (vi t), some (vi (ctA (hG M f) (vG (M 65 (16 + f)) x t) a 6)), some (vi (a : Int)), some (vi (ctA (hG M f) (vG (M 65 (16 + f)) x t) a 6)), some (vi 6)]) (st' := []) (M' := M) rfl ?_
          refine Hx.inc rfl rfl (by omega) ?_
          refine Hx.run 0 (pc' := 167) (L' := [some (vr 64), some (vi f), some (vi (bS (hG M f) 6)), some (vi b), some (vi l), some (vi x), some (vi t), some (vi (ctA (hG M f) (vG (M 65 (16 + f)) x t) a 6)), some (vi ((a : Int) + 1)), some (vi (ctA (hG M f) (vG (M 65 (16 + f)) x t) a 6)), some (vi 6)]) (st' := []) (M' := M) rfl ?_
          refine Hx.run 1 (pc' := 57) (L' := [some (vr 64), some (vi f), some (vi (bS (hG M f) 6)), some (vi b), some (vi l), some (vi x), some (vi t), some (vi (ctA (hG M f) (vG (M 65 (16 + f)) x t) a 6)), some (vi ((a : Int) + 1)), some (vi (ctA (hG M f) (vG (M 65 (16 + f)) x t) a 6)), some (vi 6)]) (st' := []) (M' := M) rfl ?_
          have e : tmx (hG M f) (vG (M 65 (16 + f)) x t) 6 (a + 1) = (ctA (hG M f) (vG (M 65 (16 + f)) x t) a 6) := by rw [tmx_succ]; omega
          have h9 := ih (a + 1) (some (vi (ctA (hG M f) (vG (M 65 (16 + f)) x t) a 6))) (some (vi 6)) (by omega) (by omega)
          rw [e] at h9
          exact h9
        · skip
          refine Hx.run 2 (pc' := 164) (L' := [some (vr 64), some (vi f), some (vi (bS (hG M f) 6)), some (vi b), some (vi l), some (vi x), some (vi t), some (vi (tmx (hG M f) (vG (M 65 (16 + f)) x t) 6 a)), some (vi (a : Int)), some (vi (ctA (hG M f) (vG (M 65 (16 + f)) x t) a 6)), some (vi 6)]) (st' := []) (M' := M) rfl ?_
          refine Hx.inc rfl rfl (by omega) ?_
          refine Hx.run 0 (pc' := 167) (L' := [some (vr 64), some (vi f), some (vi (bS (hG M f) 6)), some (vi b), some (vi l), some (vi x), some (vi t), some (vi (tmx (hG M f) (vG (M 65 (16 + f)) x t) 6 a)), some (vi ((a : Int) + 1)), some (vi (ctA (hG M f) (vG (M 65 (16 + f)) x t) a 6)), some (vi 6)]) (st' := []) (M' := M) rfl ?_
          refine Hx.run 1 (pc' := 57) (L' := [some (vr 64), some (vi f), some (vi (bS (hG M f) 6)), some (vi b), some (vi l), some (vi x), some (vi t), some (vi (tmx (hG M f) (vG (M 65 (16 + f)) x t) 6 a)), some (vi ((a : Int) + 1)), some (vi (ctA (hG M f) (vG (M 65 (16 + f)) x t) a 6)), some (vi 6)]) (st' := []) (M' := M) rfl ?_
          have e : tmx (hG M f) (vG (M 65 (16 + f)) x t) 6 (a + 1) = (tmx (hG M f) (vG (M 65 (16 + f)) x t) 6 a) := by rw [tmx_succ]; omega
          have h9 := ih (a + 1) (some (vi (ctA (hG M f) (vG (M 65 (16 + f)) x t) a 6))) (some (vi 6)) (by omega) (by omega)
          rw [e] at h9
          exact h9
set_option maxRecDepth 100000 in
set_option maxHeartbeats 2000000 in
theorem rl_askt (f : Int) (M : Mm) (hI : RI M 0) (hf : 0 ≤ f ∧ f < M 65 1) (a : Nat) (ha : a < 10) {P : Option PV → Mm → Prop} (hk : ∀ (j7 j8 j9 j10 : Option PV), Hx 207 212 [some (vr 64), some (vi f), some (vi (bS (hG M f) 6)), some (vi (am4 akL (akV (hG M f) (M 65 (16 + f))) (24 * a + 24)).1), some (vi (am4 akL (akV (hG M f) (M 65 (16 + f))) (24 * a + 24)).2), some (vi (a : Int)), some (vi 24), j7, j8, j9, j10] [] M P) : ∀ (kk : Nat) (t : Nat) (j7 : Option PV) (j8 : Option PV) (j9 : Option PV) (j10 : Option PV), t ≤ 24 → 24 - (t : Int) < (kk : Int) → Hx 207 44 [some (vr 64), some (vi f), some (vi (bS (hG M f) 6)), some (vi (am4 akL (akV (hG M f) (M 65 (16 + f))) (24 * a + t)).1), some (vi (am4 akL (akV (hG M f) (M 65 (16 + f))) (24 * a + t)).2), some (vi (a : Int)), some (vi (t : Int)), j7, j8, j9, j10] [] M P := by
  intro kk
  induction kk with
  | zero => intro t j7 j8 j9 j10 _ hkk; exact absurd hkk (by omega)
  | succ kk ih =>
    intro t j7 j8 j9 j10 ht hkk
    have lv := rmx_rng (hG M f) (vG (M 65 (16 + f)) (a : Int) (t : Int)) 6
    have am := am4_rngA (hG M f) (M 65 (16 + f)) (24 * a + t)
    have hV : t < 24 → akV (hG M f) (M 65 (16 + f)) (24 * a + t) = rmx (hG M f) (vG (M 65 (16 + f)) (a : Int) (t : Int)) 6 := akV_e _ _ a t
    have hL : t < 24 → akL (24 * a + t) = 100 * (a : Int) + (t : Int) := akL_e a t
    refine Hx.run 2 (pc' := 48) (L' := [some (vr 64), some (vi f), some (vi (bS (hG M f) 6)), some (vi (am4 akL (akV (hG M f) (M 65 (16 + f))) (24 * a + t)).1), some (vi (am4 akL (akV (hG M f) (M 65 (16 + f))) (24 * a + t)).2), some (vi (a : Int)), some (vi (t : Int)), j7, j8, j9, j10]) (st' := [vi 24, vi (t : Int)]) (M' := M) rfl ?_
    refine Hx.br (c := (t : Int) < 24) (t := 51) (f := 212) rfl (fun h1 => ?_) (fun h1 => ?_)
    · skip
      refine Hx.run 4 (pc' := 57) (L' := [some (vr 64), some (vi f), some (vi (bS (hG M f) 6)), some (vi (am4 akL (akV (hG M f) (M 65 (16 + f))) (24 * a + t)).1), some (vi (am4 akL (akV (hG M f) (M 65 (16 + f))) (24 * a + t)).2), some (vi (a : Int)), some (vi (t : Int)), some (vi 0), some (vi 0), j9, j10]) (st' := []) (M' := M) rfl ?_
      refine rl_X5_aska f M hI hf (am4 akL (akV (hG M f) (M 65 (16 + f))) (24 * a + t)).1 (am4 akL (akV (hG M f) (M 65 (16 + f))) (24 * a + t)).2 (a : Int) (t : Int) (by omega) (by omega) (fun k8 k9 => ?_) 10 0 j9 j10 (by omega) (by omega)
      refine Hx.run 2 (pc' := 174) (L' := [some (vr 64), some (vi f), some (vi (bS (hG M f) 6)), some (vi (am4 akL (akV (hG M f) (M 65 (16 + f))) (24 * a + t)).1), some (vi (am4 akL (akV (hG M f) (M 65 (16 + f))) (24 * a + t)).2), some (vi (a : Int)), some (vi (t : Int)), some (vi (rmx (hG M f) (vG (M 65 (16 + f)) (a : Int) (t : Int)) 6)), some (vi 6), k8, k9]) (st' := [vi (am4 akL (akV (hG M f) (M 65 (16 + f))) (24 * a + t)).2, vi (rmx (hG M f) (vG (M 65 (16 + f)) (a : Int) (t : Int)) 6)]) (M' := M) rfl ?_
      refine Hx.br (c := (rmx (hG M f) (vG (M 65 (16 + f)) (a : Int) (t : Int)) 6) < (am4 akL (akV (hG M f) (M 65 (16 + f))) (24 * a + t)).2) (t := 177) (f := 188) rfl (fun h2 => ?_) (fun h2 => ?_)
      · skip
        refine Hx.run 2 (pc' := 181) (L' := [some (vr 64), some (vi f), some (vi (bS (hG M f) 6)), some (vi (am4 akL (akV (hG M f) (M 65 (16 + f))) (24 * a + t)).1), some (vi (am4 akL (akV (hG M f) (M 65 (16 + f))) (24 * a + t)).2), some (vi (a : Int)), some (vi (t : Int)), some (vi (rmx (hG M f) (vG (M 65 (16 + f)) (a : Int) (t : Int)) 6)), some (vi 6), k8, k9]) (st' := [vi (a : Int), vi 100]) (M' := M) rfl ?_
        refine Hx.mul rfl (by omega) ?_
        refine Hx.run 1 (pc' := 184) (L' := [some (vr 64), some (vi f), some (vi (bS (hG M f) 6)), some (vi (am4 akL (akV (hG M f) (M 65 (16 + f))) (24 * a + t)).1), some (vi (am4 akL (akV (hG M f) (M 65 (16 + f))) (24 * a + t)).2), some (vi (a : Int)), some (vi (t : Int)), some (vi (rmx (hG M f) (vG (M 65 (16 + f)) (a : Int) (t : Int)) 6)), some (vi 6), k8, k9]) (st' := [vi (t : Int), vi (100 * (a : Int))]) (M' := M) rfl ?_
        refine Hx.add rfl (by omega) ?_
        refine Hx.run 4 (pc' := 194) (L' := [some (vr 64), some (vi f), some (vi (bS (hG M f) 6)), some (vi ((100 * (a : Int)) + (t : Int))), some (vi (am4 akL (akV (hG M f) (M 65 (16 + f))) (24 * a + t)).2), some (vi (a : Int)), some (vi (t : Int)), some (vi (rmx (hG M f) (vG (M 65 (16 + f)) (a : Int) (t : Int)) 6)), some (vi 6), k8, k9]) (st' := [vi (am4 akL (akV (hG M f) (M 65 (16 + f))) (24 * a + t)).2, vi (rmx (hG M f) (vG (M 65 (16 + f)) (a : Int) (t : Int)) 6)]) (M' := M) rfl ?_
        refine Hx.br (c := (rmx (hG M f) (vG (M 65 (16 + f)) (a : Int) (t : Int)) 6) < (am4 akL (akV (hG M f) (M 65 (16 + f))) (24 * a + t)).2) (t := 197) (f := 202) rfl (fun h3 => ?_) (fun h3 => ?_)
        · skip
          refine Hx.run 3 (pc' := 206) (L' := [some (vr 64), some (vi f), some (vi (bS (hG M f) 6)), some (vi ((100 * (a : Int)) + (t : Int))), some (vi (rmx (hG M f) (vG (M 65 (16 + f)) (a : Int) (t : Int)) 6)), some (vi (a : Int)), some (vi (t : Int)), some (vi (rmx (hG M f) (vG (M 65 (16 + f)) (a : Int) (t : Int)) 6)), some (vi 6), k8, k9]) (st' := []) (M' := M) rfl ?_
          refine Hx.inc rfl rfl (by omega) ?_
          refine Hx.run 0 (pc' := 209) (L' := [some (vr 64), some (vi f), some (vi (bS (hG M f) 6)), some (vi ((100 * (a : Int)) + (t : Int))), some (vi (rmx (hG M f) (vG (M 65 (16 + f)) (a : Int) (t : Int)) 6)), some (vi (a : Int)), some (vi ((t : Int) + 1)), some (vi (rmx (hG M f) (vG (M 65 (16 + f)) (a : Int) (t : Int)) 6)), some (vi 6), k8, k9]) (st' := []) (M' := M) rfl ?_
          refine Hx.run 1 (pc' := 44) (L' := [some (vr 64), some (vi f), some (vi (bS (hG M f) 6)), some (vi ((100 * (a : Int)) + (t : Int))), some (vi (rmx (hG M f) (vG (M 65 (16 + f)) (a : Int) (t : Int)) 6)), some (vi (a : Int)), some (vi ((t : Int) + 1)), some (vi (rmx (hG M f) (vG (M 65 (16 + f)) (a : Int) (t : Int)) 6)), some (vi 6), k8, k9]) (st' := []) (M' := M) rfl ?_
          have e1 : (am4 akL (akV (hG M f) (M 65 (16 + f))) (24 * a + (t + 1))).1 = ((100 * (a : Int)) + (t : Int)) := by rw [show 24 * a + (t + 1) = 24 * a + t + 1 from rfl, am4_succ]; split <;> first | rfl | omega | (dsimp only; omega)
          have e2 : (am4 akL (akV (hG M f) (M 65 (16 + f))) (24 * a + (t + 1))).2 = (rmx (hG M f) (vG (M 65 (16 + f)) (a : Int) (t : Int)) 6) := by rw [show 24 * a + (t + 1) = 24 * a + t + 1 from rfl, am4_succ]; split <;> first | rfl | omega | (dsimp only; omega)
          have h9 := ih (t + 1) (some (vi (rmx (hG M f) (vG (M 65 (16 + f)) (a : Int) (t : Int)) 6))) (some (vi 6)) k8 k9 (by omega) (by omega)
          rw [e1, e2] at h9
          exact h9
        · skip
          refine Hx.run 2 (pc' := 206) (L' := [some (vr 64), some (vi f), some (vi (bS (hG M f) 6)), some (vi ((100 * (a : Int)) + (t : Int))), some (vi (am4 akL (akV (hG M f) (M 65 (16 + f))) (24 * a + t)).2), some (vi (a : Int)), some (vi (t : Int)), some (vi (rmx (hG M f) (vG (M 65 (16 + f)) (a : Int) (t : Int)) 6)), some (vi 6), k8, k9]) (st' := []) (M' := M) rfl ?_
          refine Hx.inc rfl rfl (by omega) ?_
          refine Hx.run 0 (pc' := 209) (L' := [some (vr 64), some (vi f), some (vi (bS (hG M f) 6)), some (vi ((100 * (a : Int)) + (t : Int))), some (vi (am4 akL (akV (hG M f) (M 65 (16 + f))) (24 * a + t)).2), some (vi (a : Int)), some (vi ((t : Int) + 1)), some (vi (rmx (hG M f) (vG (M 65 (16 + f)) (a : Int) (t : Int)) 6)), some (vi 6), k8, k9]) (st' := []) (M' := M) rfl ?_
          refine Hx.run 1 (pc' := 44) (L' := [some (vr 64), some (vi f), some (vi (bS (hG M f) 6)), some (vi ((100 * (a : Int)) + (t : Int))), some (vi (am4 akL (akV (hG M f) (M 65 (16 + f))) (24 * a + t)).2), some (vi (a : Int)), some (vi ((t : Int) + 1)), some (vi (rmx (hG M f) (vG (M 65 (16 + f)) (a : Int) (t : Int)) 6)), some (vi 6), k8, k9]) (st' := []) (M' := M) rfl ?_
          have e1 : (am4 akL (akV (hG M f) (M 65 (16 + f))) (24 * a + (t + 1))).1 = ((100 * (a : Int)) + (t : Int)) := by rw [show 24 * a + (t + 1) = 24 * a + t + 1 from rfl, am4_succ]; split <;> first | rfl | omega | (dsimp only; omega)
          have e2 : (am4 akL (akV (hG M f) (M 65 (16 + f))) (24 * a + (t + 1))).2 = (am4 akL (akV (hG M f) (M 65 (16 + f))) (24 * a + t)).2 := by rw [show 24 * a + (t + 1) = 24 * a + t + 1 from rfl, am4_succ]; split <;> first | rfl | omega | (dsimp only; omega)
          have h9 := ih (t + 1) (some (vi (rmx (hG M f) (vG (M 65 (16 + f)) (a : Int) (t : Int)) 6))) (some (vi 6)) k8 k9 (by omega) (by omega)
          rw [e1, e2] at h9
          exact h9
      · skip
        refine Hx.run 4 (pc' := 194) (L' := [some (vr 64), some (vi f), some (vi (bS (hG M f) 6)), some (vi (am4 akL (akV (hG M f) (M 65 (16 + f))) (24 * a + t)).1), some (vi (am4 akL (akV (hG M f) (M 65 (16 + f))) (24 * a + t)).2), some (vi (a : Int)), some (vi (t : Int)), some (vi (rmx (hG M f) (vG (M 65 (16 + f)) (a : Int) (t : Int)) 6)), some (vi 6), k8, k9]) (st' := [vi (am4 akL (akV (hG M f) (M 65 (16 + f))) (24 * a + t)).2, vi (rmx (hG M f) (vG (M 65 (16 + f)) (a : Int) (t : Int)) 6)]) (M' := M) rfl ?_
        refine Hx.br (c := (rmx (hG M f) (vG (M 65 (16 + f)) (a : Int) (t : Int)) 6) < (am4 akL (akV (hG M f) (M 65 (16 + f))) (24 * a + t)).2) (t := 197) (f := 202) rfl (fun h4 => ?_) (fun h4 => ?_)
        · skip
          refine Hx.run 3 (pc' := 206) (L' := [some (vr 64), some (vi f), some (vi (bS (hG M f) 6)), some (vi (am4 akL (akV (hG M f) (M 65 (16 + f))) (24 * a + t)).1), some (vi (rmx (hG M f) (vG (M 65 (16 + f)) (a : Int) (t : Int)) 6)), some (vi (a : Int)), some (vi (t : Int)), some (vi (rmx (hG M f) (vG (M 65 (16 + f)) (a : Int) (t : Int)) 6)), some (vi 6), k8, k9]) (st' := []) (M' := M) rfl ?_
          refine Hx.inc rfl rfl (by omega) ?_
          refine Hx.run 0 (pc' := 209) (L' := [some (vr 64), some (vi f), some (vi (bS (hG M f) 6)), some (vi (am4 akL (akV (hG M f) (M 65 (16 + f))) (24 * a + t)).1), some (vi (rmx (hG M f) (vG (M 65 (16 + f)) (a : Int) (t : Int)) 6)), some (vi (a : Int)), some (vi ((t : Int) + 1)), some (vi (rmx (hG M f) (vG (M 65 (16 + f)) (a : Int) (t : Int)) 6)), some (vi 6), k8, k9]) (st' := []) (M' := M) rfl ?_
          refine Hx.run 1 (pc' := 44) (L' := [some (vr 64), some (vi f), some (vi (bS (hG M f) 6)), some (vi (am4 akL (akV (hG M f) (M 65 (16 + f))) (24 * a + t)).1), some (vi (rmx (hG M f) (vG (M 65 (16 + f)) (a : Int) (t : Int)) 6)), some (vi (a : Int)), some (vi ((t : Int) + 1)), some (vi (rmx (hG M f) (vG (M 65 (16 + f)) (a : Int) (t : Int)) 6)), some (vi 6), k8, k9]) (st' := []) (M' := M) rfl ?_
          have e1 : (am4 akL (akV (hG M f) (M 65 (16 + f))) (24 * a + (t + 1))).1 = (am4 akL (akV (hG M f) (M 65 (16 + f))) (24 * a + t)).1 := by rw [show 24 * a + (t + 1) = 24 * a + t + 1 from rfl, am4_succ]; split <;> first | rfl | omega | (dsimp only; omega)
          have e2 : (am4 akL (akV (hG M f) (M 65 (16 + f))) (24 * a + (t + 1))).2 = (rmx (hG M f) (vG (M 65 (16 + f)) (a : Int) (t : Int)) 6) := by rw [show 24 * a + (t + 1) = 24 * a + t + 1 from rfl, am4_succ]; split <;> first | rfl | omega | (dsimp only; omega)
          have h9 := ih (t + 1) (some (vi (rmx (hG M f) (vG (M 65 (16 + f)) (a : Int) (t : Int)) 6))) (some (vi 6)) k8 k9 (by omega) (by omega)
          rw [e1, e2] at h9
          exact h9
        · skip
          refine Hx.run 2 (pc' := 206) (L' := [some (vr 64), some (vi f), some (vi (bS (hG M f) 6)), some (vi (am4 akL (akV (hG M f) (M 65 (16 + f))) (24 * a + t)).1), some (vi (am4 akL (akV (hG M f) (M 65 (16 + f))) (24 * a + t)).2), some (vi (a : Int)), some (vi (t : Int)), some (vi (rmx (hG M f) (vG (M 65 (16 + f)) (a : Int) (t : Int)) 6)), some (vi 6), k8, k9]) (st' := []) (M' := M) rfl ?_
          refine Hx.inc rfl rfl (by omega) ?_
          refine Hx.run 0 (pc' := 209) (L' := [some (vr 64), some (vi f), some (vi (bS (hG M f) 6)), some (vi (am4 akL (akV (hG M f) (M 65 (16 + f))) (24 * a + t)).1), some (vi (am4 akL (akV (hG M f) (M 65 (16 + f))) (24 * a + t)).2), some (vi (a : Int)), some (vi ((t : Int) + 1)), some (vi (rmx (hG M f) (vG (M 65 (16 + f)) (a : Int) (t : Int)) 6)), some (vi 6), k8, k9]) (st' := []) (M' := M) rfl ?_
          refine Hx.run 1 (pc' := 44) (L' := [some (vr 64), some (vi f), some (vi (bS (hG M f) 6)), some (vi (am4 akL (akV (hG M f) (M 65 (16 + f))) (24 * a + t)).1), some (vi (am4 akL (akV (hG M f) (M 65 (16 + f))) (24 * a + t)).2), some (vi (a : Int)), some (vi ((t : Int) + 1)), some (vi (rmx (hG M f) (vG (M 65 (16 + f)) (a : Int) (t : Int)) 6)), some (vi 6), k8, k9]) (st' := []) (M' := M) rfl ?_
          have e1 : (am4 akL (akV (hG M f) (M 65 (16 + f))) (24 * a + (t + 1))).1 = (am4 akL (akV (hG M f) (M 65 (16 + f))) (24 * a + t)).1 := by rw [show 24 * a + (t + 1) = 24 * a + t + 1 from rfl, am4_succ]; split <;> first | rfl | omega | (dsimp only; omega)
          have e2 : (am4 akL (akV (hG M f) (M 65 (16 + f))) (24 * a + (t + 1))).2 = (am4 akL (akV (hG M f) (M 65 (16 + f))) (24 * a + t)).2 := by rw [show 24 * a + (t + 1) = 24 * a + t + 1 from rfl, am4_succ]; split <;> first | rfl | omega | (dsimp only; omega)
          have h9 := ih (t + 1) (some (vi (rmx (hG M f) (vG (M 65 (16 + f)) (a : Int) (t : Int)) 6))) (some (vi 6)) k8 k9 (by omega) (by omega)
          rw [e1, e2] at h9
          exact h9
    · skip
      refine Hx.run 0 (pc' := 212) (L' := [some (vr 64), some (vi f), some (vi (bS (hG M f) 6)), some (vi (am4 akL (akV (hG M f) (M 65 (16 + f))) (24 * a + t)).1), some (vi (am4 akL (akV (hG M f) (M 65 (16 + f))) (24 * a + t)).2), some (vi (a : Int)), some (vi (t : Int)), j7, j8, j9, j10]) (st' := []) (M' := M) rfl ?_
      have e : t = 24 := by omega
      subst e
      exact hk j7 j8 j9 j10
set_option maxRecDepth 100000 in
theorem rl_askx (f : Int) (M : Mm) (hI : RI M 0) (hf : 0 ≤ f ∧ f < M 65 1) (hpos : 0 < (bS (hG M f) 6)) : ∀ (kk : Nat) (a : Nat) (j6 : Option PV) (j7 : Option PV) (j8 : Option PV) (j9 : Option PV) (j10 : Option PV), a ≤ 10 → 10 - (a : Int) < (kk : Int) → Hx 207 30 [some (vr 64), some (vi f), some (vi (bS (hG M f) 6)), some (vi (am4 akL (akV (hG M f) (M 65 (16 + f))) (24 * a)).1), some (vi (am4 akL (akV (hG M f) (M 65 (16 + f))) (24 * a)).2), some (vi (a : Int)), j6, j7, j8, j9, j10] [] M (fun q0 M' => q0 = some (vi (am4 akL (akV (hG M f) (M 65 (16 + f))) (240)).1) ∧ M = M') := by
  intro kk
  induction kk with
  | zero => intro a j6 j7 j8 j9 j10 _ hkk; exact absurd hkk (by omega)
  | succ kk ih =>
    intro a j6 j7 j8 j9 j10 ha hkk
    refine Hx.run 2 (pc' := 34) (L' := [some (vr 64), some (vi f), some (vi (bS (hG M f) 6)), some (vi (am4 akL (akV (hG M f) (M 65 (16 + f))) (24 * a)).1), some (vi (am4 akL (akV (hG M f) (M 65 (16 + f))) (24 * a)).2), some (vi (a : Int)), j6, j7, j8, j9, j10]) (st' := [vi 10, vi (a : Int)]) (M' := M) rfl ?_
    refine Hx.br (c := (a : Int) < 10) (t := 37) (f := 218) rfl (fun h1 => ?_) (fun h1 => ?_)
    · skip
      refine Hx.run 1 (pc' := 38) (L' := [some (vr 64), some (vi f), some (vi (bS (hG M f) 6)), some (vi (am4 akL (akV (hG M f) (M 65 (16 + f))) (24 * a)).1), some (vi (am4 akL (akV (hG M f) (M 65 (16 + f))) (24 * a)).2), some (vi (a : Int)), j6, j7, j8, j9, j10]) (st' := [vi (bS (hG M f) 6)]) (M' := M) rfl ?_
      refine Hx.br (c := 0 < (bS (hG M f) 6)) (t := 41) (f := 218) rfl (fun h2 => ?_) (fun h2 => ?_)
      · skip
        refine Hx.run 2 (pc' := 44) (L' := [some (vr 64), some (vi f), some (vi (bS (hG M f) 6)), some (vi (am4 akL (akV (hG M f) (M 65 (16 + f))) (24 * a)).1), some (vi (am4 akL (akV (hG M f) (M 65 (16 + f))) (24 * a)).2), some (vi (a : Int)), some (vi 0), j7, j8, j9, j10]) (st' := []) (M' := M) rfl ?_
        refine rl_askt f M hI hf a (by omega) (fun k7 k8 k9 k10 => ?_) 30 0 j7 j8 j9 j10 (by omega) (by omega)
        refine Hx.inc rfl rfl (by omega) ?_
        refine Hx.run 0 (pc' := 215) (L' := [some (vr 64), some (vi f), some (vi (bS (hG M f) 6)), some (vi (am4 akL (akV (hG M f) (M 65 (16 + f))) (24 * a + 24)).1), some (vi (am4 akL (akV (hG M f) (M 65 (16 + f))) (24 * a + 24)).2), some (vi ((a : Int) + 1)), some (vi 24), k7, k8, k9, k10]) (st' := []) (M' := M) rfl ?_
        refine Hx.run 1 (pc' := 30) (L' := [some (vr 64), some (vi f), some (vi (bS (hG M f) 6)), some (vi (am4 akL (akV (hG M f) (M 65 (16 + f))) (24 * a + 24)).1), some (vi (am4 akL (akV (hG M f) (M 65 (16 + f))) (24 * a + 24)).2), some (vi ((a : Int) + 1)), some (vi 24), k7, k8, k9, k10]) (st' := []) (M' := M) rfl ?_
        exact ih (a + 1) (some (vi 24)) k7 k8 k9 k10 (by omega) (by omega)
      · skip
        refine Hx.run 1 (pc' := 219) (L' := [some (vr 64), some (vi f), some (vi (bS (hG M f) 6)), some (vi (am4 akL (akV (hG M f) (M 65 (16 + f))) (24 * a)).1), some (vi (am4 akL (akV (hG M f) (M 65 (16 + f))) (24 * a)).2), some (vi (a : Int)), j6, j7, j8, j9, j10]) (st' := [vi (am4 akL (akV (hG M f) (M 65 (16 + f))) (24 * a)).1]) (M' := M) rfl ?_
        refine Hx.ret rfl ?_
        first | exact absurd hpos (by omega) | exact ⟨by rw [show a = 10 by omega], rfl⟩
    · skip
      refine Hx.run 1 (pc' := 219) (L' := [some (vr 64), some (vi f), some (vi (bS (hG M f) 6)), some (vi (am4 akL (akV (hG M f) (M 65 (16 + f))) (24 * a)).1), some (vi (am4 akL (akV (hG M f) (M 65 (16 + f))) (24 * a)).2), some (vi (a : Int)), j6, j7, j8, j9, j10]) (st' := [vi (am4 akL (akV (hG M f) (M 65 (16 + f))) (24 * a)).1]) (M' := M) rfl ?_
      refine Hx.ret rfl ?_
      first | exact absurd hpos (by omega) | exact ⟨by rw [show a = 10 by omega], rfl⟩
set_option maxRecDepth 100000 in
theorem R_ask (f : Int) (M : Mm) (hI : RI M 0) (hs : (0 ≤ M 68 0 ∧ M 68 0 ≤ 600) ∧ (0 ≤ M 68 1 ∧ M 68 1 ≤ 600) ∧ (0 ≤ M 68 2 ∧ M 68 2 ≤ 600)) (hS : ∀ n : Int, 0 ≤ n → n < M 65 80 → (1 ≤ M 65 (81 + 5 * n + 1) ∧ M 65 (81 + 5 * n + 1) ≤ 4) ∧ (0 ≤ M 65 (81 + 5 * n + 2) ∧ M 65 (81 + 5 * n + 2) ≤ 9) ∧ (0 ≤ M 65 (81 + 5 * n + 3) ∧ M 65 (81 + 5 * n + 3) ≤ 23)) : Ct 207 [vr 64, vi f] M (fun q0 M' => (¬ (0 ≤ f ∧ f < M 65 1) ∧ q0 = some (vi (-2)) ∧ up M 68 0 (M 68 0 + 1) = M') ∨ ((0 ≤ f ∧ f < M 65 1) ∧ q0 = some (vi (if (bS (hG M f) 6) = 0 then -1 else (am4 akL (akV (hG M f) (M 65 (16 + f))) (240)).1)) ∧ M = M')) := by
  obtain ⟨r0, r1, r2, r3, r40, r61, r80, r111, rF, rG⟩ := (show (0 ≤ M 65 0 ∧ M 65 0 ≤ 3) ∧ (0 ≤ M 65 1 ∧ M 65 1 ≤ 6) ∧ (0 ≤ M 65 2 ∧ M 65 2 ≤ 9999) ∧ (0 ≤ M 65 3 ∧ M 65 3 ≤ 9000) ∧ (0 ≤ M 65 40 ∧ M 65 40 ≤ 5) ∧ (0 ≤ M 65 61 ∧ M 65 61 ≤ 6) ∧ (0 ≤ M 65 80 ∧ M 65 80 ≤ 6) ∧ (0 ≤ M 65 111 ∧ M 65 111 ≤ 8) ∧ (∀ f : Int, 0 ≤ f → f < M 65 0 → (0 ≤ M 65 (4 + f) ∧ M 65 (4 + f) ≤ 5) ∧ (1 ≤ M 65 (7 + f) ∧ M 65 (7 + f) ≤ 10)) ∧ (∀ i : Int, 0 ≤ i → i < M 65 1 → (0 ≤ M 65 (10 + i) ∧ M 65 (10 + i) ≤ 5) ∧ (1 ≤ M 65 (16 + i) ∧ M 65 (16 + i) ≤ 4) ∧ (0 ≤ M 65 (22 + i) ∧ M 65 (22 + i) < M 65 0) ∧ (0 ≤ M 65 (28 + i) ∧ M 65 (28 + i) ≤ 11) ∧ (0 ≤ M 65 (34 + i) ∧ M 65 (34 + i) ≤ 9)) from hI)
  refine Hx.run 2 (pc' := 2) (L' := [some (vr 64), some (vi f), none, none, none, none, none, none, none, none, none]) (st' := [vi f, vr 64]) (M' := M) rfl ?_
  refine Hx.call (t := 137) (as := [vr 64, vi f]) (pc' := 5) (rest := []) rfl (r_isGoer f M (by omega)) ?_
  rintro _ _ (⟨q131, rfl, rfl⟩ | ⟨q131, rfl, rfl⟩)
  · skip
    have gq131 := rG f q131.1 q131.2
    have fq131 := rF (M 65 (22 + f)) (by omega) (by omega)
    refine Hx.run 3 (pc' := 17) (L' := [some (vr 64), some (vi f), none, none, none, none, none, none, none, none, none]) (st' := [vi f, vr 64]) (M' := M) rfl ?_
    refine Hx.call (t := 205) (as := [vr 64, vi f]) (pc' := 20) (rest := []) rfl (r_ofG f M hI hS) ?_
    rintro _ _ ⟨rfl, rfl⟩
    refine Hx.run 0 (pc' := 20) (L' := [some (vr 64), some (vi f), none, none, none, none, none, none, none, none, none]) (st' := [vi (bS (hG M f) 6)]) (M' := M) rfl ?_
    refine Hx.run 7 (pc' := 30) (L' := [some (vr 64), some (vi f), some (vi (bS (hG M f) 6)), some (vi (-1)), some (vi 1000000), some (vi 0), none, none, none, none, none]) (st' := []) (M' := M) rfl ?_
    have wr := bS_rng (hG M f) 6
    by_cases hz : 0 < (bS (hG M f) 6)
    · have h0 := rl_askx f M hI (by omega) hz 20 0 none none none none none (by omega) (by omega)
      rw [show (am4 akL (akV (hG M f) (M 65 (16 + f))) (24 * 0)).2 = 1000000 from rfl, show (am4 akL (akV (hG M f) (M 65 (16 + f))) (24 * 0)).1 = -1 from rfl] at h0
      exact Hx.imp h0 (fun r M' h => Or.inr ⟨by omega, by rw [if_neg (by omega)]; exact h.1, h.2⟩)
    · skip
      refine Hx.run 4 (pc' := 38) (L' := [some (vr 64), some (vi f), some (vi (bS (hG M f) 6)), some (vi (-1)), some (vi 1000000), some (vi 0), none, none, none, none, none]) (st' := [vi (bS (hG M f) 6)]) (M' := M) rfl ?_
      refine Hx.br (c := 0 < (bS (hG M f) 6)) (t := 41) (f := 218) rfl (fun h1 => ?_) (fun h1 => ?_)
      · skip
        exact absurd h1 hz
      · skip
        refine Hx.run 1 (pc' := 219) (L' := [some (vr 64), some (vi f), some (vi (bS (hG M f) 6)), some (vi (-1)), some (vi 1000000), some (vi 0), none, none, none, none, none]) (st' := [vi (-1)]) (M' := M) rfl ?_
        refine Hx.ret rfl ?_
        first | exact Or.inl ⟨by omega, rfl, rfl⟩ | exact Or.inr ⟨by omega, by rw [if_pos (by omega)], rfl⟩ | omega
  · skip
    refine Hx.run 3 (pc' := 11) (L' := [some (vr 64), some (vi f), none, none, none, none, none, none, none, none, none]) (st' := [vi (-2), vr 64]) (M' := M) rfl ?_
    refine Hx.call (t := 132) (as := [vr 64, vi (-2)]) (pc' := 14) (rest := []) rfl (r_bad (-2) M (by omega)) ?_
    rintro _ _ ⟨rfl, rfl⟩
    refine Hx.run 0 (pc' := 14) (L' := [some (vr 64), some (vi f), none, none, none, none, none, none, none, none, none]) (st' := [vi (-2)]) (M' := (up M 68 0 ((M 68 0) + 1))) rfl ?_
    refine Hx.ret rfl ?_
    first | exact Or.inl ⟨by omega, rfl, rfl⟩ | exact Or.inr ⟨by omega, by rw [if_pos (by omega)], rfl⟩ | omega
