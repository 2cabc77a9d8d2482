/-! members side by side: the climbs (written by wip/whole/gen82.py) -/
theorem e_bar {M : Mm} {n : Nat} (h : Rl M n) {i : Int} (hi : 0 ≤ i ∧ i < M 1 1) : M 2 (M 5 i) = M 65 (4 + M 65 (22 + i)) ∧ M 6 (12 + M 5 i) = M 65 (7 + M 65 (22 + i)) := by
  have g := Rl_g h hi.1 hi.2
  have f := Rl_f h (f := M 5 i) (by omega) (by omega)
  rw [g.1.2.2.1] at f
  rw [g.1.2.2.1]
  exact ⟨f.1, f.2.1⟩
theorem e_sn {M : Mm} {n : Nat} (h : Rl M n) {i : Int} (hi : 0 ≤ i ∧ i < M 1 1) : snC M i = snR M i := by
  have g := Rl_g h hi.1 hi.2
  have f := e_bar h hi
  funext t
  unfold snC snR
  rw [f.1, f.2, g.1.1, g.1.2.1, g.1.2.2.2.1, g.1.2.2.2.2]
theorem e_st {M : Mm} {n : Nat} (h : Rl M n) (m : Nat) (hm : (m : Int) < M 1 1) : stC M m = stR M m := by
  have g := Rl_g h (i := (m : Int)) (by omega) hm
  have f := e_bar h (i := (m : Int)) ⟨by omega, hm⟩
  unfold stC stR
  rw [f.1, f.2, g.1.1, g.1.2.1, g.1.2.2.2.1, g.1.2.2.2.2, (Rl_c h).2.2.2.1]
theorem e_si {M : Mm} {n : Nat} (h : Rl M n) {f : Int} (hf : 0 ≤ f ∧ f < M 1 0) : siC M f = siR M f := by
  have k := Rl_c h
  funext s
  unfold siC siR
  rw [← k.2.1]
  refine sS_congr _ (fun m hm => ?_)
  have g := Rl_g h (i := (m : Int)) (by omega) (by omega)
  unfold auC auR
  rw [(Rl_f h hf.1 hf.2).1, g.1.1, g.1.2.1, g.1.2.2.1, g.1.2.2.2.2, k.2.2.2.1]
theorem S_soon (i : Int) (w : Int) (M : Mm) (n : Nat) (h : Rl M n) (hn : n < 512) : Same 74 188 [vi i, vi w] M n := by
  obtain ⟨k0, k1, k2, k3, k4, k5, k6, k7, l0, l1, l2, l3, l4⟩ := Rl_c h
  refine Ct.imp (C_soon i w M (Rl_HI h (by omega)) (Rl_st h (by omega))) ?_
  rintro r1 M1 (⟨a1, ha, hm⟩ | ⟨a1, ha, F, hm⟩)
  · have e65 : M1 65 = M 65 := by subst hm; rfl
    have e68 : M1 68 = M 68 := by subst hm; rfl
    refine Ct.imp (R_soon i w M1 (RI_eq e65 (Rl_RI h (by omega))) (by rw [e68]; exact Rl_sr h (by omega))) ?_
    rintro r2 M2 (⟨b1, hb1, hm2⟩ | ⟨b1, hb1, G, hm2⟩)
    · exact ⟨by rw [ha, hb1], Rl_ref h 0 (Or.inl rfl) (by rw [← hm2, ← hm]; rfl)⟩
    · rw [e65] at b1; exfalso; omega
  · have e65 : M1 65 = M 65 := by subst hm; rfl
    have e68 : M1 68 = M 68 := by subst hm; rfl
    refine Ct.imp (R_soon i w M1 (RI_eq e65 (Rl_RI h (by omega))) (by rw [e68]; exact Rl_sr h (by omega))) ?_
    rintro r2 M2 (⟨b1, hb1, hm2⟩ | ⟨b1, hb1, G, hm2⟩)
    · rw [e65] at b1; exfalso; omega
    · refine ⟨?_, Rl_q h (fun r hr => by rw [← hm2, sr_ne (by omega), ← hm, sr_ne (by omega)])⟩
      rw [ha, hb1]
      have z : snR M1 i = snC M i := by rw [e_sn h a1.1]; unfold snR; rw [e65]
      rw [z]
      have g := Rl_g h a1.1.1 a1.1.2
      have am := am1_rng (f := snC M i) (fun m => by
        have := TV_fin (far := (sfF (M 3 i) (M 4 i) (M 6 (6 + i)) m)) (b := (bb (M 6 (12 + (M 5 i))) (bcF (M 2 (M 5 i)) m))) (x := M 6 i) (by omega) (by omega)
        unfold snC
        omega) 24
      have ad := dc_cases (am1 (snC M i) 24).2
      apply congrArg; apply congrArg
      by_cases q1 : w = 0
      · rw [if_pos q1, if_pos q1]; split <;> omega
      · rw [if_neg q1, if_neg q1]; split <;> omega
theorem S_site (f : Int) (w : Int) (M : Mm) (n : Nat) (h : Rl M n) (hn : n < 512) : Same 75 189 [vi f, vi w] M n := by
  obtain ⟨k0, k1, k2, k3, k4, k5, k6, k7, l0, l1, l2, l3, l4⟩ := Rl_c h
  refine Ct.imp (C_site f w M (Rl_HI h (by omega)) (Rl_st h (by omega))) ?_
  rintro r1 M1 (⟨a1, ha, hm⟩ | ⟨a1, ha, F, hm⟩)
  · have e65 : M1 65 = M 65 := by subst hm; rfl
    have e68 : M1 68 = M 68 := by subst hm; rfl
    refine Ct.imp (R_site f w M1 (RI_eq e65 (Rl_RI h (by omega))) (by rw [e68]; exact Rl_sr h (by omega))) ?_
    rintro r2 M2 (⟨b1, hb1, hm2⟩ | ⟨b1, hb1, G, hm2⟩)
    · exact ⟨by rw [ha, hb1], Rl_ref h 0 (Or.inl rfl) (by rw [← hm2, ← hm]; rfl)⟩
    · rw [e65] at b1; exfalso; omega
  · have e65 : M1 65 = M 65 := by subst hm; rfl
    have e68 : M1 68 = M 68 := by subst hm; rfl
    refine Ct.imp (R_site f w M1 (RI_eq e65 (Rl_RI h (by omega))) (by rw [e68]; exact Rl_sr h (by omega))) ?_
    rintro r2 M2 (⟨b1, hb1, hm2⟩ | ⟨b1, hb1, G, hm2⟩)
    · rw [e65] at b1; exfalso; omega
    · refine ⟨?_, Rl_q h (fun r hr => by rw [← hm2, sr_ne (by omega), ← hm, sr_ne (by omega)])⟩
      rw [ha, hb1]
      have z : siR M1 f = siC M f := by rw [e_si h a1.1]; unfold siR auR; rw [e65]
      rw [z]
      have am := am2_rng (f := siC M f) (fun m => by
        have := sS_rng (auC_rng M f ((m : Int) + 1)) (M 1 1).toNat
        unfold siC
        omega) 10
      have ad := dc_cases (am2 (siC M f) 10).2
      apply congrArg; apply congrArg
      by_cases q1 : w = 0
      · rw [if_pos q1, if_pos q1]
      · rw [if_neg q1, if_neg q1]; omega
theorem S_stuck (M : Mm) (n : Nat) (h : Rl M n) (hn : n < 512) : Same 73 187 [] M n := by
  obtain ⟨k0, k1, k2, k3, k4, k5, k6, k7, l0, l1, l2, l3, l4⟩ := Rl_c h
  refine Ct.imp (C_stuck M (Rl_HI h (by omega))) ?_
  rintro r1 M1 ⟨ha, F, hm⟩
  have e65 : M1 65 = M 65 := by subst hm; rfl
  refine Ct.imp (R_stuck M1 (RI_eq e65 (Rl_RI h (by omega)))) ?_
  rintro r2 M2 ⟨hb1, G, hm2⟩
  refine ⟨?_, Rl_q h (fun r hr => by rw [← hm2, sr_ne (by omega), ← hm, sr_ne (by omega)])⟩
  rw [ha, hb1, e65, ← k1]
  have z : stR M1 = stR M := by funext m; unfold stR; rw [e65]
  rw [z, bS_congr _ (fun m hm => e_st h m (by omega))]
theorem S_meets (i j : Int) (M : Mm) (n : Nat) (h : Rl M n) (hn : n < 512) : Same 77 191 [vi i, vi j] M n := by
  obtain ⟨k0, k1, k2, k3, k4, k5, k6, k7, l0, l1, l2, l3, l4⟩ := Rl_c h
  refine Ct.imp (C_meets i j M (Rl_HI h (by omega)) (Rl_st h (by omega))) ?_
  rintro r1 M1 (⟨a1, ha, hm⟩ | ⟨a1, ha, F, A, F', A', d, d', hm⟩)
  · have e65 : M1 65 = M 65 := by subst hm; rfl
    have e68 : M1 68 = M 68 := by subst hm; rfl
    refine Ct.imp (R_meets i j M1 (RI_eq e65 (Rl_RI h (by omega))) (by rw [e68]; exact Rl_sr h (by omega))) ?_
    rintro r2 M2 (⟨b1, hb1, hm2⟩ | ⟨b1, -, -⟩)
    · exact ⟨by rw [ha, hb1], Rl_ref h 0 (Or.inl rfl) (by rw [← hm2, ← hm]; rfl)⟩
    · rw [e65] at b1
      exfalso
      have gi := Rl_g h (i := i) (by omega) (by omega)
      have gj := Rl_g h (i := j) (by omega) (by omega)
      omega
  · have e65 : M1 65 = M 65 := by subst hm; rfl
    have e68 : M1 68 = M 68 := by subst hm; rfl
    have gi := Rl_g h a1.1.1 a1.1.2
    have gj := Rl_g h a1.2.1.1 a1.2.1.2
    have bi := e_bar h a1.1
    have bj := e_bar h a1.2.1
    refine Ct.imp (R_meets i j M1 (RI_eq e65 (Rl_RI h (by omega))) (by rw [e68]; exact Rl_sr h (by omega))) ?_
    rintro r2 M2 (⟨b1, hb1, hm2⟩ | ⟨b1, hb1, hm2⟩)
    · rw [e65] at b1
      exfalso
      omega
    · rw [e65, ← gi.1.1, ← gi.1.2.1, ← gi.1.2.2.2.1, ← gi.1.2.2.2.2, ← bi.1, ← bi.2, ← gj.1.1, ← gj.1.2.1, ← gj.1.2.2.2.1, ← gj.1.2.2.2.2, ← bj.1, ← bj.2, ← k3] at hb1
      rw [← a1.2.2.2] at hb1
      refine ⟨?_, Rl_q h (fun r hr => by rw [← hm2 r (by omega) (by omega) (by omega), ← hm, sr_ne (by omega), up_ne (by omega), sr_ne (by omega), sr_ne (by omega), up_ne (by omega), sr_ne (by omega)])⟩
      rcases ha with ⟨c1, c2⟩ | ⟨c1, c2, f, g, c3, c4, c5⟩
      · rcases hb1 with ⟨d1, d2⟩ | ⟨d1, d2, -⟩
        · rw [c2, d2]
        · exfalso; omega
      · rcases hb1 with ⟨d1, d2⟩ | ⟨d1, d2, A2, B2, d3, d4, d5⟩
        · exfalso; omega
        · rw [c5, d5]
          apply congrArg; apply congrArg
          exact mt_congr 12 0 (fun m h1 h2 => ⟨WP_one c3 d3 m (by omega), WP_one c4 d4 m (by omega)⟩)
