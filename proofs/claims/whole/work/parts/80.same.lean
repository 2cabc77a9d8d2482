/-! members side by side: what looks only (written by wip/whole/gen80.py) -/
theorem Rl_q {M M2 : Mm} {n : Nat} (h : Rl M n) (hf : ∀ r, (r < 53 ∨ r = 59 ∨ r = 60 ∨ (64 ≤ r ∧ r ≤ 68)) → M2 r = M r) : Rl M2 (n + 1) :=
  Rl_same h (fun r hr => hf r (by omega)) (LK_eq (hf 47 (by omega)) (hf 49 (by omega)) (hf 51 (by omega)) h.2.2.2.2.1.2.2) (by rw [hf 59 (by omega)]) (hf 60 (by omega)) (fun j _ => by rw [hf 64 (by omega)]) (fun j _ _ => by rw [hf 65 (by omega)]) (hf 66 (by omega)) (hf 67 (by omega)) (hf 68 (by omega))
theorem Rl_c {M : Mm} {n : Nat} (h : Rl M n) : M 1 0 = M 65 0 ∧ M 1 1 = M 65 1 ∧ M 1 2 = M 65 111 ∧ M 6 16 = M 65 2 ∧ M 6 15 = M 65 3 ∧ M 8 3 = M 65 40 ∧ M 10 3 = M 65 61 ∧ M 12 3 = M 65 80 ∧ (0 ≤ M 1 0 ∧ M 1 0 ≤ 3) ∧ (0 ≤ M 1 1 ∧ M 1 1 ≤ 6) ∧ (0 ≤ M 1 2 ∧ M 1 2 ≤ 8) ∧ (0 ≤ M 6 16 ∧ M 6 16 ≤ 9999) ∧ (0 ≤ M 6 15 ∧ M 6 15 ≤ 200 + (n : Int)) := by
  obtain ⟨⟨c0, c1, c2, c3, c4, f0, f1, f2, f3, f4⟩, -, -, qs, qn, qm, -⟩ := h.2.2.2.2.2
  exact ⟨f0, f1, f2, f3, f4, qs.2.1, qn.2.1, qm.2.1, c0, c1, c2, c3, c4⟩
theorem Rl_f {M : Mm} {n : Nat} (h : Rl M n) {f : Int} (h0 : 0 ≤ f) (h1 : f < M 1 0) : M 2 f = M 65 (4 + f) ∧ M 6 (12 + f) = M 65 (7 + f) ∧ (0 ≤ M 2 f ∧ M 2 f ≤ 5) ∧ (1 ≤ M 6 (12 + f) ∧ M 6 (12 + f) ≤ 10) := by
  have z := h.2.2.2.2.2.2.1 f h0 h1
  exact ⟨z.2.2.1, z.2.2.2, z.1, z.2.1⟩
theorem Rl_g {M : Mm} {n : Nat} (h : Rl M n) {i : Int} (h0 : 0 ≤ i) (h1 : i < M 1 1) : (M 3 i = M 65 (10 + i) ∧ M 4 i = M 65 (16 + i) ∧ M 5 i = M 65 (22 + i) ∧ M 6 i = M 65 (28 + i) ∧ M 6 (6 + i) = M 65 (34 + i)) ∧ (0 ≤ M 3 i ∧ M 3 i ≤ 5) ∧ (1 ≤ M 4 i ∧ M 4 i ≤ 4) ∧ (0 ≤ M 5 i ∧ M 5 i < M 1 0) ∧ (0 ≤ M 6 i ∧ M 6 i ≤ 11) ∧ (0 ≤ M 6 (6 + i) ∧ M 6 (6 + i) ≤ 9) := by
  have z := h.2.2.2.2.2.2.2.1 i h0 h1
  exact ⟨⟨z.2.1, z.2.2.1, z.2.2.2.1, z.2.2.2.2.1, z.2.2.2.2.2⟩, z.1.1, z.1.2.1, z.1.2.2.1, z.1.2.2.2.1, z.1.2.2.2.2⟩
theorem Rl_LS {M : Mm} {n : Nat} (h : Rl M n) : ∀ n : Int, 0 ≤ n → n < M 65 40 → (1 ≤ M 65 (41 + 4 * n + 1) ∧ M 65 (41 + 4 * n + 1) ≤ 10) ∧ (0 ≤ M 65 (41 + 4 * n + 2) ∧ M 65 (41 + 4 * n + 2) ≤ 23) := by
  intro k h0 h1
  obtain ⟨w, e, r, c⟩ := h.2.2.2.2.2.2.2.2.1
  have e' : M 8 3 = M 65 40 := e
  have w' : M 8 3 ≤ 5 := w.2.2.2
  have z := r k h0 (show k < M 8 3 by omega)
  have c1 := c (k * 4 + 1) (by omega) (show k * 4 + 1 < 4 * M 8 3 by omega)
  have c2 := c (k * 4 + 2) (by omega) (show k * 4 + 2 < 4 * M 8 3 by omega)
  rw [show 0 + 41 + (k * 4 + 1) = 41 + 4 * k + 1 by omega] at c1
  rw [show 0 + 41 + (k * 4 + 2) = 41 + 4 * k + 2 by omega] at c2
  rw [← c1, ← c2]
  exact ⟨z.2.1, z.2.2.1⟩
theorem Rl_LN {M : Mm} {n : Nat} (h : Rl M n) : ∀ n : Int, 0 ≤ n → n < M 65 61 → (0 ≤ M 65 (62 + 3 * n + 1) ∧ M 65 (62 + 3 * n + 1) ≤ 23) := by
  intro k h0 h1
  obtain ⟨w, e, r, c⟩ := h.2.2.2.2.2.2.2.2.2.1
  have e' : M 10 3 = M 65 61 := e
  have z := r k h0 (show k < M 10 3 by omega)
  have c1 := c (k * 3 + 1) (by omega) (show k * 3 + 1 < 3 * M 10 3 by omega)
  rw [show 0 + 62 + (k * 3 + 1) = 62 + 3 * k + 1 by omega] at c1
  rw [← c1]
  exact z.2.1
theorem Rl_LM {M : Mm} {n : Nat} (h : Rl M n) : ∀ n : Int, 0 ≤ n → n < M 65 80 → (1 ≤ M 65 (81 + 5 * n + 1) ∧ M 65 (81 + 5 * n + 1) ≤ 4) ∧ (0 ≤ M 65 (81 + 5 * n + 2) ∧ M 65 (81 + 5 * n + 2) ≤ 9) ∧ (0 ≤ M 65 (81 + 5 * n + 3) ∧ M 65 (81 + 5 * n + 3) ≤ 23) := by
  intro k h0 h1
  obtain ⟨w, e, r, c⟩ := h.2.2.2.2.2.2.2.2.2.2.1
  have e' : M 12 3 = M 65 80 := e
  have z := r k h0 (show k < M 12 3 by omega)
  have c1 := c (k * 5 + 1) (by omega) (show k * 5 + 1 < 5 * M 12 3 by omega)
  have c2 := c (k * 5 + 2) (by omega) (show k * 5 + 2 < 5 * M 12 3 by omega)
  have c3 := c (k * 5 + 3) (by omega) (show k * 5 + 3 < 5 * M 12 3 by omega)
  rw [show 0 + 81 + (k * 5 + 1) = 81 + 5 * k + 1 by omega] at c1
  rw [show 0 + 81 + (k * 5 + 2) = 81 + 5 * k + 2 by omega] at c2
  rw [show 0 + 81 + (k * 5 + 3) = 81 + 5 * k + 3 by omega] at c3
  rw [← c1, ← c2, ← c3]
  exact ⟨z.2.1, z.2.2.1, z.2.2.2.1⟩
theorem Rl_qs {M : Mm} {n : Nat} (h : Rl M n) : ∀ m : Nat, m < (M 8 3).toNat → ∀ c : Int, 0 ≤ c → c < 4 → qC M m c = qR M m c := by
  intro m hm c h0 h1
  obtain ⟨w, e, r, k⟩ := h.2.2.2.2.2.2.2.2.1
  have z := k ((m : Int) * 4 + c) (by omega) (show (m : Int) * 4 + c < 4 * M 8 3 by omega)
  rw [show 0 + 41 + ((m : Int) * 4 + c) = 41 + 4 * (m : Int) + c by omega] at z
  exact z
theorem Rl_qn {M : Mm} {n : Nat} (h : Rl M n) : ∀ m : Nat, m < (M 10 3).toNat → ∀ c : Int, 0 ≤ c → c < 3 → qN M m c = rN M m c := by
  intro m hm c h0 h1
  obtain ⟨w, e, r, k⟩ := h.2.2.2.2.2.2.2.2.2.1
  have z := k ((m : Int) * 3 + c) (by omega) (show (m : Int) * 3 + c < 3 * M 10 3 by omega)
  rw [show 0 + 62 + ((m : Int) * 3 + c) = 62 + 3 * (m : Int) + c by omega] at z
  exact z
theorem Rl_qm {M : Mm} {n : Nat} (h : Rl M n) : ∀ m : Nat, m < (M 12 3).toNat → ∀ c : Int, 0 ≤ c → c < 5 → qM M m c = rM M m c := by
  intro m hm c h0 h1
  obtain ⟨w, e, r, k⟩ := h.2.2.2.2.2.2.2.2.2.2.1
  have z := k ((m : Int) * 5 + c) (by omega) (show (m : Int) * 5 + c < 5 * M 12 3 by omega)
  rw [show 0 + 81 + ((m : Int) * 5 + c) = 81 + 5 * (m : Int) + c by omega] at z
  exact z
theorem e_gR {M : Mm} {n : Nat} (h : Rl M n) {f : Int} (hf : 0 ≤ f ∧ f < M 1 0) : gC M f = gR M f := by
  funext p
  unfold gC gR
  rw [← (Rl_f h hf.1 hf.2).1, ← (Rl_c h).2.2.2.2.2.1, cbB_congr (q' := qR M) _ (Rl_qs h)]
theorem e_hO {M : Mm} {n : Nat} (h : Rl M n) (f : Int) : gO M f = hO M f := by
  funext k
  unfold gO hO
  rw [← (Rl_c h).2.2.2.2.2.2.1]
  refine alB_congr _ (fun m hm => ?_)
  unfold cO
  rw [Rl_qn h m hm 0 (by decide) (by decide), Rl_qn h m hm 1 (by decide) (by decide), Rl_qn h m hm 2 (by decide) (by decide)]
theorem e_hG {M : Mm} {n : Nat} (h : Rl M n) (f : Int) : gG M f = hG M f := by
  funext k
  unfold gG hG
  rw [← (Rl_c h).2.2.2.2.2.2.2.1]
  refine alB_congr _ (fun m hm => ?_)
  unfold cG
  rw [Rl_qm h m hm 0 (by decide) (by decide), Rl_qm h m hm 1 (by decide) (by decide), Rl_qm h m hm 2 (by decide) (by decide), Rl_qm h m hm 3 (by decide) (by decide), Rl_qm h m hm 4 (by decide) (by decide)]
theorem S_whose (f : Int) (M : Mm) (n : Nat) (h : Rl M n) (hn : n < 512) : Same 79 195 [vi f] M n := by
  obtain ⟨k0, k1, k2, k3, k4, k5, k6, k7, l0, l1, l2, l3, l4⟩ := Rl_c h
  refine Ct.imp (C_whose f M (Rl_HI h (by omega)) (Rl_st h (by omega))) ?_
  rintro r1 M1 (⟨a1, ha, hm⟩ | ⟨a1, ha, hm⟩)
  · have e65 : M1 65 = M 65 := by subst hm; rfl
    have e68 : M1 68 = M 68 := by subst hm; rfl
    refine Ct.imp (R_whose f M1 (RI_eq e65 (Rl_RI h (by omega))) (by rw [e68]; exact Rl_sr h (by omega)) (by rw [e65]; exact Rl_LS h)) ?_
    rintro r2 M2 (⟨b1, hb1, hm2⟩ | ⟨b1, hb1, hm2⟩)
    · exact ⟨by rw [ha, hb1], Rl_ref h 0 (Or.inl rfl) (by rw [← hm2, ← hm]; rfl)⟩
    · rw [e65] at b1; exfalso; omega
  · have e65 : M1 65 = M 65 := by subst hm; rfl
    have e68 : M1 68 = M 68 := by subst hm; rfl
    refine Ct.imp (R_whose f M1 (RI_eq e65 (Rl_RI h (by omega))) (by rw [e68]; exact Rl_sr h (by omega)) (by rw [e65]; exact Rl_LS h)) ?_
    rintro r2 M2 (⟨b1, hb1, hm2⟩ | ⟨b1, hb1, hm2⟩)
    · rw [e65] at b1; exfalso; omega
    · refine ⟨?_, Rl_q h (fun r hr => by rw [← hm2, ← hm])⟩
      rw [ha, hb1]
      rw [whs_gC, ← whs_gR, e_gR h a1]
      have z : gR M1 f = gR M f := by unfold gR qR; rw [e65]
      rw [z]
theorem S_tell (f : Int) (M : Mm) (n : Nat) (h : Rl M n) (hn : n < 512) : Same 80 196 [vi f] M n := by
  obtain ⟨k0, k1, k2, k3, k4, k5, k6, k7, l0, l1, l2, l3, l4⟩ := Rl_c h
  refine Ct.imp (C_tell f M (Rl_HI h (by omega)) (Rl_st h (by omega))) ?_
  rintro r1 M1 (⟨a1, ha, hm⟩ | ⟨a1, ha, hm⟩)
  · have e65 : M1 65 = M 65 := by subst hm; rfl
    have e68 : M1 68 = M 68 := by subst hm; rfl
    refine Ct.imp (R_tell f M1 (RI_eq e65 (Rl_RI h (by omega))) (by rw [e68]; exact Rl_sr h (by omega)) (by rw [e65]; exact Rl_LS h)) ?_
    rintro r2 M2 (⟨b1, hb1, hm2⟩ | ⟨b1, hb1, hm2⟩)
    · exact ⟨by rw [ha, hb1], Rl_ref h 0 (Or.inl rfl) (by rw [← hm2, ← hm]; rfl)⟩
    · rw [e65] at b1; exfalso; omega
  · have e65 : M1 65 = M 65 := by subst hm; rfl
    have e68 : M1 68 = M 68 := by subst hm; rfl
    refine Ct.imp (R_tell f M1 (RI_eq e65 (Rl_RI h (by omega))) (by rw [e68]; exact Rl_sr h (by omega)) (by rw [e65]; exact Rl_LS h)) ?_
    rintro r2 M2 (⟨b1, hb1, hm2⟩ | ⟨b1, hb1, hm2⟩)
    · rw [e65] at b1; exfalso; omega
    · refine ⟨?_, Rl_q h (fun r hr => by rw [← hm2, ← hm])⟩
      rw [ha, hb1]
      have z : gR M1 f = gR M f := by unfold gR qR; rw [e65]
      rw [z, e65, e_gR h a1, (Rl_f h a1.1 a1.2).1]
theorem S_is (f : Int) (M : Mm) (n : Nat) (h : Rl M n) (hn : n < 512) : Same 85 202 [vi f] M n := by
  obtain ⟨k0, k1, k2, k3, k4, k5, k6, k7, l0, l1, l2, l3, l4⟩ := Rl_c h
  refine Ct.imp (C_is f M (Rl_HI h (by omega)) (Rl_st h (by omega))) ?_
  rintro r1 M1 (⟨a1, ha, hm⟩ | ⟨a1, ha, hm⟩)
  · have e65 : M1 65 = M 65 := by subst hm; rfl
    have e68 : M1 68 = M 68 := by subst hm; rfl
    refine Ct.imp (R_is f M1 (RI_eq e65 (Rl_RI h (by omega))) (by rw [e68]; exact Rl_sr h (by omega)) (by rw [e65]; exact Rl_LN h)) ?_
    rintro r2 M2 (⟨b1, hb1, hm2⟩ | ⟨b1, hb1, hm2⟩)
    · exact ⟨by rw [ha, hb1], Rl_ref h 0 (Or.inl rfl) (by rw [← hm2, ← hm]; rfl)⟩
    · rw [e65] at b1; exfalso; omega
  · have e65 : M1 65 = M 65 := by subst hm; rfl
    have e68 : M1 68 = M 68 := by subst hm; rfl
    refine Ct.imp (R_is f M1 (RI_eq e65 (Rl_RI h (by omega))) (by rw [e68]; exact Rl_sr h (by omega)) (by rw [e65]; exact Rl_LN h)) ?_
    rintro r2 M2 (⟨b1, hb1, hm2⟩ | ⟨b1, hb1, hm2⟩)
    · rw [e65] at b1; exfalso; omega
    · refine ⟨?_, Rl_q h (fun r hr => by rw [← hm2, ← hm])⟩
      rw [ha, hb1]
      have z : hO M1 f = hO M f := by unfold hO rN; rw [e65]
      rw [z, e_hO h f]
theorem S_kinds (f : Int) (M : Mm) (n : Nat) (h : Rl M n) (hn : n < 512) : Same 91 206 [vi f] M n := by
  obtain ⟨k0, k1, k2, k3, k4, k5, k6, k7, l0, l1, l2, l3, l4⟩ := Rl_c h
  refine Ct.imp (C_kinds f M (Rl_HI h (by omega)) (Rl_st h (by omega))) ?_
  rintro r1 M1 (⟨a1, ha, hm⟩ | ⟨a1, ha, hm⟩)
  · have e65 : M1 65 = M 65 := by subst hm; rfl
    have e68 : M1 68 = M 68 := by subst hm; rfl
    refine Ct.imp (R_kinds f M1 (RI_eq e65 (Rl_RI h (by omega))) (by rw [e68]; exact Rl_sr h (by omega)) (by rw [e65]; exact Rl_LM h)) ?_
    rintro r2 M2 (⟨b1, hb1, hm2⟩ | ⟨b1, hb1, hm2⟩)
    · exact ⟨by rw [ha, hb1], Rl_ref h 0 (Or.inl rfl) (by rw [← hm2, ← hm]; rfl)⟩
    · rw [e65] at b1; exfalso; omega
  · have e65 : M1 65 = M 65 := by subst hm; rfl
    have e68 : M1 68 = M 68 := by subst hm; rfl
    refine Ct.imp (R_kinds f M1 (RI_eq e65 (Rl_RI h (by omega))) (by rw [e68]; exact Rl_sr h (by omega)) (by rw [e65]; exact Rl_LM h)) ?_
    rintro r2 M2 (⟨b1, hb1, hm2⟩ | ⟨b1, hb1, hm2⟩)
    · rw [e65] at b1; exfalso; omega
    · refine ⟨?_, Rl_q h (fun r hr => by rw [← hm2, ← hm])⟩
      rw [ha, hb1]
      have z : hG M1 f = hG M f := by unfold hG rM; rw [e65]
      rw [z, e_hG h f]
theorem S_look (f : Int) (M : Mm) (n : Nat) (h : Rl M n) (hn : n < 512) : Same 86 203 [vi f] M n := by
  obtain ⟨k0, k1, k2, k3, k4, k5, k6, k7, l0, l1, l2, l3, l4⟩ := Rl_c h
  refine Ct.imp (C_look f M (Rl_HI h (by omega)) (Rl_st h (by omega))) ?_
  rintro r1 M1 (⟨a1, ha, hm⟩ | ⟨a1, ha, F, hm⟩)
  · have e65 : M1 65 = M 65 := by subst hm; rfl
    have e68 : M1 68 = M 68 := by subst hm; rfl
    refine Ct.imp (R_look f M1 (RI_eq e65 (Rl_RI h (by omega))) (by rw [e68]; exact Rl_sr h (by omega)) (by rw [e65]; exact Rl_LN h)) ?_
    rintro r2 M2 (⟨b1, hb1, hm2⟩ | ⟨b1, hb1, hm2⟩)
    · exact ⟨by rw [ha, hb1], Rl_ref h 0 (Or.inl rfl) (by rw [← hm2, ← hm]; rfl)⟩
    · rw [e65] at b1; exfalso; omega
  · have e65 : M1 65 = M 65 := by subst hm; rfl
    have e68 : M1 68 = M 68 := by subst hm; rfl
    refine Ct.imp (R_look f M1 (RI_eq e65 (Rl_RI h (by omega))) (by rw [e68]; exact Rl_sr h (by omega)) (by rw [e65]; exact Rl_LN h)) ?_
    rintro r2 M2 (⟨b1, hb1, hm2⟩ | ⟨b1, hb1, hm2⟩)
    · rw [e65] at b1; exfalso; omega
    · refine ⟨?_, Rl_q h (fun r hr => by rw [← hm2, ← hm, sr_ne (by omega)])⟩
      rw [ha, hb1]
      have z : hO M1 f = hO M f := by unfold hO rN; rw [e65]
      rw [z, e_hO h f]
theorem S_ask (f : Int) (M : Mm) (n : Nat) (h : Rl M n) (hn : n < 512) : Same 92 207 [vi f] M n := by
  obtain ⟨k0, k1, k2, k3, k4, k5, k6, k7, l0, l1, l2, l3, l4⟩ := Rl_c h
  refine Ct.imp (C_ask f M (Rl_HI h (by omega)) (Rl_st h (by omega))) ?_
  rintro r1 M1 (⟨a1, ha, hm⟩ | ⟨a1, ha, F, hm⟩)
  · have e65 : M1 65 = M 65 := by subst hm; rfl
    have e68 : M1 68 = M 68 := by subst hm; rfl
    refine Ct.imp (R_ask f M1 (RI_eq e65 (Rl_RI h (by omega))) (by rw [e68]; exact Rl_sr h (by omega)) (by rw [e65]; exact Rl_LM h)) ?_
    rintro r2 M2 (⟨b1, hb1, hm2⟩ | ⟨b1, hb1, hm2⟩)
    · exact ⟨by rw [ha, hb1], Rl_ref h 0 (Or.inl rfl) (by rw [← hm2, ← hm]; rfl)⟩
    · rw [e65] at b1; exfalso; omega
  · have e65 : M1 65 = M 65 := by subst hm; rfl
    have e68 : M1 68 = M 68 := by subst hm; rfl
    refine Ct.imp (R_ask f M1 (RI_eq e65 (Rl_RI h (by omega))) (by rw [e68]; exact Rl_sr h (by omega)) (by rw [e65]; exact Rl_LM h)) ?_
    rintro r2 M2 (⟨b1, hb1, hm2⟩ | ⟨b1, hb1, hm2⟩)
    · rw [e65] at b1; exfalso; omega
    · refine ⟨?_, Rl_q h (fun r hr => by rw [← hm2, ← hm, sr_ne (by omega)])⟩
      rw [ha, hb1]
      have z : hG M1 f = hG M f := by unfold hG rM; rw [e65]
      rw [z, e65, e_hG h f, (Rl_g h a1.1 a1.2).1.2.1]
