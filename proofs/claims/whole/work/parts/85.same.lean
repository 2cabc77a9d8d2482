/-! members side by side: tenement, forget, text, images (written by wip/whole/gen85.py) -/
theorem tk_ne {M : Mm} {a b r : Nat} (h : r < a ∨ a + 12 < r) : tkM M a b r = M r := by
  unfold tkM tkL
  rw [cp_ne (by omega), up_ne (by omega), cp_ne (by omega), up_ne (by omega), cp_ne (by omega), up_ne (by omega), cp_ne (by omega), cp_ne (by omega), cp_ne (by omega), cp_ne (by omega), cp_ne (by omega), cp_ne (by omega), up_ne (by omega), up_ne (by omega), up_ne (by omega)]
theorem cpW_ne {M : Mm} {f t n : Int} {r : Nat} (h : r ≠ 65) : cpW M f t n r = M r := cp_ne h
theorem cpW_in {M : Mm} {f t n x : Int} (h : t ≤ x ∧ x < t + n) : cpW M f t n 65 x = M 65 (f + (x - t)) := if_pos ⟨rfl, h⟩
theorem cpW_out {M : Mm} {f t n x : Int} (h : ¬ (t ≤ x ∧ x < t + n)) : cpW M f t n 65 x = M 65 x := if_neg (fun z => h z.2)
theorem em_ne {M : Mm} {h r : Nat} (z : r < h ∨ h + 12 < r) : emM M h r = M r := by
  unfold emM
  rw [up_ne (by omega), up_ne (by omega), up_ne (by omega), fl_ne (by omega), up_ne (by omega), up_ne (by omega), up_ne (by omega)]
theorem Rl_text {M M2 : Mm} {n : Nat} (h : Rl M n) (hf : ∀ r, (r < 53 ∨ r = 65 ∨ r = 66 ∨ r = 68) → M2 r = M r) (r64 : ∀ j, j = 4 ∨ j = 5 → M2 64 j = M 64 j) (ht : Txt M2) : Rl M2 (n + 1) := by
  obtain ⟨hS, hF, hI, hT, hL, hH⟩ := h
  refine ⟨Sta_keep hS (fun j hj => by rw [hf 0 (by omega)]) (hf 68 (by omega)), ?_, ?_, ht, ?_, ?_⟩
  · unfold Fra
    rw [hf 0 (by omega), r64 4 (by omega), r64 5 (by omega)]
    exact hF
  · unfold Img
    rw [hf 0 (by omega), hf 66 (by omega), hf 65 (by omega)]
    exact ⟨hI.1, hI.2.1, fun q => HS_eq (fun j hj => hf _ (by omega)) (fun _ _ _ => rfl) (by omega) (hI.2.2.1 q), fun q => HS_eq (fun j hj => hf _ (by omega)) (fun _ _ _ => rfl) (by omega) (hI.2.2.2 q)⟩
  · exact ⟨LK_eq (hf _ (by omega)) (hf _ (by omega)) (hf _ (by omega)) hL.1, LK_eq (hf _ (by omega)) (hf _ (by omega)) (hf _ (by omega)) hL.2.1, LK_eq (hf _ (by omega)) (hf _ (by omega)) (hf _ (by omega)) hL.2.2⟩
  · rw [hf 65 (by omega)]
    exact HS_eq (fun j hj => hf _ (by omega)) (fun _ _ _ => rfl) (by omega) hH
theorem Rl_img {M M2 : Mm} {n : Nat} (h : Rl M n) (c0 : ∀ j, j ≠ 3 → j ≠ 4 → M2 0 j = M 0 j) (c1 : ∀ r, (1 ≤ r ∧ r < 14) ∨ (40 ≤ r ∧ r < 53) ∨ r = 59 ∨ r = 60 ∨ r = 64 ∨ r = 67 ∨ r = 68 → M2 r = M r) (r65 : ∀ j, 0 ≤ j → j < 248 → M2 65 j = M 65 j) (hI : Img M2 (n + 1)) (hL : LK M2 14 ∧ LK M2 27) : Rl M2 (n + 1) := by
  obtain ⟨hS, hF, -, hT, hL0, hH⟩ := h
  refine ⟨Sta_keep hS (fun j hj => c0 j (by omega) (by omega)) (c1 68 (by omega)), ?_, hI, ?_, ⟨hL.1, hL.2, LK_eq (c1 _ (by omega)) (c1 _ (by omega)) (c1 _ (by omega)) hL0.2.2⟩, HS_eq (fun j hj => c1 _ (by omega)) (fun j a1 a2 => r65 j a1 (by omega)) (by omega) hH⟩
  · unfold Fra
    rw [c0 12 (by decide) (by decide), c0 13 (by decide) (by decide), c1 64 (by omega)]
    exact hF
  · unfold Txt
    rw [c1 59 (by omega), c1 60 (by omega), c1 64 (by omega), c1 67 (by omega)]
    exact hT
theorem S_tenement (M : Mm) (n : Nat) (h : Rl M n) (hn : n < 512) : Same 58 148 [] M n := by
  obtain ⟨k0, k1, k2, k3, k4, k5, k6, k7, l0, l1, l2, l3, l4⟩ := Rl_c h
  refine Ct.imp (C_tenement M (Rl_HI h (by omega)) (Rl_st h (by omega))) ?_
  rintro r1 M1 ⟨ha, hm⟩
  have e65 : M1 65 = M 65 := by subst hm; rfl
  have e68 : M1 68 = M 68 := by subst hm; rfl
  refine Ct.imp (R_tenement M1 (RI_eq e65 (Rl_RI h (by omega))) (by rw [e68]; exact Rl_sr h (by omega))) ?_
  rintro r2 M2 ⟨hb1, hm2⟩
  have hz : ∀ r, (r < 1 ∨ 13 < r) → r ≠ 65 → M2 r = M r := fun r z1 z2 => by rw [← hm2, fl_ne z2, ← hm, em_ne (by omega)]
  obtain ⟨-, -, -, qs, qn, qm, -⟩ := h.2.2.2.2.2
  refine ⟨by rw [ha, hb1, e65, k1], Rl_house h (hz 0 (by omega) (by decide)) (fun r z1 z2 => hz r (by omega) (by omega)) (LK_eq (hz _ (by omega) (by decide)) (hz _ (by omega) (by decide)) (hz _ (by omega) (by decide)) h.2.2.2.2.1.2.2) (by rw [hz 59 (by omega) (by decide)]) (hz _ (by omega) (by decide)) (fun j hj => by rw [hz 64 (by omega) (by decide)]) (fun j z1 z2 => by rw [← hm2, fl_out (by omega), e65]) (hz _ (by omega) (by decide)) (hz _ (by omega) (by decide)) (hz _ (by omega) (by decide)) ?_⟩
  refine HS_none (by omega) ?_ ?_ ?_ ?_ ?_ ?_ ?_ ?_ (fun x z1 z2 => ?_)
  · rw [← hm2, ← hm]; rfl
  · rw [← hm2, ← hm]; rfl
  · rw [← hm2, ← hm]; rfl
  · rw [← hm2, ← hm]; rfl
  · rw [← hm2, ← hm]; rfl
  · rw [← hm2, ← hm]; exact ⟨qs.1.1, qs.1.2.1, rfl⟩
  · rw [← hm2, ← hm]; exact ⟨qn.1.1, qn.1.2.1, rfl⟩
  · rw [← hm2, ← hm]; exact ⟨qm.1.1, qm.1.2.1, rfl⟩
  · rw [← hm2, fl_in (by omega)]
theorem S_forget (w : Int) (M : Mm) (n : Nat) (h : Rl M n) (hn : n < 512) : Same 84 199 [vi w] M n := by
  obtain ⟨k0, k1, k2, k3, k4, k5, k6, k7, l0, l1, l2, l3, l4⟩ := Rl_c h
  refine Ct.imp (C_forget w M (Rl_HI h (by omega)) (Rl_st h (by omega))) ?_
  rintro r1 M1 (⟨a0, ha, hm⟩ | ⟨a0, ha, hm⟩ | ⟨a0, ha, hm⟩ | ⟨a0, ha, hm⟩)
  · skip
    have e64 : M1 64 = M 64 := by subst hm; rfl
    have e65 : M1 65 = M 65 := by subst hm; rfl
    have e66 : M1 66 = M 66 := by subst hm; rfl
    have e67 : M1 67 = M 67 := by subst hm; rfl
    have e68 : M1 68 = M 68 := by subst hm; rfl
    refine Ct.imp (R_forget w M1 (RI_eq e65 (Rl_RI h (by omega))) (by rw [e68]; exact Rl_sr h (by omega))) ?_
    rintro r2 M2 (⟨b0, b1, hb1, hm2⟩ | ⟨b0, b1, b2, hb1, hm2⟩ | ⟨b0, b1, b2, hb1, hm2⟩ | ⟨b0, hb1, hm2⟩)
    · skip
      try rw [e65] at b0
      try rw [e65] at b1
      first
      | (exfalso; omega)
      | (have hz : ∀ r, r ≠ 8 → r ≠ 65 → M2 r = M r := fun r z1 z2 => by rw [← hm2, up_ne z2, ← hm, up_ne z1]
         have hS : M2 8 = st1 (M 8) 3 0 := by rw [← hm2, ← hm]; funext x; simp [up, st1]
         have hW : M2 65 = st1 (M 65) 40 0 := by rw [← hm2, ← hm]; funext x; simp [up, st1]
         have lw := h.2.2.2.2.2.2.2.2.1.1
         refine ⟨by rw [ha, hb1, e65]; exact some_vi (by omega), Rl_house h (hz 0 (by decide) (by decide)) (fun r z1 z2 => hz r (by omega) (by omega)) (LK_eq (hz _ (by decide) (by decide)) (hz _ (by decide) (by decide)) (hz _ (by decide) (by decide)) h.2.2.2.2.1.2.2) (by rw [hz 59 (by decide) (by decide)]) (hz _ (by decide) (by decide)) (fun j hj => by rw [hz 64 (by decide) (by decide)]) (fun j z1 z2 => by rw [hW, st1_ne (by omega)]) (hz _ (by decide) (by decide)) (hz _ (by decide) (by decide)) (hz _ (by decide) (by decide)) (HS_eq (fun _ _ => rfl) (fun _ _ _ => rfl) (by omega) (HS_sEmp (M := M) (M' := M2) (h := 1) (W := M 65) (W' := M2 65) (o := 0) (b := 200 + n) h.2.2.2.2.2 (hz 1 (by decide) (by decide)) (fun j hj => hz _ (by omega) (by omega)) ⟨by show M2 8 0 = _; rw [hS, st1_ne (by decide)]; exact lw.1, by show M2 8 1 = _; rw [hS, st1_ne (by decide)]; exact lw.2.1⟩ (by show M2 8 3 = 0; rw [hS, st1_at]) (by rw [hW, st1_eq (by omega)]) (fun x z1 z2 z3 z4 => by rw [hW, st1_ne (by omega)])))⟩)
    · skip
      try rw [e65] at b0
      try rw [e65] at b1
      try rw [e65] at b2
      exfalso; omega
    · skip
      try rw [e65] at b0
      try rw [e65] at b1
      try rw [e65] at b2
      exfalso; omega
    · skip
      try rw [e65] at b0
      exfalso; omega
  · skip
    have e64 : M1 64 = M 64 := by subst hm; rfl
    have e65 : M1 65 = M 65 := by subst hm; rfl
    have e66 : M1 66 = M 66 := by subst hm; rfl
    have e67 : M1 67 = M 67 := by subst hm; rfl
    have e68 : M1 68 = M 68 := by subst hm; rfl
    refine Ct.imp (R_forget w M1 (RI_eq e65 (Rl_RI h (by omega))) (by rw [e68]; exact Rl_sr h (by omega))) ?_
    rintro r2 M2 (⟨b0, b1, hb1, hm2⟩ | ⟨b0, b1, b2, hb1, hm2⟩ | ⟨b0, b1, b2, hb1, hm2⟩ | ⟨b0, hb1, hm2⟩)
    · skip
      try rw [e65] at b0
      try rw [e65] at b1
      exfalso; omega
    · skip
      try rw [e65] at b0
      try rw [e65] at b1
      try rw [e65] at b2
      first
      | (exfalso; omega)
      | (have hz : ∀ r, r ≠ 10 → r ≠ 65 → M2 r = M r := fun r z1 z2 => by rw [← hm2, up_ne z2, ← hm, up_ne z1]
         have hS : M2 10 = st1 (M 10) 3 0 := by rw [← hm2, ← hm]; funext x; simp [up, st1]
         have hW : M2 65 = st1 (M 65) 61 0 := by rw [← hm2, ← hm]; funext x; simp [up, st1]
         have lw := h.2.2.2.2.2.2.2.2.2.1.1
         refine ⟨by rw [ha, hb1, e65]; exact some_vi (by omega), Rl_house h (hz 0 (by decide) (by decide)) (fun r z1 z2 => hz r (by omega) (by omega)) (LK_eq (hz _ (by decide) (by decide)) (hz _ (by decide) (by decide)) (hz _ (by decide) (by decide)) h.2.2.2.2.1.2.2) (by rw [hz 59 (by decide) (by decide)]) (hz _ (by decide) (by decide)) (fun j hj => by rw [hz 64 (by decide) (by decide)]) (fun j z1 z2 => by rw [hW, st1_ne (by omega)]) (hz _ (by decide) (by decide)) (hz _ (by decide) (by decide)) (hz _ (by decide) (by decide)) (HS_eq (fun _ _ => rfl) (fun _ _ _ => rfl) (by omega) (HS_nEmp (M := M) (M' := M2) (h := 1) (W := M 65) (W' := M2 65) (o := 0) (b := 200 + n) h.2.2.2.2.2 (hz 1 (by decide) (by decide)) (fun j hj => hz _ (by omega) (by omega)) ⟨by show M2 10 0 = _; rw [hS, st1_ne (by decide)]; exact lw.1, by show M2 10 1 = _; rw [hS, st1_ne (by decide)]; exact lw.2.1⟩ (by show M2 10 3 = 0; rw [hS, st1_at]) (by rw [hW, st1_eq (by omega)]) (fun x z1 z2 z3 z4 => by rw [hW, st1_ne (by omega)])))⟩)
    · skip
      try rw [e65] at b0
      try rw [e65] at b1
      try rw [e65] at b2
      exfalso; omega
    · skip
      try rw [e65] at b0
      exfalso; omega
  · skip
    have e64 : M1 64 = M 64 := by subst hm; rfl
    have e65 : M1 65 = M 65 := by subst hm; rfl
    have e66 : M1 66 = M 66 := by subst hm; rfl
    have e67 : M1 67 = M 67 := by subst hm; rfl
    have e68 : M1 68 = M 68 := by subst hm; rfl
    refine Ct.imp (R_forget w M1 (RI_eq e65 (Rl_RI h (by omega))) (by rw [e68]; exact Rl_sr h (by omega))) ?_
    rintro r2 M2 (⟨b0, b1, hb1, hm2⟩ | ⟨b0, b1, b2, hb1, hm2⟩ | ⟨b0, b1, b2, hb1, hm2⟩ | ⟨b0, hb1, hm2⟩)
    · skip
      try rw [e65] at b0
      try rw [e65] at b1
      exfalso; omega
    · skip
      try rw [e65] at b0
      try rw [e65] at b1
      try rw [e65] at b2
      exfalso; omega
    · skip
      try rw [e65] at b0
      try rw [e65] at b1
      try rw [e65] at b2
      first
      | (exfalso; omega)
      | (have hz : ∀ r, r ≠ 12 → r ≠ 65 → M2 r = M r := fun r z1 z2 => by rw [← hm2, up_ne z2, ← hm, up_ne z1]
         have hS : M2 12 = st1 (M 12) 3 0 := by rw [← hm2, ← hm]; funext x; simp [up, st1]
         have hW : M2 65 = st1 (M 65) 80 0 := by rw [← hm2, ← hm]; funext x; simp [up, st1]
         have lw := h.2.2.2.2.2.2.2.2.2.2.1.1
         refine ⟨by rw [ha, hb1, e65]; exact some_vi (by omega), Rl_house h (hz 0 (by decide) (by decide)) (fun r z1 z2 => hz r (by omega) (by omega)) (LK_eq (hz _ (by decide) (by decide)) (hz _ (by decide) (by decide)) (hz _ (by decide) (by decide)) h.2.2.2.2.1.2.2) (by rw [hz 59 (by decide) (by decide)]) (hz _ (by decide) (by decide)) (fun j hj => by rw [hz 64 (by decide) (by decide)]) (fun j z1 z2 => by rw [hW, st1_ne (by omega)]) (hz _ (by decide) (by decide)) (hz _ (by decide) (by decide)) (hz _ (by decide) (by decide)) (HS_eq (fun _ _ => rfl) (fun _ _ _ => rfl) (by omega) (HS_mEmp (M := M) (M' := M2) (h := 1) (W := M 65) (W' := M2 65) (o := 0) (b := 200 + n) h.2.2.2.2.2 (hz 1 (by decide) (by decide)) (fun j hj => hz _ (by omega) (by omega)) ⟨by show M2 12 0 = _; rw [hS, st1_ne (by decide)]; exact lw.1, by show M2 12 1 = _; rw [hS, st1_ne (by decide)]; exact lw.2.1⟩ (by show M2 12 3 = 0; rw [hS, st1_at]) (by rw [hW, st1_eq (by omega)]) (fun x z1 z2 z3 z4 => by rw [hW, st1_ne (by omega)])))⟩)
    · skip
      try rw [e65] at b0
      exfalso; omega
  · skip
    have e64 : M1 64 = M 64 := by subst hm; rfl
    have e65 : M1 65 = M 65 := by subst hm; rfl
    have e66 : M1 66 = M 66 := by subst hm; rfl
    have e67 : M1 67 = M 67 := by subst hm; rfl
    have e68 : M1 68 = M 68 := by subst hm; rfl
    refine Ct.imp (R_forget w M1 (RI_eq e65 (Rl_RI h (by omega))) (by rw [e68]; exact Rl_sr h (by omega))) ?_
    rintro r2 M2 (⟨b0, b1, hb1, hm2⟩ | ⟨b0, b1, b2, hb1, hm2⟩ | ⟨b0, b1, b2, hb1, hm2⟩ | ⟨b0, hb1, hm2⟩)
    · skip
      try rw [e65] at b0
      try rw [e65] at b1
      exfalso; omega
    · skip
      try rw [e65] at b0
      try rw [e65] at b1
      try rw [e65] at b2
      exfalso; omega
    · skip
      try rw [e65] at b0
      try rw [e65] at b1
      try rw [e65] at b2
      exfalso; omega
    · skip
      try rw [e65] at b0
      first
      | (exfalso; omega)
      | exact ⟨by rw [ha, hb1], Rl_ref h 0 (by omega) (by rw [← hm2, ← hm]; rfl)⟩
theorem S_type (c : Int) (M : Mm) (n : Nat) (h : Rl M n) (hn : n < 512) : Same 61 153 [vi c] M n := by
  obtain ⟨k0, k1, k2, k3, k4, k5, k6, k7, l0, l1, l2, l3, l4⟩ := Rl_c h
  refine Ct.imp (C_type c M (Rl_HI h (by omega)) (Rl_st h (by omega)) h.2.2.2.1.1) ?_
  rintro r1 M1 (⟨a0, ha, hm⟩ | ⟨a0, a1, ha, hm⟩ | ⟨a0, a1, a2, ha, hm⟩ | ⟨a0, a1, a2, ha, hm⟩)
  · skip
    have e64 : M1 64 = M 64 := by subst hm; rfl
    have e65 : M1 65 = M 65 := by subst hm; rfl
    have e66 : M1 66 = M 66 := by subst hm; rfl
    have e67 : M1 67 = M 67 := by subst hm; rfl
    have e68 : M1 68 = M 68 := by subst hm; rfl
    first | (have y1 := h.2.2.2.1.1) | skip
    first | (have x2 := h.2.2.2.1.2.1) | skip
    first | (rw [← e64] at x2) | skip
    refine Ct.imp (R_type c M1 (RI_eq e65 (Rl_RI h (by omega))) (by rw [e68]; exact Rl_sr h (by omega)) (by rw [e64, ← h.2.2.2.1.2.1]; exact h.2.2.2.1.1)) ?_
    rintro r2 M2 (⟨b0, b1, hb1, hm2⟩ | ⟨b0, b1, hb1, hm2⟩ | ⟨b0, hb1, hm2⟩)
    · skip
      try rw [e65] at b0
      try rw [e65] at b1
      exfalso; omega
    · skip
      try rw [e65] at b0
      try rw [e65] at b1
      exfalso; omega
    · skip
      try rw [e65] at b0
      first
      | (exfalso; omega)
      | exact ⟨by rw [ha, hb1], Rl_ref h 0 (by omega) (by rw [← hm2, ← hm]; rfl)⟩
  · skip
    have e64 : M1 64 = M 64 := by subst hm; rfl
    have e65 : M1 65 = M 65 := by subst hm; rfl
    have e66 : M1 66 = M 66 := by subst hm; rfl
    have e67 : M1 67 = M 67 := by subst hm; rfl
    have e68 : M1 68 = M 68 := by subst hm; rfl
    first | (have y1 := h.2.2.2.1.1) | skip
    first | (have x2 := h.2.2.2.1.2.1) | skip
    first | (rw [← e64] at x2) | skip
    refine Ct.imp (R_type c M1 (RI_eq e65 (Rl_RI h (by omega))) (by rw [e68]; exact Rl_sr h (by omega)) (by rw [e64, ← h.2.2.2.1.2.1]; exact h.2.2.2.1.1)) ?_
    rintro r2 M2 (⟨b0, b1, hb1, hm2⟩ | ⟨b0, b1, hb1, hm2⟩ | ⟨b0, hb1, hm2⟩)
    · skip
      try rw [e65] at b0
      try rw [e65] at b1
      exfalso; omega
    · skip
      try rw [e65] at b0
      try rw [e65] at b1
      exfalso; omega
    · skip
      try rw [e65] at b0
      first
      | (exfalso; omega)
      | exact ⟨by rw [ha, hb1], Rl_ref h 0 (by omega) (by rw [← hm2, ← hm]; rfl)⟩
  · skip
    have e64 : M1 64 = M 64 := by subst hm; rfl
    have e65 : M1 65 = M 65 := by subst hm; rfl
    have e66 : M1 66 = M 66 := by subst hm; rfl
    have e67 : M1 67 = M 67 := by subst hm; rfl
    have e68 : M1 68 = M 68 := by subst hm; rfl
    first | (have y1 := h.2.2.2.1.1) | skip
    first | (have x2 := h.2.2.2.1.2.1) | skip
    first | (rw [← e64] at x2) | skip
    refine Ct.imp (R_type c M1 (RI_eq e65 (Rl_RI h (by omega))) (by rw [e68]; exact Rl_sr h (by omega)) (by rw [e64, ← h.2.2.2.1.2.1]; exact h.2.2.2.1.1)) ?_
    rintro r2 M2 (⟨b0, b1, hb1, hm2⟩ | ⟨b0, b1, hb1, hm2⟩ | ⟨b0, hb1, hm2⟩)
    · skip
      try rw [e65] at b0
      try rw [e65] at b1
      exfalso; omega
    · skip
      try rw [e65] at b0
      try rw [e65] at b1
      first
      | (exfalso; omega)
      | (have hz : ∀ r, r ≠ 59 → r ≠ 60 → r ≠ 64 → r ≠ 67 → M2 r = M r := fun r z1 z2 z3 z4 => by rw [← hm2, up_ne z3, up_ne z4, ← hm, up_ne z1, up_ne z2]
         have t59 : M2 59 = st1 (M 59) 1 (M 59 1 + 1) := by rw [← hm2, ← hm]; funext x; simp [up, st1]
         have t60 : M2 60 = st1 (M 60) (M 59 1) c := by rw [← hm2, ← hm]; funext x; simp [up, st1]
         have t64 : M2 64 = st1 (M 64) 3 (M 64 3 + 1) := by rw [← hm2, ← hm]; funext x; simp [up, st1]
         have t67 : M2 67 = st1 (M 67) (M 64 3) c := by rw [← hm2, ← hm]; funext x; simp [up, st1]
         obtain ⟨x1, x2, x3⟩ := h.2.2.2.1
         refine ⟨by rw [ha, hb1, e64]; exact some_vi (by omega), Rl_text h (fun r hr => hz r (by omega) (by omega) (by omega) (by omega)) (fun j hj => by rw [t64, st1_ne (by omega)]) ?_⟩
         unfold Txt
         rw [t59, t60, t64, t67, st1_at, st1_at]
         refine ⟨by omega, by omega, fun j z0 z1 => ?_⟩
         by_cases e : j = M 59 1
         · rw [st1_eq e, st1_eq (by omega)]; omega
         · rw [st1_ne e, st1_ne (by omega)]; exact x3 j z0 (by omega))
    · skip
      try rw [e65] at b0
      exfalso; omega
  · skip
    have e64 : M1 64 = M 64 := by subst hm; rfl
    have e65 : M1 65 = M 65 := by subst hm; rfl
    have e66 : M1 66 = M 66 := by subst hm; rfl
    have e67 : M1 67 = M 67 := by subst hm; rfl
    have e68 : M1 68 = M 68 := by subst hm; rfl
    first | (have y1 := h.2.2.2.1.1) | skip
    first | (have x2 := h.2.2.2.1.2.1) | skip
    first | (rw [← e64] at x2) | skip
    refine Ct.imp (R_type c M1 (RI_eq e65 (Rl_RI h (by omega))) (by rw [e68]; exact Rl_sr h (by omega)) (by rw [e64, ← h.2.2.2.1.2.1]; exact h.2.2.2.1.1)) ?_
    rintro r2 M2 (⟨b0, b1, hb1, hm2⟩ | ⟨b0, b1, hb1, hm2⟩ | ⟨b0, hb1, hm2⟩)
    · skip
      try rw [e65] at b0
      try rw [e65] at b1
      first
      | (exfalso; omega)
      | exact ⟨by rw [ha, hb1], Rl_ref h 2 (by omega) (by rw [← hm2, ← hm]; rfl)⟩
    · skip
      try rw [e65] at b0
      try rw [e65] at b1
      exfalso; omega
    · skip
      try rw [e65] at b0
      exfalso; omega
theorem S_clear (M : Mm) (n : Nat) (h : Rl M n) (hn : n < 512) : Same 62 154 [] M n := by
  refine Ct.imp (C_clear M (Rl_HI h (by omega)) (Rl_st h (by omega)) h.2.2.2.1.1) ?_
  rintro r1 M1 ⟨ha, hm⟩
  have e65 : M1 65 = M 65 := by subst hm; rfl
  have e68 : M1 68 = M 68 := by subst hm; rfl
  have e64 : M1 64 = M 64 := by subst hm; rfl
  refine Ct.imp (R_clear M1 (RI_eq e65 (Rl_RI h (by omega))) (by rw [e68]; exact Rl_sr h (by omega)) (by rw [e64, ← h.2.2.2.1.2.1]; exact h.2.2.2.1.1)) ?_
  rintro r2 M2 ⟨hb1, hm2⟩
  refine ⟨by rw [ha, hb1, e64, h.2.2.2.1.2.1], Rl_text h (fun r hr => by rw [← hm2, up_ne (by omega), ← hm, up_ne (by omega)]) (fun j hj => by rw [← hm2, up_off (by omega), e64]) ?_⟩
  unfold Txt
  have t59 : M2 59 1 = 0 := by rw [← hm2, ← hm]; rfl
  have t64 : M2 64 3 = 0 := by rw [← hm2, ← hm]; rfl
  rw [t59, t64]
  exact ⟨by decide, rfl, fun j z0 z1 => absurd z1 (by omega)⟩
