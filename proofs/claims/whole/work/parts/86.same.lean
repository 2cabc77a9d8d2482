/-! members side by side: images, read (written by wip/whole/gen86.py) -/
theorem S_image (i : Int) (M : Mm) (n : Nat) (h : Rl M n) (hn : n < 512) : Same 108 214 [vi i] M n := by
  obtain ⟨k0, k1, k2, k3, k4, k5, k6, k7, l0, l1, l2, l3, l4⟩ := Rl_c h
  refine Ct.imp (C_image i M (Rl_HI h (by omega)) (Rl_st h (by omega))) ?_
  rintro r1 M1 (⟨a0, ha, hm⟩ | ⟨a0, a1, ha, hm⟩ | ⟨a0, a1, a2, ha, hm⟩ | ⟨a0, a1, a2, ha, hm⟩)
  · skip
    have e64 : M1 64 = M 64 := by subst hm; rfl
    have e65 : M1 65 = M 65 := by subst hm; rfl
    have e66 : M1 66 = M 66 := by subst hm; rfl
    have e67 : M1 67 = M 67 := by subst hm; rfl
    have e68 : M1 68 = M 68 := by subst hm; rfl
    refine Ct.imp (R_image i M1 (RI_eq e65 (Rl_RI h (by omega))) (by rw [e68]; exact Rl_sr h (by omega))) ?_
    rintro r2 M2 (⟨b0, hb1, hm2⟩ | ⟨b0, hb1, hm2⟩)
    · skip
      try rw [e65] at b0
      exfalso; omega
    · skip
      try rw [e65] at b0
      first
      | (exfalso; omega)
      | exact ⟨by rw [ha, hb1], Rl_ref h 0 (by omega) (by rw [← hm2, ← hm]; rfl)⟩
  · skip
    have e64 : M1 64 = M 64 := by subst hm; rfl
    have e65 : M1 65 = M 65 := by subst hm; rfl
    have e66 : M1 66 = M 66 := by subst hm; rfl
    have e67 : M1 67 = M 67 := by subst hm; rfl
    have e68 : M1 68 = M 68 := by subst hm; rfl
    refine Ct.imp (R_image i M1 (RI_eq e65 (Rl_RI h (by omega))) (by rw [e68]; exact Rl_sr h (by omega))) ?_
    rintro r2 M2 (⟨b0, hb1, hm2⟩ | ⟨b0, hb1, hm2⟩)
    · skip
      try rw [e65] at b0
      exfalso; omega
    · skip
      try rw [e65] at b0
      first
      | (exfalso; omega)
      | exact ⟨by rw [ha, hb1], Rl_ref h 0 (by omega) (by rw [← hm2, ← hm]; rfl)⟩
  · skip
    have e64 : M1 64 = M 64 := by subst hm; rfl
    have e65 : M1 65 = M 65 := by subst hm; rfl
    have e66 : M1 66 = M 66 := by subst hm; rfl
    have e67 : M1 67 = M 67 := by subst hm; rfl
    have e68 : M1 68 = M 68 := by subst hm; rfl
    refine Ct.imp (R_image i M1 (RI_eq e65 (Rl_RI h (by omega))) (by rw [e68]; exact Rl_sr h (by omega))) ?_
    rintro r2 M2 (⟨b0, hb1, hm2⟩ | ⟨b0, hb1, hm2⟩)
    · skip
      try rw [e65] at b0
      first
      | (exfalso; omega)
      | (have hz : ∀ r, r ≠ 0 → (r < 14 ∨ 26 < r) → r ≠ 65 ∧ r ≠ 66 → M2 r = M r := fun r z1 z2 z3 => by rw [← hm2, up_ne z3.2, cpW_ne z3.1, ← hm, up_ne z1, tk_ne (by omega)]
         have hW : ∀ j, (j < 248 ∨ 496 ≤ j) → M2 65 j = M 65 j := fun j z => by rw [← hm2, up_ne (by decide), cpW_out (by omega), e65]
         have m0 : ∀ j, j ≠ 3 → M2 0 j = M 0 j := fun j z => by rw [← hm2, up_ne (by decide), cpW_ne (by decide), ← hm, up_off z]; rfl
         have m3 : M2 0 3 = 1 := by rw [← hm2, ← hm]; rfl
         have m4 : M2 0 4 = M 0 4 := m0 4 (by decide)
         have n0 : M2 66 0 = 1 := by rw [← hm2, show i = 0 by omega, up_at]
         have n1 : M2 66 1 = M 66 1 := by rw [← hm2, show i = 0 by omega, up_off (by decide), cpW_ne (by decide), e66]
         refine ⟨by rw [ha, hb1], Rl_img h (fun j z3 z4 => m0 j (by omega)) (fun r hr => hz r (by omega) (by omega) (by omega)) (fun j z0 z1 => hW j (by omega)) ⟨⟨by rw [m3, n0], by rw [m3]; omega⟩, ⟨by rw [m4, n1]; exact h.2.2.1.2.1.1, by rw [m4]; exact h.2.2.1.2.1.2⟩, (fun _ => HS_eq (M := tkM M 14 1) (W := M2 65) (fun j hj => by rw [← hm2, up_ne (by omega), cpW_ne (by omega), ← hm, up_ne (by omega)]) (fun _ _ _ => rfl) (by omega) (HS_tk_14_1 (M := M) (W := M 65) (W' := M2 65) (o := 0) (o' := 248) h.2.2.2.2.1.1 (fun j y1 y2 => by rw [← hm2, up_ne (by decide), show 248 + 248 * i = 248 by omega, cpW_in (by omega), e65, show 0 + (248 + j - 248) = 0 + j by omega]) h.2.2.2.2.2)), (fun z => HS_eq (fun j hj => hz _ (by omega) (by omega) (by omega)) (fun j y1 y2 => hW j (by omega)) (by omega) (h.2.2.1.2.2.2 (by rw [← m4]; exact z)))⟩ ?_⟩
         rw [← hm2, ← hm]
         exact ⟨h.2.2.2.2.1.1, h.2.2.2.2.1.2.1⟩)
    · skip
      try rw [e65] at b0
      exfalso; omega
  · skip
    have e64 : M1 64 = M 64 := by subst hm; rfl
    have e65 : M1 65 = M 65 := by subst hm; rfl
    have e66 : M1 66 = M 66 := by subst hm; rfl
    have e67 : M1 67 = M 67 := by subst hm; rfl
    have e68 : M1 68 = M 68 := by subst hm; rfl
    refine Ct.imp (R_image i M1 (RI_eq e65 (Rl_RI h (by omega))) (by rw [e68]; exact Rl_sr h (by omega))) ?_
    rintro r2 M2 (⟨b0, hb1, hm2⟩ | ⟨b0, hb1, hm2⟩)
    · skip
      try rw [e65] at b0
      first
      | (exfalso; omega)
      | (have hz : ∀ r, r ≠ 0 → (r < 27 ∨ 39 < r) → r ≠ 65 ∧ r ≠ 66 → M2 r = M r := fun r z1 z2 z3 => by rw [← hm2, up_ne z3.2, cpW_ne z3.1, ← hm, up_ne z1, tk_ne (by omega)]
         have hW : ∀ j, (j < 496 ∨ 744 ≤ j) → M2 65 j = M 65 j := fun j z => by rw [← hm2, up_ne (by decide), cpW_out (by omega), e65]
         have m0 : ∀ j, j ≠ 4 → M2 0 j = M 0 j := fun j z => by rw [← hm2, up_ne (by decide), cpW_ne (by decide), ← hm, up_off z]; rfl
         have m4 : M2 0 4 = 1 := by rw [← hm2, ← hm]; rfl
         have m3 : M2 0 3 = M 0 3 := m0 3 (by decide)
         have n1 : M2 66 1 = 1 := by rw [← hm2, show i = 1 by omega, up_at]
         have n0 : M2 66 0 = M 66 0 := by rw [← hm2, show i = 1 by omega, up_off (by decide), cpW_ne (by decide), e66]
         refine ⟨by rw [ha, hb1], Rl_img h (fun j z3 z4 => m0 j (by omega)) (fun r hr => hz r (by omega) (by omega) (by omega)) (fun j z0 z1 => hW j (by omega)) ⟨⟨by rw [m3, n0]; exact h.2.2.1.1.1, by rw [m3]; exact h.2.2.1.1.2⟩, ⟨by rw [m4, n1], by rw [m4]; omega⟩, (fun z => HS_eq (fun j hj => hz _ (by omega) (by omega) (by omega)) (fun j y1 y2 => hW j (by omega)) (by omega) (h.2.2.1.2.2.1 (by rw [← m3]; exact z))), (fun _ => HS_eq (M := tkM M 27 1) (W := M2 65) (fun j hj => by rw [← hm2, up_ne (by omega), cpW_ne (by omega), ← hm, up_ne (by omega)]) (fun _ _ _ => rfl) (by omega) (HS_tk_27_1 (M := M) (W := M 65) (W' := M2 65) (o := 0) (o' := 496) h.2.2.2.2.1.2.1 (fun j y1 y2 => by rw [← hm2, up_ne (by decide), show 248 + 248 * i = 496 by omega, cpW_in (by omega), e65, show 0 + (496 + j - 496) = 0 + j by omega]) h.2.2.2.2.2))⟩ ?_⟩
         rw [← hm2, ← hm]
         exact ⟨h.2.2.2.2.1.1, h.2.2.2.2.1.2.1⟩)
    · skip
      try rw [e65] at b0
      exfalso; omega
theorem S_from (i : Int) (M : Mm) (n : Nat) (h : Rl M n) (hn : n < 512) : Same 109 215 [vi i] M n := by
  obtain ⟨k0, k1, k2, k3, k4, k5, k6, k7, l0, l1, l2, l3, l4⟩ := Rl_c h
  refine Ct.imp (C_from i M (Rl_HI h (by omega)) (Rl_st h (by omega))) ?_
  rintro r1 M1 (⟨a0, ha, hm⟩ | ⟨a0, a1, ha, hm⟩ | ⟨a0, a1, a2, a3, ha, hm⟩ | ⟨a0, a1, a2, a3, a4, ha, hm⟩ | ⟨a0, a1, a2, a3, a4, ha, hm⟩ | ⟨a0, a1, a2, a3, ha, hm⟩ | ⟨a0, a1, a2, a3, a4, ha, hm⟩ | ⟨a0, a1, a2, a3, a4, ha, hm⟩)
  · skip
    have e64 : M1 64 = M 64 := by subst hm; rfl
    have e65 : M1 65 = M 65 := by subst hm; rfl
    have e66 : M1 66 = M 66 := by subst hm; rfl
    have e67 : M1 67 = M 67 := by subst hm; rfl
    have e68 : M1 68 = M 68 := by subst hm; rfl
    first | (have v0 := h.2.2.1.1) | skip
    first | (have v1 := h.2.2.1.2.1) | skip
    first | (have w0 : i = 0 → M 66 i = M 66 0 := fun z => by rw [z]) | skip
    first | (have w1 : i = 1 → M 66 i = M 66 1 := fun z => by rw [z]) | skip
    refine Ct.imp (R_from i M1 (RI_eq e65 (Rl_RI h (by omega))) (by rw [e68]; exact Rl_sr h (by omega))) ?_
    rintro r2 M2 (⟨b0, b1, hb1, hm2⟩ | ⟨b0, b1, hb1, hm2⟩ | ⟨b0, hb1, hm2⟩)
    · skip
      try rw [e65] at b0
      try rw [e66] at b1
      exfalso; omega
    · skip
      try rw [e65] at b0
      try rw [e66] at b1
      exfalso; omega
    · skip
      try rw [e65] at b0
      first
      | (exfalso; omega)
      | exact ⟨by rw [ha, hb1], Rl_ref h 0 (by omega) (by rw [← hm2, ← hm]; rfl)⟩
  · skip
    have e64 : M1 64 = M 64 := by subst hm; rfl
    have e65 : M1 65 = M 65 := by subst hm; rfl
    have e66 : M1 66 = M 66 := by subst hm; rfl
    have e67 : M1 67 = M 67 := by subst hm; rfl
    have e68 : M1 68 = M 68 := by subst hm; rfl
    first | (have v0 := h.2.2.1.1) | skip
    first | (have v1 := h.2.2.1.2.1) | skip
    first | (have w0 : i = 0 → M 66 i = M 66 0 := fun z => by rw [z]) | skip
    first | (have w1 : i = 1 → M 66 i = M 66 1 := fun z => by rw [z]) | skip
    refine Ct.imp (R_from i M1 (RI_eq e65 (Rl_RI h (by omega))) (by rw [e68]; exact Rl_sr h (by omega))) ?_
    rintro r2 M2 (⟨b0, b1, hb1, hm2⟩ | ⟨b0, b1, hb1, hm2⟩ | ⟨b0, hb1, hm2⟩)
    · skip
      try rw [e65] at b0
      try rw [e66] at b1
      exfalso; omega
    · skip
      try rw [e65] at b0
      try rw [e66] at b1
      exfalso; omega
    · skip
      try rw [e65] at b0
      first
      | (exfalso; omega)
      | exact ⟨by rw [ha, hb1], Rl_ref h 0 (by omega) (by rw [← hm2, ← hm]; rfl)⟩
  · skip
    have e64 : M1 64 = M 64 := by subst hm; rfl
    have e65 : M1 65 = M 65 := by subst hm; rfl
    have e66 : M1 66 = M 66 := by subst hm; rfl
    have e67 : M1 67 = M 67 := by subst hm; rfl
    have e68 : M1 68 = M 68 := by subst hm; rfl
    first | (have v0 := h.2.2.1.1) | skip
    first | (have v1 := h.2.2.1.2.1) | skip
    first | (have w0 : i = 0 → M 66 i = M 66 0 := fun z => by rw [z]) | skip
    first | (have w1 : i = 1 → M 66 i = M 66 1 := fun z => by rw [z]) | skip
    refine Ct.imp (R_from i M1 (RI_eq e65 (Rl_RI h (by omega))) (by rw [e68]; exact Rl_sr h (by omega))) ?_
    rintro r2 M2 (⟨b0, b1, hb1, hm2⟩ | ⟨b0, b1, hb1, hm2⟩ | ⟨b0, hb1, hm2⟩)
    · skip
      try rw [e65] at b0
      try rw [e66] at b1
      first
      | (exfalso; omega)
      | exact ⟨by rw [ha, hb1], Rl_ref h 1 (by omega) (by rw [← hm2, ← hm]; rfl)⟩
    · skip
      try rw [e65] at b0
      try rw [e66] at b1
      exfalso; omega
    · skip
      try rw [e65] at b0
      exfalso; omega
  · skip
    have e64 : M1 64 = M 64 := by subst hm; rfl
    have e65 : M1 65 = M 65 := by subst hm; rfl
    have e66 : M1 66 = M 66 := by subst hm; rfl
    have e67 : M1 67 = M 67 := by subst hm; rfl
    have e68 : M1 68 = M 68 := by subst hm; rfl
    first | (have v0 := h.2.2.1.1) | skip
    first | (have v1 := h.2.2.1.2.1) | skip
    first | (have w0 : i = 0 → M 66 i = M 66 0 := fun z => by rw [z]) | skip
    first | (have w1 : i = 1 → M 66 i = M 66 1 := fun z => by rw [z]) | skip
    refine Ct.imp (R_from i M1 (RI_eq e65 (Rl_RI h (by omega))) (by rw [e68]; exact Rl_sr h (by omega))) ?_
    rintro r2 M2 (⟨b0, b1, hb1, hm2⟩ | ⟨b0, b1, hb1, hm2⟩ | ⟨b0, hb1, hm2⟩)
    · skip
      try rw [e65] at b0
      try rw [e66] at b1
      exfalso; omega
    · skip
      try rw [e65] at b0
      try rw [e66] at b1
      first
      | (exfalso; omega)
      | (have hz : ∀ r, (r < 1 ∨ 13 < r) → r ≠ 65 → M2 r = M r := fun r z1 z2 => by rw [← hm2, cpW_ne z2, ← hm, tk_ne (by omega)]
         have hW : ∀ j, 248 ≤ j → M2 65 j = M 65 j := fun j z => by rw [← hm2, cpW_out (by omega), e65]
         have v3 : M 0 3 = 1 := by have := h.2.2.1.1.2; omega
         have hI := h.2.2.1.2.2.1 v3
         refine ⟨by rw [ha, hb1], Rl_house h (hz 0 (by omega) (by decide)) (fun r z1 z2 => hz r (by omega) (by omega)) (LK_eq (hz _ (by omega) (by decide)) (hz _ (by omega) (by decide)) (hz _ (by omega) (by decide)) h.2.2.2.2.1.2.2) (by rw [hz 59 (by omega) (by decide)]) (hz _ (by omega) (by decide)) (fun j hj => by rw [hz 64 (by omega) (by decide)]) (fun j z1 z2 => hW j (by omega)) (hz _ (by omega) (by decide)) (hz _ (by omega) (by decide)) (hz _ (by omega) (by decide)) ?_⟩
         exact HS_eq (M := tkM M 1 14) (W := M2 65) (fun j hj => by rw [← hm2, cpW_ne (by omega), ← hm]) (fun _ _ _ => rfl) (by omega) (HS_tk_1_14 (M := M) (W := M 65) (W' := M2 65) (o := 248) (o' := 0) ⟨⟨h.2.2.2.2.2.2.2.2.1.1.1, h.2.2.2.2.2.2.2.2.1.1.2.1⟩, ⟨h.2.2.2.2.2.2.2.2.2.1.1.1, h.2.2.2.2.2.2.2.2.2.1.1.2.1⟩, ⟨h.2.2.2.2.2.2.2.2.2.2.1.1.1, h.2.2.2.2.2.2.2.2.2.2.1.1.2.1⟩⟩ (fun j y1 y2 => by rw [← hm2, show 248 + 248 * i = 248 by omega, cpW_in (by omega), e65, show 248 + (0 + j - 0) = 248 + j by omega]) hI))
    · skip
      try rw [e65] at b0
      exfalso; omega
  · skip
    have e64 : M1 64 = M 64 := by subst hm; rfl
    have e65 : M1 65 = M 65 := by subst hm; rfl
    have e66 : M1 66 = M 66 := by subst hm; rfl
    have e67 : M1 67 = M 67 := by subst hm; rfl
    have e68 : M1 68 = M 68 := by subst hm; rfl
    first | (have v0 := h.2.2.1.1) | skip
    first | (have v1 := h.2.2.1.2.1) | skip
    first | (have w0 : i = 0 → M 66 i = M 66 0 := fun z => by rw [z]) | skip
    first | (have w1 : i = 1 → M 66 i = M 66 1 := fun z => by rw [z]) | skip
    refine Ct.imp (R_from i M1 (RI_eq e65 (Rl_RI h (by omega))) (by rw [e68]; exact Rl_sr h (by omega))) ?_
    rintro r2 M2 (⟨b0, b1, hb1, hm2⟩ | ⟨b0, b1, hb1, hm2⟩ | ⟨b0, hb1, hm2⟩)
    · skip
      try rw [e65] at b0
      try rw [e66] at b1
      exfalso; omega
    · skip
      try rw [e65] at b0
      try rw [e66] at b1
      first
      | (exfalso; omega)
      | (have hz : ∀ r, (r < 1 ∨ 13 < r) → r ≠ 65 → M2 r = M r := fun r z1 z2 => by rw [← hm2, cpW_ne z2, ← hm, tk_ne (by omega)]
         have hW : ∀ j, 248 ≤ j → M2 65 j = M 65 j := fun j z => by rw [← hm2, cpW_out (by omega), e65]
         have v3 : M 0 4 = 1 := by have := h.2.2.1.2.1.2; omega
         have hI := h.2.2.1.2.2.2 v3
         refine ⟨by rw [ha, hb1], Rl_house h (hz 0 (by omega) (by decide)) (fun r z1 z2 => hz r (by omega) (by omega)) (LK_eq (hz _ (by omega) (by decide)) (hz _ (by omega) (by decide)) (hz _ (by omega) (by decide)) h.2.2.2.2.1.2.2) (by rw [hz 59 (by omega) (by decide)]) (hz _ (by omega) (by decide)) (fun j hj => by rw [hz 64 (by omega) (by decide)]) (fun j z1 z2 => hW j (by omega)) (hz _ (by omega) (by decide)) (hz _ (by omega) (by decide)) (hz _ (by omega) (by decide)) ?_⟩
         exact HS_eq (M := tkM M 1 27) (W := M2 65) (fun j hj => by rw [← hm2, cpW_ne (by omega), ← hm]) (fun _ _ _ => rfl) (by omega) (HS_tk_1_27 (M := M) (W := M 65) (W' := M2 65) (o := 496) (o' := 0) ⟨⟨h.2.2.2.2.2.2.2.2.1.1.1, h.2.2.2.2.2.2.2.2.1.1.2.1⟩, ⟨h.2.2.2.2.2.2.2.2.2.1.1.1, h.2.2.2.2.2.2.2.2.2.1.1.2.1⟩, ⟨h.2.2.2.2.2.2.2.2.2.2.1.1.1, h.2.2.2.2.2.2.2.2.2.2.1.1.2.1⟩⟩ (fun j y1 y2 => by rw [← hm2, show 248 + 248 * i = 496 by omega, cpW_in (by omega), e65, show 496 + (0 + j - 0) = 496 + j by omega]) hI))
    · skip
      try rw [e65] at b0
      exfalso; omega
  · skip
    have e64 : M1 64 = M 64 := by subst hm; rfl
    have e65 : M1 65 = M 65 := by subst hm; rfl
    have e66 : M1 66 = M 66 := by subst hm; rfl
    have e67 : M1 67 = M 67 := by subst hm; rfl
    have e68 : M1 68 = M 68 := by subst hm; rfl
    first | (have v0 := h.2.2.1.1) | skip
    first | (have v1 := h.2.2.1.2.1) | skip
    first | (have w0 : i = 0 → M 66 i = M 66 0 := fun z => by rw [z]) | skip
    first | (have w1 : i = 1 → M 66 i = M 66 1 := fun z => by rw [z]) | skip
    refine Ct.imp (R_from i M1 (RI_eq e65 (Rl_RI h (by omega))) (by rw [e68]; exact Rl_sr h (by omega))) ?_
    rintro r2 M2 (⟨b0, b1, hb1, hm2⟩ | ⟨b0, b1, hb1, hm2⟩ | ⟨b0, hb1, hm2⟩)
    · skip
      try rw [e65] at b0
      try rw [e66] at b1
      first
      | (exfalso; omega)
      | exact ⟨by rw [ha, hb1], Rl_ref h 1 (by omega) (by rw [← hm2, ← hm]; rfl)⟩
    · skip
      try rw [e65] at b0
      try rw [e66] at b1
      exfalso; omega
    · skip
      try rw [e65] at b0
      exfalso; omega
  · skip
    have e64 : M1 64 = M 64 := by subst hm; rfl
    have e65 : M1 65 = M 65 := by subst hm; rfl
    have e66 : M1 66 = M 66 := by subst hm; rfl
    have e67 : M1 67 = M 67 := by subst hm; rfl
    have e68 : M1 68 = M 68 := by subst hm; rfl
    first | (have v0 := h.2.2.1.1) | skip
    first | (have v1 := h.2.2.1.2.1) | skip
    first | (have w0 : i = 0 → M 66 i = M 66 0 := fun z => by rw [z]) | skip
    first | (have w1 : i = 1 → M 66 i = M 66 1 := fun z => by rw [z]) | skip
    refine Ct.imp (R_from i M1 (RI_eq e65 (Rl_RI h (by omega))) (by rw [e68]; exact Rl_sr h (by omega))) ?_
    rintro r2 M2 (⟨b0, b1, hb1, hm2⟩ | ⟨b0, b1, hb1, hm2⟩ | ⟨b0, hb1, hm2⟩)
    · skip
      try rw [e65] at b0
      try rw [e66] at b1
      exfalso; omega
    · skip
      try rw [e65] at b0
      try rw [e66] at b1
      first
      | (exfalso; omega)
      | (have hz : ∀ r, (r < 1 ∨ 13 < r) → r ≠ 65 → M2 r = M r := fun r z1 z2 => by rw [← hm2, cpW_ne z2, ← hm, tk_ne (by omega)]
         have hW : ∀ j, 248 ≤ j → M2 65 j = M 65 j := fun j z => by rw [← hm2, cpW_out (by omega), e65]
         have v3 : M 0 3 = 1 := by have := h.2.2.1.1.2; omega
         have hI := h.2.2.1.2.2.1 v3
         refine ⟨by rw [ha, hb1], Rl_house h (hz 0 (by omega) (by decide)) (fun r z1 z2 => hz r (by omega) (by omega)) (LK_eq (hz _ (by omega) (by decide)) (hz _ (by omega) (by decide)) (hz _ (by omega) (by decide)) h.2.2.2.2.1.2.2) (by rw [hz 59 (by omega) (by decide)]) (hz _ (by omega) (by decide)) (fun j hj => by rw [hz 64 (by omega) (by decide)]) (fun j z1 z2 => hW j (by omega)) (hz _ (by omega) (by decide)) (hz _ (by omega) (by decide)) (hz _ (by omega) (by decide)) ?_⟩
         exact HS_eq (M := tkM M 1 14) (W := M2 65) (fun j hj => by rw [← hm2, cpW_ne (by omega), ← hm]) (fun _ _ _ => rfl) (by omega) (HS_tk_1_14 (M := M) (W := M 65) (W' := M2 65) (o := 248) (o' := 0) ⟨⟨h.2.2.2.2.2.2.2.2.1.1.1, h.2.2.2.2.2.2.2.2.1.1.2.1⟩, ⟨h.2.2.2.2.2.2.2.2.2.1.1.1, h.2.2.2.2.2.2.2.2.2.1.1.2.1⟩, ⟨h.2.2.2.2.2.2.2.2.2.2.1.1.1, h.2.2.2.2.2.2.2.2.2.2.1.1.2.1⟩⟩ (fun j y1 y2 => by rw [← hm2, show 248 + 248 * i = 248 by omega, cpW_in (by omega), e65, show 248 + (0 + j - 0) = 248 + j by omega]) hI))
    · skip
      try rw [e65] at b0
      exfalso; omega
  · skip
    have e64 : M1 64 = M 64 := by subst hm; rfl
    have e65 : M1 65 = M 65 := by subst hm; rfl
    have e66 : M1 66 = M 66 := by subst hm; rfl
    have e67 : M1 67 = M 67 := by subst hm; rfl
    have e68 : M1 68 = M 68 := by subst hm; rfl
    first | (have v0 := h.2.2.1.1) | skip
    first | (have v1 := h.2.2.1.2.1) | skip
    first | (have w0 : i = 0 → M 66 i = M 66 0 := fun z => by rw [z]) | skip
    first | (have w1 : i = 1 → M 66 i = M 66 1 := fun z => by rw [z]) | skip
    refine Ct.imp (R_from i M1 (RI_eq e65 (Rl_RI h (by omega))) (by rw [e68]; exact Rl_sr h (by omega))) ?_
    rintro r2 M2 (⟨b0, b1, hb1, hm2⟩ | ⟨b0, b1, hb1, hm2⟩ | ⟨b0, hb1, hm2⟩)
    · skip
      try rw [e65] at b0
      try rw [e66] at b1
      exfalso; omega
    · skip
      try rw [e65] at b0
      try rw [e66] at b1
      first
      | (exfalso; omega)
      | (have hz : ∀ r, (r < 1 ∨ 13 < r) → r ≠ 65 → M2 r = M r := fun r z1 z2 => by rw [← hm2, cpW_ne z2, ← hm, tk_ne (by omega)]
         have hW : ∀ j, 248 ≤ j → M2 65 j = M 65 j := fun j z => by rw [← hm2, cpW_out (by omega), e65]
         have v3 : M 0 4 = 1 := by have := h.2.2.1.2.1.2; omega
         have hI := h.2.2.1.2.2.2 v3
         refine ⟨by rw [ha, hb1], Rl_house h (hz 0 (by omega) (by decide)) (fun r z1 z2 => hz r (by omega) (by omega)) (LK_eq (hz _ (by omega) (by decide)) (hz _ (by omega) (by decide)) (hz _ (by omega) (by decide)) h.2.2.2.2.1.2.2) (by rw [hz 59 (by omega) (by decide)]) (hz _ (by omega) (by decide)) (fun j hj => by rw [hz 64 (by omega) (by decide)]) (fun j z1 z2 => hW j (by omega)) (hz _ (by omega) (by decide)) (hz _ (by omega) (by decide)) (hz _ (by omega) (by decide)) ?_⟩
         exact HS_eq (M := tkM M 1 27) (W := M2 65) (fun j hj => by rw [← hm2, cpW_ne (by omega), ← hm]) (fun _ _ _ => rfl) (by omega) (HS_tk_1_27 (M := M) (W := M 65) (W' := M2 65) (o := 496) (o' := 0) ⟨⟨h.2.2.2.2.2.2.2.2.1.1.1, h.2.2.2.2.2.2.2.2.1.1.2.1⟩, ⟨h.2.2.2.2.2.2.2.2.2.1.1.1, h.2.2.2.2.2.2.2.2.2.1.1.2.1⟩, ⟨h.2.2.2.2.2.2.2.2.2.2.1.1.1, h.2.2.2.2.2.2.2.2.2.2.1.1.2.1⟩⟩ (fun j y1 y2 => by rw [← hm2, show 248 + 248 * i = 496 by omega, cpW_in (by omega), e65, show 496 + (0 + j - 0) = 496 + j by omega]) hI))
    · skip
      try rw [e65] at b0
      exfalso; omega
theorem S_read (M : Mm) (n : Nat) (h : Rl M n) (hn : n < 512) : Same 63 169 [] M n := by
  obtain ⟨x1, x2, x3⟩ := h.2.2.2.1
  obtain ⟨t, ht⟩ : ∃ t : Int → Int, t = fun j => if 0 ≤ j ∧ j < M 59 1 then M 60 j else -1 := ⟨_, rfl⟩
  have hTX : TX t (M 59 1) := ⟨x1, fun j hj => by rw [ht]; exact if_neg (by omega), fun j z0 z1 => by rw [ht]; show 0 ≤ (if 0 ≤ j ∧ j < M 59 1 then M 60 j else -1) ∧ (if 0 ≤ j ∧ j < M 59 1 then M 60 j else -1) ≤ 127; rw [if_pos ⟨z0, z1⟩]; exact (x3 j z0 z1).2⟩
  have hTC : TC M t := ⟨hTX, fun j z0 z1 => by rw [ht]; exact if_pos ⟨z0, z1⟩⟩
  have hTR : TR M t := ⟨by rw [← x2]; exact hTX, fun j z0 z1 => by rw [← x2] at z1; rw [ht]; show (if 0 ≤ j ∧ j < M 59 1 then M 60 j else -1) = _; rw [if_pos ⟨z0, z1⟩]; exact (x3 j z0 z1).1⟩
  have hX0 : PI (emM M 40) (fun _ => 0) 0 := ⟨HS_none (by decide) rfl rfl rfl rfl rfl ⟨h.2.2.2.2.1.2.2.1.1, h.2.2.2.2.1.2.2.1.2, rfl⟩ ⟨h.2.2.2.2.1.2.2.2.1.1, h.2.2.2.2.1.2.2.2.1.2, rfl⟩ ⟨h.2.2.2.2.1.2.2.2.2.1, h.2.2.2.2.1.2.2.2.2.2, rfl⟩ (fun _ _ _ => rfl), rfl⟩
  refine Ct.imp (C_read M t hTC h.2.2.2.2.1.2.2) ?_
  rintro r1 M1 (⟨s, ho, ha, X', R', g1, gf, hm⟩ | ⟨k, X', ho, ha, R', g1, gf, hm⟩)
  · have cz : ∀ r, (r < 40 ∨ 52 < r) → r ≠ 59 → M1 r = M r := fun r z1 z2 => by rw [← hm, sr_ne z2, gf r (by omega), em_ne (by omega)]
    have cl : LK M1 40 := by
      have a7 : X' 47 = emM M 40 47 := gf 47 (by omega)
      have a9 : X' 49 = emM M 40 49 := gf 49 (by omega)
      have a11 : X' 51 = emM M 40 51 := gf 51 (by omega)
      rw [← hm]
      exact LK_eq (M := emM M 40) (by rw [sr_ne (by decide)]; exact a7) (by rw [sr_ne (by decide)]; exact a9) (by rw [sr_ne (by decide)]; exact a11) h.2.2.2.2.1.2.2
    have c59 : M1 59 1 = M 59 1 := by rw [← hm, sr_at]; exact g1
    have hTR1 : TR M1 t := by
      unfold TR
      rw [cz 64 (by omega) (by decide), cz 67 (by omega) (by decide)]
      exact hTR
    refine Ct.imp (R_read M1 (emM M 40) t hTR1 hX0) ?_
    rintro r2 M2 (⟨s2, ho2, hb1, W2, R2, f1, f2, hm2⟩ | ⟨k2, X2, ho2, -⟩)
    · rw [ho] at ho2
      injection ho2 with e
      refine ⟨by rw [ha, hb1, e], Rl_same h (fun r hr => ?_) ?_ ?_ ?_ (fun j hj => ?_) (fun j z0 z1 => ?_) ?_ ?_ ?_⟩
      · rw [← hm2, sr_ne (by omega), sr_ne (by omega), cz r (by omega) (by omega)]
      · exact LK_eq (M := M1) (by rw [← hm2, sr_ne (by decide), sr_ne (by decide)]) (by rw [← hm2, sr_ne (by decide), sr_ne (by decide)]) (by rw [← hm2, sr_ne (by decide), sr_ne (by decide)]) cl
      · rw [← hm2, sr_ne (by decide), sr_ne (by decide)]; exact c59
      · rw [← hm2, sr_ne (by decide), sr_ne (by decide), cz 60 (by omega) (by decide)]
      · rw [← hm2, sr_at, f1 j (by omega) (by omega) (by omega), cz 64 (by omega) (by decide)]
      · rw [← hm2, sr_ne (by decide), sr_at, f2 j (by omega), cz 65 (by omega) (by decide)]
      · rw [← hm2, sr_ne (by decide), sr_ne (by decide), cz 66 (by omega) (by decide)]
      · rw [← hm2, sr_ne (by decide), sr_ne (by decide), cz 67 (by omega) (by decide)]
      · rw [← hm2, sr_ne (by decide), sr_ne (by decide), cz 68 (by omega) (by decide)]
    · rw [ho] at ho2; cases ho2
  · have xz : ∀ r, (r < 40 ∨ 52 < r) → r ≠ 59 → sr X' 59 R' r = M r := fun r z1 z2 => by rw [sr_ne z2, gf r (by omega), em_ne (by omega)]
    have cz : ∀ r, (r < 1 ∨ (13 < r ∧ r < 40) ∨ 52 < r) → r ≠ 59 → M1 r = M r := fun r z1 z2 => by rw [← hm, tk_ne (by omega), xz r (by omega) z2]
    have cl : LK M1 40 := by
      have a7 : X' 47 = emM M 40 47 := gf 47 (by omega)
      have a9 : X' 49 = emM M 40 49 := gf 49 (by omega)
      have a11 : X' 51 = emM M 40 51 := gf 51 (by omega)
      rw [← hm]
      exact LK_eq (M := emM M 40) (by rw [tk_ne (by omega), sr_ne (by decide)]; exact a7) (by rw [tk_ne (by omega), sr_ne (by decide)]; exact a9) (by rw [tk_ne (by omega), sr_ne (by decide)]; exact a11) h.2.2.2.2.1.2.2
    have c59 : M1 59 1 = M 59 1 := by rw [← hm, tk_ne (by omega), sr_at]; exact g1
    have hTR1 : TR M1 t := by
      unfold TR
      rw [cz 64 (by omega) (by decide), cz 67 (by omega) (by decide)]
      exact hTR
    refine Ct.imp (R_read M1 (emM M 40) t hTR1 hX0) ?_
    rintro r2 M2 (⟨s2, ho2, -⟩ | ⟨k2, X2, ho2, hb1, W2, R2, f1, f2, q2, hm2⟩)
    · rw [ho] at ho2; cases ho2
    · rw [ho] at ho2
      injection ho2 with e
      injection e with e1 e2
      subst e2
      have rz : ∀ r, r ≠ 64 → r ≠ 65 → M2 r = M1 r := fun r z1 z2 => by rw [← hm2, cpW_ne z2, sr_ne z1, sr_ne z2]
      refine ⟨by rw [ha, hb1, e1], Rl_house h ?_ (fun r z1 z2 => ?_) ?_ ?_ ?_ (fun j hj => ?_) (fun j z1 z2 => ?_) ?_ ?_ ?_ ?_⟩
      · rw [rz 0 (by decide) (by decide), cz 0 (by omega) (by decide)]
      · rw [rz r (by omega) (by omega), cz r (by omega) (by omega)]
      · exact LK_eq (M := M1) (rz _ (by decide) (by decide)) (rz _ (by decide) (by decide)) (rz _ (by decide) (by decide)) cl
      · rw [rz 59 (by decide) (by decide)]; exact c59
      · rw [rz 60 (by decide) (by decide), cz 60 (by omega) (by decide)]
      · rw [← hm2, cpW_ne (by decide), sr_at, f1 j (by omega) (by omega) (by omega), cz 64 (by omega) (by decide)]
      · rw [← hm2, cpW_out (by omega), sr_ne (by decide), sr_at, f2 j (by omega), cz 65 (by omega) (by decide)]
      · rw [rz 66 (by decide) (by decide), cz 66 (by omega) (by decide)]
      · rw [rz 67 (by decide) (by decide), cz 67 (by omega) (by decide)]
      · rw [rz 68 (by decide) (by decide), cz 68 (by omega) (by decide)]
      · have h1 : HS (sr X' 59 R') 40 W2 744 200 := HS_eq (fun j hj => sr_ne (by omega)) (fun _ _ _ => rfl) (Int.le_refl _) q2.1
        have h2 := HS_tk_1_40 (M := sr X' 59 R') (W := W2) (W' := M2 65) (o := 744) (o' := 0) (by
          have qs := h.2.2.2.2.2.2.2.2.1
          have qn := h.2.2.2.2.2.2.2.2.2.1
          have qm := h.2.2.2.2.2.2.2.2.2.2.1
          exact LK_eq (M := M) (xz _ (by omega) (by decide)) (xz _ (by omega) (by decide)) (xz _ (by omega) (by decide)) ⟨⟨qs.1.1, qs.1.2.1⟩, ⟨qn.1.1, qn.1.2.1⟩, ⟨qm.1.1, qm.1.2.1⟩⟩) (fun j y1 y2 => by rw [← hm2, cpW_in (by omega), sr_ne (by decide), sr_at, show 744 + (0 + j - 0) = 744 + j by omega]) h1
        rw [hm] at h2
        exact HS_eq (fun j hj => rz _ (by omega) (by omega)) (fun _ _ _ => rfl) (by omega) h2
