/-! members side by side: the moves (written by wip/whole/gen88.py) -/
theorem S_begins (i : Int) (M : Mm) (n : Nat) (h : Rl M n) (hn : n < 512) : Same 65 174 [vi i] M n := by
  obtain ⟨k0, k1, k2, k3, k4, k5, k6, k7, l0, l1, l2, l3, l4⟩ := Rl_c h
  refine Ct.imp (C_begins i M (Rl_HI h (by omega)) (Rl_st h (by omega))) ?_
  rintro r1 M1 (⟨a0, a1, ha, hm⟩ | ⟨a0, a1, ha, hm⟩ | ⟨a0, ha, hm⟩)
  · skip
    have e64 : M1 64 = M 64 := by rw [← hm]; first | rfl | (rw [up_ne (by decide)]; exact kmM_ne (by decide) (by decide)) | (rw [up_ne (by decide), up_ne (by decide)]; exact kmM_ne (by decide) (by decide))
    have e65 : M1 65 = M 65 := by rw [← hm]; first | rfl | (rw [up_ne (by decide)]; exact kmM_ne (by decide) (by decide)) | (rw [up_ne (by decide), up_ne (by decide)]; exact kmM_ne (by decide) (by decide))
    have e66 : M1 66 = M 66 := by rw [← hm]; first | rfl | (rw [up_ne (by decide)]; exact kmM_ne (by decide) (by decide)) | (rw [up_ne (by decide), up_ne (by decide)]; exact kmM_ne (by decide) (by decide))
    have e67 : M1 67 = M 67 := by rw [← hm]; first | rfl | (rw [up_ne (by decide)]; exact kmM_ne (by decide) (by decide)) | (rw [up_ne (by decide), up_ne (by decide)]; exact kmM_ne (by decide) (by decide))
    have e68 : M1 68 = M 68 := by rw [← hm]; first | rfl | (rw [up_ne (by decide)]; exact kmM_ne (by decide) (by decide)) | (rw [up_ne (by decide), up_ne (by decide)]; exact kmM_ne (by decide) (by decide))
    first | (have fG := Rl_g h (i := i) (by omega) (by omega)) | skip
    refine Ct.imp (R_begins i M1 (RI_eq e65 (Rl_RI h (by omega))) (by rw [e68]; exact Rl_sr h (by omega))) ?_
    rintro r2 M2 (⟨b0, b1, hb1, hm2⟩ | ⟨bM3, b0, b1, b2, hb1, hm2⟩ | ⟨b0, hb1, hm2⟩)
    · skip
      try rw [e65] at b0
      try rw [e65] at b1
      first
      | (exfalso; omega)
      | exact ⟨by rw [ha, hb1], Rl_ref h 1 (by omega) (by rw [← hm2, ← hm]; rfl)⟩
    · skip
      try rw [e65] at b0
      try rw [e65] at b1
      try rw [e65] at b2
      exfalso; omega
    · skip
      try rw [e65] at b0
      exfalso; omega
  · skip
    have e64 : M1 64 = M 64 := by rw [← hm]; first | rfl | (rw [up_ne (by decide)]; exact kmM_ne (by decide) (by decide)) | (rw [up_ne (by decide), up_ne (by decide)]; exact kmM_ne (by decide) (by decide))
    have e65 : M1 65 = M 65 := by rw [← hm]; first | rfl | (rw [up_ne (by decide)]; exact kmM_ne (by decide) (by decide)) | (rw [up_ne (by decide), up_ne (by decide)]; exact kmM_ne (by decide) (by decide))
    have e66 : M1 66 = M 66 := by rw [← hm]; first | rfl | (rw [up_ne (by decide)]; exact kmM_ne (by decide) (by decide)) | (rw [up_ne (by decide), up_ne (by decide)]; exact kmM_ne (by decide) (by decide))
    have e67 : M1 67 = M 67 := by rw [← hm]; first | rfl | (rw [up_ne (by decide)]; exact kmM_ne (by decide) (by decide)) | (rw [up_ne (by decide), up_ne (by decide)]; exact kmM_ne (by decide) (by decide))
    have e68 : M1 68 = M 68 := by rw [← hm]; first | rfl | (rw [up_ne (by decide)]; exact kmM_ne (by decide) (by decide)) | (rw [up_ne (by decide), up_ne (by decide)]; exact kmM_ne (by decide) (by decide))
    first | (have fG := Rl_g h (i := i) (by omega) (by omega)) | skip
    refine Ct.imp (R_begins i M1 (RI_eq e65 (Rl_RI h (by omega))) (by rw [e68]; exact Rl_sr h (by omega))) ?_
    rintro r2 M2 (⟨b0, b1, hb1, hm2⟩ | ⟨bM3, b0, b1, b2, hb1, hm2⟩ | ⟨b0, hb1, hm2⟩)
    · skip
      try rw [e65] at b0
      try rw [e65] at b1
      exfalso; omega
    · skip
      try rw [e65] at b0
      try rw [e65] at b1
      try rw [e65] at b2
      first
      | (exfalso; omega)
      | (have bMo := b0
         have hN : M2 6 = (st1 (kmM M 6) i 0) := by rw [← hm2, up_ne (by decide), bMo.1 6 (by decide), ← hm, up_row]
         have hW : M2 65 = (st1 (bM3 65) (28 + i) 0) := by rw [← hm2, up_row]
         have hR : ∀ r, r ≠ 6 → r ≠ 65 → M2 r = kmM M r := fun r z6 z65 => by rw [← hm2, up_ne z65, bMo.1 r z65, ← hm, up_ne z6]
         have k11 : kmM M 1 1 = M 1 1 := kmM_1 (by decide)
         have k10 : kmM M 1 0 = M 1 0 := kmM_1 (by decide)
         have w3 : ∀ x, x < 111 → bM3 65 x = M 65 x := fun x hx => by rw [bMo.2.1 x (by omega), e65]
         refine ⟨?_, Rl_move h (fun r hr => by rw [← hm, up_ne hr]) bMo (fun r hr => by rw [← hm2, up_ne hr, bMo.1 r hr]) (fun x hx => by rw [hW, st1_ne (by omega)]) (fun q => HS_set q (by omega) (hR 1 (by decide) (by decide)) (fun r z1 z2 z3 => hR r z3 (by omega)) (fun x z1 z2 z3 => by rw [hW, st1_ne (by omega)]) ?_ ?_ (fun f z1 z2 => ?_) (fun j z1 z2 => ?_) (fun j z1 z2 => ?_))⟩
         · rw [ha, hb1, e65]; exact some_vi (by omega)
         · exact Or.inl ⟨by rw [hN, st1_ne (by omega)], by rw [hW, st1_ne (by omega)]⟩
         · exact Or.inl ⟨by rw [hN, st1_ne (by omega)], by rw [hW, st1_ne (by omega)]⟩
         · exact Or.inl ⟨by rw [hN, st1_ne (by omega)], by rw [hW, st1_ne (by omega)]⟩
         · by_cases e : j = i
           · exact Or.inr ⟨by rw [hN, st1_eq (by omega)]; decide, by rw [hN, hW, st1_eq (by omega), st1_eq (by omega)]⟩
           · exact Or.inl ⟨by rw [hN, st1_ne (by omega)], by rw [hW, st1_ne (by omega)]⟩
         · exact Or.inl ⟨by rw [hN, st1_ne (by omega)], by rw [hW, st1_ne (by omega)]⟩)
    · skip
      try rw [e65] at b0
      exfalso; omega
  · skip
    have e64 : M1 64 = M 64 := by rw [← hm]; first | rfl | (rw [up_ne (by decide)]; exact kmM_ne (by decide) (by decide)) | (rw [up_ne (by decide), up_ne (by decide)]; exact kmM_ne (by decide) (by decide))
    have e65 : M1 65 = M 65 := by rw [← hm]; first | rfl | (rw [up_ne (by decide)]; exact kmM_ne (by decide) (by decide)) | (rw [up_ne (by decide), up_ne (by decide)]; exact kmM_ne (by decide) (by decide))
    have e66 : M1 66 = M 66 := by rw [← hm]; first | rfl | (rw [up_ne (by decide)]; exact kmM_ne (by decide) (by decide)) | (rw [up_ne (by decide), up_ne (by decide)]; exact kmM_ne (by decide) (by decide))
    have e67 : M1 67 = M 67 := by rw [← hm]; first | rfl | (rw [up_ne (by decide)]; exact kmM_ne (by decide) (by decide)) | (rw [up_ne (by decide), up_ne (by decide)]; exact kmM_ne (by decide) (by decide))
    have e68 : M1 68 = M 68 := by rw [← hm]; first | rfl | (rw [up_ne (by decide)]; exact kmM_ne (by decide) (by decide)) | (rw [up_ne (by decide), up_ne (by decide)]; exact kmM_ne (by decide) (by decide))
    first | (have fG := Rl_g h (i := i) (by omega) (by omega)) | skip
    refine Ct.imp (R_begins i M1 (RI_eq e65 (Rl_RI h (by omega))) (by rw [e68]; exact Rl_sr h (by omega))) ?_
    rintro r2 M2 (⟨b0, b1, hb1, hm2⟩ | ⟨bM3, b0, b1, b2, hb1, hm2⟩ | ⟨b0, hb1, hm2⟩)
    · skip
      try rw [e65] at b0
      try rw [e65] at b1
      exfalso; omega
    · skip
      try rw [e65] at b0
      try rw [e65] at b1
      try rw [e65] at b2
      exfalso; omega
    · skip
      try rw [e65] at b0
      first
      | (exfalso; omega)
      | exact ⟨by rw [ha, hb1], Rl_ref h 0 (by omega) (by rw [← hm2, ← hm]; rfl)⟩
theorem S_loads (i : Int) (x : Int) (M : Mm) (n : Nat) (h : Rl M n) (hn : n < 512) : Same 66 175 [vi i, vi x] M n := by
  obtain ⟨k0, k1, k2, k3, k4, k5, k6, k7, l0, l1, l2, l3, l4⟩ := Rl_c h
  refine Ct.imp (C_loads i x M (Rl_HI h (by omega)) (Rl_st h (by omega))) ?_
  rintro r1 M1 (⟨a0, a1, a2, ha, hm⟩ | ⟨a0, a1, a2, ha, hm⟩ | ⟨a0, a1, ha, hm⟩ | ⟨a0, ha, hm⟩)
  · skip
    have e64 : M1 64 = M 64 := by rw [← hm]; first | rfl | (rw [up_ne (by decide)]; exact kmM_ne (by decide) (by decide)) | (rw [up_ne (by decide), up_ne (by decide)]; exact kmM_ne (by decide) (by decide))
    have e65 : M1 65 = M 65 := by rw [← hm]; first | rfl | (rw [up_ne (by decide)]; exact kmM_ne (by decide) (by decide)) | (rw [up_ne (by decide), up_ne (by decide)]; exact kmM_ne (by decide) (by decide))
    have e66 : M1 66 = M 66 := by rw [← hm]; first | rfl | (rw [up_ne (by decide)]; exact kmM_ne (by decide) (by decide)) | (rw [up_ne (by decide), up_ne (by decide)]; exact kmM_ne (by decide) (by decide))
    have e67 : M1 67 = M 67 := by rw [← hm]; first | rfl | (rw [up_ne (by decide)]; exact kmM_ne (by decide) (by decide)) | (rw [up_ne (by decide), up_ne (by decide)]; exact kmM_ne (by decide) (by decide))
    have e68 : M1 68 = M 68 := by rw [← hm]; first | rfl | (rw [up_ne (by decide)]; exact kmM_ne (by decide) (by decide)) | (rw [up_ne (by decide), up_ne (by decide)]; exact kmM_ne (by decide) (by decide))
    first | (have fG := Rl_g h (i := i) (by omega) (by omega)) | skip
    refine Ct.imp (R_loads i x M1 (RI_eq e65 (Rl_RI h (by omega))) (by rw [e68]; exact Rl_sr h (by omega))) ?_
    rintro r2 M2 (⟨b0, b1, b2, hb1, hm2⟩ | ⟨bM3, b0, b1, b2, b3, hb1, hm2⟩ | ⟨b0, b1, hb1, hm2⟩ | ⟨b0, hb1, hm2⟩)
    · skip
      try rw [e65] at b0
      try rw [e65] at b1
      try rw [e65] at b2
      first
      | (exfalso; omega)
      | exact ⟨by rw [ha, hb1], Rl_ref h 1 (by omega) (by rw [← hm2, ← hm]; rfl)⟩
    · skip
      try rw [e65] at b0
      try rw [e65] at b1
      try rw [e65] at b2
      try rw [e65] at b3
      exfalso; omega
    · skip
      try rw [e65] at b0
      try rw [e65] at b1
      exfalso; omega
    · skip
      try rw [e65] at b0
      exfalso; omega
  · skip
    have e64 : M1 64 = M 64 := by rw [← hm]; first | rfl | (rw [up_ne (by decide)]; exact kmM_ne (by decide) (by decide)) | (rw [up_ne (by decide), up_ne (by decide)]; exact kmM_ne (by decide) (by decide))
    have e65 : M1 65 = M 65 := by rw [← hm]; first | rfl | (rw [up_ne (by decide)]; exact kmM_ne (by decide) (by decide)) | (rw [up_ne (by decide), up_ne (by decide)]; exact kmM_ne (by decide) (by decide))
    have e66 : M1 66 = M 66 := by rw [← hm]; first | rfl | (rw [up_ne (by decide)]; exact kmM_ne (by decide) (by decide)) | (rw [up_ne (by decide), up_ne (by decide)]; exact kmM_ne (by decide) (by decide))
    have e67 : M1 67 = M 67 := by rw [← hm]; first | rfl | (rw [up_ne (by decide)]; exact kmM_ne (by decide) (by decide)) | (rw [up_ne (by decide), up_ne (by decide)]; exact kmM_ne (by decide) (by decide))
    have e68 : M1 68 = M 68 := by rw [← hm]; first | rfl | (rw [up_ne (by decide)]; exact kmM_ne (by decide) (by decide)) | (rw [up_ne (by decide), up_ne (by decide)]; exact kmM_ne (by decide) (by decide))
    first | (have fG := Rl_g h (i := i) (by omega) (by omega)) | skip
    refine Ct.imp (R_loads i x M1 (RI_eq e65 (Rl_RI h (by omega))) (by rw [e68]; exact Rl_sr h (by omega))) ?_
    rintro r2 M2 (⟨b0, b1, b2, hb1, hm2⟩ | ⟨bM3, b0, b1, b2, b3, hb1, hm2⟩ | ⟨b0, b1, hb1, hm2⟩ | ⟨b0, hb1, hm2⟩)
    · skip
      try rw [e65] at b0
      try rw [e65] at b1
      try rw [e65] at b2
      exfalso; omega
    · skip
      try rw [e65] at b0
      try rw [e65] at b1
      try rw [e65] at b2
      try rw [e65] at b3
      first
      | (exfalso; omega)
      | (have bMo := b0
         have hN : M2 6 = (st1 (kmM M 6) (6 + i) x) := by rw [← hm2, up_ne (by decide), bMo.1 6 (by decide), ← hm, up_row]
         have hW : M2 65 = (st1 (bM3 65) (34 + i) x) := by rw [← hm2, up_row]
         have hR : ∀ r, r ≠ 6 → r ≠ 65 → M2 r = kmM M r := fun r z6 z65 => by rw [← hm2, up_ne z65, bMo.1 r z65, ← hm, up_ne z6]
         have k11 : kmM M 1 1 = M 1 1 := kmM_1 (by decide)
         have k10 : kmM M 1 0 = M 1 0 := kmM_1 (by decide)
         have w3 : ∀ x, x < 111 → bM3 65 x = M 65 x := fun x hx => by rw [bMo.2.1 x (by omega), e65]
         refine ⟨?_, Rl_move h (fun r hr => by rw [← hm, up_ne hr]) bMo (fun r hr => by rw [← hm2, up_ne hr, bMo.1 r hr]) (fun x hx => by rw [hW, st1_ne (by omega)]) (fun q => HS_set q (by omega) (hR 1 (by decide) (by decide)) (fun r z1 z2 z3 => hR r z3 (by omega)) (fun x z1 z2 z3 => by rw [hW, st1_ne (by omega)]) ?_ ?_ (fun f z1 z2 => ?_) (fun j z1 z2 => ?_) (fun j z1 z2 => ?_))⟩
         · rw [ha, hb1, e65]; exact some_vi (by omega)
         · exact Or.inl ⟨by rw [hN, st1_ne (by omega)], by rw [hW, st1_ne (by omega)]⟩
         · exact Or.inl ⟨by rw [hN, st1_ne (by omega)], by rw [hW, st1_ne (by omega)]⟩
         · exact Or.inl ⟨by rw [hN, st1_ne (by omega)], by rw [hW, st1_ne (by omega)]⟩
         · exact Or.inl ⟨by rw [hN, st1_ne (by omega)], by rw [hW, st1_ne (by omega)]⟩
         · by_cases e : j = i
           · exact Or.inr ⟨by rw [hN, st1_eq (by omega)]; omega, by rw [hN, hW, st1_eq (by omega), st1_eq (by omega)]⟩
           · exact Or.inl ⟨by rw [hN, st1_ne (by omega)], by rw [hW, st1_ne (by omega)]⟩)
    · skip
      try rw [e65] at b0
      try rw [e65] at b1
      exfalso; omega
    · skip
      try rw [e65] at b0
      exfalso; omega
  · skip
    have e64 : M1 64 = M 64 := by rw [← hm]; first | rfl | (rw [up_ne (by decide)]; exact kmM_ne (by decide) (by decide)) | (rw [up_ne (by decide), up_ne (by decide)]; exact kmM_ne (by decide) (by decide))
    have e65 : M1 65 = M 65 := by rw [← hm]; first | rfl | (rw [up_ne (by decide)]; exact kmM_ne (by decide) (by decide)) | (rw [up_ne (by decide), up_ne (by decide)]; exact kmM_ne (by decide) (by decide))
    have e66 : M1 66 = M 66 := by rw [← hm]; first | rfl | (rw [up_ne (by decide)]; exact kmM_ne (by decide) (by decide)) | (rw [up_ne (by decide), up_ne (by decide)]; exact kmM_ne (by decide) (by decide))
    have e67 : M1 67 = M 67 := by rw [← hm]; first | rfl | (rw [up_ne (by decide)]; exact kmM_ne (by decide) (by decide)) | (rw [up_ne (by decide), up_ne (by decide)]; exact kmM_ne (by decide) (by decide))
    have e68 : M1 68 = M 68 := by rw [← hm]; first | rfl | (rw [up_ne (by decide)]; exact kmM_ne (by decide) (by decide)) | (rw [up_ne (by decide), up_ne (by decide)]; exact kmM_ne (by decide) (by decide))
    first | (have fG := Rl_g h (i := i) (by omega) (by omega)) | skip
    refine Ct.imp (R_loads i x M1 (RI_eq e65 (Rl_RI h (by omega))) (by rw [e68]; exact Rl_sr h (by omega))) ?_
    rintro r2 M2 (⟨b0, b1, b2, hb1, hm2⟩ | ⟨bM3, b0, b1, b2, b3, hb1, hm2⟩ | ⟨b0, b1, hb1, hm2⟩ | ⟨b0, hb1, hm2⟩)
    · skip
      try rw [e65] at b0
      try rw [e65] at b1
      try rw [e65] at b2
      exfalso; omega
    · skip
      try rw [e65] at b0
      try rw [e65] at b1
      try rw [e65] at b2
      try rw [e65] at b3
      exfalso; omega
    · skip
      try rw [e65] at b0
      try rw [e65] at b1
      first
      | (exfalso; omega)
      | exact ⟨by rw [ha, hb1], Rl_ref h 0 (by omega) (by rw [← hm2, ← hm]; rfl)⟩
    · skip
      try rw [e65] at b0
      first
      | (exfalso; omega)
      | exact ⟨by rw [ha, hb1], Rl_ref h 0 (by omega) (by rw [← hm2, ← hm]; rfl)⟩
  · skip
    have e64 : M1 64 = M 64 := by rw [← hm]; first | rfl | (rw [up_ne (by decide)]; exact kmM_ne (by decide) (by decide)) | (rw [up_ne (by decide), up_ne (by decide)]; exact kmM_ne (by decide) (by decide))
    have e65 : M1 65 = M 65 := by rw [← hm]; first | rfl | (rw [up_ne (by decide)]; exact kmM_ne (by decide) (by decide)) | (rw [up_ne (by decide), up_ne (by decide)]; exact kmM_ne (by decide) (by decide))
    have e66 : M1 66 = M 66 := by rw [← hm]; first | rfl | (rw [up_ne (by decide)]; exact kmM_ne (by decide) (by decide)) | (rw [up_ne (by decide), up_ne (by decide)]; exact kmM_ne (by decide) (by decide))
    have e67 : M1 67 = M 67 := by rw [← hm]; first | rfl | (rw [up_ne (by decide)]; exact kmM_ne (by decide) (by decide)) | (rw [up_ne (by decide), up_ne (by decide)]; exact kmM_ne (by decide) (by decide))
    have e68 : M1 68 = M 68 := by rw [← hm]; first | rfl | (rw [up_ne (by decide)]; exact kmM_ne (by decide) (by decide)) | (rw [up_ne (by decide), up_ne (by decide)]; exact kmM_ne (by decide) (by decide))
    first | (have fG := Rl_g h (i := i) (by omega) (by omega)) | skip
    refine Ct.imp (R_loads i x M1 (RI_eq e65 (Rl_RI h (by omega))) (by rw [e68]; exact Rl_sr h (by omega))) ?_
    rintro r2 M2 (⟨b0, b1, b2, hb1, hm2⟩ | ⟨bM3, b0, b1, b2, b3, hb1, hm2⟩ | ⟨b0, b1, hb1, hm2⟩ | ⟨b0, hb1, hm2⟩)
    · skip
      try rw [e65] at b0
      try rw [e65] at b1
      try rw [e65] at b2
      exfalso; omega
    · skip
      try rw [e65] at b0
      try rw [e65] at b1
      try rw [e65] at b2
      try rw [e65] at b3
      exfalso; omega
    · skip
      try rw [e65] at b0
      try rw [e65] at b1
      first
      | (exfalso; omega)
      | exact ⟨by rw [ha, hb1], Rl_ref h 0 (by omega) (by rw [← hm2, ← hm]; rfl)⟩
    · skip
      try rw [e65] at b0
      first
      | (exfalso; omega)
      | exact ⟨by rw [ha, hb1], Rl_ref h 0 (by omega) (by rw [← hm2, ← hm]; rfl)⟩
theorem S_sells (f : Int) (s : Int) (M : Mm) (n : Nat) (h : Rl M n) (hn : n < 512) : Same 67 176 [vi f, vi s] M n := by
  obtain ⟨k0, k1, k2, k3, k4, k5, k6, k7, l0, l1, l2, l3, l4⟩ := Rl_c h
  refine Ct.imp (C_sells f s M (Rl_HI h (by omega)) (Rl_st h (by omega))) ?_
  rintro r1 M1 (⟨a0, a1, a2, ha, hm⟩ | ⟨a0, a1, a2, ha, hm⟩ | ⟨a0, a1, ha, hm⟩ | ⟨a0, ha, hm⟩)
  · skip
    have e64 : M1 64 = M 64 := by rw [← hm]; first | rfl | (rw [up_ne (by decide)]; exact kmM_ne (by decide) (by decide)) | (rw [up_ne (by decide), up_ne (by decide)]; exact kmM_ne (by decide) (by decide))
    have e65 : M1 65 = M 65 := by rw [← hm]; first | rfl | (rw [up_ne (by decide)]; exact kmM_ne (by decide) (by decide)) | (rw [up_ne (by decide), up_ne (by decide)]; exact kmM_ne (by decide) (by decide))
    have e66 : M1 66 = M 66 := by rw [← hm]; first | rfl | (rw [up_ne (by decide)]; exact kmM_ne (by decide) (by decide)) | (rw [up_ne (by decide), up_ne (by decide)]; exact kmM_ne (by decide) (by decide))
    have e67 : M1 67 = M 67 := by rw [← hm]; first | rfl | (rw [up_ne (by decide)]; exact kmM_ne (by decide) (by decide)) | (rw [up_ne (by decide), up_ne (by decide)]; exact kmM_ne (by decide) (by decide))
    have e68 : M1 68 = M 68 := by rw [← hm]; first | rfl | (rw [up_ne (by decide)]; exact kmM_ne (by decide) (by decide)) | (rw [up_ne (by decide), up_ne (by decide)]; exact kmM_ne (by decide) (by decide))
    first | (have fF := Rl_f h (f := f) (by omega) (by omega)) | skip
    refine Ct.imp (R_sells f s M1 (RI_eq e65 (Rl_RI h (by omega))) (by rw [e68]; exact Rl_sr h (by omega))) ?_
    rintro r2 M2 (⟨b0, b1, b2, hb1, hm2⟩ | ⟨bM3, b0, b1, b2, b3, hb1, hm2⟩ | ⟨b0, b1, hb1, hm2⟩ | ⟨b0, hb1, hm2⟩)
    · skip
      try rw [e65] at b0
      try rw [e65] at b1
      try rw [e65] at b2
      first
      | (exfalso; omega)
      | exact ⟨by rw [ha, hb1], Rl_ref h 1 (by omega) (by rw [← hm2, ← hm]; rfl)⟩
    · skip
      try rw [e65] at b0
      try rw [e65] at b1
      try rw [e65] at b2
      try rw [e65] at b3
      exfalso; omega
    · skip
      try rw [e65] at b0
      try rw [e65] at b1
      exfalso; omega
    · skip
      try rw [e65] at b0
      exfalso; omega
  · skip
    have e64 : M1 64 = M 64 := by rw [← hm]; first | rfl | (rw [up_ne (by decide)]; exact kmM_ne (by decide) (by decide)) | (rw [up_ne (by decide), up_ne (by decide)]; exact kmM_ne (by decide) (by decide))
    have e65 : M1 65 = M 65 := by rw [← hm]; first | rfl | (rw [up_ne (by decide)]; exact kmM_ne (by decide) (by decide)) | (rw [up_ne (by decide), up_ne (by decide)]; exact kmM_ne (by decide) (by decide))
    have e66 : M1 66 = M 66 := by rw [← hm]; first | rfl | (rw [up_ne (by decide)]; exact kmM_ne (by decide) (by decide)) | (rw [up_ne (by decide), up_ne (by decide)]; exact kmM_ne (by decide) (by decide))
    have e67 : M1 67 = M 67 := by rw [← hm]; first | rfl | (rw [up_ne (by decide)]; exact kmM_ne (by decide) (by decide)) | (rw [up_ne (by decide), up_ne (by decide)]; exact kmM_ne (by decide) (by decide))
    have e68 : M1 68 = M 68 := by rw [← hm]; first | rfl | (rw [up_ne (by decide)]; exact kmM_ne (by decide) (by decide)) | (rw [up_ne (by decide), up_ne (by decide)]; exact kmM_ne (by decide) (by decide))
    first | (have fF := Rl_f h (f := f) (by omega) (by omega)) | skip
    refine Ct.imp (R_sells f s M1 (RI_eq e65 (Rl_RI h (by omega))) (by rw [e68]; exact Rl_sr h (by omega))) ?_
    rintro r2 M2 (⟨b0, b1, b2, hb1, hm2⟩ | ⟨bM3, b0, b1, b2, b3, hb1, hm2⟩ | ⟨b0, b1, hb1, hm2⟩ | ⟨b0, hb1, hm2⟩)
    · skip
      try rw [e65] at b0
      try rw [e65] at b1
      try rw [e65] at b2
      exfalso; omega
    · skip
      try rw [e65] at b0
      try rw [e65] at b1
      try rw [e65] at b2
      try rw [e65] at b3
      first
      | (exfalso; omega)
      | (have bMo := b0
         have hN : M2 6 = (st1 (kmM M 6) (12 + f) s) := by rw [← hm2, up_ne (by decide), bMo.1 6 (by decide), ← hm, up_row]
         have hW : M2 65 = (st1 (bM3 65) (7 + f) s) := by rw [← hm2, up_row]
         have hR : ∀ r, r ≠ 6 → r ≠ 65 → M2 r = kmM M r := fun r z6 z65 => by rw [← hm2, up_ne z65, bMo.1 r z65, ← hm, up_ne z6]
         have k11 : kmM M 1 1 = M 1 1 := kmM_1 (by decide)
         have k10 : kmM M 1 0 = M 1 0 := kmM_1 (by decide)
         have w3 : ∀ x, x < 111 → bM3 65 x = M 65 x := fun x hx => by rw [bMo.2.1 x (by omega), e65]
         refine ⟨?_, Rl_move h (fun r hr => by rw [← hm, up_ne hr]) bMo (fun r hr => by rw [← hm2, up_ne hr, bMo.1 r hr]) (fun x hx => by rw [hW, st1_ne (by omega)]) (fun q => HS_set q (by omega) (hR 1 (by decide) (by decide)) (fun r z1 z2 z3 => hR r z3 (by omega)) (fun x z1 z2 z3 => by rw [hW, st1_ne (by omega)]) ?_ ?_ (fun f' z1 z2 => ?_) (fun j z1 z2 => ?_) (fun j z1 z2 => ?_))⟩
         · rw [ha, hb1, e65]; exact some_vi (by omega)
         · exact Or.inl ⟨by rw [hN, st1_ne (by omega)], by rw [hW, st1_ne (by omega)]⟩
         · exact Or.inl ⟨by rw [hN, st1_ne (by omega)], by rw [hW, st1_ne (by omega)]⟩
         · by_cases e : f' = f
           · exact Or.inr ⟨by rw [hN, st1_eq (by omega)]; omega, by rw [hN, hW, st1_eq (by omega), st1_eq (by omega)]⟩
           · exact Or.inl ⟨by rw [hN, st1_ne (by omega)], by rw [hW, st1_ne (by omega)]⟩
         · exact Or.inl ⟨by rw [hN, st1_ne (by omega)], by rw [hW, st1_ne (by omega)]⟩
         · exact Or.inl ⟨by rw [hN, st1_ne (by omega)], by rw [hW, st1_ne (by omega)]⟩)
    · skip
      try rw [e65] at b0
      try rw [e65] at b1
      exfalso; omega
    · skip
      try rw [e65] at b0
      exfalso; omega
  · skip
    have e64 : M1 64 = M 64 := by rw [← hm]; first | rfl | (rw [up_ne (by decide)]; exact kmM_ne (by decide) (by decide)) | (rw [up_ne (by decide), up_ne (by decide)]; exact kmM_ne (by decide) (by decide))
    have e65 : M1 65 = M 65 := by rw [← hm]; first | rfl | (rw [up_ne (by decide)]; exact kmM_ne (by decide) (by decide)) | (rw [up_ne (by decide), up_ne (by decide)]; exact kmM_ne (by decide) (by decide))
    have e66 : M1 66 = M 66 := by rw [← hm]; first | rfl | (rw [up_ne (by decide)]; exact kmM_ne (by decide) (by decide)) | (rw [up_ne (by decide), up_ne (by decide)]; exact kmM_ne (by decide) (by decide))
    have e67 : M1 67 = M 67 := by rw [← hm]; first | rfl | (rw [up_ne (by decide)]; exact kmM_ne (by decide) (by decide)) | (rw [up_ne (by decide), up_ne (by decide)]; exact kmM_ne (by decide) (by decide))
    have e68 : M1 68 = M 68 := by rw [← hm]; first | rfl | (rw [up_ne (by decide)]; exact kmM_ne (by decide) (by decide)) | (rw [up_ne (by decide), up_ne (by decide)]; exact kmM_ne (by decide) (by decide))
    first | (have fF := Rl_f h (f := f) (by omega) (by omega)) | skip
    refine Ct.imp (R_sells f s M1 (RI_eq e65 (Rl_RI h (by omega))) (by rw [e68]; exact Rl_sr h (by omega))) ?_
    rintro r2 M2 (⟨b0, b1, b2, hb1, hm2⟩ | ⟨bM3, b0, b1, b2, b3, hb1, hm2⟩ | ⟨b0, b1, hb1, hm2⟩ | ⟨b0, hb1, hm2⟩)
    · skip
      try rw [e65] at b0
      try rw [e65] at b1
      try rw [e65] at b2
      exfalso; omega
    · skip
      try rw [e65] at b0
      try rw [e65] at b1
      try rw [e65] at b2
      try rw [e65] at b3
      exfalso; omega
    · skip
      try rw [e65] at b0
      try rw [e65] at b1
      first
      | (exfalso; omega)
      | exact ⟨by rw [ha, hb1], Rl_ref h 0 (by omega) (by rw [← hm2, ← hm]; rfl)⟩
    · skip
      try rw [e65] at b0
      first
      | (exfalso; omega)
      | exact ⟨by rw [ha, hb1], Rl_ref h 0 (by omega) (by rw [← hm2, ← hm]; rfl)⟩
  · skip
    have e64 : M1 64 = M 64 := by rw [← hm]; first | rfl | (rw [up_ne (by decide)]; exact kmM_ne (by decide) (by decide)) | (rw [up_ne (by decide), up_ne (by decide)]; exact kmM_ne (by decide) (by decide))
    have e65 : M1 65 = M 65 := by rw [← hm]; first | rfl | (rw [up_ne (by decide)]; exact kmM_ne (by decide) (by decide)) | (rw [up_ne (by decide), up_ne (by decide)]; exact kmM_ne (by decide) (by decide))
    have e66 : M1 66 = M 66 := by rw [← hm]; first | rfl | (rw [up_ne (by decide)]; exact kmM_ne (by decide) (by decide)) | (rw [up_ne (by decide), up_ne (by decide)]; exact kmM_ne (by decide) (by decide))
    have e67 : M1 67 = M 67 := by rw [← hm]; first | rfl | (rw [up_ne (by decide)]; exact kmM_ne (by decide) (by decide)) | (rw [up_ne (by decide), up_ne (by decide)]; exact kmM_ne (by decide) (by decide))
    have e68 : M1 68 = M 68 := by rw [← hm]; first | rfl | (rw [up_ne (by decide)]; exact kmM_ne (by decide) (by decide)) | (rw [up_ne (by decide), up_ne (by decide)]; exact kmM_ne (by decide) (by decide))
    first | (have fF := Rl_f h (f := f) (by omega) (by omega)) | skip
    refine Ct.imp (R_sells f s M1 (RI_eq e65 (Rl_RI h (by omega))) (by rw [e68]; exact Rl_sr h (by omega))) ?_
    rintro r2 M2 (⟨b0, b1, b2, hb1, hm2⟩ | ⟨bM3, b0, b1, b2, b3, hb1, hm2⟩ | ⟨b0, b1, hb1, hm2⟩ | ⟨b0, hb1, hm2⟩)
    · skip
      try rw [e65] at b0
      try rw [e65] at b1
      try rw [e65] at b2
      exfalso; omega
    · skip
      try rw [e65] at b0
      try rw [e65] at b1
      try rw [e65] at b2
      try rw [e65] at b3
      exfalso; omega
    · skip
      try rw [e65] at b0
      try rw [e65] at b1
      first
      | (exfalso; omega)
      | exact ⟨by rw [ha, hb1], Rl_ref h 0 (by omega) (by rw [← hm2, ← hm]; rfl)⟩
    · skip
      try rw [e65] at b0
      first
      | (exfalso; omega)
      | exact ⟨by rw [ha, hb1], Rl_ref h 0 (by omega) (by rw [← hm2, ← hm]; rfl)⟩
theorem S_hours (hh : Int) (M : Mm) (n : Nat) (h : Rl M n) (hn : n < 512) : Same 68 177 [vi hh] M n := by
  obtain ⟨k0, k1, k2, k3, k4, k5, k6, k7, l0, l1, l2, l3, l4⟩ := Rl_c h
  refine Ct.imp (C_hours hh M (Rl_HI h (by omega)) (Rl_st h (by omega))) ?_
  rintro r1 M1 (⟨a0, ha, hm⟩ | ⟨a0, a1, ha, hm⟩ | ⟨a0, a1, ha, hm⟩)
  · skip
    have e64 : M1 64 = M 64 := by rw [← hm]; first | rfl | (rw [up_ne (by decide)]; exact kmM_ne (by decide) (by decide)) | (rw [up_ne (by decide), up_ne (by decide)]; exact kmM_ne (by decide) (by decide))
    have e65 : M1 65 = M 65 := by rw [← hm]; first | rfl | (rw [up_ne (by decide)]; exact kmM_ne (by decide) (by decide)) | (rw [up_ne (by decide), up_ne (by decide)]; exact kmM_ne (by decide) (by decide))
    have e66 : M1 66 = M 66 := by rw [← hm]; first | rfl | (rw [up_ne (by decide)]; exact kmM_ne (by decide) (by decide)) | (rw [up_ne (by decide), up_ne (by decide)]; exact kmM_ne (by decide) (by decide))
    have e67 : M1 67 = M 67 := by rw [← hm]; first | rfl | (rw [up_ne (by decide)]; exact kmM_ne (by decide) (by decide)) | (rw [up_ne (by decide), up_ne (by decide)]; exact kmM_ne (by decide) (by decide))
    have e68 : M1 68 = M 68 := by rw [← hm]; first | rfl | (rw [up_ne (by decide)]; exact kmM_ne (by decide) (by decide)) | (rw [up_ne (by decide), up_ne (by decide)]; exact kmM_ne (by decide) (by decide))
    refine Ct.imp (R_hours hh M1 (RI_eq e65 (Rl_RI h (by omega))) (by rw [e68]; exact Rl_sr h (by omega))) ?_
    rintro r2 M2 (⟨bM3, b0, b1, hb1, hm2⟩ | ⟨b0, hb1, hm2⟩)
    · skip
      try rw [e65] at b0
      try rw [e65] at b1
      exfalso; omega
    · skip
      try rw [e65] at b0
      first
      | (exfalso; omega)
      | exact ⟨by rw [ha, hb1], Rl_ref h 0 (by omega) (by rw [← hm2, ← hm]; rfl)⟩
  · skip
    have e64 : M1 64 = M 64 := by rw [← hm]; first | rfl | (rw [up_ne (by decide)]; exact kmM_ne (by decide) (by decide)) | (rw [up_ne (by decide), up_ne (by decide)]; exact kmM_ne (by decide) (by decide))
    have e65 : M1 65 = M 65 := by rw [← hm]; first | rfl | (rw [up_ne (by decide)]; exact kmM_ne (by decide) (by decide)) | (rw [up_ne (by decide), up_ne (by decide)]; exact kmM_ne (by decide) (by decide))
    have e66 : M1 66 = M 66 := by rw [← hm]; first | rfl | (rw [up_ne (by decide)]; exact kmM_ne (by decide) (by decide)) | (rw [up_ne (by decide), up_ne (by decide)]; exact kmM_ne (by decide) (by decide))
    have e67 : M1 67 = M 67 := by rw [← hm]; first | rfl | (rw [up_ne (by decide)]; exact kmM_ne (by decide) (by decide)) | (rw [up_ne (by decide), up_ne (by decide)]; exact kmM_ne (by decide) (by decide))
    have e68 : M1 68 = M 68 := by rw [← hm]; first | rfl | (rw [up_ne (by decide)]; exact kmM_ne (by decide) (by decide)) | (rw [up_ne (by decide), up_ne (by decide)]; exact kmM_ne (by decide) (by decide))
    refine Ct.imp (R_hours hh M1 (RI_eq e65 (Rl_RI h (by omega))) (by rw [e68]; exact Rl_sr h (by omega))) ?_
    rintro r2 M2 (⟨bM3, b0, b1, hb1, hm2⟩ | ⟨b0, hb1, hm2⟩)
    · skip
      try rw [e65] at b0
      try rw [e65] at b1
      exfalso; omega
    · skip
      try rw [e65] at b0
      first
      | (exfalso; omega)
      | exact ⟨by rw [ha, hb1], Rl_ref h 0 (by omega) (by rw [← hm2, ← hm]; rfl)⟩
  · skip
    have e64 : M1 64 = M 64 := by rw [← hm]; first | rfl | (rw [up_ne (by decide)]; exact kmM_ne (by decide) (by decide)) | (rw [up_ne (by decide), up_ne (by decide)]; exact kmM_ne (by decide) (by decide))
    have e65 : M1 65 = M 65 := by rw [← hm]; first | rfl | (rw [up_ne (by decide)]; exact kmM_ne (by decide) (by decide)) | (rw [up_ne (by decide), up_ne (by decide)]; exact kmM_ne (by decide) (by decide))
    have e66 : M1 66 = M 66 := by rw [← hm]; first | rfl | (rw [up_ne (by decide)]; exact kmM_ne (by decide) (by decide)) | (rw [up_ne (by decide), up_ne (by decide)]; exact kmM_ne (by decide) (by decide))
    have e67 : M1 67 = M 67 := by rw [← hm]; first | rfl | (rw [up_ne (by decide)]; exact kmM_ne (by decide) (by decide)) | (rw [up_ne (by decide), up_ne (by decide)]; exact kmM_ne (by decide) (by decide))
    have e68 : M1 68 = M 68 := by rw [← hm]; first | rfl | (rw [up_ne (by decide)]; exact kmM_ne (by decide) (by decide)) | (rw [up_ne (by decide), up_ne (by decide)]; exact kmM_ne (by decide) (by decide))
    refine Ct.imp (R_hours hh M1 (RI_eq e65 (Rl_RI h (by omega))) (by rw [e68]; exact Rl_sr h (by omega))) ?_
    rintro r2 M2 (⟨bM3, b0, b1, hb1, hm2⟩ | ⟨b0, hb1, hm2⟩)
    · skip
      try rw [e65] at b0
      try rw [e65] at b1
      first
      | (exfalso; omega)
      | (have bMo := b0
         have hN : M2 6 = (st1 (kmM M 6) 16 (min 9999 ((kmM M) 6 16 + hh))) := by rw [← hm2, up_ne (by decide), bMo.1 6 (by decide), ← hm, up_row]
         have hW : M2 65 = (st1 (bM3 65) 2 (min 9999 (bM3 65 2 + hh))) := by rw [← hm2, up_row]
         have hR : ∀ r, r ≠ 6 → r ≠ 65 → M2 r = kmM M r := fun r z6 z65 => by rw [← hm2, up_ne z65, bMo.1 r z65, ← hm, up_ne z6]
         have k11 : kmM M 1 1 = M 1 1 := kmM_1 (by decide)
         have k10 : kmM M 1 0 = M 1 0 := kmM_1 (by decide)
         have w3 : ∀ x, x < 111 → bM3 65 x = M 65 x := fun x hx => by rw [bMo.2.1 x (by omega), e65]
         refine ⟨?_, Rl_move h (fun r hr => by rw [← hm, up_ne hr]) bMo (fun r hr => by rw [← hm2, up_ne hr, bMo.1 r hr]) (fun x hx => by rw [hW, st1_ne (by omega)]) (fun q => HS_set q (by omega) (hR 1 (by decide) (by decide)) (fun r z1 z2 z3 => hR r z3 (by omega)) (fun x z1 z2 z3 => by rw [hW, st1_ne (by omega)]) ?_ ?_ (fun f z1 z2 => ?_) (fun j z1 z2 => ?_) (fun j z1 z2 => ?_))⟩
         · rw [ha, hb1, km6, w3 2 (by decide)]; exact some_vi (by omega)
         · have y := w3 2 (by decide)
           have y2 : kmM M 6 16 = M 6 16 := by rw [km6]
           exact Or.inr ⟨by rw [hN, st1_at]; omega, by rw [hN, hW, st1_at, st1_at]; omega⟩
         · exact Or.inl ⟨by rw [hN, st1_ne (by omega)], by rw [hW, st1_ne (by omega)]⟩
         · exact Or.inl ⟨by rw [hN, st1_ne (by omega)], by rw [hW, st1_ne (by omega)]⟩
         · exact Or.inl ⟨by rw [hN, st1_ne (by omega)], by rw [hW, st1_ne (by omega)]⟩
         · exact Or.inl ⟨by rw [hN, st1_ne (by omega)], by rw [hW, st1_ne (by omega)]⟩)
    · skip
      try rw [e65] at b0
      exfalso; omega
theorem S_strides (i : Int) (d : Int) (M : Mm) (n : Nat) (h : Rl M n) (hn : n < 512) : Same 64 173 [vi i, vi d] M n := by
  obtain ⟨k0, k1, k2, k3, k4, k5, k6, k7, l0, l1, l2, l3, l4⟩ := Rl_c h
  refine Ct.imp (C_strides i d M (Rl_HI h (by omega)) (Rl_st h (by omega))) ?_
  rintro r1 M1 (⟨a0, a1, ha, hm⟩ | ⟨a0, a1, a2, ha, hm⟩ | ⟨a0, a1, a2, a3, ha, hm⟩ | ⟨a0, a1, a2, a3, a4, ha, hm⟩ | ⟨a0, a1, a2, a3, a4, a5, ha, hm⟩ | ⟨a0, a1, a2, a3, a4, a5, ha, hm⟩ | ⟨a0, ha, hm⟩)
  · skip
    have e64 : M1 64 = M 64 := by rw [← hm]; first | rfl | (rw [up_ne (by decide)]; exact kmM_ne (by decide) (by decide)) | (rw [up_ne (by decide), up_ne (by decide)]; exact kmM_ne (by decide) (by decide))
    have e65 : M1 65 = M 65 := by rw [← hm]; first | rfl | (rw [up_ne (by decide)]; exact kmM_ne (by decide) (by decide)) | (rw [up_ne (by decide), up_ne (by decide)]; exact kmM_ne (by decide) (by decide))
    have e66 : M1 66 = M 66 := by rw [← hm]; first | rfl | (rw [up_ne (by decide)]; exact kmM_ne (by decide) (by decide)) | (rw [up_ne (by decide), up_ne (by decide)]; exact kmM_ne (by decide) (by decide))
    have e67 : M1 67 = M 67 := by rw [← hm]; first | rfl | (rw [up_ne (by decide)]; exact kmM_ne (by decide) (by decide)) | (rw [up_ne (by decide), up_ne (by decide)]; exact kmM_ne (by decide) (by decide))
    have e68 : M1 68 = M 68 := by rw [← hm]; first | rfl | (rw [up_ne (by decide)]; exact kmM_ne (by decide) (by decide)) | (rw [up_ne (by decide), up_ne (by decide)]; exact kmM_ne (by decide) (by decide))
    first | (have fG := Rl_g h (i := i) (by omega) (by omega)) | skip
    first | (have fF := Rl_f h (f := M 5 i) (by omega) (by omega)) | skip
    first | (have sE : sfF (M 3 i) (M 4 i) (M 6 (6 + i)) (M 6 16 % 24) = sfF (M 65 (10 + i)) (M 65 (16 + i)) (M 65 (34 + i)) (M 65 2 % 24) := by rw [fG.1.1, fG.1.2.1, fG.1.2.2.2.2, k3]) | skip
    first | (have sR := sfF_rng (k := M 3 i) (l := M 4 i) (x := M 6 (6 + i)) (t := M 6 16 % 24) (by omega) (by omega)) | skip
    refine Ct.imp (R_strides i d M1 (RI_eq e65 (Rl_RI h (by omega))) (by rw [e68]; exact Rl_sr h (by omega))) ?_
    rintro r2 M2 (⟨b0, b1, b2, hb1, hm2⟩ | ⟨b0, b1, b2, b3, hb1, hm2⟩ | ⟨bM3, b0, b1, b2, b3, b4, b5, hb1, hm2⟩ | ⟨bM3, b0, b1, b2, b3, b4, b5, hb1, hm2⟩ | ⟨b0, b1, hb1, hm2⟩ | ⟨b0, hb1, hm2⟩)
    · skip
      try rw [e65] at b0
      try rw [e65] at b1
      try rw [e65] at b2
      exfalso; omega
    · skip
      try rw [e65] at b0
      try rw [e65] at b1
      try rw [e65] at b2
      try rw [e65] at b3
      exfalso; omega
    · skip
      try rw [e65] at b0
      try rw [e65] at b1
      try rw [e65] at b2
      try rw [e65] at b3
      try rw [e65] at b4
      try rw [e65] at b5
      exfalso; omega
    · skip
      try rw [e65] at b0
      try rw [e65] at b1
      try rw [e65] at b2
      try rw [e65] at b3
      try rw [e65] at b4
      try rw [e65] at b5
      exfalso; omega
    · skip
      try rw [e65] at b0
      try rw [e65] at b1
      first
      | (exfalso; omega)
      | exact ⟨by rw [ha, hb1], Rl_ref h 0 (by omega) (by rw [← hm2, ← hm]; rfl)⟩
    · skip
      try rw [e65] at b0
      first
      | (exfalso; omega)
      | exact ⟨by rw [ha, hb1], Rl_ref h 0 (by omega) (by rw [← hm2, ← hm]; rfl)⟩
  · skip
    have e64 : M1 64 = M 64 := by rw [← hm]; first | rfl | (rw [up_ne (by decide)]; exact kmM_ne (by decide) (by decide)) | (rw [up_ne (by decide), up_ne (by decide)]; exact kmM_ne (by decide) (by decide))
    have e65 : M1 65 = M 65 := by rw [← hm]; first | rfl | (rw [up_ne (by decide)]; exact kmM_ne (by decide) (by decide)) | (rw [up_ne (by decide), up_ne (by decide)]; exact kmM_ne (by decide) (by decide))
    have e66 : M1 66 = M 66 := by rw [← hm]; first | rfl | (rw [up_ne (by decide)]; exact kmM_ne (by decide) (by decide)) | (rw [up_ne (by decide), up_ne (by decide)]; exact kmM_ne (by decide) (by decide))
    have e67 : M1 67 = M 67 := by rw [← hm]; first | rfl | (rw [up_ne (by decide)]; exact kmM_ne (by decide) (by decide)) | (rw [up_ne (by decide), up_ne (by decide)]; exact kmM_ne (by decide) (by decide))
    have e68 : M1 68 = M 68 := by rw [← hm]; first | rfl | (rw [up_ne (by decide)]; exact kmM_ne (by decide) (by decide)) | (rw [up_ne (by decide), up_ne (by decide)]; exact kmM_ne (by decide) (by decide))
    first | (have fG := Rl_g h (i := i) (by omega) (by omega)) | skip
    first | (have fF := Rl_f h (f := M 5 i) (by omega) (by omega)) | skip
    first | (have sE : sfF (M 3 i) (M 4 i) (M 6 (6 + i)) (M 6 16 % 24) = sfF (M 65 (10 + i)) (M 65 (16 + i)) (M 65 (34 + i)) (M 65 2 % 24) := by rw [fG.1.1, fG.1.2.1, fG.1.2.2.2.2, k3]) | skip
    first | (have sR := sfF_rng (k := M 3 i) (l := M 4 i) (x := M 6 (6 + i)) (t := M 6 16 % 24) (by omega) (by omega)) | skip
    refine Ct.imp (R_strides i d M1 (RI_eq e65 (Rl_RI h (by omega))) (by rw [e68]; exact Rl_sr h (by omega))) ?_
    rintro r2 M2 (⟨b0, b1, b2, hb1, hm2⟩ | ⟨b0, b1, b2, b3, hb1, hm2⟩ | ⟨bM3, b0, b1, b2, b3, b4, b5, hb1, hm2⟩ | ⟨bM3, b0, b1, b2, b3, b4, b5, hb1, hm2⟩ | ⟨b0, b1, hb1, hm2⟩ | ⟨b0, hb1, hm2⟩)
    · skip
      try rw [e65] at b0
      try rw [e65] at b1
      try rw [e65] at b2
      exfalso; omega
    · skip
      try rw [e65] at b0
      try rw [e65] at b1
      try rw [e65] at b2
      try rw [e65] at b3
      exfalso; omega
    · skip
      try rw [e65] at b0
      try rw [e65] at b1
      try rw [e65] at b2
      try rw [e65] at b3
      try rw [e65] at b4
      try rw [e65] at b5
      exfalso; omega
    · skip
      try rw [e65] at b0
      try rw [e65] at b1
      try rw [e65] at b2
      try rw [e65] at b3
      try rw [e65] at b4
      try rw [e65] at b5
      exfalso; omega
    · skip
      try rw [e65] at b0
      try rw [e65] at b1
      first
      | (exfalso; omega)
      | exact ⟨by rw [ha, hb1], Rl_ref h 0 (by omega) (by rw [← hm2, ← hm]; rfl)⟩
    · skip
      try rw [e65] at b0
      first
      | (exfalso; omega)
      | exact ⟨by rw [ha, hb1], Rl_ref h 0 (by omega) (by rw [← hm2, ← hm]; rfl)⟩
  · skip
    have e64 : M1 64 = M 64 := by rw [← hm]; first | rfl | (rw [up_ne (by decide)]; exact kmM_ne (by decide) (by decide)) | (rw [up_ne (by decide), up_ne (by decide)]; exact kmM_ne (by decide) (by decide))
    have e65 : M1 65 = M 65 := by rw [← hm]; first | rfl | (rw [up_ne (by decide)]; exact kmM_ne (by decide) (by decide)) | (rw [up_ne (by decide), up_ne (by decide)]; exact kmM_ne (by decide) (by decide))
    have e66 : M1 66 = M 66 := by rw [← hm]; first | rfl | (rw [up_ne (by decide)]; exact kmM_ne (by decide) (by decide)) | (rw [up_ne (by decide), up_ne (by decide)]; exact kmM_ne (by decide) (by decide))
    have e67 : M1 67 = M 67 := by rw [← hm]; first | rfl | (rw [up_ne (by decide)]; exact kmM_ne (by decide) (by decide)) | (rw [up_ne (by decide), up_ne (by decide)]; exact kmM_ne (by decide) (by decide))
    have e68 : M1 68 = M 68 := by rw [← hm]; first | rfl | (rw [up_ne (by decide)]; exact kmM_ne (by decide) (by decide)) | (rw [up_ne (by decide), up_ne (by decide)]; exact kmM_ne (by decide) (by decide))
    first | (have fG := Rl_g h (i := i) (by omega) (by omega)) | skip
    first | (have fF := Rl_f h (f := M 5 i) (by omega) (by omega)) | skip
    first | (have sE : sfF (M 3 i) (M 4 i) (M 6 (6 + i)) (M 6 16 % 24) = sfF (M 65 (10 + i)) (M 65 (16 + i)) (M 65 (34 + i)) (M 65 2 % 24) := by rw [fG.1.1, fG.1.2.1, fG.1.2.2.2.2, k3]) | skip
    first | (have sR := sfF_rng (k := M 3 i) (l := M 4 i) (x := M 6 (6 + i)) (t := M 6 16 % 24) (by omega) (by omega)) | skip
    refine Ct.imp (R_strides i d M1 (RI_eq e65 (Rl_RI h (by omega))) (by rw [e68]; exact Rl_sr h (by omega))) ?_
    rintro r2 M2 (⟨b0, b1, b2, hb1, hm2⟩ | ⟨b0, b1, b2, b3, hb1, hm2⟩ | ⟨bM3, b0, b1, b2, b3, b4, b5, hb1, hm2⟩ | ⟨bM3, b0, b1, b2, b3, b4, b5, hb1, hm2⟩ | ⟨b0, b1, hb1, hm2⟩ | ⟨b0, hb1, hm2⟩)
    · skip
      try rw [e65] at b0
      try rw [e65] at b1
      try rw [e65] at b2
      first
      | (exfalso; omega)
      | exact ⟨by rw [ha, hb1], Rl_ref h 1 (by omega) (by rw [← hm2, ← hm]; rfl)⟩
    · skip
      try rw [e65] at b0
      try rw [e65] at b1
      try rw [e65] at b2
      try rw [e65] at b3
      first
      | (exfalso; omega)
      | exact ⟨by rw [ha, hb1], Rl_ref h 1 (by omega) (by rw [← hm2, ← hm]; rfl)⟩
    · skip
      try rw [e65] at b0
      try rw [e65] at b1
      try rw [e65] at b2
      try rw [e65] at b3
      try rw [e65] at b4
      try rw [e65] at b5
      exfalso; omega
    · skip
      try rw [e65] at b0
      try rw [e65] at b1
      try rw [e65] at b2
      try rw [e65] at b3
      try rw [e65] at b4
      try rw [e65] at b5
      exfalso; omega
    · skip
      try rw [e65] at b0
      try rw [e65] at b1
      exfalso; omega
    · skip
      try rw [e65] at b0
      exfalso; omega
  · skip
    have e64 : M1 64 = M 64 := by rw [← hm]; first | rfl | (rw [up_ne (by decide)]; exact kmM_ne (by decide) (by decide)) | (rw [up_ne (by decide), up_ne (by decide)]; exact kmM_ne (by decide) (by decide))
    have e65 : M1 65 = M 65 := by rw [← hm]; first | rfl | (rw [up_ne (by decide)]; exact kmM_ne (by decide) (by decide)) | (rw [up_ne (by decide), up_ne (by decide)]; exact kmM_ne (by decide) (by decide))
    have e66 : M1 66 = M 66 := by rw [← hm]; first | rfl | (rw [up_ne (by decide)]; exact kmM_ne (by decide) (by decide)) | (rw [up_ne (by decide), up_ne (by decide)]; exact kmM_ne (by decide) (by decide))
    have e67 : M1 67 = M 67 := by rw [← hm]; first | rfl | (rw [up_ne (by decide)]; exact kmM_ne (by decide) (by decide)) | (rw [up_ne (by decide), up_ne (by decide)]; exact kmM_ne (by decide) (by decide))
    have e68 : M1 68 = M 68 := by rw [← hm]; first | rfl | (rw [up_ne (by decide)]; exact kmM_ne (by decide) (by decide)) | (rw [up_ne (by decide), up_ne (by decide)]; exact kmM_ne (by decide) (by decide))
    first | (have fG := Rl_g h (i := i) (by omega) (by omega)) | skip
    first | (have fF := Rl_f h (f := M 5 i) (by omega) (by omega)) | skip
    first | (have sE : sfF (M 3 i) (M 4 i) (M 6 (6 + i)) (M 6 16 % 24) = sfF (M 65 (10 + i)) (M 65 (16 + i)) (M 65 (34 + i)) (M 65 2 % 24) := by rw [fG.1.1, fG.1.2.1, fG.1.2.2.2.2, k3]) | skip
    first | (have sR := sfF_rng (k := M 3 i) (l := M 4 i) (x := M 6 (6 + i)) (t := M 6 16 % 24) (by omega) (by omega)) | skip
    refine Ct.imp (R_strides i d M1 (RI_eq e65 (Rl_RI h (by omega))) (by rw [e68]; exact Rl_sr h (by omega))) ?_
    rintro r2 M2 (⟨b0, b1, b2, hb1, hm2⟩ | ⟨b0, b1, b2, b3, hb1, hm2⟩ | ⟨bM3, b0, b1, b2, b3, b4, b5, hb1, hm2⟩ | ⟨bM3, b0, b1, b2, b3, b4, b5, hb1, hm2⟩ | ⟨b0, b1, hb1, hm2⟩ | ⟨b0, hb1, hm2⟩)
    · skip
      try rw [e65] at b0
      try rw [e65] at b1
      try rw [e65] at b2
      first
      | (exfalso; omega)
      | exact ⟨by rw [ha, hb1], Rl_ref h 1 (by omega) (by rw [← hm2, ← hm]; rfl)⟩
    · skip
      try rw [e65] at b0
      try rw [e65] at b1
      try rw [e65] at b2
      try rw [e65] at b3
      first
      | (exfalso; omega)
      | exact ⟨by rw [ha, hb1], Rl_ref h 1 (by omega) (by rw [← hm2, ← hm]; rfl)⟩
    · skip
      try rw [e65] at b0
      try rw [e65] at b1
      try rw [e65] at b2
      try rw [e65] at b3
      try rw [e65] at b4
      try rw [e65] at b5
      exfalso; omega
    · skip
      try rw [e65] at b0
      try rw [e65] at b1
      try rw [e65] at b2
      try rw [e65] at b3
      try rw [e65] at b4
      try rw [e65] at b5
      exfalso; omega
    · skip
      try rw [e65] at b0
      try rw [e65] at b1
      exfalso; omega
    · skip
      try rw [e65] at b0
      exfalso; omega
  · skip
    have e64 : M1 64 = M 64 := by rw [← hm]; first | rfl | (rw [up_ne (by decide)]; exact kmM_ne (by decide) (by decide)) | (rw [up_ne (by decide), up_ne (by decide)]; exact kmM_ne (by decide) (by decide))
    have e65 : M1 65 = M 65 := by rw [← hm]; first | rfl | (rw [up_ne (by decide)]; exact kmM_ne (by decide) (by decide)) | (rw [up_ne (by decide), up_ne (by decide)]; exact kmM_ne (by decide) (by decide))
    have e66 : M1 66 = M 66 := by rw [← hm]; first | rfl | (rw [up_ne (by decide)]; exact kmM_ne (by decide) (by decide)) | (rw [up_ne (by decide), up_ne (by decide)]; exact kmM_ne (by decide) (by decide))
    have e67 : M1 67 = M 67 := by rw [← hm]; first | rfl | (rw [up_ne (by decide)]; exact kmM_ne (by decide) (by decide)) | (rw [up_ne (by decide), up_ne (by decide)]; exact kmM_ne (by decide) (by decide))
    have e68 : M1 68 = M 68 := by rw [← hm]; first | rfl | (rw [up_ne (by decide)]; exact kmM_ne (by decide) (by decide)) | (rw [up_ne (by decide), up_ne (by decide)]; exact kmM_ne (by decide) (by decide))
    first | (have fG := Rl_g h (i := i) (by omega) (by omega)) | skip
    first | (have fF := Rl_f h (f := M 5 i) (by omega) (by omega)) | skip
    first | (have sE : sfF (M 3 i) (M 4 i) (M 6 (6 + i)) (M 6 16 % 24) = sfF (M 65 (10 + i)) (M 65 (16 + i)) (M 65 (34 + i)) (M 65 2 % 24) := by rw [fG.1.1, fG.1.2.1, fG.1.2.2.2.2, k3]) | skip
    first | (have sR := sfF_rng (k := M 3 i) (l := M 4 i) (x := M 6 (6 + i)) (t := M 6 16 % 24) (by omega) (by omega)) | skip
    refine Ct.imp (R_strides i d M1 (RI_eq e65 (Rl_RI h (by omega))) (by rw [e68]; exact Rl_sr h (by omega))) ?_
    rintro r2 M2 (⟨b0, b1, b2, hb1, hm2⟩ | ⟨b0, b1, b2, b3, hb1, hm2⟩ | ⟨bM3, b0, b1, b2, b3, b4, b5, hb1, hm2⟩ | ⟨bM3, b0, b1, b2, b3, b4, b5, hb1, hm2⟩ | ⟨b0, b1, hb1, hm2⟩ | ⟨b0, hb1, hm2⟩)
    · skip
      try rw [e65] at b0
      try rw [e65] at b1
      try rw [e65] at b2
      exfalso; omega
    · skip
      try rw [e65] at b0
      try rw [e65] at b1
      try rw [e65] at b2
      try rw [e65] at b3
      exfalso; omega
    · skip
      try rw [e65] at b0
      try rw [e65] at b1
      try rw [e65] at b2
      try rw [e65] at b3
      try rw [e65] at b4
      try rw [e65] at b5
      first
      | (exfalso; omega)
      | (have bi := e_bar h a0
         have w3 : ∀ x, x < 111 → bM3 65 x = M 65 x := fun x hx => by rw [b0.2.1 x (by omega), e65]
         have cc :  hb (bb (M 6 (12 + M 5 i)) (bcF (M 2 (M 5 i)) (M 6 16 % 24))) (min 11 (M 6 i + d)) := by have z := a5; rw [km6, km5, km2] at z; exact z
         have cr :  hb (bb (M 6 (12 + M 5 i)) (bcF (M 2 (M 5 i)) (M 6 16 % 24))) (min 11 (M 6 i + d)) := by have z := b5; rw [w3 (22 + i) (by omega), w3 2 (by decide), w3 (28 + i) (by omega), w3 (7 + M 65 (22 + i)) (by omega), w3 (4 + M 65 (22 + i)) (by omega), ← bi.1, ← bi.2, ← fG.1.2.2.2.1, ← k3] at z; exact z
         have bMo := b0
         have hN : M2 6 = (st1 (st1 (kmM M 6) 15 (min 9999 ((kmM M) 6 15 + 1))) i 0) := by rw [← hm2, up_ne (by decide), up_ne (by decide), bMo.1 6 (by decide), ← hm, up_row, up_row]
         have hW : M2 65 = (st1 (st1 (bM3 65) (28 + i) 0) 3 (min 9999 (bM3 65 3 + 1))) := by rw [← hm2, up_row, up_row]
         have hR : ∀ r, r ≠ 6 → r ≠ 65 → M2 r = kmM M r := fun r z6 z65 => by rw [← hm2, up_ne z65, up_ne z65, bMo.1 r z65, ← hm, up_ne z6, up_ne z6]
         have k11 : kmM M 1 1 = M 1 1 := kmM_1 (by decide)
         have k10 : kmM M 1 0 = M 1 0 := kmM_1 (by decide)
         have w3 : ∀ x, x < 111 → bM3 65 x = M 65 x := fun x hx => by rw [bMo.2.1 x (by omega), e65]
         refine ⟨?_, Rl_move h (fun r hr => by rw [← hm, up_ne hr, up_ne hr]) bMo (fun r hr => by rw [← hm2, up_ne hr, up_ne hr, bMo.1 r hr]) (fun x hx => by rw [hW, st1_ne (by omega), st1_ne (by omega)]) (fun q => HS_set q (by omega) (hR 1 (by decide) (by decide)) (fun r z1 z2 z3 => hR r z3 (by omega)) (fun x z1 z2 z3 => by rw [hW, st1_ne (by omega), st1_ne (by omega)]) ?_ ?_ (fun f z1 z2 => ?_) (fun j z1 z2 => ?_) (fun j z1 z2 => ?_))⟩
         · rw [ha, hb1]
         · exact Or.inl ⟨by rw [hN, st1_ne (by omega), st1_ne (by omega)], by rw [hW, st1_ne (by omega), st1_ne (by omega)]⟩
         · have y := w3 3 (by decide)
           have y2 : kmM M 6 15 = M 6 15 := by rw [km6]
           exact Or.inr ⟨by rw [hN, st1_ne (by omega), st1_at]; omega, by rw [hN, hW, st1_ne (by omega), st1_at, st1_at]; omega⟩
         · exact Or.inl ⟨by rw [hN, st1_ne (by omega), st1_ne (by omega)], by rw [hW, st1_ne (by omega), st1_ne (by omega)]⟩
         · by_cases e : j = i
           · exact Or.inr ⟨by rw [hN, st1_eq (by omega)]; decide, by rw [hN, hW, st1_eq (by omega), st1_ne (by omega), st1_eq (by omega)]⟩
           · exact Or.inl ⟨by rw [hN, st1_ne (by omega), st1_ne (by omega)], by rw [hW, st1_ne (by omega), st1_ne (by omega)]⟩
         · exact Or.inl ⟨by rw [hN, st1_ne (by omega), st1_ne (by omega)], by rw [hW, st1_ne (by omega), st1_ne (by omega)]⟩)
    · skip
      try rw [e65] at b0
      try rw [e65] at b1
      try rw [e65] at b2
      try rw [e65] at b3
      try rw [e65] at b4
      try rw [e65] at b5
      first
      | (exfalso; omega)
      | (have bi := e_bar h a0
         have w3 : ∀ x, x < 111 → bM3 65 x = M 65 x := fun x hx => by rw [b0.2.1 x (by omega), e65]
         have cc :  hb (bb (M 6 (12 + M 5 i)) (bcF (M 2 (M 5 i)) (M 6 16 % 24))) (min 11 (M 6 i + d)) := by have z := a5; rw [km6, km5, km2] at z; exact z
         have cr : ¬ hb (bb (M 6 (12 + M 5 i)) (bcF (M 2 (M 5 i)) (M 6 16 % 24))) (min 11 (M 6 i + d)) := by have z := b5; rw [w3 (22 + i) (by omega), w3 2 (by decide), w3 (28 + i) (by omega), w3 (7 + M 65 (22 + i)) (by omega), w3 (4 + M 65 (22 + i)) (by omega), ← bi.1, ← bi.2, ← fG.1.2.2.2.1, ← k3] at z; exact z
         exact absurd cc cr)
    · skip
      try rw [e65] at b0
      try rw [e65] at b1
      exfalso; omega
    · skip
      try rw [e65] at b0
      exfalso; omega
  · skip
    have e64 : M1 64 = M 64 := by rw [← hm]; first | rfl | (rw [up_ne (by decide)]; exact kmM_ne (by decide) (by decide)) | (rw [up_ne (by decide), up_ne (by decide)]; exact kmM_ne (by decide) (by decide))
    have e65 : M1 65 = M 65 := by rw [← hm]; first | rfl | (rw [up_ne (by decide)]; exact kmM_ne (by decide) (by decide)) | (rw [up_ne (by decide), up_ne (by decide)]; exact kmM_ne (by decide) (by decide))
    have e66 : M1 66 = M 66 := by rw [← hm]; first | rfl | (rw [up_ne (by decide)]; exact kmM_ne (by decide) (by decide)) | (rw [up_ne (by decide), up_ne (by decide)]; exact kmM_ne (by decide) (by decide))
    have e67 : M1 67 = M 67 := by rw [← hm]; first | rfl | (rw [up_ne (by decide)]; exact kmM_ne (by decide) (by decide)) | (rw [up_ne (by decide), up_ne (by decide)]; exact kmM_ne (by decide) (by decide))
    have e68 : M1 68 = M 68 := by rw [← hm]; first | rfl | (rw [up_ne (by decide)]; exact kmM_ne (by decide) (by decide)) | (rw [up_ne (by decide), up_ne (by decide)]; exact kmM_ne (by decide) (by decide))
    first | (have fG := Rl_g h (i := i) (by omega) (by omega)) | skip
    first | (have fF := Rl_f h (f := M 5 i) (by omega) (by omega)) | skip
    first | (have sE : sfF (M 3 i) (M 4 i) (M 6 (6 + i)) (M 6 16 % 24) = sfF (M 65 (10 + i)) (M 65 (16 + i)) (M 65 (34 + i)) (M 65 2 % 24) := by rw [fG.1.1, fG.1.2.1, fG.1.2.2.2.2, k3]) | skip
    first | (have sR := sfF_rng (k := M 3 i) (l := M 4 i) (x := M 6 (6 + i)) (t := M 6 16 % 24) (by omega) (by omega)) | skip
    refine Ct.imp (R_strides i d M1 (RI_eq e65 (Rl_RI h (by omega))) (by rw [e68]; exact Rl_sr h (by omega))) ?_
    rintro r2 M2 (⟨b0, b1, b2, hb1, hm2⟩ | ⟨b0, b1, b2, b3, hb1, hm2⟩ | ⟨bM3, b0, b1, b2, b3, b4, b5, hb1, hm2⟩ | ⟨bM3, b0, b1, b2, b3, b4, b5, hb1, hm2⟩ | ⟨b0, b1, hb1, hm2⟩ | ⟨b0, hb1, hm2⟩)
    · skip
      try rw [e65] at b0
      try rw [e65] at b1
      try rw [e65] at b2
      exfalso; omega
    · skip
      try rw [e65] at b0
      try rw [e65] at b1
      try rw [e65] at b2
      try rw [e65] at b3
      exfalso; omega
    · skip
      try rw [e65] at b0
      try rw [e65] at b1
      try rw [e65] at b2
      try rw [e65] at b3
      try rw [e65] at b4
      try rw [e65] at b5
      first
      | (exfalso; omega)
      | (have bi := e_bar h a0
         have w3 : ∀ x, x < 111 → bM3 65 x = M 65 x := fun x hx => by rw [b0.2.1 x (by omega), e65]
         have cc : ¬ hb (bb (M 6 (12 + M 5 i)) (bcF (M 2 (M 5 i)) (M 6 16 % 24))) (min 11 (M 6 i + d)) := by have z := a5; rw [km6, km5, km2] at z; exact z
         have cr :  hb (bb (M 6 (12 + M 5 i)) (bcF (M 2 (M 5 i)) (M 6 16 % 24))) (min 11 (M 6 i + d)) := by have z := b5; rw [w3 (22 + i) (by omega), w3 2 (by decide), w3 (28 + i) (by omega), w3 (7 + M 65 (22 + i)) (by omega), w3 (4 + M 65 (22 + i)) (by omega), ← bi.1, ← bi.2, ← fG.1.2.2.2.1, ← k3] at z; exact z
         exact absurd cr cc)
    · skip
      try rw [e65] at b0
      try rw [e65] at b1
      try rw [e65] at b2
      try rw [e65] at b3
      try rw [e65] at b4
      try rw [e65] at b5
      first
      | (exfalso; omega)
      | (have bi := e_bar h a0
         have w3 : ∀ x, x < 111 → bM3 65 x = M 65 x := fun x hx => by rw [b0.2.1 x (by omega), e65]
         have cc : ¬ hb (bb (M 6 (12 + M 5 i)) (bcF (M 2 (M 5 i)) (M 6 16 % 24))) (min 11 (M 6 i + d)) := by have z := a5; rw [km6, km5, km2] at z; exact z
         have cr : ¬ hb (bb (M 6 (12 + M 5 i)) (bcF (M 2 (M 5 i)) (M 6 16 % 24))) (min 11 (M 6 i + d)) := by have z := b5; rw [w3 (22 + i) (by omega), w3 2 (by decide), w3 (28 + i) (by omega), w3 (7 + M 65 (22 + i)) (by omega), w3 (4 + M 65 (22 + i)) (by omega), ← bi.1, ← bi.2, ← fG.1.2.2.2.1, ← k3] at z; exact z
         have bMo := b0
         have hN : M2 6 = (st1 (kmM M 6) i (min 11 ((kmM M) 6 i + d))) := by rw [← hm2, up_ne (by decide), up_ne (by decide), bMo.1 6 (by decide), ← hm, up_row]
         have hW : M2 65 = (st1 (st1 (bM3 65) (28 + i) (min 11 (bM3 65 (28 + i) + d))) 3 (bM3 65 3)) := by rw [← hm2, up_row, up_row]
         have hR : ∀ r, r ≠ 6 → r ≠ 65 → M2 r = kmM M r := fun r z6 z65 => by rw [← hm2, up_ne z65, up_ne z65, bMo.1 r z65, ← hm, up_ne z6]
         have k11 : kmM M 1 1 = M 1 1 := kmM_1 (by decide)
         have k10 : kmM M 1 0 = M 1 0 := kmM_1 (by decide)
         have w3 : ∀ x, x < 111 → bM3 65 x = M 65 x := fun x hx => by rw [bMo.2.1 x (by omega), e65]
         refine ⟨?_, Rl_move h (fun r hr => by rw [← hm, up_ne hr]) bMo (fun r hr => by rw [← hm2, up_ne hr, up_ne hr, bMo.1 r hr]) (fun x hx => by rw [hW, st1_ne (by omega), st1_ne (by omega)]) (fun q => HS_set q (by omega) (hR 1 (by decide) (by decide)) (fun r z1 z2 z3 => hR r z3 (by omega)) (fun x z1 z2 z3 => by rw [hW, st1_ne (by omega), st1_ne (by omega)]) ?_ ?_ (fun f z1 z2 => ?_) (fun j z1 z2 => ?_) (fun j z1 z2 => ?_))⟩
         · rw [ha, hb1, km6, w3 (28 + i) (by omega)]; exact some_vi (by omega)
         · exact Or.inl ⟨by rw [hN, st1_ne (by omega)], by rw [hW, st1_ne (by omega), st1_ne (by omega)]⟩
         · exact Or.inl ⟨by rw [hN, st1_ne (by omega)], by rw [hW, st1_at]⟩
         · exact Or.inl ⟨by rw [hN, st1_ne (by omega)], by rw [hW, st1_ne (by omega), st1_ne (by omega)]⟩
         · by_cases e : j = i
           · have y := w3 (28 + i) (by omega)
             have y2 : kmM M 6 i = M 6 i := by rw [km6]
             exact Or.inr ⟨by rw [hN, st1_eq (by omega)]; omega, by rw [hN, hW, st1_eq (by omega), st1_ne (by omega), st1_eq (by omega)]; omega⟩
           · exact Or.inl ⟨by rw [hN, st1_ne (by omega)], by rw [hW, st1_ne (by omega), st1_ne (by omega)]⟩
         · exact Or.inl ⟨by rw [hN, st1_ne (by omega)], by rw [hW, st1_ne (by omega), st1_ne (by omega)]⟩)
    · skip
      try rw [e65] at b0
      try rw [e65] at b1
      exfalso; omega
    · skip
      try rw [e65] at b0
      exfalso; omega
  · skip
    have e64 : M1 64 = M 64 := by rw [← hm]; first | rfl | (rw [up_ne (by decide)]; exact kmM_ne (by decide) (by decide)) | (rw [up_ne (by decide), up_ne (by decide)]; exact kmM_ne (by decide) (by decide))
    have e65 : M1 65 = M 65 := by rw [← hm]; first | rfl | (rw [up_ne (by decide)]; exact kmM_ne (by decide) (by decide)) | (rw [up_ne (by decide), up_ne (by decide)]; exact kmM_ne (by decide) (by decide))
    have e66 : M1 66 = M 66 := by rw [← hm]; first | rfl | (rw [up_ne (by decide)]; exact kmM_ne (by decide) (by decide)) | (rw [up_ne (by decide), up_ne (by decide)]; exact kmM_ne (by decide) (by decide))
    have e67 : M1 67 = M 67 := by rw [← hm]; first | rfl | (rw [up_ne (by decide)]; exact kmM_ne (by decide) (by decide)) | (rw [up_ne (by decide), up_ne (by decide)]; exact kmM_ne (by decide) (by decide))
    have e68 : M1 68 = M 68 := by rw [← hm]; first | rfl | (rw [up_ne (by decide)]; exact kmM_ne (by decide) (by decide)) | (rw [up_ne (by decide), up_ne (by decide)]; exact kmM_ne (by decide) (by decide))
    first | (have fG := Rl_g h (i := i) (by omega) (by omega)) | skip
    first | (have fF := Rl_f h (f := M 5 i) (by omega) (by omega)) | skip
    first | (have sE : sfF (M 3 i) (M 4 i) (M 6 (6 + i)) (M 6 16 % 24) = sfF (M 65 (10 + i)) (M 65 (16 + i)) (M 65 (34 + i)) (M 65 2 % 24) := by rw [fG.1.1, fG.1.2.1, fG.1.2.2.2.2, k3]) | skip
    first | (have sR := sfF_rng (k := M 3 i) (l := M 4 i) (x := M 6 (6 + i)) (t := M 6 16 % 24) (by omega) (by omega)) | skip
    refine Ct.imp (R_strides i d M1 (RI_eq e65 (Rl_RI h (by omega))) (by rw [e68]; exact Rl_sr h (by omega))) ?_
    rintro r2 M2 (⟨b0, b1, b2, hb1, hm2⟩ | ⟨b0, b1, b2, b3, hb1, hm2⟩ | ⟨bM3, b0, b1, b2, b3, b4, b5, hb1, hm2⟩ | ⟨bM3, b0, b1, b2, b3, b4, b5, hb1, hm2⟩ | ⟨b0, b1, hb1, hm2⟩ | ⟨b0, hb1, hm2⟩)
    · skip
      try rw [e65] at b0
      try rw [e65] at b1
      try rw [e65] at b2
      exfalso; omega
    · skip
      try rw [e65] at b0
      try rw [e65] at b1
      try rw [e65] at b2
      try rw [e65] at b3
      exfalso; omega
    · skip
      try rw [e65] at b0
      try rw [e65] at b1
      try rw [e65] at b2
      try rw [e65] at b3
      try rw [e65] at b4
      try rw [e65] at b5
      exfalso; omega
    · skip
      try rw [e65] at b0
      try rw [e65] at b1
      try rw [e65] at b2
      try rw [e65] at b3
      try rw [e65] at b4
      try rw [e65] at b5
      exfalso; omega
    · skip
      try rw [e65] at b0
      try rw [e65] at b1
      first
      | (exfalso; omega)
      | exact ⟨by rw [ha, hb1], Rl_ref h 0 (by omega) (by rw [← hm2, ← hm]; rfl)⟩
    · skip
      try rw [e65] at b0
      first
      | (exfalso; omega)
      | exact ⟨by rw [ha, hb1], Rl_ref h 0 (by omega) (by rw [← hm2, ← hm]; rfl)⟩
theorem S_undo (M : Mm) (n : Nat) (h : Rl M n) (hn : n < 512) : Same 69 178 [] M n := by
  obtain ⟨k0, k1, k2, k3, k4, k5, k6, k7, l0, l1, l2, l3, l4⟩ := Rl_c h
  refine Ct.imp (C_undo M (Rl_HI h (by omega)) (Rl_st h (by omega))) ?_
  rintro r1 M1 (⟨a0, ha, hm⟩ | ⟨a0, ha, hm⟩)
  · have cz : ∀ r, r ≠ 1 → r ≠ 6 → M1 r = M r := fun r z1 z6 => by rw [← hm, cp_ne z6, up_ne z1]
    have e65 := cz 65 (by decide) (by decide)
    have e68 := cz 68 (by decide) (by decide)
    refine Ct.imp (R_undo M1 (RI_eq e65 (Rl_RI h (by omega))) (by rw [e68]; exact Rl_sr h (by omega))) ?_
    rintro r2 M2 (⟨b0, hb1, hm2⟩ | ⟨b0, hb1, u1, u2, u3, u4, u5, u6, u7⟩)
    · rw [e65] at b0; exfalso; omega
    · rw [e65] at b0 hb1 u2 u3 u4 u5 u6 u7
      obtain ⟨u, hu⟩ : ∃ u : Int, u = M 65 111 - 1 := ⟨_, rfl⟩
      rw [← hu] at hb1 u3 u4 u5 u6 u7
      have hu2 : M 1 2 - 1 = u := by omega
      have qk := h.2.2.2.2.2.2.2.2.2.2.2 u (by omega) (show u < M 1 2 by omega)
      have z : ∀ r, r ≠ 1 → r ≠ 6 → r ≠ 65 → M2 r = M r := fun r z1 z6 z65 => by rw [u1 r z65, cz r z1 z6]
      have hN : ∀ x, 0 ≤ x → x < 17 → M2 6 x = M 7 (u * 17 + x) := fun x z1 z2 => by rw [u1 6 (by decide), ← hm, cp_in (by omega), up_ne (by decide), hu2, show u * 17 + (x - 0) = u * 17 + x by omega]
      have hH : M2 1 = st1 (M 1) 2 u := by rw [u1 1 (by decide), ← hm, cp_ne (by decide), up_row, hu2]
      refine ⟨?_, Rl_house h (z 0 (by decide) (by decide) (by decide)) (fun r z1 z2 => z r (by omega) (by omega) (by omega)) (LK_eq (z _ (by decide) (by decide) (by decide)) (z _ (by decide) (by decide) (by decide)) (z _ (by decide) (by decide) (by decide)) h.2.2.2.2.1.2.2) (by rw [z 59 (by decide) (by decide) (by decide)]) (z _ (by decide) (by decide) (by decide)) (fun j hj => by rw [z 64 (by decide) (by decide) (by decide)]) (fun j z1 z2 => u2 j (by omega) (by omega) (by omega) (by omega)) (z _ (by decide) (by decide) (by decide)) (z _ (by decide) (by decide) (by decide)) (z _ (by decide) (by decide) (by decide)) (HS_eq (fun _ _ => rfl) (fun _ _ _ => rfl) (by omega) (HS_undo (M := M) (M' := M2) (h := 1) (W := M 65) (W' := M2 65) (o := 0) (b := 200 + n) (u := u) h.2.2.2.2.2 (by omega) ?_ ?_ ?_ (fun j hj => z _ (by omega) (by omega) (by omega)) hN (fun x z1 z2 z3 => u2 x (by omega) (by omega) (by omega) (by omega)) u3 ?_ ?_ (fun f z1 z2 => ?_) (fun i z1 z2 => ⟨?_, ?_⟩)))⟩
      · rw [ha, hb1, cp_in (by omega), up_ne (by decide), hu2, show u * 17 + (16 - 0) = u * 17 + 16 by omega]
        have y : M 7 (u * 17 + 16) = M 65 (112 + 17 * u) := by
          have y1 := qk.2.2.1
          rw [show 0 + 112 + 17 * u = 112 + 17 * u by omega] at y1
          exact y1
        rw [y]
      · rw [hH, st1_ne (by decide)]
      · rw [hH, st1_ne (by decide)]
      · rw [hH, st1_at]
      · rw [show 0 + 112 + 17 * u = 112 + 17 * u by omega]; exact u4
      · rw [show 0 + 112 + 17 * u + 1 = 112 + 17 * u + 1 by omega]; exact u5
      · rw [show 0 + 7 + f = 7 + f by omega, show 0 + 112 + 17 * u + 2 + f = 112 + 17 * u + 2 + f by omega]; exact u6 f z1 z2
      · rw [show 0 + 28 + i = 28 + i by omega, show 0 + 112 + 17 * u + 5 + i = 112 + 17 * u + 5 + i by omega]; exact (u7 i z1 z2).1
      · rw [show 0 + 34 + i = 34 + i by omega, show 0 + 112 + 17 * u + 11 + i = 112 + 17 * u + 11 + i by omega]; exact (u7 i z1 z2).2
  · have e65 : M1 65 = M 65 := by subst hm; rfl
    have e68 : M1 68 = M 68 := by subst hm; rfl
    refine Ct.imp (R_undo M1 (RI_eq e65 (Rl_RI h (by omega))) (by rw [e68]; exact Rl_sr h (by omega))) ?_
    rintro r2 M2 (⟨b0, hb1, hm2⟩ | ⟨b0, -⟩)
    · exact ⟨by rw [ha, hb1], Rl_ref h 1 (by omega) (by rw [← hm2, ← hm]; rfl)⟩
    · rw [e65] at b0; exfalso; omega
