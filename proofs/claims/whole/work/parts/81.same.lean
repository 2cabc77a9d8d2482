/-! members side by side: more that looks only (written by wip/whole/gen81.py) -/
theorem S_part (w : Int) (M : Mm) (n : Nat) (h : Rl M n) (hn : n < 512) : Same 107 213 [vi w] M n := by
  obtain ⟨k0, k1, k2, k3, k4, k5, k6, k7, l0, l1, l2, l3, l4⟩ := Rl_c h
  refine Ct.imp (C_part w M (Rl_HI h (by omega)) (Rl_st h (by omega))) ?_
  rintro r1 M1 (⟨a0, ha, hm⟩ | ⟨a0, a1, ha, hm⟩ | ⟨a0, a1, a2, ha, hm⟩ | ⟨a0, a1, a2, ha, hm⟩)
  · skip
    have e64 : M1 64 = M 64 := by subst hm; rfl
    have e65 : M1 65 = M 65 := by subst hm; rfl
    have e66 : M1 66 = M 66 := by subst hm; rfl
    have e67 : M1 67 = M 67 := by subst hm; rfl
    have e68 : M1 68 = M 68 := by subst hm; rfl
    first | (have fr := h.2.1.1) | skip
    first | (have fr2 := h.2.1.2) | skip
    refine Ct.imp (R_part w M1 (RI_eq e65 (Rl_RI h (by omega))) (by rw [e68]; exact Rl_sr h (by omega))) ?_
    rintro r2 M2 (⟨b0, hb1, hm2⟩ | ⟨b0, b1, hb1, hm2⟩ | ⟨b0, b1, hb1, hm2⟩)
    · skip
      try rw [e65] at b0
      exfalso; omega
    · skip
      try rw [e65] at b0
      try rw [e65] at b1
      exfalso; omega
    · skip
      try rw [e65] at b0
      try rw [e65] at b1
      first
      | (exfalso; omega)
      | exact ⟨by rw [ha, hb1], Rl_ref h 0 (by omega) (by rw [← hm2, ← hm]; rfl)⟩
  · skip
    have e64 : M1 64 = M 64 := by subst hm; rfl
    have e65 : M1 65 = M 65 := by subst hm; rfl
    have e66 : M1 66 = M 66 := by subst hm; rfl
    have e67 : M1 67 = M 67 := by subst hm; rfl
    have e68 : M1 68 = M 68 := by subst hm; rfl
    first | (have fr := h.2.1.1) | skip
    first | (have fr2 := h.2.1.2) | skip
    refine Ct.imp (R_part w M1 (RI_eq e65 (Rl_RI h (by omega))) (by rw [e68]; exact Rl_sr h (by omega))) ?_
    rintro r2 M2 (⟨b0, hb1, hm2⟩ | ⟨b0, b1, hb1, hm2⟩ | ⟨b0, b1, hb1, hm2⟩)
    · skip
      try rw [e65] at b0
      exfalso; omega
    · skip
      try rw [e65] at b0
      try rw [e65] at b1
      exfalso; omega
    · skip
      try rw [e65] at b0
      try rw [e65] at b1
      first
      | (exfalso; omega)
      | exact ⟨by rw [ha, hb1], Rl_ref h 0 (by omega) (by rw [← hm2, ← hm]; rfl)⟩
  · skip
    have e64 : M1 64 = M 64 := by subst hm; rfl
    have e65 : M1 65 = M 65 := by subst hm; rfl
    have e66 : M1 66 = M 66 := by subst hm; rfl
    have e67 : M1 67 = M 67 := by subst hm; rfl
    have e68 : M1 68 = M 68 := by subst hm; rfl
    first | (have fr := h.2.1.1) | skip
    first | (have fr2 := h.2.1.2) | skip
    refine Ct.imp (R_part w M1 (RI_eq e65 (Rl_RI h (by omega))) (by rw [e68]; exact Rl_sr h (by omega))) ?_
    rintro r2 M2 (⟨b0, hb1, hm2⟩ | ⟨b0, b1, hb1, hm2⟩ | ⟨b0, b1, hb1, hm2⟩)
    · skip
      try rw [e65] at b0
      first
      | (exfalso; omega)
      | (refine ⟨?_, Rl_q h (fun r hr => by rw [← hm2, ← hm])⟩
         rw [ha, hb1]
         all_goals try simp only [e64, e65, e66, e67, e68]
         all_goals first
           | rfl
           | (apply congrArg; apply congrArg; omega)
           | (rw [h.2.1.1]) | (rw [h.2.1.2]))
    · skip
      try rw [e65] at b0
      try rw [e65] at b1
      first
      | (exfalso; omega)
      | (refine ⟨?_, Rl_q h (fun r hr => by rw [← hm2, ← hm])⟩
         rw [ha, hb1]
         all_goals try simp only [e64, e65, e66, e67, e68]
         all_goals first
           | rfl
           | (apply congrArg; apply congrArg; omega)
           | (rw [h.2.1.1]) | (rw [h.2.1.2]))
    · skip
      try rw [e65] at b0
      try rw [e65] at b1
      exfalso; omega
  · skip
    have e64 : M1 64 = M 64 := by subst hm; rfl
    have e65 : M1 65 = M 65 := by subst hm; rfl
    have e66 : M1 66 = M 66 := by subst hm; rfl
    have e67 : M1 67 = M 67 := by subst hm; rfl
    have e68 : M1 68 = M 68 := by subst hm; rfl
    first | (have fr := h.2.1.1) | skip
    first | (have fr2 := h.2.1.2) | skip
    refine Ct.imp (R_part w M1 (RI_eq e65 (Rl_RI h (by omega))) (by rw [e68]; exact Rl_sr h (by omega))) ?_
    rintro r2 M2 (⟨b0, hb1, hm2⟩ | ⟨b0, b1, hb1, hm2⟩ | ⟨b0, b1, hb1, hm2⟩)
    · skip
      try rw [e65] at b0
      first
      | (exfalso; omega)
      | (refine ⟨?_, Rl_q h (fun r hr => by rw [← hm2, ← hm])⟩
         rw [ha, hb1]
         all_goals try simp only [e64, e65, e66, e67, e68]
         all_goals first
           | rfl
           | (apply congrArg; apply congrArg; omega)
           | (rw [h.2.1.1]) | (rw [h.2.1.2]))
    · skip
      try rw [e65] at b0
      try rw [e65] at b1
      first
      | (exfalso; omega)
      | (refine ⟨?_, Rl_q h (fun r hr => by rw [← hm2, ← hm])⟩
         rw [ha, hb1]
         all_goals try simp only [e64, e65, e66, e67, e68]
         all_goals first
           | rfl
           | (apply congrArg; apply congrArg; omega)
           | (rw [h.2.1.1]) | (rw [h.2.1.2]))
    · skip
      try rw [e65] at b0
      try rw [e65] at b1
      exfalso; omega
theorem S_of (i : Int) (w : Int) (M : Mm) (n : Nat) (h : Rl M n) (hn : n < 512) : Same 70 179 [vi i, vi w] M n := by
  obtain ⟨k0, k1, k2, k3, k4, k5, k6, k7, l0, l1, l2, l3, l4⟩ := Rl_c h
  refine Ct.imp (C_of i w M (Rl_HI h (by omega)) (Rl_st h (by omega))) ?_
  rintro r1 M1 (⟨a0, a1, ha, hm⟩ | ⟨a0, a1, a2, ha, hm⟩ | ⟨a0, a1, a2, ha, hm⟩ | ⟨a0, ha, hm⟩)
  · skip
    have e64 : M1 64 = M 64 := by subst hm; rfl
    have e65 : M1 65 = M 65 := by subst hm; rfl
    have e66 : M1 66 = M 66 := by subst hm; rfl
    have e67 : M1 67 = M 67 := by subst hm; rfl
    have e68 : M1 68 = M 68 := by subst hm; rfl
    first | (have fG := Rl_g h (i := i) (by omega) (by omega)) | skip
    refine Ct.imp (R_of i w M1 (RI_eq e65 (Rl_RI h (by omega))) (by rw [e68]; exact Rl_sr h (by omega))) ?_
    rintro r2 M2 (⟨b0, b1, hb1, hm2⟩ | ⟨b0, b1, hb1, hm2⟩ | ⟨b0, hb1, hm2⟩)
    · skip
      try rw [e65] at b0
      try rw [e65] at b1
      exfalso; omega
    · skip
      try rw [e65] at b0
      try rw [e65] at b1
      first
      | (exfalso; omega)
      | exact ⟨by rw [ha, hb1], Rl_ref h 0 (by omega) (by rw [← hm2, ← hm]; rfl)⟩
    · skip
      try rw [e65] at b0
      first
      | (exfalso; omega)
      | exact ⟨by rw [ha, hb1], Rl_ref h 0 (by omega) (by rw [← hm2, ← hm]; rfl)⟩
  · skip
    have e64 : M1 64 = M 64 := by subst hm; rfl
    have e65 : M1 65 = M 65 := by subst hm; rfl
    have e66 : M1 66 = M 66 := by subst hm; rfl
    have e67 : M1 67 = M 67 := by subst hm; rfl
    have e68 : M1 68 = M 68 := by subst hm; rfl
    first | (have fG := Rl_g h (i := i) (by omega) (by omega)) | skip
    refine Ct.imp (R_of i w M1 (RI_eq e65 (Rl_RI h (by omega))) (by rw [e68]; exact Rl_sr h (by omega))) ?_
    rintro r2 M2 (⟨b0, b1, hb1, hm2⟩ | ⟨b0, b1, hb1, hm2⟩ | ⟨b0, hb1, hm2⟩)
    · skip
      try rw [e65] at b0
      try rw [e65] at b1
      exfalso; omega
    · skip
      try rw [e65] at b0
      try rw [e65] at b1
      first
      | (exfalso; omega)
      | exact ⟨by rw [ha, hb1], Rl_ref h 0 (by omega) (by rw [← hm2, ← hm]; rfl)⟩
    · skip
      try rw [e65] at b0
      first
      | (exfalso; omega)
      | exact ⟨by rw [ha, hb1], Rl_ref h 0 (by omega) (by rw [← hm2, ← hm]; rfl)⟩
  · skip
    have e64 : M1 64 = M 64 := by subst hm; rfl
    have e65 : M1 65 = M 65 := by subst hm; rfl
    have e66 : M1 66 = M 66 := by subst hm; rfl
    have e67 : M1 67 = M 67 := by subst hm; rfl
    have e68 : M1 68 = M 68 := by subst hm; rfl
    first | (have fG := Rl_g h (i := i) (by omega) (by omega)) | skip
    refine Ct.imp (R_of i w M1 (RI_eq e65 (Rl_RI h (by omega))) (by rw [e68]; exact Rl_sr h (by omega))) ?_
    rintro r2 M2 (⟨b0, b1, hb1, hm2⟩ | ⟨b0, b1, hb1, hm2⟩ | ⟨b0, hb1, hm2⟩)
    · skip
      try rw [e65] at b0
      try rw [e65] at b1
      first
      | (exfalso; omega)
      | (refine ⟨?_, Rl_q h (fun r hr => by rw [← hm2, ← hm])⟩
         rw [ha, hb1]
         all_goals try simp only [e64, e65, e66, e67, e68]
         all_goals first
           | rfl
           | (apply congrArg; apply congrArg; omega)
           | (rw [fG.1.1, fG.1.2.1, fG.1.2.2.1, fG.1.2.2.2.1, fG.1.2.2.2.2, k3]))
    · skip
      try rw [e65] at b0
      try rw [e65] at b1
      exfalso; omega
    · skip
      try rw [e65] at b0
      exfalso; omega
  · skip
    have e64 : M1 64 = M 64 := by subst hm; rfl
    have e65 : M1 65 = M 65 := by subst hm; rfl
    have e66 : M1 66 = M 66 := by subst hm; rfl
    have e67 : M1 67 = M 67 := by subst hm; rfl
    have e68 : M1 68 = M 68 := by subst hm; rfl
    first | (have fG := Rl_g h (i := i) (by omega) (by omega)) | skip
    refine Ct.imp (R_of i w M1 (RI_eq e65 (Rl_RI h (by omega))) (by rw [e68]; exact Rl_sr h (by omega))) ?_
    rintro r2 M2 (⟨b0, b1, hb1, hm2⟩ | ⟨b0, b1, hb1, hm2⟩ | ⟨b0, hb1, hm2⟩)
    · skip
      try rw [e65] at b0
      try rw [e65] at b1
      exfalso; omega
    · skip
      try rw [e65] at b0
      try rw [e65] at b1
      first
      | (exfalso; omega)
      | exact ⟨by rw [ha, hb1], Rl_ref h 0 (by omega) (by rw [← hm2, ← hm]; rfl)⟩
    · skip
      try rw [e65] at b0
      first
      | (exfalso; omega)
      | exact ⟨by rw [ha, hb1], Rl_ref h 0 (by omega) (by rw [← hm2, ← hm]; rfl)⟩
theorem S_about (f : Int) (w : Int) (M : Mm) (n : Nat) (h : Rl M n) (hn : n < 512) : Same 71 181 [vi f, vi w] M n := by
  obtain ⟨k0, k1, k2, k3, k4, k5, k6, k7, l0, l1, l2, l3, l4⟩ := Rl_c h
  refine Ct.imp (C_about f w M (Rl_HI h (by omega)) (Rl_st h (by omega))) ?_
  rintro r1 M1 (⟨a0, a1, ha, hm⟩ | ⟨a0, a1, a2, ha, hm⟩ | ⟨a0, a1, a2, a3, ha, hm⟩ | ⟨a0, a1, a2, a3, a4, ha, hm⟩ | ⟨a0, a1, a2, a3, a4, ha, hm⟩ | ⟨a0, ha, hm⟩)
  · skip
    have e64 : M1 64 = M 64 := by subst hm; rfl
    have e65 : M1 65 = M 65 := by subst hm; rfl
    have e66 : M1 66 = M 66 := by subst hm; rfl
    have e67 : M1 67 = M 67 := by subst hm; rfl
    have e68 : M1 68 = M 68 := by subst hm; rfl
    first | (have fF := Rl_f h (f := f) (by omega) (by omega)) | skip
    refine Ct.imp (R_about f w M1 (RI_eq e65 (Rl_RI h (by omega))) (by rw [e68]; exact Rl_sr h (by omega))) ?_
    rintro r2 M2 (⟨b0, b1, b2, hb1, hm2⟩ | ⟨b0, b1, b2, b3, hb1, hm2⟩ | ⟨b0, b1, b2, b3, hb1, hm2⟩ | ⟨b0, b1, hb1, hm2⟩ | ⟨b0, hb1, hm2⟩)
    · skip
      try rw [e65] at b0
      try rw [e65] at b1
      try rw [e65] at b2
      exfalso; omega
    · skip
      try rw [e65] at b0
      try rw [e65] at b1
      try rw [e65] at b2
      try rw [e65] at b3
      exfalso; omega
    · skip
      try rw [e65] at b0
      try rw [e65] at b1
      try rw [e65] at b2
      try rw [e65] at b3
      exfalso; omega
    · skip
      try rw [e65] at b0
      try rw [e65] at b1
      first
      | (exfalso; omega)
      | exact ⟨by rw [ha, hb1], Rl_ref h 0 (by omega) (by rw [← hm2, ← hm]; rfl)⟩
    · skip
      try rw [e65] at b0
      first
      | (exfalso; omega)
      | exact ⟨by rw [ha, hb1], Rl_ref h 0 (by omega) (by rw [← hm2, ← hm]; rfl)⟩
  · skip
    have e64 : M1 64 = M 64 := by subst hm; rfl
    have e65 : M1 65 = M 65 := by subst hm; rfl
    have e66 : M1 66 = M 66 := by subst hm; rfl
    have e67 : M1 67 = M 67 := by subst hm; rfl
    have e68 : M1 68 = M 68 := by subst hm; rfl
    first | (have fF := Rl_f h (f := f) (by omega) (by omega)) | skip
    refine Ct.imp (R_about f w M1 (RI_eq e65 (Rl_RI h (by omega))) (by rw [e68]; exact Rl_sr h (by omega))) ?_
    rintro r2 M2 (⟨b0, b1, b2, hb1, hm2⟩ | ⟨b0, b1, b2, b3, hb1, hm2⟩ | ⟨b0, b1, b2, b3, hb1, hm2⟩ | ⟨b0, b1, hb1, hm2⟩ | ⟨b0, hb1, hm2⟩)
    · skip
      try rw [e65] at b0
      try rw [e65] at b1
      try rw [e65] at b2
      exfalso; omega
    · skip
      try rw [e65] at b0
      try rw [e65] at b1
      try rw [e65] at b2
      try rw [e65] at b3
      exfalso; omega
    · skip
      try rw [e65] at b0
      try rw [e65] at b1
      try rw [e65] at b2
      try rw [e65] at b3
      exfalso; omega
    · skip
      try rw [e65] at b0
      try rw [e65] at b1
      first
      | (exfalso; omega)
      | exact ⟨by rw [ha, hb1], Rl_ref h 0 (by omega) (by rw [← hm2, ← hm]; rfl)⟩
    · skip
      try rw [e65] at b0
      first
      | (exfalso; omega)
      | exact ⟨by rw [ha, hb1], Rl_ref h 0 (by omega) (by rw [← hm2, ← hm]; rfl)⟩
  · skip
    have e64 : M1 64 = M 64 := by subst hm; rfl
    have e65 : M1 65 = M 65 := by subst hm; rfl
    have e66 : M1 66 = M 66 := by subst hm; rfl
    have e67 : M1 67 = M 67 := by subst hm; rfl
    have e68 : M1 68 = M 68 := by subst hm; rfl
    first | (have fF := Rl_f h (f := f) (by omega) (by omega)) | skip
    refine Ct.imp (R_about f w M1 (RI_eq e65 (Rl_RI h (by omega))) (by rw [e68]; exact Rl_sr h (by omega))) ?_
    rintro r2 M2 (⟨b0, b1, b2, hb1, hm2⟩ | ⟨b0, b1, b2, b3, hb1, hm2⟩ | ⟨b0, b1, b2, b3, hb1, hm2⟩ | ⟨b0, b1, hb1, hm2⟩ | ⟨b0, hb1, hm2⟩)
    · skip
      try rw [e65] at b0
      try rw [e65] at b1
      try rw [e65] at b2
      first
      | (exfalso; omega)
      | (refine ⟨?_, Rl_q h (fun r hr => by rw [← hm2, ← hm])⟩
         rw [ha, hb1]
         all_goals try simp only [e64, e65, e66, e67, e68]
         all_goals first
           | rfl
           | (apply congrArg; apply congrArg; omega)
           | (rw [fF.1, fF.2.1, k3]) | (rw [fF.1]) | (rw [fF.2.1]))
    · skip
      try rw [e65] at b0
      try rw [e65] at b1
      try rw [e65] at b2
      try rw [e65] at b3
      first
      | (exfalso; omega)
      | (refine ⟨?_, Rl_q h (fun r hr => by rw [← hm2, ← hm])⟩
         rw [ha, hb1]
         all_goals try simp only [e64, e65, e66, e67, e68]
         all_goals first
           | rfl
           | (apply congrArg; apply congrArg; omega)
           | (rw [fF.1, fF.2.1, k3]) | (rw [fF.1]) | (rw [fF.2.1]))
    · skip
      try rw [e65] at b0
      try rw [e65] at b1
      try rw [e65] at b2
      try rw [e65] at b3
      first
      | (exfalso; omega)
      | (refine ⟨?_, Rl_q h (fun r hr => by rw [← hm2, ← hm])⟩
         rw [ha, hb1]
         all_goals try simp only [e64, e65, e66, e67, e68]
         all_goals first
           | rfl
           | (apply congrArg; apply congrArg; omega)
           | (rw [fF.1, fF.2.1, k3]) | (rw [fF.1]) | (rw [fF.2.1]))
    · skip
      try rw [e65] at b0
      try rw [e65] at b1
      exfalso; omega
    · skip
      try rw [e65] at b0
      exfalso; omega
  · skip
    have e64 : M1 64 = M 64 := by subst hm; rfl
    have e65 : M1 65 = M 65 := by subst hm; rfl
    have e66 : M1 66 = M 66 := by subst hm; rfl
    have e67 : M1 67 = M 67 := by subst hm; rfl
    have e68 : M1 68 = M 68 := by subst hm; rfl
    first | (have fF := Rl_f h (f := f) (by omega) (by omega)) | skip
    refine Ct.imp (R_about f w M1 (RI_eq e65 (Rl_RI h (by omega))) (by rw [e68]; exact Rl_sr h (by omega))) ?_
    rintro r2 M2 (⟨b0, b1, b2, hb1, hm2⟩ | ⟨b0, b1, b2, b3, hb1, hm2⟩ | ⟨b0, b1, b2, b3, hb1, hm2⟩ | ⟨b0, b1, hb1, hm2⟩ | ⟨b0, hb1, hm2⟩)
    · skip
      try rw [e65] at b0
      try rw [e65] at b1
      try rw [e65] at b2
      first
      | (exfalso; omega)
      | (refine ⟨?_, Rl_q h (fun r hr => by rw [← hm2, ← hm])⟩
         rw [ha, hb1]
         all_goals try simp only [e64, e65, e66, e67, e68]
         all_goals first
           | rfl
           | (apply congrArg; apply congrArg; omega)
           | (rw [fF.1, fF.2.1, k3]) | (rw [fF.1]) | (rw [fF.2.1]))
    · skip
      try rw [e65] at b0
      try rw [e65] at b1
      try rw [e65] at b2
      try rw [e65] at b3
      first
      | (exfalso; omega)
      | (refine ⟨?_, Rl_q h (fun r hr => by rw [← hm2, ← hm])⟩
         rw [ha, hb1]
         all_goals try simp only [e64, e65, e66, e67, e68]
         all_goals first
           | rfl
           | (apply congrArg; apply congrArg; omega)
           | (rw [fF.1, fF.2.1, k3]) | (rw [fF.1]) | (rw [fF.2.1]))
    · skip
      try rw [e65] at b0
      try rw [e65] at b1
      try rw [e65] at b2
      try rw [e65] at b3
      first
      | (exfalso; omega)
      | (refine ⟨?_, Rl_q h (fun r hr => by rw [← hm2, ← hm])⟩
         rw [ha, hb1]
         all_goals try simp only [e64, e65, e66, e67, e68]
         all_goals first
           | rfl
           | (apply congrArg; apply congrArg; omega)
           | (rw [fF.1, fF.2.1, k3]) | (rw [fF.1]) | (rw [fF.2.1]))
    · skip
      try rw [e65] at b0
      try rw [e65] at b1
      exfalso; omega
    · skip
      try rw [e65] at b0
      exfalso; omega
  · skip
    have e64 : M1 64 = M 64 := by subst hm; rfl
    have e65 : M1 65 = M 65 := by subst hm; rfl
    have e66 : M1 66 = M 66 := by subst hm; rfl
    have e67 : M1 67 = M 67 := by subst hm; rfl
    have e68 : M1 68 = M 68 := by subst hm; rfl
    first | (have fF := Rl_f h (f := f) (by omega) (by omega)) | skip
    refine Ct.imp (R_about f w M1 (RI_eq e65 (Rl_RI h (by omega))) (by rw [e68]; exact Rl_sr h (by omega))) ?_
    rintro r2 M2 (⟨b0, b1, b2, hb1, hm2⟩ | ⟨b0, b1, b2, b3, hb1, hm2⟩ | ⟨b0, b1, b2, b3, hb1, hm2⟩ | ⟨b0, b1, hb1, hm2⟩ | ⟨b0, hb1, hm2⟩)
    · skip
      try rw [e65] at b0
      try rw [e65] at b1
      try rw [e65] at b2
      first
      | (exfalso; omega)
      | (refine ⟨?_, Rl_q h (fun r hr => by rw [← hm2, ← hm])⟩
         rw [ha, hb1]
         all_goals try simp only [e64, e65, e66, e67, e68]
         all_goals first
           | rfl
           | (apply congrArg; apply congrArg; omega)
           | (rw [fF.1, fF.2.1, k3]) | (rw [fF.1]) | (rw [fF.2.1]))
    · skip
      try rw [e65] at b0
      try rw [e65] at b1
      try rw [e65] at b2
      try rw [e65] at b3
      first
      | (exfalso; omega)
      | (refine ⟨?_, Rl_q h (fun r hr => by rw [← hm2, ← hm])⟩
         rw [ha, hb1]
         all_goals try simp only [e64, e65, e66, e67, e68]
         all_goals first
           | rfl
           | (apply congrArg; apply congrArg; omega)
           | (rw [fF.1, fF.2.1, k3]) | (rw [fF.1]) | (rw [fF.2.1]))
    · skip
      try rw [e65] at b0
      try rw [e65] at b1
      try rw [e65] at b2
      try rw [e65] at b3
      first
      | (exfalso; omega)
      | (refine ⟨?_, Rl_q h (fun r hr => by rw [← hm2, ← hm])⟩
         rw [ha, hb1]
         all_goals try simp only [e64, e65, e66, e67, e68]
         all_goals first
           | rfl
           | (apply congrArg; apply congrArg; omega)
           | (rw [fF.1, fF.2.1, k3]) | (rw [fF.1]) | (rw [fF.2.1]))
    · skip
      try rw [e65] at b0
      try rw [e65] at b1
      exfalso; omega
    · skip
      try rw [e65] at b0
      exfalso; omega
  · skip
    have e64 : M1 64 = M 64 := by subst hm; rfl
    have e65 : M1 65 = M 65 := by subst hm; rfl
    have e66 : M1 66 = M 66 := by subst hm; rfl
    have e67 : M1 67 = M 67 := by subst hm; rfl
    have e68 : M1 68 = M 68 := by subst hm; rfl
    first | (have fF := Rl_f h (f := f) (by omega) (by omega)) | skip
    refine Ct.imp (R_about f w M1 (RI_eq e65 (Rl_RI h (by omega))) (by rw [e68]; exact Rl_sr h (by omega))) ?_
    rintro r2 M2 (⟨b0, b1, b2, hb1, hm2⟩ | ⟨b0, b1, b2, b3, hb1, hm2⟩ | ⟨b0, b1, b2, b3, hb1, hm2⟩ | ⟨b0, b1, hb1, hm2⟩ | ⟨b0, hb1, hm2⟩)
    · skip
      try rw [e65] at b0
      try rw [e65] at b1
      try rw [e65] at b2
      exfalso; omega
    · skip
      try rw [e65] at b0
      try rw [e65] at b1
      try rw [e65] at b2
      try rw [e65] at b3
      exfalso; omega
    · skip
      try rw [e65] at b0
      try rw [e65] at b1
      try rw [e65] at b2
      try rw [e65] at b3
      exfalso; omega
    · skip
      try rw [e65] at b0
      try rw [e65] at b1
      first
      | (exfalso; omega)
      | exact ⟨by rw [ha, hb1], Rl_ref h 0 (by omega) (by rw [← hm2, ← hm]; rfl)⟩
    · skip
      try rw [e65] at b0
      first
      | (exfalso; omega)
      | exact ⟨by rw [ha, hb1], Rl_ref h 0 (by omega) (by rw [← hm2, ← hm]; rfl)⟩
theorem S_gap (a : Int) (b : Int) (M : Mm) (n : Nat) (h : Rl M n) (hn : n < 512) : Same 96 209 [vi a, vi b] M n := by
  obtain ⟨k0, k1, k2, k3, k4, k5, k6, k7, l0, l1, l2, l3, l4⟩ := Rl_c h
  refine Ct.imp (C_gap a b M (Rl_HI h (by omega)) (Rl_st h (by omega))) ?_
  rintro r1 M1 (⟨a0, a1, a2, ha, hm⟩ | ⟨a0, a1, a2, ha, hm⟩ | ⟨a0, a1, ha, hm⟩ | ⟨a0, ha, hm⟩)
  · skip
    have e64 : M1 64 = M 64 := by subst hm; rfl
    have e65 : M1 65 = M 65 := by subst hm; rfl
    have e66 : M1 66 = M 66 := by subst hm; rfl
    have e67 : M1 67 = M 67 := by subst hm; rfl
    have e68 : M1 68 = M 68 := by subst hm; rfl
    refine Ct.imp (R_gap a b M1 (RI_eq e65 (Rl_RI h (by omega))) (by rw [e68]; exact Rl_sr h (by omega))) ?_
    rintro r2 M2 (⟨b0, hb1, hm2⟩ | ⟨b0, hb1, hm2⟩)
    · skip
      try rw [e65] at b0
      exfalso; omega
    · skip
      try rw [e65] at b0
      first
      | (exfalso; omega)
      | exact ⟨by rw [ha, hb1], Rl_ref h 0 (by omega) (by rw [← hm2, ← hm]; rfl)⟩
  · skip
    have e64 : M1 64 = M 64 := by subst hm; rfl
    have e65 : M1 65 = M 65 := by subst hm; rfl
    have e66 : M1 66 = M 66 := by subst hm; rfl
    have e67 : M1 67 = M 67 := by subst hm; rfl
    have e68 : M1 68 = M 68 := by subst hm; rfl
    refine Ct.imp (R_gap a b M1 (RI_eq e65 (Rl_RI h (by omega))) (by rw [e68]; exact Rl_sr h (by omega))) ?_
    rintro r2 M2 (⟨b0, hb1, hm2⟩ | ⟨b0, hb1, hm2⟩)
    · skip
      try rw [e65] at b0
      first
      | (exfalso; omega)
      | (refine ⟨?_, Rl_q h (fun r hr => by rw [← hm2, ← hm])⟩
         rw [ha, hb1]
         all_goals try simp only [e64, e65, e66, e67, e68]
         all_goals first
           | rfl
           | (apply congrArg; apply congrArg; omega))
    · skip
      try rw [e65] at b0
      exfalso; omega
  · skip
    have e64 : M1 64 = M 64 := by subst hm; rfl
    have e65 : M1 65 = M 65 := by subst hm; rfl
    have e66 : M1 66 = M 66 := by subst hm; rfl
    have e67 : M1 67 = M 67 := by subst hm; rfl
    have e68 : M1 68 = M 68 := by subst hm; rfl
    refine Ct.imp (R_gap a b M1 (RI_eq e65 (Rl_RI h (by omega))) (by rw [e68]; exact Rl_sr h (by omega))) ?_
    rintro r2 M2 (⟨b0, hb1, hm2⟩ | ⟨b0, hb1, hm2⟩)
    · skip
      try rw [e65] at b0
      exfalso; omega
    · skip
      try rw [e65] at b0
      first
      | (exfalso; omega)
      | exact ⟨by rw [ha, hb1], Rl_ref h 0 (by omega) (by rw [← hm2, ← hm]; rfl)⟩
  · skip
    have e64 : M1 64 = M 64 := by subst hm; rfl
    have e65 : M1 65 = M 65 := by subst hm; rfl
    have e66 : M1 66 = M 66 := by subst hm; rfl
    have e67 : M1 67 = M 67 := by subst hm; rfl
    have e68 : M1 68 = M 68 := by subst hm; rfl
    refine Ct.imp (R_gap a b M1 (RI_eq e65 (Rl_RI h (by omega))) (by rw [e68]; exact Rl_sr h (by omega))) ?_
    rintro r2 M2 (⟨b0, hb1, hm2⟩ | ⟨b0, hb1, hm2⟩)
    · skip
      try rw [e65] at b0
      exfalso; omega
    · skip
      try rw [e65] at b0
      first
      | (exfalso; omega)
      | exact ⟨by rw [ha, hb1], Rl_ref h 0 (by omega) (by rw [← hm2, ← hm]; rfl)⟩
theorem e_ov {M : Mm} {n : Nat} (h : Rl M n) : ov (M 6) (M 1 1).toNat = ovR (M 65) (M 1 1).toNat := by
  have key : ∀ m : Nat, (m : Int) ≤ M 1 1 → ov (M 6) m = ovR (M 65) m := by
    intro m
    induction m with
    | zero => intro _; rfl
    | succ m ih =>
      intro hm
      have z := Rl_g h (i := (m : Int)) (by omega) (by omega)
      rw [ov_succ, ovR_succ, ih (by omega), z.1.2.2.2.1]
      have y := z.2.2.2.2.1
      rw [z.1.2.2.2.1] at y
      by_cases e : M 65 (28 + (m : Int)) = 11
      · rw [if_pos (by omega), if_pos e]
      · rw [if_neg (by omega), if_neg e]
  exact key _ (by have := (Rl_c h).2.2.2.2.2.2.2.2.2.1; omega)
theorem e_hm {M : Mm} {n : Nat} (h : Rl M n) (w : Int) : hmF M w = hmR M w := by
  obtain ⟨k0, k1, k2, k3, k4, k5, k6, k7, -⟩ := Rl_c h
  unfold hmF hmR
  rw [e_ov h, ← k0, ← k1, ← k2, ← k3, ← k4, ← k5, ← k6, ← k7, ← h.2.2.2.1.2.1]
theorem hmR_eq {M M1 : Mm} {w : Int} (e64 : M1 64 = M 64) (e65 : M1 65 = M 65) : hmR M1 w = hmR M w := by
  unfold hmR
  rw [e64, e65]
theorem S_count (w : Int) (M : Mm) (n : Nat) (h : Rl M n) (hn : n < 512) : Same 111 219 [vi w] M n := by
  obtain ⟨k0, k1, k2, k3, k4, k5, k6, k7, l0, l1, l2, l3, l4⟩ := Rl_c h
  refine Ct.imp (C_count w M (Rl_HI h (by omega)) (Rl_st h (by omega)) h.2.2.2.1.1) ?_
  rintro r1 M1 (⟨a0, ha, hm⟩ | ⟨a0, a1, ha, hm⟩ | ⟨a0, a1, ha, hm⟩)
  · skip
    have e64 : M1 64 = M 64 := by subst hm; rfl
    have e65 : M1 65 = M 65 := by subst hm; rfl
    have e66 : M1 66 = M 66 := by subst hm; rfl
    have e67 : M1 67 = M 67 := by subst hm; rfl
    have e68 : M1 68 = M 68 := by subst hm; rfl
    refine Ct.imp (R_count w M1 (RI_eq e65 (Rl_RI h (by omega))) (by rw [e68]; exact Rl_sr h (by omega)) (by rw [e64, ← h.2.2.2.1.2.1]; exact h.2.2.2.1.1)) ?_
    rintro r2 M2 (⟨b0, hb1, hm2⟩ | ⟨b0, hb1, hm2⟩)
    · skip
      try rw [e65] at b0
      exfalso; omega
    · skip
      try rw [e65] at b0
      first
      | (exfalso; omega)
      | exact ⟨by rw [ha, hb1], Rl_ref h 0 (by omega) (by rw [← hm2, ← hm]; rfl)⟩
  · skip
    have e64 : M1 64 = M 64 := by subst hm; rfl
    have e65 : M1 65 = M 65 := by subst hm; rfl
    have e66 : M1 66 = M 66 := by subst hm; rfl
    have e67 : M1 67 = M 67 := by subst hm; rfl
    have e68 : M1 68 = M 68 := by subst hm; rfl
    refine Ct.imp (R_count w M1 (RI_eq e65 (Rl_RI h (by omega))) (by rw [e68]; exact Rl_sr h (by omega)) (by rw [e64, ← h.2.2.2.1.2.1]; exact h.2.2.2.1.1)) ?_
    rintro r2 M2 (⟨b0, hb1, hm2⟩ | ⟨b0, hb1, hm2⟩)
    · skip
      try rw [e65] at b0
      exfalso; omega
    · skip
      try rw [e65] at b0
      first
      | (exfalso; omega)
      | exact ⟨by rw [ha, hb1], Rl_ref h 0 (by omega) (by rw [← hm2, ← hm]; rfl)⟩
  · skip
    have e64 : M1 64 = M 64 := by subst hm; rfl
    have e65 : M1 65 = M 65 := by subst hm; rfl
    have e66 : M1 66 = M 66 := by subst hm; rfl
    have e67 : M1 67 = M 67 := by subst hm; rfl
    have e68 : M1 68 = M 68 := by subst hm; rfl
    refine Ct.imp (R_count w M1 (RI_eq e65 (Rl_RI h (by omega))) (by rw [e68]; exact Rl_sr h (by omega)) (by rw [e64, ← h.2.2.2.1.2.1]; exact h.2.2.2.1.1)) ?_
    rintro r2 M2 (⟨b0, hb1, hm2⟩ | ⟨b0, hb1, hm2⟩)
    · skip
      try rw [e65] at b0
      first
      | (exfalso; omega)
      | (refine ⟨?_, Rl_q h (fun r hr => by rw [← hm2, ← hm])⟩
         rw [ha, hb1]
         all_goals try simp only [e64, e65, e66, e67, e68]
         all_goals first
           | rfl
           | (apply congrArg; apply congrArg; omega)
           | (rw [hmR_eq e64 e65, e_hm h w]))
    · skip
      try rw [e65] at b0
      exfalso; omega
theorem S_status (w : Int) (M : Mm) (n : Nat) (h : Rl M n) (hn : n < 512) : Same 110 216 [vi w] M n := by
  obtain ⟨k0, k1, k2, k3, k4, k5, k6, k7, l0, l1, l2, l3, l4⟩ := Rl_c h
  refine Ct.imp (C_status w M (Rl_HI h (by omega)) (Rl_st h (by omega))) ?_
  rintro r1 M1 (⟨a0, ha, hm⟩ | ⟨a0, ha, hm⟩ | ⟨a0, ha, hm⟩ | ⟨a0, ha, hm⟩)
  · skip
    have e64 : M1 64 = M 64 := by subst hm; rfl
    have e65 : M1 65 = M 65 := by subst hm; rfl
    have e66 : M1 66 = M 66 := by subst hm; rfl
    have e67 : M1 67 = M 67 := by subst hm; rfl
    have e68 : M1 68 = M 68 := by subst hm; rfl
    first | (have s0 := h.1.1.1) | skip
    first | (have s1 := h.1.2.1.1) | skip
    first | (have s2 := h.1.2.2.1) | skip
    refine Ct.imp (R_status w M1 (RI_eq e65 (Rl_RI h (by omega))) (by rw [e68]; exact Rl_sr h (by omega))) ?_
    rintro r2 M2 (⟨b0, hb1, hm2⟩ | ⟨b0, hb1, hm2⟩)
    · skip
      try rw [e65] at b0
      first
      | (exfalso; omega)
      | (refine ⟨?_, Rl_q h (fun r hr => by rw [← hm2, ← hm])⟩
         rw [ha, hb1]
         all_goals try simp only [e64, e65, e66, e67, e68]
         all_goals first
           | rfl
           | (apply congrArg; apply congrArg; omega)
           | (rw [a0, h.1.1.1]) | (rw [a0, h.1.2.1.1]) | (rw [a0, h.1.2.2.1]))
    · skip
      try rw [e65] at b0
      exfalso; omega
  · skip
    have e64 : M1 64 = M 64 := by subst hm; rfl
    have e65 : M1 65 = M 65 := by subst hm; rfl
    have e66 : M1 66 = M 66 := by subst hm; rfl
    have e67 : M1 67 = M 67 := by subst hm; rfl
    have e68 : M1 68 = M 68 := by subst hm; rfl
    first | (have s0 := h.1.1.1) | skip
    first | (have s1 := h.1.2.1.1) | skip
    first | (have s2 := h.1.2.2.1) | skip
    refine Ct.imp (R_status w M1 (RI_eq e65 (Rl_RI h (by omega))) (by rw [e68]; exact Rl_sr h (by omega))) ?_
    rintro r2 M2 (⟨b0, hb1, hm2⟩ | ⟨b0, hb1, hm2⟩)
    · skip
      try rw [e65] at b0
      first
      | (exfalso; omega)
      | (refine ⟨?_, Rl_q h (fun r hr => by rw [← hm2, ← hm])⟩
         rw [ha, hb1]
         all_goals try simp only [e64, e65, e66, e67, e68]
         all_goals first
           | rfl
           | (apply congrArg; apply congrArg; omega)
           | (rw [a0, h.1.1.1]) | (rw [a0, h.1.2.1.1]) | (rw [a0, h.1.2.2.1]))
    · skip
      try rw [e65] at b0
      exfalso; omega
  · skip
    have e64 : M1 64 = M 64 := by subst hm; rfl
    have e65 : M1 65 = M 65 := by subst hm; rfl
    have e66 : M1 66 = M 66 := by subst hm; rfl
    have e67 : M1 67 = M 67 := by subst hm; rfl
    have e68 : M1 68 = M 68 := by subst hm; rfl
    first | (have s0 := h.1.1.1) | skip
    first | (have s1 := h.1.2.1.1) | skip
    first | (have s2 := h.1.2.2.1) | skip
    refine Ct.imp (R_status w M1 (RI_eq e65 (Rl_RI h (by omega))) (by rw [e68]; exact Rl_sr h (by omega))) ?_
    rintro r2 M2 (⟨b0, hb1, hm2⟩ | ⟨b0, hb1, hm2⟩)
    · skip
      try rw [e65] at b0
      first
      | (exfalso; omega)
      | (refine ⟨?_, Rl_q h (fun r hr => by rw [← hm2, ← hm])⟩
         rw [ha, hb1]
         all_goals try simp only [e64, e65, e66, e67, e68]
         all_goals first
           | rfl
           | (apply congrArg; apply congrArg; omega)
           | (rw [a0, h.1.1.1]) | (rw [a0, h.1.2.1.1]) | (rw [a0, h.1.2.2.1]))
    · skip
      try rw [e65] at b0
      exfalso; omega
  · skip
    have e64 : M1 64 = M 64 := by subst hm; rfl
    have e65 : M1 65 = M 65 := by subst hm; rfl
    have e66 : M1 66 = M 66 := by subst hm; rfl
    have e67 : M1 67 = M 67 := by subst hm; rfl
    have e68 : M1 68 = M 68 := by subst hm; rfl
    first | (have s0 := h.1.1.1) | skip
    first | (have s1 := h.1.2.1.1) | skip
    first | (have s2 := h.1.2.2.1) | skip
    refine Ct.imp (R_status w M1 (RI_eq e65 (Rl_RI h (by omega))) (by rw [e68]; exact Rl_sr h (by omega))) ?_
    rintro r2 M2 (⟨b0, hb1, hm2⟩ | ⟨b0, hb1, hm2⟩)
    · skip
      try rw [e65] at b0
      exfalso; omega
    · skip
      try rw [e65] at b0
      first
      | (exfalso; omega)
      | exact ⟨by rw [ha, hb1], Rl_ref h 0 (by omega) (by rw [← hm2, ← hm]; rfl)⟩
