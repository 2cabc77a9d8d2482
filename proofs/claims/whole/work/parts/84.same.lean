/-! members side by side: what comes to a tenement (written by wip/whole/gen84.py) -/
theorem S_flight (kd : Int) (s : Int) (M : Mm) (n : Nat) (h : Rl M n) (hn : n < 512) : Same 59 150 [vi kd, vi s] M n := by
  obtain ⟨k0, k1, k2, k3, k4, k5, k6, k7, l0, l1, l2, l3, l4⟩ := Rl_c h
  refine Ct.imp (C_flight kd s M (Rl_HI h (by omega)) (Rl_st h (by omega))) ?_
  rintro r1 M1 (⟨a0, a1, a2, ha, hm⟩ | ⟨a0, a1, a2, ha, hm⟩ | ⟨a0, a1, ha, hm⟩ | ⟨a0, ha, hm⟩)
  · skip
    have e64 : M1 64 = M 64 := by subst hm; rfl
    have e65 : M1 65 = M 65 := by subst hm; rfl
    have e66 : M1 66 = M 66 := by subst hm; rfl
    have e67 : M1 67 = M 67 := by subst hm; rfl
    have e68 : M1 68 = M 68 := by subst hm; rfl
    refine Ct.imp (R_flight kd s M1 (RI_eq e65 (Rl_RI h (by omega))) (by rw [e68]; exact Rl_sr h (by omega))) ?_
    rintro r2 M2 (⟨b0, b1, b2, hb1, hm2⟩ | ⟨b0, b1, b2, hb1, hm2⟩ | ⟨b0, b1, hb1, hm2⟩ | ⟨b0, hb1, hm2⟩)
    · skip
      try rw [e65] at b0
      try rw [e65] at b1
      try rw [e65] at b2
      exfalso; omega
    · skip
      try rw [e65] at b0
      try rw [e65] at b1
      try rw [e65] at b2
      first
      | (exfalso; omega)
      | (have hM : (up (up (up (up (up (up (up (up M 2 (M 1 0) kd) 6 (12 + (M 1 0)) s) 1 0 ((M 1 0) + 1)) 1 2 0) 65 (4 + (M 65 0)) kd) 65 (7 + (M 65 0)) s) 65 0 ((M 65 0) + 1)) 65 111 0) = M2 := by rw [← hm2, ← hm]; rfl
         have hW : M2 65 = (st1 (st1 (st1 (st1 (M 65) (4 + M 65 0) kd) (7 + M 65 0) s) 0 (M 65 0 + 1)) 111 0) := by rw [← hM]; funext x; simp [up, st1]
         have hK : M2 2 = st1 (M 2) (M 1 0) kd := by rw [← hM]; funext x; simp [up, st1]
         have hN : M2 6 = st1 (M 6) (12 + M 1 0) s := by rw [← hM]; funext x; simp [up, st1]
         have hH : M2 1 = st1 (st1 (M 1) 0 (M 1 0 + 1)) 2 0 := by rw [← hM]; funext x; simp [up, st1]
         have hz : ∀ r, r ≠ 1 → r ≠ 2 → r ≠ 6 → r ≠ 65 → M2 r = M r := fun r z1 z2 z3 z4 => by rw [← hM, up_ne z4, up_ne z4, up_ne z4, up_ne z4, up_ne z1, up_ne z1, up_ne z3, up_ne z2]
         refine ⟨by rw [ha, hb1, e65]; exact some_vi (by omega), Rl_house h (hz 0 (by decide) (by decide) (by decide) (by decide)) (fun r z1 z2 => hz r (by omega) (by omega) (by omega) (by omega)) (LK_eq (hz _ (by decide) (by decide) (by decide) (by decide)) (hz _ (by decide) (by decide) (by decide) (by decide)) (hz _ (by decide) (by decide) (by decide) (by decide)) h.2.2.2.2.1.2.2) (by rw [hz 59 (by decide) (by decide) (by decide) (by decide)]) (hz _ (by decide) (by decide) (by decide) (by decide)) (fun j hj => by rw [hz 64 (by decide) (by decide) (by decide) (by decide)]) (fun j z1 z2 => by rw [hW, st1_ne (by omega), st1_ne (by omega), st1_ne (by omega), st1_ne (by omega)]) (hz _ (by decide) (by decide) (by decide) (by decide)) (hz _ (by decide) (by decide) (by decide) (by decide)) (hz _ (by decide) (by decide) (by decide) (by decide)) (HS_eq (fun _ _ => rfl) (fun _ _ _ => rfl) (by omega) (HS_flight (M := M) (M' := M2) (h := 1) (W := M 65) (W' := M2 65) (o := 0) (b := 200 + n) (k := kd) (s := s) h.2.2.2.2.2 (by omega) (by omega) (by omega) ?_ ?_ ?_ (fun j hj => ?_) ?_ (fun j hj => ?_) ?_ (fun j hj => hz _ (by omega) (by omega) (by omega) (by omega)) ?_ ?_ ?_ ?_ (fun x z1 z2 z3 => ?_)))⟩
         · rw [hH]; rfl
         · rw [hH]; rfl
         · rw [hH]; rfl
         · show M2 2 j = M 2 j
           rw [hK, st1_ne hj]
         · show M2 2 (M 1 0) = kd
           rw [hK, st1_at]
         · show M2 6 j = M 6 j
           rw [hN, st1_ne hj]
         · show M2 6 (12 + M 1 0) = s
           rw [hN, st1_at]
         · rw [hW, st1_ne (by omega), st1_eq (by omega)]; omega
         · rw [hW, st1_ne (by omega), st1_ne (by omega), st1_ne (by omega), st1_eq (by omega)]
         · rw [hW, st1_ne (by omega), st1_ne (by omega), st1_eq (by omega)]
         · rw [hW, st1_eq (by omega)]
         · rw [hW, st1_ne (by omega), st1_ne (by omega), st1_ne (by omega), st1_ne (by omega)])
    · skip
      try rw [e65] at b0
      try rw [e65] at b1
      exfalso; omega
    · skip
      try rw [e65] at b0
      exfalso; omega
  · skip
    have e64 : M1 64 = M 64 := by subst hm; rfl
    have e65 : M1 65 = M 65 := by subst hm; rfl
    have e66 : M1 66 = M 66 := by subst hm; rfl
    have e67 : M1 67 = M 67 := by subst hm; rfl
    have e68 : M1 68 = M 68 := by subst hm; rfl
    refine Ct.imp (R_flight kd s M1 (RI_eq e65 (Rl_RI h (by omega))) (by rw [e68]; exact Rl_sr h (by omega))) ?_
    rintro r2 M2 (⟨b0, b1, b2, hb1, hm2⟩ | ⟨b0, b1, b2, hb1, hm2⟩ | ⟨b0, b1, hb1, hm2⟩ | ⟨b0, hb1, hm2⟩)
    · skip
      try rw [e65] at b0
      try rw [e65] at b1
      try rw [e65] at b2
      first
      | (exfalso; omega)
      | exact ⟨by rw [ha, hb1], Rl_ref h 2 (by omega) (by rw [← hm2, ← hm]; rfl)⟩
    · skip
      try rw [e65] at b0
      try rw [e65] at b1
      try rw [e65] at b2
      exfalso; omega
    · skip
      try rw [e65] at b0
      try rw [e65] at b1
      exfalso; omega
    · skip
      try rw [e65] at b0
      exfalso; omega
  · skip
    have e64 : M1 64 = M 64 := by subst hm; rfl
    have e65 : M1 65 = M 65 := by subst hm; rfl
    have e66 : M1 66 = M 66 := by subst hm; rfl
    have e67 : M1 67 = M 67 := by subst hm; rfl
    have e68 : M1 68 = M 68 := by subst hm; rfl
    refine Ct.imp (R_flight kd s M1 (RI_eq e65 (Rl_RI h (by omega))) (by rw [e68]; exact Rl_sr h (by omega))) ?_
    rintro r2 M2 (⟨b0, b1, b2, hb1, hm2⟩ | ⟨b0, b1, b2, hb1, hm2⟩ | ⟨b0, b1, hb1, hm2⟩ | ⟨b0, hb1, hm2⟩)
    · skip
      try rw [e65] at b0
      try rw [e65] at b1
      try rw [e65] at b2
      exfalso; omega
    · skip
      try rw [e65] at b0
      try rw [e65] at b1
      try rw [e65] at b2
      exfalso; omega
    · skip
      try rw [e65] at b0
      try rw [e65] at b1
      first
      | (exfalso; omega)
      | exact ⟨by rw [ha, hb1], Rl_ref h 0 (by omega) (by rw [← hm2, ← hm]; rfl)⟩
    · skip
      try rw [e65] at b0
      first
      | (exfalso; omega)
      | exact ⟨by rw [ha, hb1], Rl_ref h 0 (by omega) (by rw [← hm2, ← hm]; rfl)⟩
  · skip
    have e64 : M1 64 = M 64 := by subst hm; rfl
    have e65 : M1 65 = M 65 := by subst hm; rfl
    have e66 : M1 66 = M 66 := by subst hm; rfl
    have e67 : M1 67 = M 67 := by subst hm; rfl
    have e68 : M1 68 = M 68 := by subst hm; rfl
    refine Ct.imp (R_flight kd s M1 (RI_eq e65 (Rl_RI h (by omega))) (by rw [e68]; exact Rl_sr h (by omega))) ?_
    rintro r2 M2 (⟨b0, b1, b2, hb1, hm2⟩ | ⟨b0, b1, b2, hb1, hm2⟩ | ⟨b0, b1, hb1, hm2⟩ | ⟨b0, hb1, hm2⟩)
    · skip
      try rw [e65] at b0
      try rw [e65] at b1
      try rw [e65] at b2
      exfalso; omega
    · skip
      try rw [e65] at b0
      try rw [e65] at b1
      try rw [e65] at b2
      exfalso; omega
    · skip
      try rw [e65] at b0
      try rw [e65] at b1
      first
      | (exfalso; omega)
      | exact ⟨by rw [ha, hb1], Rl_ref h 0 (by omega) (by rw [← hm2, ← hm]; rfl)⟩
    · skip
      try rw [e65] at b0
      first
      | (exfalso; omega)
      | exact ⟨by rw [ha, hb1], Rl_ref h 0 (by omega) (by rw [← hm2, ← hm]; rfl)⟩
theorem S_goer (kd : Int) (lg : Int) (f : Int) (M : Mm) (n : Nat) (h : Rl M n) (hn : n < 512) : Same 60 152 [vi kd, vi lg, vi f] M n := by
  obtain ⟨k0, k1, k2, k3, k4, k5, k6, k7, l0, l1, l2, l3, l4⟩ := Rl_c h
  refine Ct.imp (C_goer kd lg f M (Rl_HI h (by omega)) (Rl_st h (by omega))) ?_
  rintro r1 M1 (⟨a0, a1, ha, hm⟩ | ⟨a0, a1, a2, ha, hm⟩ | ⟨a0, a1, a2, a3, a4, ha, hm⟩ | ⟨a0, a1, a2, a3, a4, ha, hm⟩ | ⟨a0, a1, a2, a3, ha, hm⟩ | ⟨a0, ha, hm⟩)
  · skip
    have e64 : M1 64 = M 64 := by subst hm; rfl
    have e65 : M1 65 = M 65 := by subst hm; rfl
    have e66 : M1 66 = M 66 := by subst hm; rfl
    have e67 : M1 67 = M 67 := by subst hm; rfl
    have e68 : M1 68 = M 68 := by subst hm; rfl
    refine Ct.imp (R_goer kd lg f M1 (RI_eq e65 (Rl_RI h (by omega))) (by rw [e68]; exact Rl_sr h (by omega))) ?_
    rintro r2 M2 (⟨b0, b1, b2, b3, hb1, hm2⟩ | ⟨b0, b1, b2, b3, hb1, hm2⟩ | ⟨b0, b1, b2, hb1, hm2⟩ | ⟨b0, b1, hb1, hm2⟩ | ⟨b0, hb1, hm2⟩)
    · skip
      try rw [e65] at b0
      try rw [e65] at b1
      try rw [e65] at b2
      try rw [e65] at b3
      exfalso; omega
    · skip
      try rw [e65] at b0
      try rw [e65] at b1
      try rw [e65] at b2
      try rw [e65] at b3
      exfalso; omega
    · skip
      try rw [e65] at b0
      try rw [e65] at b1
      try rw [e65] at b2
      first
      | (exfalso; omega)
      | exact ⟨by rw [ha, hb1], Rl_ref h 0 (by omega) (by rw [← hm2, ← hm]; rfl)⟩
    · skip
      try rw [e65] at b0
      try rw [e65] at b1
      first
      | (exfalso; omega)
      | exact ⟨by rw [ha, hb1], Rl_ref h 0 (by omega) (by rw [← hm2, ← hm]; rfl)⟩
    · skip
      try rw [e65] at b0
      first
      | (exfalso; omega)
      | exact ⟨by rw [ha, hb1], Rl_ref h 0 (by omega) (by rw [← hm2, ← hm]; rfl)⟩
  · skip
    have e64 : M1 64 = M 64 := by subst hm; rfl
    have e65 : M1 65 = M 65 := by subst hm; rfl
    have e66 : M1 66 = M 66 := by subst hm; rfl
    have e67 : M1 67 = M 67 := by subst hm; rfl
    have e68 : M1 68 = M 68 := by subst hm; rfl
    refine Ct.imp (R_goer kd lg f M1 (RI_eq e65 (Rl_RI h (by omega))) (by rw [e68]; exact Rl_sr h (by omega))) ?_
    rintro r2 M2 (⟨b0, b1, b2, b3, hb1, hm2⟩ | ⟨b0, b1, b2, b3, hb1, hm2⟩ | ⟨b0, b1, b2, hb1, hm2⟩ | ⟨b0, b1, hb1, hm2⟩ | ⟨b0, hb1, hm2⟩)
    · skip
      try rw [e65] at b0
      try rw [e65] at b1
      try rw [e65] at b2
      try rw [e65] at b3
      exfalso; omega
    · skip
      try rw [e65] at b0
      try rw [e65] at b1
      try rw [e65] at b2
      try rw [e65] at b3
      exfalso; omega
    · skip
      try rw [e65] at b0
      try rw [e65] at b1
      try rw [e65] at b2
      first
      | (exfalso; omega)
      | exact ⟨by rw [ha, hb1], Rl_ref h 0 (by omega) (by rw [← hm2, ← hm]; rfl)⟩
    · skip
      try rw [e65] at b0
      try rw [e65] at b1
      first
      | (exfalso; omega)
      | exact ⟨by rw [ha, hb1], Rl_ref h 0 (by omega) (by rw [← hm2, ← hm]; rfl)⟩
    · skip
      try rw [e65] at b0
      first
      | (exfalso; omega)
      | exact ⟨by rw [ha, hb1], Rl_ref h 0 (by omega) (by rw [← hm2, ← hm]; rfl)⟩
  · skip
    have e64 : M1 64 = M 64 := by subst hm; rfl
    have e65 : M1 65 = M 65 := by subst hm; rfl
    have e66 : M1 66 = M 66 := by subst hm; rfl
    have e67 : M1 67 = M 67 := by subst hm; rfl
    have e68 : M1 68 = M 68 := by subst hm; rfl
    refine Ct.imp (R_goer kd lg f M1 (RI_eq e65 (Rl_RI h (by omega))) (by rw [e68]; exact Rl_sr h (by omega))) ?_
    rintro r2 M2 (⟨b0, b1, b2, b3, hb1, hm2⟩ | ⟨b0, b1, b2, b3, hb1, hm2⟩ | ⟨b0, b1, b2, hb1, hm2⟩ | ⟨b0, b1, hb1, hm2⟩ | ⟨b0, hb1, hm2⟩)
    · skip
      try rw [e65] at b0
      try rw [e65] at b1
      try rw [e65] at b2
      try rw [e65] at b3
      exfalso; omega
    · skip
      try rw [e65] at b0
      try rw [e65] at b1
      try rw [e65] at b2
      try rw [e65] at b3
      first
      | (exfalso; omega)
      | (have hM : (up (up (up (up (up (up (up (up (up (up (up (up (up (up M 3 (M 1 1) kd) 4 (M 1 1) lg) 5 (M 1 1) f) 6 (M 1 1) 0) 6 (6 + (M 1 1)) 0) 1 1 ((M 1 1) + 1)) 1 2 0) 65 (10 + (M 65 1)) kd) 65 (16 + (M 65 1)) lg) 65 (22 + (M 65 1)) f) 65 (28 + (M 65 1)) 0) 65 (34 + (M 65 1)) 0) 65 1 ((M 65 1) + 1)) 65 111 0) = M2 := by rw [← hm2, ← hm]; rfl
         have hW : M2 65 = (st1 (st1 (st1 (st1 (st1 (st1 (st1 (M 65) (10 + M 65 1) kd) (16 + M 65 1) lg) (22 + M 65 1) f) (28 + M 65 1) 0) (34 + M 65 1) 0) 1 (M 65 1 + 1)) 111 0) := by rw [← hM]; funext x; simp [up, st1]
         have hG : M2 3 = st1 (M 3) (M 1 1) kd := by rw [← hM]; funext x; simp [up, st1]
         have hL : M2 4 = st1 (M 4) (M 1 1) lg := by rw [← hM]; funext x; simp [up, st1]
         have hF : M2 5 = st1 (M 5) (M 1 1) f := by rw [← hM]; funext x; simp [up, st1]
         have hN : M2 6 = st1 (st1 (M 6) (M 1 1) 0) (6 + M 1 1) 0 := by rw [← hM]; funext x; simp [up, st1]
         have hH : M2 1 = st1 (st1 (M 1) 1 (M 1 1 + 1)) 2 0 := by rw [← hM]; funext x; simp [up, st1]
         have hz : ∀ r, r ≠ 1 → r ≠ 3 → r ≠ 4 → r ≠ 5 → r ≠ 6 → r ≠ 65 → M2 r = M r := fun r z1 z2 z3 z4 z5 z6 => by rw [← hM, up_ne z6, up_ne z6, up_ne z6, up_ne z6, up_ne z6, up_ne z6, up_ne z6, up_ne z1, up_ne z1, up_ne z5, up_ne z5, up_ne z4, up_ne z3, up_ne z2]
         refine ⟨by rw [ha, hb1, e65]; exact some_vi (by omega), Rl_house h (hz 0 (by decide) (by decide) (by decide) (by decide) (by decide) (by decide)) (fun r z1 z2 => hz r (by omega) (by omega) (by omega) (by omega) (by omega) (by omega)) (LK_eq (hz _ (by decide) (by decide) (by decide) (by decide) (by decide) (by decide)) (hz _ (by decide) (by decide) (by decide) (by decide) (by decide) (by decide)) (hz _ (by decide) (by decide) (by decide) (by decide) (by decide) (by decide)) h.2.2.2.2.1.2.2) (by rw [hz 59 (by decide) (by decide) (by decide) (by decide) (by decide) (by decide)]) (hz _ (by decide) (by decide) (by decide) (by decide) (by decide) (by decide)) (fun j hj => by rw [hz 64 (by decide) (by decide) (by decide) (by decide) (by decide) (by decide)]) (fun j z1 z2 => by rw [hW, st1_ne (by omega), st1_ne (by omega), st1_ne (by omega), st1_ne (by omega), st1_ne (by omega), st1_ne (by omega), st1_ne (by omega)]) (hz _ (by decide) (by decide) (by decide) (by decide) (by decide) (by decide)) (hz _ (by decide) (by decide) (by decide) (by decide) (by decide) (by decide)) (hz _ (by decide) (by decide) (by decide) (by decide) (by decide) (by decide)) (HS_eq (fun _ _ => rfl) (fun _ _ _ => rfl) (by omega) (HS_goer (M := M) (M' := M2) (h := 1) (W := M 65) (W' := M2 65) (o := 0) (b := 200 + n) (k := kd) (l := lg) (f := f) h.2.2.2.2.2 (by omega) (by omega) (by omega) (by omega) ?_ ?_ ?_ (fun j hj => ?_) ?_ (fun j hj => ?_) ?_ (fun j hj => ?_) ?_ (fun j hj hj2 => ?_) ?_ ?_ (fun j hj => hz _ (by omega) (by omega) (by omega) (by omega) (by omega) (by omega)) ?_ ?_ ?_ ?_ ?_ ?_ ?_ (fun x z1 z2 z3 => ?_)))⟩
         · rw [hH]; rfl
         · rw [hH]; rfl
         · rw [hH]; rfl
         · show M2 3 j = M 3 j
           rw [hG, st1_ne hj]
         · show M2 3 (M 1 1) = kd
           rw [hG, st1_at]
         · show M2 4 j = M 4 j
           rw [hL, st1_ne hj]
         · show M2 4 (M 1 1) = lg
           rw [hL, st1_at]
         · show M2 5 j = M 5 j
           rw [hF, st1_ne hj]
         · show M2 5 (M 1 1) = f
           rw [hF, st1_at]
         · show M2 6 j = M 6 j
           rw [hN, st1_ne hj2, st1_ne hj]
         · show M2 6 (M 1 1) = 0
           rw [hN, st1_ne (by omega), st1_at]
         · show M2 6 (6 + M 1 1) = 0
           rw [hN, st1_at]
         · rw [hW, st1_ne (by omega), st1_eq (by omega)]; omega
         · rw [hW, st1_ne (by omega), st1_ne (by omega), st1_ne (by omega), st1_ne (by omega), st1_ne (by omega), st1_ne (by omega), st1_eq (by omega)]
         · rw [hW, st1_ne (by omega), st1_ne (by omega), st1_ne (by omega), st1_ne (by omega), st1_ne (by omega), st1_eq (by omega)]
         · rw [hW, st1_ne (by omega), st1_ne (by omega), st1_ne (by omega), st1_ne (by omega), st1_eq (by omega)]
         · rw [hW, st1_ne (by omega), st1_ne (by omega), st1_ne (by omega), st1_eq (by omega)]
         · rw [hW, st1_ne (by omega), st1_ne (by omega), st1_eq (by omega)]
         · rw [hW, st1_eq (by omega)]
         · rw [hW, st1_ne (by omega), st1_ne (by omega), st1_ne (by omega), st1_ne (by omega), st1_ne (by omega), st1_ne (by omega), st1_ne (by omega)])
    · skip
      try rw [e65] at b0
      try rw [e65] at b1
      try rw [e65] at b2
      exfalso; omega
    · skip
      try rw [e65] at b0
      try rw [e65] at b1
      exfalso; omega
    · skip
      try rw [e65] at b0
      exfalso; omega
  · skip
    have e64 : M1 64 = M 64 := by subst hm; rfl
    have e65 : M1 65 = M 65 := by subst hm; rfl
    have e66 : M1 66 = M 66 := by subst hm; rfl
    have e67 : M1 67 = M 67 := by subst hm; rfl
    have e68 : M1 68 = M 68 := by subst hm; rfl
    refine Ct.imp (R_goer kd lg f M1 (RI_eq e65 (Rl_RI h (by omega))) (by rw [e68]; exact Rl_sr h (by omega))) ?_
    rintro r2 M2 (⟨b0, b1, b2, b3, hb1, hm2⟩ | ⟨b0, b1, b2, b3, hb1, hm2⟩ | ⟨b0, b1, b2, hb1, hm2⟩ | ⟨b0, b1, hb1, hm2⟩ | ⟨b0, hb1, hm2⟩)
    · skip
      try rw [e65] at b0
      try rw [e65] at b1
      try rw [e65] at b2
      try rw [e65] at b3
      first
      | (exfalso; omega)
      | exact ⟨by rw [ha, hb1], Rl_ref h 2 (by omega) (by rw [← hm2, ← hm]; rfl)⟩
    · skip
      try rw [e65] at b0
      try rw [e65] at b1
      try rw [e65] at b2
      try rw [e65] at b3
      exfalso; omega
    · skip
      try rw [e65] at b0
      try rw [e65] at b1
      try rw [e65] at b2
      exfalso; omega
    · skip
      try rw [e65] at b0
      try rw [e65] at b1
      exfalso; omega
    · skip
      try rw [e65] at b0
      exfalso; omega
  · skip
    have e64 : M1 64 = M 64 := by subst hm; rfl
    have e65 : M1 65 = M 65 := by subst hm; rfl
    have e66 : M1 66 = M 66 := by subst hm; rfl
    have e67 : M1 67 = M 67 := by subst hm; rfl
    have e68 : M1 68 = M 68 := by subst hm; rfl
    refine Ct.imp (R_goer kd lg f M1 (RI_eq e65 (Rl_RI h (by omega))) (by rw [e68]; exact Rl_sr h (by omega))) ?_
    rintro r2 M2 (⟨b0, b1, b2, b3, hb1, hm2⟩ | ⟨b0, b1, b2, b3, hb1, hm2⟩ | ⟨b0, b1, b2, hb1, hm2⟩ | ⟨b0, b1, hb1, hm2⟩ | ⟨b0, hb1, hm2⟩)
    · skip
      try rw [e65] at b0
      try rw [e65] at b1
      try rw [e65] at b2
      try rw [e65] at b3
      exfalso; omega
    · skip
      try rw [e65] at b0
      try rw [e65] at b1
      try rw [e65] at b2
      try rw [e65] at b3
      exfalso; omega
    · skip
      try rw [e65] at b0
      try rw [e65] at b1
      try rw [e65] at b2
      first
      | (exfalso; omega)
      | exact ⟨by rw [ha, hb1], Rl_ref h 0 (by omega) (by rw [← hm2, ← hm]; rfl)⟩
    · skip
      try rw [e65] at b0
      try rw [e65] at b1
      first
      | (exfalso; omega)
      | exact ⟨by rw [ha, hb1], Rl_ref h 0 (by omega) (by rw [← hm2, ← hm]; rfl)⟩
    · skip
      try rw [e65] at b0
      first
      | (exfalso; omega)
      | exact ⟨by rw [ha, hb1], Rl_ref h 0 (by omega) (by rw [← hm2, ← hm]; rfl)⟩
  · skip
    have e64 : M1 64 = M 64 := by subst hm; rfl
    have e65 : M1 65 = M 65 := by subst hm; rfl
    have e66 : M1 66 = M 66 := by subst hm; rfl
    have e67 : M1 67 = M 67 := by subst hm; rfl
    have e68 : M1 68 = M 68 := by subst hm; rfl
    refine Ct.imp (R_goer kd lg f M1 (RI_eq e65 (Rl_RI h (by omega))) (by rw [e68]; exact Rl_sr h (by omega))) ?_
    rintro r2 M2 (⟨b0, b1, b2, b3, hb1, hm2⟩ | ⟨b0, b1, b2, b3, hb1, hm2⟩ | ⟨b0, b1, b2, hb1, hm2⟩ | ⟨b0, b1, hb1, hm2⟩ | ⟨b0, hb1, hm2⟩)
    · skip
      try rw [e65] at b0
      try rw [e65] at b1
      try rw [e65] at b2
      try rw [e65] at b3
      exfalso; omega
    · skip
      try rw [e65] at b0
      try rw [e65] at b1
      try rw [e65] at b2
      try rw [e65] at b3
      exfalso; omega
    · skip
      try rw [e65] at b0
      try rw [e65] at b1
      try rw [e65] at b2
      first
      | (exfalso; omega)
      | exact ⟨by rw [ha, hb1], Rl_ref h 0 (by omega) (by rw [← hm2, ← hm]; rfl)⟩
    · skip
      try rw [e65] at b0
      try rw [e65] at b1
      first
      | (exfalso; omega)
      | exact ⟨by rw [ha, hb1], Rl_ref h 0 (by omega) (by rw [← hm2, ← hm]; rfl)⟩
    · skip
      try rw [e65] at b0
      first
      | (exfalso; omega)
      | exact ⟨by rw [ha, hb1], Rl_ref h 0 (by omega) (by rw [← hm2, ← hm]; rfl)⟩
theorem S_seen (f : Int) (s : Int) (t : Int) (b : Int) (M : Mm) (n : Nat) (h : Rl M n) (hn : n < 512) : Same 78 192 [vi f, vi s, vi t, vi b] M n := by
  obtain ⟨k0, k1, k2, k3, k4, k5, k6, k7, l0, l1, l2, l3, l4⟩ := Rl_c h
  refine Ct.imp (C_seen f s t b M (Rl_HI h (by omega)) (Rl_st h (by omega))) ?_
  rintro r1 M1 (⟨a0, a1, a2, a3, ha, hm⟩ | ⟨a0, a1, a2, a3, a4, ha, hm⟩ | ⟨a0, a1, a2, a3, a4, a5, ha, hm⟩ | ⟨a0, a1, a2, a3, a4, a5, ha, hm⟩ | ⟨a0, a1, a2, ha, hm⟩ | ⟨a0, a1, ha, hm⟩ | ⟨a0, ha, hm⟩)
  · skip
    have e64 : M1 64 = M 64 := by subst hm; rfl
    have e65 : M1 65 = M 65 := by subst hm; rfl
    have e66 : M1 66 = M 66 := by subst hm; rfl
    have e67 : M1 67 = M 67 := by subst hm; rfl
    have e68 : M1 68 = M 68 := by subst hm; rfl
    refine Ct.imp (R_seen f s t b M1 (RI_eq e65 (Rl_RI h (by omega))) (by rw [e68]; exact Rl_sr h (by omega))) ?_
    rintro r2 M2 (⟨b0, b1, b2, b3, b4, hb1, hm2⟩ | ⟨b0, b1, b2, b3, b4, hb1, hm2⟩ | ⟨b0, b1, b2, b3, hb1, hm2⟩ | ⟨b0, b1, b2, hb1, hm2⟩ | ⟨b0, b1, hb1, hm2⟩ | ⟨b0, hb1, hm2⟩)
    · skip
      try rw [e65] at b0
      try rw [e65] at b1
      try rw [e65] at b2
      try rw [e65] at b3
      try rw [e65] at b4
      exfalso; omega
    · skip
      try rw [e65] at b0
      try rw [e65] at b1
      try rw [e65] at b2
      try rw [e65] at b3
      try rw [e65] at b4
      exfalso; omega
    · skip
      try rw [e65] at b0
      try rw [e65] at b1
      try rw [e65] at b2
      try rw [e65] at b3
      first
      | (exfalso; omega)
      | exact ⟨by rw [ha, hb1], Rl_ref h 0 (by omega) (by rw [← hm2, ← hm]; rfl)⟩
    · skip
      try rw [e65] at b0
      try rw [e65] at b1
      try rw [e65] at b2
      first
      | (exfalso; omega)
      | exact ⟨by rw [ha, hb1], Rl_ref h 0 (by omega) (by rw [← hm2, ← hm]; rfl)⟩
    · skip
      try rw [e65] at b0
      try rw [e65] at b1
      first
      | (exfalso; omega)
      | exact ⟨by rw [ha, hb1], Rl_ref h 0 (by omega) (by rw [← hm2, ← hm]; rfl)⟩
    · skip
      try rw [e65] at b0
      first
      | (exfalso; omega)
      | exact ⟨by rw [ha, hb1], Rl_ref h 0 (by omega) (by rw [← hm2, ← hm]; rfl)⟩
  · skip
    have e64 : M1 64 = M 64 := by subst hm; rfl
    have e65 : M1 65 = M 65 := by subst hm; rfl
    have e66 : M1 66 = M 66 := by subst hm; rfl
    have e67 : M1 67 = M 67 := by subst hm; rfl
    have e68 : M1 68 = M 68 := by subst hm; rfl
    refine Ct.imp (R_seen f s t b M1 (RI_eq e65 (Rl_RI h (by omega))) (by rw [e68]; exact Rl_sr h (by omega))) ?_
    rintro r2 M2 (⟨b0, b1, b2, b3, b4, hb1, hm2⟩ | ⟨b0, b1, b2, b3, b4, hb1, hm2⟩ | ⟨b0, b1, b2, b3, hb1, hm2⟩ | ⟨b0, b1, b2, hb1, hm2⟩ | ⟨b0, b1, hb1, hm2⟩ | ⟨b0, hb1, hm2⟩)
    · skip
      try rw [e65] at b0
      try rw [e65] at b1
      try rw [e65] at b2
      try rw [e65] at b3
      try rw [e65] at b4
      exfalso; omega
    · skip
      try rw [e65] at b0
      try rw [e65] at b1
      try rw [e65] at b2
      try rw [e65] at b3
      try rw [e65] at b4
      exfalso; omega
    · skip
      try rw [e65] at b0
      try rw [e65] at b1
      try rw [e65] at b2
      try rw [e65] at b3
      first
      | (exfalso; omega)
      | exact ⟨by rw [ha, hb1], Rl_ref h 0 (by omega) (by rw [← hm2, ← hm]; rfl)⟩
    · skip
      try rw [e65] at b0
      try rw [e65] at b1
      try rw [e65] at b2
      first
      | (exfalso; omega)
      | exact ⟨by rw [ha, hb1], Rl_ref h 0 (by omega) (by rw [← hm2, ← hm]; rfl)⟩
    · skip
      try rw [e65] at b0
      try rw [e65] at b1
      first
      | (exfalso; omega)
      | exact ⟨by rw [ha, hb1], Rl_ref h 0 (by omega) (by rw [← hm2, ← hm]; rfl)⟩
    · skip
      try rw [e65] at b0
      first
      | (exfalso; omega)
      | exact ⟨by rw [ha, hb1], Rl_ref h 0 (by omega) (by rw [← hm2, ← hm]; rfl)⟩
  · skip
    have e64 : M1 64 = M 64 := by subst hm; rfl
    have e65 : M1 65 = M 65 := by subst hm; rfl
    have e66 : M1 66 = M 66 := by subst hm; rfl
    have e67 : M1 67 = M 67 := by subst hm; rfl
    have e68 : M1 68 = M 68 := by subst hm; rfl
    refine Ct.imp (R_seen f s t b M1 (RI_eq e65 (Rl_RI h (by omega))) (by rw [e68]; exact Rl_sr h (by omega))) ?_
    rintro r2 M2 (⟨b0, b1, b2, b3, b4, hb1, hm2⟩ | ⟨b0, b1, b2, b3, b4, hb1, hm2⟩ | ⟨b0, b1, b2, b3, hb1, hm2⟩ | ⟨b0, b1, b2, hb1, hm2⟩ | ⟨b0, b1, hb1, hm2⟩ | ⟨b0, hb1, hm2⟩)
    · skip
      try rw [e65] at b0
      try rw [e65] at b1
      try rw [e65] at b2
      try rw [e65] at b3
      try rw [e65] at b4
      first
      | (exfalso; omega)
      | exact ⟨by rw [ha, hb1], Rl_ref h 2 (by omega) (by rw [← hm2, ← hm]; rfl)⟩
    · skip
      try rw [e65] at b0
      try rw [e65] at b1
      try rw [e65] at b2
      try rw [e65] at b3
      try rw [e65] at b4
      exfalso; omega
    · skip
      try rw [e65] at b0
      try rw [e65] at b1
      try rw [e65] at b2
      try rw [e65] at b3
      exfalso; omega
    · skip
      try rw [e65] at b0
      try rw [e65] at b1
      try rw [e65] at b2
      exfalso; omega
    · skip
      try rw [e65] at b0
      try rw [e65] at b1
      exfalso; omega
    · skip
      try rw [e65] at b0
      exfalso; omega
  · skip
    have e64 : M1 64 = M 64 := by subst hm; rfl
    have e65 : M1 65 = M 65 := by subst hm; rfl
    have e66 : M1 66 = M 66 := by subst hm; rfl
    have e67 : M1 67 = M 67 := by subst hm; rfl
    have e68 : M1 68 = M 68 := by subst hm; rfl
    refine Ct.imp (R_seen f s t b M1 (RI_eq e65 (Rl_RI h (by omega))) (by rw [e68]; exact Rl_sr h (by omega))) ?_
    rintro r2 M2 (⟨b0, b1, b2, b3, b4, hb1, hm2⟩ | ⟨b0, b1, b2, b3, b4, hb1, hm2⟩ | ⟨b0, b1, b2, b3, hb1, hm2⟩ | ⟨b0, b1, b2, hb1, hm2⟩ | ⟨b0, b1, hb1, hm2⟩ | ⟨b0, hb1, hm2⟩)
    · skip
      try rw [e65] at b0
      try rw [e65] at b1
      try rw [e65] at b2
      try rw [e65] at b3
      try rw [e65] at b4
      exfalso; omega
    · skip
      try rw [e65] at b0
      try rw [e65] at b1
      try rw [e65] at b2
      try rw [e65] at b3
      try rw [e65] at b4
      first
      | (exfalso; omega)
      | (have hM : (up (up (up (up (up (up (up (up (up (up M 8 3 ((M 8 3) + 1)) 9 ((M 8 3) * 4 + 0) f) 9 ((M 8 3) * 4 + 1) s) 9 ((M 8 3) * 4 + 2) t) 9 ((M 8 3) * 4 + 3) b) 65 (41 + (4 * (M 65 40))) f) 65 ((41 + (4 * (M 65 40))) + 1) s) 65 ((41 + (4 * (M 65 40))) + 2) t) 65 ((41 + (4 * (M 65 40))) + 3) b) 65 40 ((M 65 40) + 1)) = M2 := by rw [← hm2, ← hm]; rfl
         have hW : M2 65 = (st1 (st1 (st1 (st1 (st1 (M 65) (41 + 4 * M 65 40) f) (41 + 4 * M 65 40 + 1) s) (41 + 4 * M 65 40 + 2) t) (41 + 4 * M 65 40 + 3) b) 40 (M 65 40 + 1)) := by rw [← hM]; funext x; simp [up, st1]
         have hC : M2 9 = (st1 (st1 (st1 (st1 (M 9) (M 8 3 * 4 + 0) f) (M 8 3 * 4 + 1) s) (M 8 3 * 4 + 2) t) (M 8 3 * 4 + 3) b) := by rw [← hM]; funext x; simp [up, st1]
         have hS : M2 8 = st1 (M 8) 3 (M 8 3 + 1) := by rw [← hM]; funext x; simp [up, st1]
         have hz : ∀ r, r ≠ 8 → r ≠ 9 → r ≠ 65 → M2 r = M r := fun r z1 z2 z3 => by rw [← hM, up_ne z3, up_ne z3, up_ne z3, up_ne z3, up_ne z3, up_ne z2, up_ne z2, up_ne z2, up_ne z2, up_ne z1]
         have lw := h.2.2.2.2.2.2.2.2.1.1
         have lw3 : 0 ≤ M 8 3 ∧ M 8 3 ≤ 5 := ⟨lw.2.2.1, lw.2.2.2⟩
         refine ⟨by rw [ha, hb1, e65]; exact some_vi (by omega), Rl_house h (hz 0 (by decide) (by decide) (by decide)) (fun r z1 z2 => hz r (by omega) (by omega) (by omega)) (LK_eq (hz _ (by decide) (by decide) (by decide)) (hz _ (by decide) (by decide) (by decide)) (hz _ (by decide) (by decide) (by decide)) h.2.2.2.2.1.2.2) (by rw [hz 59 (by decide) (by decide) (by decide)]) (hz _ (by decide) (by decide) (by decide)) (fun j hj => by rw [hz 64 (by decide) (by decide) (by decide)]) (fun j z1 z2 => by rw [hW, st1_ne (by omega), st1_ne (by omega), st1_ne (by omega), st1_ne (by omega), st1_ne (by omega)]) (hz _ (by decide) (by decide) (by decide)) (hz _ (by decide) (by decide) (by decide)) (hz _ (by decide) (by decide) (by decide)) (HS_eq (fun _ _ => rfl) (fun _ _ _ => rfl) (by omega) (HS_sAdd (M := M) (M' := M2) (h := 1) (W := M 65) (W' := M2 65) (o := 0) (b := 200 + n) (v0 := f) (v1 := s) (v2 := t) (v3 := b) h.2.2.2.2.2 (show M 8 3 < 5 by omega) (by omega) (hz 1 (by decide) (by decide) (by decide)) (fun j hj => hz _ (by omega) (by omega) (by omega)) ⟨by show M2 8 0 = _; rw [hS, st1_ne (by decide)]; exact lw.1, by show M2 8 1 = _; rw [hS, st1_ne (by decide)]; exact lw.2.1⟩ (by show M2 8 3 = M 8 3 + 1; rw [hS, st1_at]) ?_ (fun x z1 z2 => ?_) ?_ ?_ (fun x z1 z2 => ?_) (fun x z1 z2 z3 z4 => ?_)))⟩
         · show M2 9 (M 8 3 * 4 + 0) = f ∧ M2 9 (M 8 3 * 4 + 1) = s ∧ M2 9 (M 8 3 * 4 + 2) = t ∧ M2 9 (M 8 3 * 4 + 3) = b
           exact ⟨by rw [hC, st1_ne (by omega), st1_ne (by omega), st1_ne (by omega), st1_eq (by omega)], by rw [hC, st1_ne (by omega), st1_ne (by omega), st1_eq (by omega)], by rw [hC, st1_ne (by omega), st1_eq (by omega)], by rw [hC, st1_eq (by omega)]⟩
         · show M2 9 x = M 9 x
           have z2' : x < 4 * M 8 3 := z2
           rw [hC, st1_ne (by omega), st1_ne (by omega), st1_ne (by omega), st1_ne (by omega)]
         · show M2 65 (0 + 40) = M 8 3 + 1
           rw [hW, st1_eq (by omega)]; omega
         · show M2 65 (0 + 41 + (4 * M 8 3 + 0)) = f ∧ M2 65 (0 + 41 + (4 * M 8 3 + 1)) = s ∧ M2 65 (0 + 41 + (4 * M 8 3 + 2)) = t ∧ M2 65 (0 + 41 + (4 * M 8 3 + 3)) = b
           exact ⟨by rw [hW, st1_ne (by omega), st1_ne (by omega), st1_ne (by omega), st1_ne (by omega), st1_eq (by omega)], by rw [hW, st1_ne (by omega), st1_ne (by omega), st1_ne (by omega), st1_eq (by omega)], by rw [hW, st1_ne (by omega), st1_ne (by omega), st1_eq (by omega)], by rw [hW, st1_ne (by omega), st1_eq (by omega)]⟩
         · have z2' : x < 4 * M 8 3 := z2
           rw [hW, st1_ne (by omega), st1_ne (by omega), st1_ne (by omega), st1_ne (by omega), st1_ne (by omega)]
         · rw [hW, st1_ne (by omega), st1_ne (by omega), st1_ne (by omega), st1_ne (by omega), st1_ne (by omega)])
    · skip
      try rw [e65] at b0
      try rw [e65] at b1
      try rw [e65] at b2
      try rw [e65] at b3
      exfalso; omega
    · skip
      try rw [e65] at b0
      try rw [e65] at b1
      try rw [e65] at b2
      exfalso; omega
    · skip
      try rw [e65] at b0
      try rw [e65] at b1
      exfalso; omega
    · skip
      try rw [e65] at b0
      exfalso; omega
  · skip
    have e64 : M1 64 = M 64 := by subst hm; rfl
    have e65 : M1 65 = M 65 := by subst hm; rfl
    have e66 : M1 66 = M 66 := by subst hm; rfl
    have e67 : M1 67 = M 67 := by subst hm; rfl
    have e68 : M1 68 = M 68 := by subst hm; rfl
    refine Ct.imp (R_seen f s t b M1 (RI_eq e65 (Rl_RI h (by omega))) (by rw [e68]; exact Rl_sr h (by omega))) ?_
    rintro r2 M2 (⟨b0, b1, b2, b3, b4, hb1, hm2⟩ | ⟨b0, b1, b2, b3, b4, hb1, hm2⟩ | ⟨b0, b1, b2, b3, hb1, hm2⟩ | ⟨b0, b1, b2, hb1, hm2⟩ | ⟨b0, b1, hb1, hm2⟩ | ⟨b0, hb1, hm2⟩)
    · skip
      try rw [e65] at b0
      try rw [e65] at b1
      try rw [e65] at b2
      try rw [e65] at b3
      try rw [e65] at b4
      exfalso; omega
    · skip
      try rw [e65] at b0
      try rw [e65] at b1
      try rw [e65] at b2
      try rw [e65] at b3
      try rw [e65] at b4
      exfalso; omega
    · skip
      try rw [e65] at b0
      try rw [e65] at b1
      try rw [e65] at b2
      try rw [e65] at b3
      first
      | (exfalso; omega)
      | exact ⟨by rw [ha, hb1], Rl_ref h 0 (by omega) (by rw [← hm2, ← hm]; rfl)⟩
    · skip
      try rw [e65] at b0
      try rw [e65] at b1
      try rw [e65] at b2
      first
      | (exfalso; omega)
      | exact ⟨by rw [ha, hb1], Rl_ref h 0 (by omega) (by rw [← hm2, ← hm]; rfl)⟩
    · skip
      try rw [e65] at b0
      try rw [e65] at b1
      first
      | (exfalso; omega)
      | exact ⟨by rw [ha, hb1], Rl_ref h 0 (by omega) (by rw [← hm2, ← hm]; rfl)⟩
    · skip
      try rw [e65] at b0
      first
      | (exfalso; omega)
      | exact ⟨by rw [ha, hb1], Rl_ref h 0 (by omega) (by rw [← hm2, ← hm]; rfl)⟩
  · skip
    have e64 : M1 64 = M 64 := by subst hm; rfl
    have e65 : M1 65 = M 65 := by subst hm; rfl
    have e66 : M1 66 = M 66 := by subst hm; rfl
    have e67 : M1 67 = M 67 := by subst hm; rfl
    have e68 : M1 68 = M 68 := by subst hm; rfl
    refine Ct.imp (R_seen f s t b M1 (RI_eq e65 (Rl_RI h (by omega))) (by rw [e68]; exact Rl_sr h (by omega))) ?_
    rintro r2 M2 (⟨b0, b1, b2, b3, b4, hb1, hm2⟩ | ⟨b0, b1, b2, b3, b4, hb1, hm2⟩ | ⟨b0, b1, b2, b3, hb1, hm2⟩ | ⟨b0, b1, b2, hb1, hm2⟩ | ⟨b0, b1, hb1, hm2⟩ | ⟨b0, hb1, hm2⟩)
    · skip
      try rw [e65] at b0
      try rw [e65] at b1
      try rw [e65] at b2
      try rw [e65] at b3
      try rw [e65] at b4
      exfalso; omega
    · skip
      try rw [e65] at b0
      try rw [e65] at b1
      try rw [e65] at b2
      try rw [e65] at b3
      try rw [e65] at b4
      exfalso; omega
    · skip
      try rw [e65] at b0
      try rw [e65] at b1
      try rw [e65] at b2
      try rw [e65] at b3
      first
      | (exfalso; omega)
      | exact ⟨by rw [ha, hb1], Rl_ref h 0 (by omega) (by rw [← hm2, ← hm]; rfl)⟩
    · skip
      try rw [e65] at b0
      try rw [e65] at b1
      try rw [e65] at b2
      first
      | (exfalso; omega)
      | exact ⟨by rw [ha, hb1], Rl_ref h 0 (by omega) (by rw [← hm2, ← hm]; rfl)⟩
    · skip
      try rw [e65] at b0
      try rw [e65] at b1
      first
      | (exfalso; omega)
      | exact ⟨by rw [ha, hb1], Rl_ref h 0 (by omega) (by rw [← hm2, ← hm]; rfl)⟩
    · skip
      try rw [e65] at b0
      first
      | (exfalso; omega)
      | exact ⟨by rw [ha, hb1], Rl_ref h 0 (by omega) (by rw [← hm2, ← hm]; rfl)⟩
  · skip
    have e64 : M1 64 = M 64 := by subst hm; rfl
    have e65 : M1 65 = M 65 := by subst hm; rfl
    have e66 : M1 66 = M 66 := by subst hm; rfl
    have e67 : M1 67 = M 67 := by subst hm; rfl
    have e68 : M1 68 = M 68 := by subst hm; rfl
    refine Ct.imp (R_seen f s t b M1 (RI_eq e65 (Rl_RI h (by omega))) (by rw [e68]; exact Rl_sr h (by omega))) ?_
    rintro r2 M2 (⟨b0, b1, b2, b3, b4, hb1, hm2⟩ | ⟨b0, b1, b2, b3, b4, hb1, hm2⟩ | ⟨b0, b1, b2, b3, hb1, hm2⟩ | ⟨b0, b1, b2, hb1, hm2⟩ | ⟨b0, b1, hb1, hm2⟩ | ⟨b0, hb1, hm2⟩)
    · skip
      try rw [e65] at b0
      try rw [e65] at b1
      try rw [e65] at b2
      try rw [e65] at b3
      try rw [e65] at b4
      exfalso; omega
    · skip
      try rw [e65] at b0
      try rw [e65] at b1
      try rw [e65] at b2
      try rw [e65] at b3
      try rw [e65] at b4
      exfalso; omega
    · skip
      try rw [e65] at b0
      try rw [e65] at b1
      try rw [e65] at b2
      try rw [e65] at b3
      first
      | (exfalso; omega)
      | exact ⟨by rw [ha, hb1], Rl_ref h 0 (by omega) (by rw [← hm2, ← hm]; rfl)⟩
    · skip
      try rw [e65] at b0
      try rw [e65] at b1
      try rw [e65] at b2
      first
      | (exfalso; omega)
      | exact ⟨by rw [ha, hb1], Rl_ref h 0 (by omega) (by rw [← hm2, ← hm]; rfl)⟩
    · skip
      try rw [e65] at b0
      try rw [e65] at b1
      first
      | (exfalso; omega)
      | exact ⟨by rw [ha, hb1], Rl_ref h 0 (by omega) (by rw [← hm2, ← hm]; rfl)⟩
    · skip
      try rw [e65] at b0
      first
      | (exfalso; omega)
      | exact ⟨by rw [ha, hb1], Rl_ref h 0 (by omega) (by rw [← hm2, ← hm]; rfl)⟩
theorem S_note (f : Int) (t : Int) (x : Int) (M : Mm) (n : Nat) (h : Rl M n) (hn : n < 512) : Same 82 197 [vi f, vi t, vi x] M n := by
  obtain ⟨k0, k1, k2, k3, k4, k5, k6, k7, l0, l1, l2, l3, l4⟩ := Rl_c h
  refine Ct.imp (C_note f t x M (Rl_HI h (by omega)) (Rl_st h (by omega))) ?_
  rintro r1 M1 (⟨a0, a1, a2, ha, hm⟩ | ⟨a0, a1, a2, a3, ha, hm⟩ | ⟨a0, a1, a2, a3, a4, ha, hm⟩ | ⟨a0, a1, a2, a3, a4, ha, hm⟩ | ⟨a0, a1, ha, hm⟩ | ⟨a0, ha, hm⟩)
  · skip
    have e64 : M1 64 = M 64 := by subst hm; rfl
    have e65 : M1 65 = M 65 := by subst hm; rfl
    have e66 : M1 66 = M 66 := by subst hm; rfl
    have e67 : M1 67 = M 67 := by subst hm; rfl
    have e68 : M1 68 = M 68 := by subst hm; rfl
    refine Ct.imp (R_note f t x M1 (RI_eq e65 (Rl_RI h (by omega))) (by rw [e68]; exact Rl_sr h (by omega))) ?_
    rintro r2 M2 (⟨b0, b1, b2, b3, hb1, hm2⟩ | ⟨b0, b1, b2, b3, hb1, hm2⟩ | ⟨b0, b1, b2, hb1, hm2⟩ | ⟨b0, b1, hb1, hm2⟩ | ⟨b0, hb1, hm2⟩)
    · skip
      try rw [e65] at b0
      try rw [e65] at b1
      try rw [e65] at b2
      try rw [e65] at b3
      exfalso; omega
    · skip
      try rw [e65] at b0
      try rw [e65] at b1
      try rw [e65] at b2
      try rw [e65] at b3
      exfalso; omega
    · skip
      try rw [e65] at b0
      try rw [e65] at b1
      try rw [e65] at b2
      first
      | (exfalso; omega)
      | exact ⟨by rw [ha, hb1], Rl_ref h 0 (by omega) (by rw [← hm2, ← hm]; rfl)⟩
    · skip
      try rw [e65] at b0
      try rw [e65] at b1
      first
      | (exfalso; omega)
      | exact ⟨by rw [ha, hb1], Rl_ref h 0 (by omega) (by rw [← hm2, ← hm]; rfl)⟩
    · skip
      try rw [e65] at b0
      first
      | (exfalso; omega)
      | exact ⟨by rw [ha, hb1], Rl_ref h 0 (by omega) (by rw [← hm2, ← hm]; rfl)⟩
  · skip
    have e64 : M1 64 = M 64 := by subst hm; rfl
    have e65 : M1 65 = M 65 := by subst hm; rfl
    have e66 : M1 66 = M 66 := by subst hm; rfl
    have e67 : M1 67 = M 67 := by subst hm; rfl
    have e68 : M1 68 = M 68 := by subst hm; rfl
    refine Ct.imp (R_note f t x M1 (RI_eq e65 (Rl_RI h (by omega))) (by rw [e68]; exact Rl_sr h (by omega))) ?_
    rintro r2 M2 (⟨b0, b1, b2, b3, hb1, hm2⟩ | ⟨b0, b1, b2, b3, hb1, hm2⟩ | ⟨b0, b1, b2, hb1, hm2⟩ | ⟨b0, b1, hb1, hm2⟩ | ⟨b0, hb1, hm2⟩)
    · skip
      try rw [e65] at b0
      try rw [e65] at b1
      try rw [e65] at b2
      try rw [e65] at b3
      exfalso; omega
    · skip
      try rw [e65] at b0
      try rw [e65] at b1
      try rw [e65] at b2
      try rw [e65] at b3
      exfalso; omega
    · skip
      try rw [e65] at b0
      try rw [e65] at b1
      try rw [e65] at b2
      first
      | (exfalso; omega)
      | exact ⟨by rw [ha, hb1], Rl_ref h 0 (by omega) (by rw [← hm2, ← hm]; rfl)⟩
    · skip
      try rw [e65] at b0
      try rw [e65] at b1
      first
      | (exfalso; omega)
      | exact ⟨by rw [ha, hb1], Rl_ref h 0 (by omega) (by rw [← hm2, ← hm]; rfl)⟩
    · skip
      try rw [e65] at b0
      first
      | (exfalso; omega)
      | exact ⟨by rw [ha, hb1], Rl_ref h 0 (by omega) (by rw [← hm2, ← hm]; rfl)⟩
  · skip
    have e64 : M1 64 = M 64 := by subst hm; rfl
    have e65 : M1 65 = M 65 := by subst hm; rfl
    have e66 : M1 66 = M 66 := by subst hm; rfl
    have e67 : M1 67 = M 67 := by subst hm; rfl
    have e68 : M1 68 = M 68 := by subst hm; rfl
    refine Ct.imp (R_note f t x M1 (RI_eq e65 (Rl_RI h (by omega))) (by rw [e68]; exact Rl_sr h (by omega))) ?_
    rintro r2 M2 (⟨b0, b1, b2, b3, hb1, hm2⟩ | ⟨b0, b1, b2, b3, hb1, hm2⟩ | ⟨b0, b1, b2, hb1, hm2⟩ | ⟨b0, b1, hb1, hm2⟩ | ⟨b0, hb1, hm2⟩)
    · skip
      try rw [e65] at b0
      try rw [e65] at b1
      try rw [e65] at b2
      try rw [e65] at b3
      first
      | (exfalso; omega)
      | exact ⟨by rw [ha, hb1], Rl_ref h 2 (by omega) (by rw [← hm2, ← hm]; rfl)⟩
    · skip
      try rw [e65] at b0
      try rw [e65] at b1
      try rw [e65] at b2
      try rw [e65] at b3
      exfalso; omega
    · skip
      try rw [e65] at b0
      try rw [e65] at b1
      try rw [e65] at b2
      exfalso; omega
    · skip
      try rw [e65] at b0
      try rw [e65] at b1
      exfalso; omega
    · skip
      try rw [e65] at b0
      exfalso; omega
  · skip
    have e64 : M1 64 = M 64 := by subst hm; rfl
    have e65 : M1 65 = M 65 := by subst hm; rfl
    have e66 : M1 66 = M 66 := by subst hm; rfl
    have e67 : M1 67 = M 67 := by subst hm; rfl
    have e68 : M1 68 = M 68 := by subst hm; rfl
    refine Ct.imp (R_note f t x M1 (RI_eq e65 (Rl_RI h (by omega))) (by rw [e68]; exact Rl_sr h (by omega))) ?_
    rintro r2 M2 (⟨b0, b1, b2, b3, hb1, hm2⟩ | ⟨b0, b1, b2, b3, hb1, hm2⟩ | ⟨b0, b1, b2, hb1, hm2⟩ | ⟨b0, b1, hb1, hm2⟩ | ⟨b0, hb1, hm2⟩)
    · skip
      try rw [e65] at b0
      try rw [e65] at b1
      try rw [e65] at b2
      try rw [e65] at b3
      exfalso; omega
    · skip
      try rw [e65] at b0
      try rw [e65] at b1
      try rw [e65] at b2
      try rw [e65] at b3
      first
      | (exfalso; omega)
      | (have hM : (up (up (up (up (up (up (up (up M 10 3 ((M 10 3) + 1)) 11 ((M 10 3) * 3 + 0) f) 11 ((M 10 3) * 3 + 1) t) 11 ((M 10 3) * 3 + 2) x) 65 (62 + (3 * (M 65 61))) f) 65 ((62 + (3 * (M 65 61))) + 1) t) 65 ((62 + (3 * (M 65 61))) + 2) x) 65 61 ((M 65 61) + 1)) = M2 := by rw [← hm2, ← hm]; rfl
         have hW : M2 65 = (st1 (st1 (st1 (st1 (M 65) (62 + 3 * M 65 61) f) (62 + 3 * M 65 61 + 1) t) (62 + 3 * M 65 61 + 2) x) 61 (M 65 61 + 1)) := by rw [← hM]; funext x; simp [up, st1]
         have hC : M2 11 = (st1 (st1 (st1 (M 11) (M 10 3 * 3 + 0) f) (M 10 3 * 3 + 1) t) (M 10 3 * 3 + 2) x) := by rw [← hM]; funext x; simp [up, st1]
         have hS : M2 10 = st1 (M 10) 3 (M 10 3 + 1) := by rw [← hM]; funext x; simp [up, st1]
         have hz : ∀ r, r ≠ 10 → r ≠ 11 → r ≠ 65 → M2 r = M r := fun r z1 z2 z3 => by rw [← hM, up_ne z3, up_ne z3, up_ne z3, up_ne z3, up_ne z2, up_ne z2, up_ne z2, up_ne z1]
         have lw := h.2.2.2.2.2.2.2.2.2.1.1
         have lw3 : 0 ≤ M 10 3 ∧ M 10 3 ≤ 6 := ⟨lw.2.2.1, lw.2.2.2⟩
         refine ⟨by rw [ha, hb1, e65]; exact some_vi (by omega), Rl_house h (hz 0 (by decide) (by decide) (by decide)) (fun r z1 z2 => hz r (by omega) (by omega) (by omega)) (LK_eq (hz _ (by decide) (by decide) (by decide)) (hz _ (by decide) (by decide) (by decide)) (hz _ (by decide) (by decide) (by decide)) h.2.2.2.2.1.2.2) (by rw [hz 59 (by decide) (by decide) (by decide)]) (hz _ (by decide) (by decide) (by decide)) (fun j hj => by rw [hz 64 (by decide) (by decide) (by decide)]) (fun j z1 z2 => by rw [hW, st1_ne (by omega), st1_ne (by omega), st1_ne (by omega), st1_ne (by omega)]) (hz _ (by decide) (by decide) (by decide)) (hz _ (by decide) (by decide) (by decide)) (hz _ (by decide) (by decide) (by decide)) (HS_eq (fun _ _ => rfl) (fun _ _ _ => rfl) (by omega) (HS_nAdd (M := M) (M' := M2) (h := 1) (W := M 65) (W' := M2 65) (o := 0) (b := 200 + n) (v0 := f) (v1 := t) (v2 := x) h.2.2.2.2.2 (show M 10 3 < 6 by omega) (by omega) (hz 1 (by decide) (by decide) (by decide)) (fun j hj => hz _ (by omega) (by omega) (by omega)) ⟨by show M2 10 0 = _; rw [hS, st1_ne (by decide)]; exact lw.1, by show M2 10 1 = _; rw [hS, st1_ne (by decide)]; exact lw.2.1⟩ (by show M2 10 3 = M 10 3 + 1; rw [hS, st1_at]) ?_ (fun x z1 z2 => ?_) ?_ ?_ (fun x z1 z2 => ?_) (fun x z1 z2 z3 z4 => ?_)))⟩
         · show M2 11 (M 10 3 * 3 + 0) = f ∧ M2 11 (M 10 3 * 3 + 1) = t ∧ M2 11 (M 10 3 * 3 + 2) = x
           exact ⟨by rw [hC, st1_ne (by omega), st1_ne (by omega), st1_eq (by omega)], by rw [hC, st1_ne (by omega), st1_eq (by omega)], by rw [hC, st1_eq (by omega)]⟩
         · show M2 11 x = M 11 x
           have z2' : x < 3 * M 10 3 := z2
           rw [hC, st1_ne (by omega), st1_ne (by omega), st1_ne (by omega)]
         · show M2 65 (0 + 61) = M 10 3 + 1
           rw [hW, st1_eq (by omega)]; omega
         · show M2 65 (0 + 62 + (3 * M 10 3 + 0)) = f ∧ M2 65 (0 + 62 + (3 * M 10 3 + 1)) = t ∧ M2 65 (0 + 62 + (3 * M 10 3 + 2)) = x
           exact ⟨by rw [hW, st1_ne (by omega), st1_ne (by omega), st1_ne (by omega), st1_eq (by omega)], by rw [hW, st1_ne (by omega), st1_ne (by omega), st1_eq (by omega)], by rw [hW, st1_ne (by omega), st1_eq (by omega)]⟩
         · have z2' : x < 3 * M 10 3 := z2
           rw [hW, st1_ne (by omega), st1_ne (by omega), st1_ne (by omega), st1_ne (by omega)]
         · rw [hW, st1_ne (by omega), st1_ne (by omega), st1_ne (by omega), st1_ne (by omega)])
    · skip
      try rw [e65] at b0
      try rw [e65] at b1
      try rw [e65] at b2
      exfalso; omega
    · skip
      try rw [e65] at b0
      try rw [e65] at b1
      exfalso; omega
    · skip
      try rw [e65] at b0
      exfalso; omega
  · skip
    have e64 : M1 64 = M 64 := by subst hm; rfl
    have e65 : M1 65 = M 65 := by subst hm; rfl
    have e66 : M1 66 = M 66 := by subst hm; rfl
    have e67 : M1 67 = M 67 := by subst hm; rfl
    have e68 : M1 68 = M 68 := by subst hm; rfl
    refine Ct.imp (R_note f t x M1 (RI_eq e65 (Rl_RI h (by omega))) (by rw [e68]; exact Rl_sr h (by omega))) ?_
    rintro r2 M2 (⟨b0, b1, b2, b3, hb1, hm2⟩ | ⟨b0, b1, b2, b3, hb1, hm2⟩ | ⟨b0, b1, b2, hb1, hm2⟩ | ⟨b0, b1, hb1, hm2⟩ | ⟨b0, hb1, hm2⟩)
    · skip
      try rw [e65] at b0
      try rw [e65] at b1
      try rw [e65] at b2
      try rw [e65] at b3
      exfalso; omega
    · skip
      try rw [e65] at b0
      try rw [e65] at b1
      try rw [e65] at b2
      try rw [e65] at b3
      exfalso; omega
    · skip
      try rw [e65] at b0
      try rw [e65] at b1
      try rw [e65] at b2
      first
      | (exfalso; omega)
      | exact ⟨by rw [ha, hb1], Rl_ref h 0 (by omega) (by rw [← hm2, ← hm]; rfl)⟩
    · skip
      try rw [e65] at b0
      try rw [e65] at b1
      first
      | (exfalso; omega)
      | exact ⟨by rw [ha, hb1], Rl_ref h 0 (by omega) (by rw [← hm2, ← hm]; rfl)⟩
    · skip
      try rw [e65] at b0
      first
      | (exfalso; omega)
      | exact ⟨by rw [ha, hb1], Rl_ref h 0 (by omega) (by rw [← hm2, ← hm]; rfl)⟩
  · skip
    have e64 : M1 64 = M 64 := by subst hm; rfl
    have e65 : M1 65 = M 65 := by subst hm; rfl
    have e66 : M1 66 = M 66 := by subst hm; rfl
    have e67 : M1 67 = M 67 := by subst hm; rfl
    have e68 : M1 68 = M 68 := by subst hm; rfl
    refine Ct.imp (R_note f t x M1 (RI_eq e65 (Rl_RI h (by omega))) (by rw [e68]; exact Rl_sr h (by omega))) ?_
    rintro r2 M2 (⟨b0, b1, b2, b3, hb1, hm2⟩ | ⟨b0, b1, b2, b3, hb1, hm2⟩ | ⟨b0, b1, b2, hb1, hm2⟩ | ⟨b0, b1, hb1, hm2⟩ | ⟨b0, hb1, hm2⟩)
    · skip
      try rw [e65] at b0
      try rw [e65] at b1
      try rw [e65] at b2
      try rw [e65] at b3
      exfalso; omega
    · skip
      try rw [e65] at b0
      try rw [e65] at b1
      try rw [e65] at b2
      try rw [e65] at b3
      exfalso; omega
    · skip
      try rw [e65] at b0
      try rw [e65] at b1
      try rw [e65] at b2
      first
      | (exfalso; omega)
      | exact ⟨by rw [ha, hb1], Rl_ref h 0 (by omega) (by rw [← hm2, ← hm]; rfl)⟩
    · skip
      try rw [e65] at b0
      try rw [e65] at b1
      first
      | (exfalso; omega)
      | exact ⟨by rw [ha, hb1], Rl_ref h 0 (by omega) (by rw [← hm2, ← hm]; rfl)⟩
    · skip
      try rw [e65] at b0
      first
      | (exfalso; omega)
      | exact ⟨by rw [ha, hb1], Rl_ref h 0 (by omega) (by rw [← hm2, ← hm]; rfl)⟩
theorem S_mark (i : Int) (lg : Int) (x : Int) (t : Int) (yy : Int) (M : Mm) (n : Nat) (h : Rl M n) (hn : n < 512) : Same 83 198 [vi i, vi lg, vi x, vi t, vi yy] M n := by
  obtain ⟨k0, k1, k2, k3, k4, k5, k6, k7, l0, l1, l2, l3, l4⟩ := Rl_c h
  refine Ct.imp (C_mark i lg x t yy M (Rl_HI h (by omega)) (Rl_st h (by omega))) ?_
  rintro r1 M1 (⟨a0, a1, ha, hm⟩ | ⟨a0, a1, a2, ha, hm⟩ | ⟨a0, a1, a2, a3, a4, a5, ha, hm⟩ | ⟨a0, a1, a2, a3, a4, a5, a6, ha, hm⟩ | ⟨a0, a1, a2, a3, a4, a5, a6, a7, ha, hm⟩ | ⟨a0, a1, a2, a3, a4, a5, a6, a7, ha, hm⟩ | ⟨a0, a1, a2, a3, a4, ha, hm⟩ | ⟨a0, a1, a2, a3, ha, hm⟩ | ⟨a0, ha, hm⟩)
  · skip
    have e64 : M1 64 = M 64 := by subst hm; rfl
    have e65 : M1 65 = M 65 := by subst hm; rfl
    have e66 : M1 66 = M 66 := by subst hm; rfl
    have e67 : M1 67 = M 67 := by subst hm; rfl
    have e68 : M1 68 = M 68 := by subst hm; rfl
    refine Ct.imp (R_mark i lg x t yy M1 (RI_eq e65 (Rl_RI h (by omega))) (by rw [e68]; exact Rl_sr h (by omega))) ?_
    rintro r2 M2 (⟨b0, b1, b2, b3, b4, b5, hb1, hm2⟩ | ⟨b0, b1, b2, b3, b4, b5, hb1, hm2⟩ | ⟨b0, b1, b2, b3, b4, hb1, hm2⟩ | ⟨b0, b1, b2, b3, hb1, hm2⟩ | ⟨b0, b1, b2, hb1, hm2⟩ | ⟨b0, b1, hb1, hm2⟩ | ⟨b0, hb1, hm2⟩)
    · skip
      try rw [e65] at b0
      try rw [e65] at b1
      try rw [e65] at b2
      try rw [e65] at b3
      try rw [e65] at b4
      try rw [e65] at b5
      exfalso; omega
    · skip
      try rw [e65] at b0
      try rw [e65] at b1
      try rw [e65] at b2
      try rw [e65] at b3
      try rw [e65] at b4
      try rw [e65] at b5
      exfalso; omega
    · skip
      try rw [e65] at b0
      try rw [e65] at b1
      try rw [e65] at b2
      try rw [e65] at b3
      try rw [e65] at b4
      first
      | (exfalso; omega)
      | exact ⟨by rw [ha, hb1], Rl_ref h 0 (by omega) (by rw [← hm2, ← hm]; rfl)⟩
    · skip
      try rw [e65] at b0
      try rw [e65] at b1
      try rw [e65] at b2
      try rw [e65] at b3
      first
      | (exfalso; omega)
      | exact ⟨by rw [ha, hb1], Rl_ref h 0 (by omega) (by rw [← hm2, ← hm]; rfl)⟩
    · skip
      try rw [e65] at b0
      try rw [e65] at b1
      try rw [e65] at b2
      first
      | (exfalso; omega)
      | exact ⟨by rw [ha, hb1], Rl_ref h 0 (by omega) (by rw [← hm2, ← hm]; rfl)⟩
    · skip
      try rw [e65] at b0
      try rw [e65] at b1
      first
      | (exfalso; omega)
      | exact ⟨by rw [ha, hb1], Rl_ref h 0 (by omega) (by rw [← hm2, ← hm]; rfl)⟩
    · skip
      try rw [e65] at b0
      first
      | (exfalso; omega)
      | exact ⟨by rw [ha, hb1], Rl_ref h 0 (by omega) (by rw [← hm2, ← hm]; rfl)⟩
  · skip
    have e64 : M1 64 = M 64 := by subst hm; rfl
    have e65 : M1 65 = M 65 := by subst hm; rfl
    have e66 : M1 66 = M 66 := by subst hm; rfl
    have e67 : M1 67 = M 67 := by subst hm; rfl
    have e68 : M1 68 = M 68 := by subst hm; rfl
    refine Ct.imp (R_mark i lg x t yy M1 (RI_eq e65 (Rl_RI h (by omega))) (by rw [e68]; exact Rl_sr h (by omega))) ?_
    rintro r2 M2 (⟨b0, b1, b2, b3, b4, b5, hb1, hm2⟩ | ⟨b0, b1, b2, b3, b4, b5, hb1, hm2⟩ | ⟨b0, b1, b2, b3, b4, hb1, hm2⟩ | ⟨b0, b1, b2, b3, hb1, hm2⟩ | ⟨b0, b1, b2, hb1, hm2⟩ | ⟨b0, b1, hb1, hm2⟩ | ⟨b0, hb1, hm2⟩)
    · skip
      try rw [e65] at b0
      try rw [e65] at b1
      try rw [e65] at b2
      try rw [e65] at b3
      try rw [e65] at b4
      try rw [e65] at b5
      exfalso; omega
    · skip
      try rw [e65] at b0
      try rw [e65] at b1
      try rw [e65] at b2
      try rw [e65] at b3
      try rw [e65] at b4
      try rw [e65] at b5
      exfalso; omega
    · skip
      try rw [e65] at b0
      try rw [e65] at b1
      try rw [e65] at b2
      try rw [e65] at b3
      try rw [e65] at b4
      first
      | (exfalso; omega)
      | exact ⟨by rw [ha, hb1], Rl_ref h 0 (by omega) (by rw [← hm2, ← hm]; rfl)⟩
    · skip
      try rw [e65] at b0
      try rw [e65] at b1
      try rw [e65] at b2
      try rw [e65] at b3
      first
      | (exfalso; omega)
      | exact ⟨by rw [ha, hb1], Rl_ref h 0 (by omega) (by rw [← hm2, ← hm]; rfl)⟩
    · skip
      try rw [e65] at b0
      try rw [e65] at b1
      try rw [e65] at b2
      first
      | (exfalso; omega)
      | exact ⟨by rw [ha, hb1], Rl_ref h 0 (by omega) (by rw [← hm2, ← hm]; rfl)⟩
    · skip
      try rw [e65] at b0
      try rw [e65] at b1
      first
      | (exfalso; omega)
      | exact ⟨by rw [ha, hb1], Rl_ref h 0 (by omega) (by rw [← hm2, ← hm]; rfl)⟩
    · skip
      try rw [e65] at b0
      first
      | (exfalso; omega)
      | exact ⟨by rw [ha, hb1], Rl_ref h 0 (by omega) (by rw [← hm2, ← hm]; rfl)⟩
  · skip
    have e64 : M1 64 = M 64 := by subst hm; rfl
    have e65 : M1 65 = M 65 := by subst hm; rfl
    have e66 : M1 66 = M 66 := by subst hm; rfl
    have e67 : M1 67 = M 67 := by subst hm; rfl
    have e68 : M1 68 = M 68 := by subst hm; rfl
    refine Ct.imp (R_mark i lg x t yy M1 (RI_eq e65 (Rl_RI h (by omega))) (by rw [e68]; exact Rl_sr h (by omega))) ?_
    rintro r2 M2 (⟨b0, b1, b2, b3, b4, b5, hb1, hm2⟩ | ⟨b0, b1, b2, b3, b4, b5, hb1, hm2⟩ | ⟨b0, b1, b2, b3, b4, hb1, hm2⟩ | ⟨b0, b1, b2, b3, hb1, hm2⟩ | ⟨b0, b1, b2, hb1, hm2⟩ | ⟨b0, b1, hb1, hm2⟩ | ⟨b0, hb1, hm2⟩)
    · skip
      try rw [e65] at b0
      try rw [e65] at b1
      try rw [e65] at b2
      try rw [e65] at b3
      try rw [e65] at b4
      try rw [e65] at b5
      exfalso; omega
    · skip
      try rw [e65] at b0
      try rw [e65] at b1
      try rw [e65] at b2
      try rw [e65] at b3
      try rw [e65] at b4
      try rw [e65] at b5
      exfalso; omega
    · skip
      try rw [e65] at b0
      try rw [e65] at b1
      try rw [e65] at b2
      try rw [e65] at b3
      try rw [e65] at b4
      first
      | (exfalso; omega)
      | exact ⟨by rw [ha, hb1], Rl_ref h 0 (by omega) (by rw [← hm2, ← hm]; rfl)⟩
    · skip
      try rw [e65] at b0
      try rw [e65] at b1
      try rw [e65] at b2
      try rw [e65] at b3
      first
      | (exfalso; omega)
      | exact ⟨by rw [ha, hb1], Rl_ref h 0 (by omega) (by rw [← hm2, ← hm]; rfl)⟩
    · skip
      try rw [e65] at b0
      try rw [e65] at b1
      try rw [e65] at b2
      first
      | (exfalso; omega)
      | exact ⟨by rw [ha, hb1], Rl_ref h 0 (by omega) (by rw [← hm2, ← hm]; rfl)⟩
    · skip
      try rw [e65] at b0
      try rw [e65] at b1
      first
      | (exfalso; omega)
      | exact ⟨by rw [ha, hb1], Rl_ref h 0 (by omega) (by rw [← hm2, ← hm]; rfl)⟩
    · skip
      try rw [e65] at b0
      first
      | (exfalso; omega)
      | exact ⟨by rw [ha, hb1], Rl_ref h 0 (by omega) (by rw [← hm2, ← hm]; rfl)⟩
  · skip
    have e64 : M1 64 = M 64 := by subst hm; rfl
    have e65 : M1 65 = M 65 := by subst hm; rfl
    have e66 : M1 66 = M 66 := by subst hm; rfl
    have e67 : M1 67 = M 67 := by subst hm; rfl
    have e68 : M1 68 = M 68 := by subst hm; rfl
    refine Ct.imp (R_mark i lg x t yy M1 (RI_eq e65 (Rl_RI h (by omega))) (by rw [e68]; exact Rl_sr h (by omega))) ?_
    rintro r2 M2 (⟨b0, b1, b2, b3, b4, b5, hb1, hm2⟩ | ⟨b0, b1, b2, b3, b4, b5, hb1, hm2⟩ | ⟨b0, b1, b2, b3, b4, hb1, hm2⟩ | ⟨b0, b1, b2, b3, hb1, hm2⟩ | ⟨b0, b1, b2, hb1, hm2⟩ | ⟨b0, b1, hb1, hm2⟩ | ⟨b0, hb1, hm2⟩)
    · skip
      try rw [e65] at b0
      try rw [e65] at b1
      try rw [e65] at b2
      try rw [e65] at b3
      try rw [e65] at b4
      try rw [e65] at b5
      exfalso; omega
    · skip
      try rw [e65] at b0
      try rw [e65] at b1
      try rw [e65] at b2
      try rw [e65] at b3
      try rw [e65] at b4
      try rw [e65] at b5
      exfalso; omega
    · skip
      try rw [e65] at b0
      try rw [e65] at b1
      try rw [e65] at b2
      try rw [e65] at b3
      try rw [e65] at b4
      first
      | (exfalso; omega)
      | exact ⟨by rw [ha, hb1], Rl_ref h 0 (by omega) (by rw [← hm2, ← hm]; rfl)⟩
    · skip
      try rw [e65] at b0
      try rw [e65] at b1
      try rw [e65] at b2
      try rw [e65] at b3
      first
      | (exfalso; omega)
      | exact ⟨by rw [ha, hb1], Rl_ref h 0 (by omega) (by rw [← hm2, ← hm]; rfl)⟩
    · skip
      try rw [e65] at b0
      try rw [e65] at b1
      try rw [e65] at b2
      first
      | (exfalso; omega)
      | exact ⟨by rw [ha, hb1], Rl_ref h 0 (by omega) (by rw [← hm2, ← hm]; rfl)⟩
    · skip
      try rw [e65] at b0
      try rw [e65] at b1
      first
      | (exfalso; omega)
      | exact ⟨by rw [ha, hb1], Rl_ref h 0 (by omega) (by rw [← hm2, ← hm]; rfl)⟩
    · skip
      try rw [e65] at b0
      first
      | (exfalso; omega)
      | exact ⟨by rw [ha, hb1], Rl_ref h 0 (by omega) (by rw [← hm2, ← hm]; rfl)⟩
  · skip
    have e64 : M1 64 = M 64 := by subst hm; rfl
    have e65 : M1 65 = M 65 := by subst hm; rfl
    have e66 : M1 66 = M 66 := by subst hm; rfl
    have e67 : M1 67 = M 67 := by subst hm; rfl
    have e68 : M1 68 = M 68 := by subst hm; rfl
    refine Ct.imp (R_mark i lg x t yy M1 (RI_eq e65 (Rl_RI h (by omega))) (by rw [e68]; exact Rl_sr h (by omega))) ?_
    rintro r2 M2 (⟨b0, b1, b2, b3, b4, b5, hb1, hm2⟩ | ⟨b0, b1, b2, b3, b4, b5, hb1, hm2⟩ | ⟨b0, b1, b2, b3, b4, hb1, hm2⟩ | ⟨b0, b1, b2, b3, hb1, hm2⟩ | ⟨b0, b1, b2, hb1, hm2⟩ | ⟨b0, b1, hb1, hm2⟩ | ⟨b0, hb1, hm2⟩)
    · skip
      try rw [e65] at b0
      try rw [e65] at b1
      try rw [e65] at b2
      try rw [e65] at b3
      try rw [e65] at b4
      try rw [e65] at b5
      first
      | (exfalso; omega)
      | exact ⟨by rw [ha, hb1], Rl_ref h 2 (by omega) (by rw [← hm2, ← hm]; rfl)⟩
    · skip
      try rw [e65] at b0
      try rw [e65] at b1
      try rw [e65] at b2
      try rw [e65] at b3
      try rw [e65] at b4
      try rw [e65] at b5
      exfalso; omega
    · skip
      try rw [e65] at b0
      try rw [e65] at b1
      try rw [e65] at b2
      try rw [e65] at b3
      try rw [e65] at b4
      exfalso; omega
    · skip
      try rw [e65] at b0
      try rw [e65] at b1
      try rw [e65] at b2
      try rw [e65] at b3
      exfalso; omega
    · skip
      try rw [e65] at b0
      try rw [e65] at b1
      try rw [e65] at b2
      exfalso; omega
    · skip
      try rw [e65] at b0
      try rw [e65] at b1
      exfalso; omega
    · skip
      try rw [e65] at b0
      exfalso; omega
  · skip
    have e64 : M1 64 = M 64 := by subst hm; rfl
    have e65 : M1 65 = M 65 := by subst hm; rfl
    have e66 : M1 66 = M 66 := by subst hm; rfl
    have e67 : M1 67 = M 67 := by subst hm; rfl
    have e68 : M1 68 = M 68 := by subst hm; rfl
    refine Ct.imp (R_mark i lg x t yy M1 (RI_eq e65 (Rl_RI h (by omega))) (by rw [e68]; exact Rl_sr h (by omega))) ?_
    rintro r2 M2 (⟨b0, b1, b2, b3, b4, b5, hb1, hm2⟩ | ⟨b0, b1, b2, b3, b4, b5, hb1, hm2⟩ | ⟨b0, b1, b2, b3, b4, hb1, hm2⟩ | ⟨b0, b1, b2, b3, hb1, hm2⟩ | ⟨b0, b1, b2, hb1, hm2⟩ | ⟨b0, b1, hb1, hm2⟩ | ⟨b0, hb1, hm2⟩)
    · skip
      try rw [e65] at b0
      try rw [e65] at b1
      try rw [e65] at b2
      try rw [e65] at b3
      try rw [e65] at b4
      try rw [e65] at b5
      exfalso; omega
    · skip
      try rw [e65] at b0
      try rw [e65] at b1
      try rw [e65] at b2
      try rw [e65] at b3
      try rw [e65] at b4
      try rw [e65] at b5
      first
      | (exfalso; omega)
      | (have hM : (up (up (up (up (up (up (up (up (up (up (up (up M 12 3 ((M 12 3) + 1)) 13 ((M 12 3) * 5 + 0) i) 13 ((M 12 3) * 5 + 1) lg) 13 ((M 12 3) * 5 + 2) x) 13 ((M 12 3) * 5 + 3) t) 13 ((M 12 3) * 5 + 4) yy) 65 (81 + (5 * (M 65 80))) i) 65 ((81 + (5 * (M 65 80))) + 1) lg) 65 ((81 + (5 * (M 65 80))) + 2) x) 65 ((81 + (5 * (M 65 80))) + 3) t) 65 ((81 + (5 * (M 65 80))) + 4) yy) 65 80 ((M 65 80) + 1)) = M2 := by rw [← hm2, ← hm]; rfl
         have hW : M2 65 = (st1 (st1 (st1 (st1 (st1 (st1 (M 65) (81 + 5 * M 65 80) i) (81 + 5 * M 65 80 + 1) lg) (81 + 5 * M 65 80 + 2) x) (81 + 5 * M 65 80 + 3) t) (81 + 5 * M 65 80 + 4) yy) 80 (M 65 80 + 1)) := by rw [← hM]; funext x; simp [up, st1]
         have hC : M2 13 = (st1 (st1 (st1 (st1 (st1 (M 13) (M 12 3 * 5 + 0) i) (M 12 3 * 5 + 1) lg) (M 12 3 * 5 + 2) x) (M 12 3 * 5 + 3) t) (M 12 3 * 5 + 4) yy) := by rw [← hM]; funext x; simp [up, st1]
         have hS : M2 12 = st1 (M 12) 3 (M 12 3 + 1) := by rw [← hM]; funext x; simp [up, st1]
         have hz : ∀ r, r ≠ 12 → r ≠ 13 → r ≠ 65 → M2 r = M r := fun r z1 z2 z3 => by rw [← hM, up_ne z3, up_ne z3, up_ne z3, up_ne z3, up_ne z3, up_ne z3, up_ne z2, up_ne z2, up_ne z2, up_ne z2, up_ne z2, up_ne z1]
         have lw := h.2.2.2.2.2.2.2.2.2.2.1.1
         have lw3 : 0 ≤ M 12 3 ∧ M 12 3 ≤ 6 := ⟨lw.2.2.1, lw.2.2.2⟩
         refine ⟨by rw [ha, hb1, e65]; exact some_vi (by omega), Rl_house h (hz 0 (by decide) (by decide) (by decide)) (fun r z1 z2 => hz r (by omega) (by omega) (by omega)) (LK_eq (hz _ (by decide) (by decide) (by decide)) (hz _ (by decide) (by decide) (by decide)) (hz _ (by decide) (by decide) (by decide)) h.2.2.2.2.1.2.2) (by rw [hz 59 (by decide) (by decide) (by decide)]) (hz _ (by decide) (by decide) (by decide)) (fun j hj => by rw [hz 64 (by decide) (by decide) (by decide)]) (fun j z1 z2 => by rw [hW, st1_ne (by omega), st1_ne (by omega), st1_ne (by omega), st1_ne (by omega), st1_ne (by omega), st1_ne (by omega)]) (hz _ (by decide) (by decide) (by decide)) (hz _ (by decide) (by decide) (by decide)) (hz _ (by decide) (by decide) (by decide)) (HS_eq (fun _ _ => rfl) (fun _ _ _ => rfl) (by omega) (HS_mAdd (M := M) (M' := M2) (h := 1) (W := M 65) (W' := M2 65) (o := 0) (b := 200 + n) (v0 := i) (v1 := lg) (v2 := x) (v3 := t) (v4 := yy) h.2.2.2.2.2 (show M 12 3 < 6 by omega) (by omega) (hz 1 (by decide) (by decide) (by decide)) (fun j hj => hz _ (by omega) (by omega) (by omega)) ⟨by show M2 12 0 = _; rw [hS, st1_ne (by decide)]; exact lw.1, by show M2 12 1 = _; rw [hS, st1_ne (by decide)]; exact lw.2.1⟩ (by show M2 12 3 = M 12 3 + 1; rw [hS, st1_at]) ?_ (fun x z1 z2 => ?_) ?_ ?_ (fun x z1 z2 => ?_) (fun x z1 z2 z3 z4 => ?_)))⟩
         · show M2 13 (M 12 3 * 5 + 0) = i ∧ M2 13 (M 12 3 * 5 + 1) = lg ∧ M2 13 (M 12 3 * 5 + 2) = x ∧ M2 13 (M 12 3 * 5 + 3) = t ∧ M2 13 (M 12 3 * 5 + 4) = yy
           exact ⟨by rw [hC, st1_ne (by omega), st1_ne (by omega), st1_ne (by omega), st1_ne (by omega), st1_eq (by omega)], by rw [hC, st1_ne (by omega), st1_ne (by omega), st1_ne (by omega), st1_eq (by omega)], by rw [hC, st1_ne (by omega), st1_ne (by omega), st1_eq (by omega)], by rw [hC, st1_ne (by omega), st1_eq (by omega)], by rw [hC, st1_eq (by omega)]⟩
         · show M2 13 x = M 13 x
           have z2' : x < 5 * M 12 3 := z2
           rw [hC, st1_ne (by omega), st1_ne (by omega), st1_ne (by omega), st1_ne (by omega), st1_ne (by omega)]
         · show M2 65 (0 + 80) = M 12 3 + 1
           rw [hW, st1_eq (by omega)]; omega
         · show M2 65 (0 + 81 + (5 * M 12 3 + 0)) = i ∧ M2 65 (0 + 81 + (5 * M 12 3 + 1)) = lg ∧ M2 65 (0 + 81 + (5 * M 12 3 + 2)) = x ∧ M2 65 (0 + 81 + (5 * M 12 3 + 3)) = t ∧ M2 65 (0 + 81 + (5 * M 12 3 + 4)) = yy
           exact ⟨by rw [hW, st1_ne (by omega), st1_ne (by omega), st1_ne (by omega), st1_ne (by omega), st1_ne (by omega), st1_eq (by omega)], by rw [hW, st1_ne (by omega), st1_ne (by omega), st1_ne (by omega), st1_ne (by omega), st1_eq (by omega)], by rw [hW, st1_ne (by omega), st1_ne (by omega), st1_ne (by omega), st1_eq (by omega)], by rw [hW, st1_ne (by omega), st1_ne (by omega), st1_eq (by omega)], by rw [hW, st1_ne (by omega), st1_eq (by omega)]⟩
         · have z2' : x < 5 * M 12 3 := z2
           rw [hW, st1_ne (by omega), st1_ne (by omega), st1_ne (by omega), st1_ne (by omega), st1_ne (by omega), st1_ne (by omega)]
         · rw [hW, st1_ne (by omega), st1_ne (by omega), st1_ne (by omega), st1_ne (by omega), st1_ne (by omega), st1_ne (by omega)])
    · skip
      try rw [e65] at b0
      try rw [e65] at b1
      try rw [e65] at b2
      try rw [e65] at b3
      try rw [e65] at b4
      exfalso; omega
    · skip
      try rw [e65] at b0
      try rw [e65] at b1
      try rw [e65] at b2
      try rw [e65] at b3
      exfalso; omega
    · skip
      try rw [e65] at b0
      try rw [e65] at b1
      try rw [e65] at b2
      exfalso; omega
    · skip
      try rw [e65] at b0
      try rw [e65] at b1
      exfalso; omega
    · skip
      try rw [e65] at b0
      exfalso; omega
  · skip
    have e64 : M1 64 = M 64 := by subst hm; rfl
    have e65 : M1 65 = M 65 := by subst hm; rfl
    have e66 : M1 66 = M 66 := by subst hm; rfl
    have e67 : M1 67 = M 67 := by subst hm; rfl
    have e68 : M1 68 = M 68 := by subst hm; rfl
    refine Ct.imp (R_mark i lg x t yy M1 (RI_eq e65 (Rl_RI h (by omega))) (by rw [e68]; exact Rl_sr h (by omega))) ?_
    rintro r2 M2 (⟨b0, b1, b2, b3, b4, b5, hb1, hm2⟩ | ⟨b0, b1, b2, b3, b4, b5, hb1, hm2⟩ | ⟨b0, b1, b2, b3, b4, hb1, hm2⟩ | ⟨b0, b1, b2, b3, hb1, hm2⟩ | ⟨b0, b1, b2, hb1, hm2⟩ | ⟨b0, b1, hb1, hm2⟩ | ⟨b0, hb1, hm2⟩)
    · skip
      try rw [e65] at b0
      try rw [e65] at b1
      try rw [e65] at b2
      try rw [e65] at b3
      try rw [e65] at b4
      try rw [e65] at b5
      exfalso; omega
    · skip
      try rw [e65] at b0
      try rw [e65] at b1
      try rw [e65] at b2
      try rw [e65] at b3
      try rw [e65] at b4
      try rw [e65] at b5
      exfalso; omega
    · skip
      try rw [e65] at b0
      try rw [e65] at b1
      try rw [e65] at b2
      try rw [e65] at b3
      try rw [e65] at b4
      first
      | (exfalso; omega)
      | exact ⟨by rw [ha, hb1], Rl_ref h 0 (by omega) (by rw [← hm2, ← hm]; rfl)⟩
    · skip
      try rw [e65] at b0
      try rw [e65] at b1
      try rw [e65] at b2
      try rw [e65] at b3
      first
      | (exfalso; omega)
      | exact ⟨by rw [ha, hb1], Rl_ref h 0 (by omega) (by rw [← hm2, ← hm]; rfl)⟩
    · skip
      try rw [e65] at b0
      try rw [e65] at b1
      try rw [e65] at b2
      first
      | (exfalso; omega)
      | exact ⟨by rw [ha, hb1], Rl_ref h 0 (by omega) (by rw [← hm2, ← hm]; rfl)⟩
    · skip
      try rw [e65] at b0
      try rw [e65] at b1
      first
      | (exfalso; omega)
      | exact ⟨by rw [ha, hb1], Rl_ref h 0 (by omega) (by rw [← hm2, ← hm]; rfl)⟩
    · skip
      try rw [e65] at b0
      first
      | (exfalso; omega)
      | exact ⟨by rw [ha, hb1], Rl_ref h 0 (by omega) (by rw [← hm2, ← hm]; rfl)⟩
  · skip
    have e64 : M1 64 = M 64 := by subst hm; rfl
    have e65 : M1 65 = M 65 := by subst hm; rfl
    have e66 : M1 66 = M 66 := by subst hm; rfl
    have e67 : M1 67 = M 67 := by subst hm; rfl
    have e68 : M1 68 = M 68 := by subst hm; rfl
    refine Ct.imp (R_mark i lg x t yy M1 (RI_eq e65 (Rl_RI h (by omega))) (by rw [e68]; exact Rl_sr h (by omega))) ?_
    rintro r2 M2 (⟨b0, b1, b2, b3, b4, b5, hb1, hm2⟩ | ⟨b0, b1, b2, b3, b4, b5, hb1, hm2⟩ | ⟨b0, b1, b2, b3, b4, hb1, hm2⟩ | ⟨b0, b1, b2, b3, hb1, hm2⟩ | ⟨b0, b1, b2, hb1, hm2⟩ | ⟨b0, b1, hb1, hm2⟩ | ⟨b0, hb1, hm2⟩)
    · skip
      try rw [e65] at b0
      try rw [e65] at b1
      try rw [e65] at b2
      try rw [e65] at b3
      try rw [e65] at b4
      try rw [e65] at b5
      exfalso; omega
    · skip
      try rw [e65] at b0
      try rw [e65] at b1
      try rw [e65] at b2
      try rw [e65] at b3
      try rw [e65] at b4
      try rw [e65] at b5
      exfalso; omega
    · skip
      try rw [e65] at b0
      try rw [e65] at b1
      try rw [e65] at b2
      try rw [e65] at b3
      try rw [e65] at b4
      first
      | (exfalso; omega)
      | exact ⟨by rw [ha, hb1], Rl_ref h 0 (by omega) (by rw [← hm2, ← hm]; rfl)⟩
    · skip
      try rw [e65] at b0
      try rw [e65] at b1
      try rw [e65] at b2
      try rw [e65] at b3
      first
      | (exfalso; omega)
      | exact ⟨by rw [ha, hb1], Rl_ref h 0 (by omega) (by rw [← hm2, ← hm]; rfl)⟩
    · skip
      try rw [e65] at b0
      try rw [e65] at b1
      try rw [e65] at b2
      first
      | (exfalso; omega)
      | exact ⟨by rw [ha, hb1], Rl_ref h 0 (by omega) (by rw [← hm2, ← hm]; rfl)⟩
    · skip
      try rw [e65] at b0
      try rw [e65] at b1
      first
      | (exfalso; omega)
      | exact ⟨by rw [ha, hb1], Rl_ref h 0 (by omega) (by rw [← hm2, ← hm]; rfl)⟩
    · skip
      try rw [e65] at b0
      first
      | (exfalso; omega)
      | exact ⟨by rw [ha, hb1], Rl_ref h 0 (by omega) (by rw [← hm2, ← hm]; rfl)⟩
  · skip
    have e64 : M1 64 = M 64 := by subst hm; rfl
    have e65 : M1 65 = M 65 := by subst hm; rfl
    have e66 : M1 66 = M 66 := by subst hm; rfl
    have e67 : M1 67 = M 67 := by subst hm; rfl
    have e68 : M1 68 = M 68 := by subst hm; rfl
    refine Ct.imp (R_mark i lg x t yy M1 (RI_eq e65 (Rl_RI h (by omega))) (by rw [e68]; exact Rl_sr h (by omega))) ?_
    rintro r2 M2 (⟨b0, b1, b2, b3, b4, b5, hb1, hm2⟩ | ⟨b0, b1, b2, b3, b4, b5, hb1, hm2⟩ | ⟨b0, b1, b2, b3, b4, hb1, hm2⟩ | ⟨b0, b1, b2, b3, hb1, hm2⟩ | ⟨b0, b1, b2, hb1, hm2⟩ | ⟨b0, b1, hb1, hm2⟩ | ⟨b0, hb1, hm2⟩)
    · skip
      try rw [e65] at b0
      try rw [e65] at b1
      try rw [e65] at b2
      try rw [e65] at b3
      try rw [e65] at b4
      try rw [e65] at b5
      exfalso; omega
    · skip
      try rw [e65] at b0
      try rw [e65] at b1
      try rw [e65] at b2
      try rw [e65] at b3
      try rw [e65] at b4
      try rw [e65] at b5
      exfalso; omega
    · skip
      try rw [e65] at b0
      try rw [e65] at b1
      try rw [e65] at b2
      try rw [e65] at b3
      try rw [e65] at b4
      first
      | (exfalso; omega)
      | exact ⟨by rw [ha, hb1], Rl_ref h 0 (by omega) (by rw [← hm2, ← hm]; rfl)⟩
    · skip
      try rw [e65] at b0
      try rw [e65] at b1
      try rw [e65] at b2
      try rw [e65] at b3
      first
      | (exfalso; omega)
      | exact ⟨by rw [ha, hb1], Rl_ref h 0 (by omega) (by rw [← hm2, ← hm]; rfl)⟩
    · skip
      try rw [e65] at b0
      try rw [e65] at b1
      try rw [e65] at b2
      first
      | (exfalso; omega)
      | exact ⟨by rw [ha, hb1], Rl_ref h 0 (by omega) (by rw [← hm2, ← hm]; rfl)⟩
    · skip
      try rw [e65] at b0
      try rw [e65] at b1
      first
      | (exfalso; omega)
      | exact ⟨by rw [ha, hb1], Rl_ref h 0 (by omega) (by rw [← hm2, ← hm]; rfl)⟩
    · skip
      try rw [e65] at b0
      first
      | (exfalso; omega)
      | exact ⟨by rw [ha, hb1], Rl_ref h 0 (by omega) (by rw [← hm2, ← hm]; rfl)⟩
