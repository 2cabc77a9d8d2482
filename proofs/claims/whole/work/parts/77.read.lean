/-! read of the reference (written by wip/whole/gen77.py) -/
theorem itW_wd {t : Int → Int} {s e : Int} {X : Mm} : itW t s e X = if wdI t s e = 2 then itF t e s X else if wdI t s e = 3 then itG t e s X else if wdI t s e = 4 then itL t e X else if wdI t s e = 5 then itS t e X else if wdI t s e = 6 then itH t e X else Sum.inl s := by
  by_cases h1 : w1B t s e = true
  · have l1 : e - s = 8 := by unfold w1B at h1; exact (of_decide_eq_true h1).1
    have x2 : ¬ w2B t s e = true := fun z => by unfold w2B at z; have := (of_decide_eq_true z).1; omega
    have x3 : ¬ w3B t s e = true := fun z => by unfold w3B at z; have := (of_decide_eq_true z).1; omega
    have x4 : ¬ w4B t s e = true := fun z => by unfold w4B at z; have := (of_decide_eq_true z).1; omega
    have x5 : ¬ w5B t s e = true := fun z => by unfold w5B at z; have := (of_decide_eq_true z).1; omega
    have x6 : ¬ w6B t s e = true := fun z => by unfold w6B at z; have := (of_decide_eq_true z).1; omega
    unfold itW wdI
    rw [if_neg x2, if_neg x3, if_neg x4, if_neg x5, if_neg x6, if_pos h1]
    rfl
  · unfold itW wdI
    rw [if_neg h1]
    by_cases h2 : w2B t s e = true
    · rw [if_pos h2, if_pos h2]; rfl
    · rw [if_neg h2, if_neg h2]
      by_cases h3 : w3B t s e = true
      · rw [if_pos h3, if_pos h3]; rfl
      · rw [if_neg h3, if_neg h3]
        by_cases h4 : w4B t s e = true
        · rw [if_pos h4, if_pos h4]; rfl
        · rw [if_neg h4, if_neg h4]
          by_cases h5 : w5B t s e = true
          · rw [if_pos h5, if_pos h5]; rfl
          · rw [if_neg h5, if_neg h5]
            by_cases h6 : w6B t s e = true
            · rw [if_pos h6, if_pos h6]; rfl
            · rw [if_neg h6, if_neg h6]; rfl
def itP (t : Int → Int) (s : Int) (X : Mm) : Int ⊕ (Int × Mm) := if w1B t s (we t s) = true then itE t (we t s) X else Sum.inl s
theorem itP_wd {t : Int → Int} {s : Int} {X : Mm} : itP t s X = if wdI t s (we t s) = 1 then itE t (we t s) X else Sum.inl s := by
  unfold itP wdI
  by_cases h1 : w1B t s (we t s) = true
  · rw [if_pos h1, if_pos h1, if_pos rfl]
  · rw [if_neg h1, if_neg h1]
    split
    · rw [if_neg (by decide)]
    · split
      · rw [if_neg (by decide)]
      · split
        · rw [if_neg (by decide)]
        · split
          · rw [if_neg (by decide)]
          · split
            · rw [if_neg (by decide)]
            · rw [if_neg (by decide)]
theorem OutR_or {Z : Mm} {W R : Int → Int} {b : Int} {out : Int ⊕ (Int × Mm)} {q0 : Option PV} {M' : Mm} (h : OutR Z W R b out q0 M') : (∃ (W' R' : Int → Int) (X' : Mm), (∀ j, j ≠ 7 → j ≠ 8 → j ≠ 9 → R' j = R j) ∧ (∀ j, j < 744 ∨ 992 ≤ j → W' j = W j) ∧ (0 ≤ R' 7 ∧ R' 7 ≤ R' 3) ∧ out = Sum.inr (R' 7, X') ∧ PI X' W' (b + 1) ∧ q0 = some (vi 1) ∧ sr (sr Z 65 W') 64 R' = M') ∨ (∃ (W' R' : Int → Int), (∀ j, j ≠ 7 → j ≠ 8 → j ≠ 9 → R' j = R j) ∧ (∀ j, j < 744 ∨ 992 ≤ j → W' j = W j) ∧ out = Sum.inl (R' 8) ∧ q0 = some (vi 0) ∧ sr (sr Z 65 W') 64 R' = M') := by
  obtain ⟨W', R', h1, h2, ⟨h3, h4⟩ | ⟨h3, h4, X', h5, h6⟩, h7⟩ := h
  · exact Or.inr ⟨W', R', h1, h2, h4, h3, h7⟩
  · exact Or.inl ⟨W', R', X', h1, h2, h4, h5, h6, h3, h7⟩
set_option maxRecDepth 100000 in
set_option maxHeartbeats 4000000 in
theorem r_readsItem0 (Z X : Mm) (W R : Int → Int) (t : Int → Int) (b : Int) (hT : TR (sr (sr Z 65 W) 64 R) t) (q : PI X W b) (hb8 : b ≤ 8000) (hR : 0 ≤ R 7 ∧ R 7 ≤ R 3) : Ct 168 [vr 64, vi 0] (sr (sr Z 65 W) 64 R) (fun q0 M' => OutR Z W R b (itW t (sk t (R 7)) (we t (sk t (R 7))) X) q0 M') := by
  have hTX : TX t (R 3) := hT.1
  have tx := hTX.1
  have hsk := sk_rng (p := R 7) hTX hR.2
  have hwe := we_rng (p := sk t (R 7)) hTX hsk.2
  refine Hx.run 1 (pc' := 1) (L' := [some (vr 64), some (vi 0), none, none]) (st' := [vr 64]) (M' := (sr (sr Z 65 W) 64 R)) rfl ?_
  refine Hx.call (t := 157) (as := [vr 64]) (pc' := 4) (rest := []) rfl (r_takesWord (sr (sr Z 65 W) 64 R) t hT (by show 0 ≤ R 7 ∧ R 7 ≤ R 3; omega)) ?_
  rintro _ _ ⟨R1, y0, y7, y8, rfl, rfl⟩
  rw [sr_sr]
  have rr1 : ∀ j, j ≠ 7 → j ≠ 8 → j ≠ 9 → R1 j = R j := y0
  have a3 : R1 3 = R 3 := rr1 3 (by decide) (by decide) (by decide)
  have a7 : R1 7 = (we t (sk t (R 7))) := y7
  have a8 : R1 8 = (sk t (R 7)) := y8
  refine Hx.run 0 (pc' := 4) (L' := [some (vr 64), some (vi 0), none, none]) (st' := []) (M' := (sr (sr Z 65 W) 64 R1)) rfl ?_
  refine Hx.run 1 (pc' := 5) (L' := [some (vr 64), some (vi 0), none, none]) (st' := [vr 64]) (M' := (sr (sr Z 65 W) 64 R1)) rfl ?_
  refine Hx.call (t := 160) (as := [vr 64]) (pc' := 8) (rest := []) rfl ((show Ct 160 [vr 64] (sr (sr Z 65 W) 64 R1) (fun q0 M' => q0 = some (vi (wdI t (sk t (R 7)) (we t (sk t (R 7))))) ∧ (sr (sr Z 65 W) 64 R1) = M') from by have z := r_wordOf (sr (sr Z 65 W) 64 R1) t (TR_2 hT a3) (by show 0 ≤ R1 8; omega) (by show R1 8 ≤ R1 7 ∧ R1 7 ≤ R1 3; omega); rw [show (sr (sr Z 65 W) 64 R1) 64 8 = (sk t (R 7)) from a8, show (sr (sr Z 65 W) 64 R1) 64 7 = (we t (sk t (R 7))) from a7] at z; exact z)) ?_
  rintro _ _ ⟨rfl, rfl⟩
  refine Hx.run 0 (pc' := 8) (L' := [some (vr 64), some (vi 0), none, none]) (st' := [vi (wdI t (sk t (R 7)) (we t (sk t (R 7))))]) (M' := (sr (sr Z 65 W) 64 R1)) rfl ?_
  refine Hx.run 4 (pc' := 12) (L' := [some (vr 64), some (vi 0), some (vi (wdI t (sk t (R 7)) (we t (sk t (R 7))))), none]) (st' := [vi 1, vi (wdI t (sk t (R 7)) (we t (sk t (R 7)))), vi 0]) (M' := (sr (sr Z 65 W) 64 R1)) rfl ?_
  refine Hx.br (c := (wdI t (sk t (R 7)) (we t (sk t (R 7)))) = 1) (t := 15) (f := 19) rfl (fun h1 => ?_) (fun h1 => ?_)
  · skip
    refine Hx.run 4 (pc' := 24) (L' := [some (vr 64), some (vi 0), some (vi (wdI t (sk t (R 7)) (we t (sk t (R 7))))), none]) (st' := [vi 0]) (M' := (sr (sr Z 65 W) 64 R1)) rfl ?_
    refine Hx.ret rfl ?_
    exact ⟨W, R1, rr1, fun _ _ => rfl, Or.inl ⟨rfl, by rw [itW_wd, if_neg (by omega), if_neg (by omega), if_neg (by omega), if_neg (by omega), if_neg (by omega), a8]⟩, rfl⟩
  · skip
    refine Hx.run 4 (pc' := 27) (L' := [some (vr 64), some (vi 0), some (vi (wdI t (sk t (R 7)) (we t (sk t (R 7))))), none]) (st' := [vi 1, vi (wdI t (sk t (R 7)) (we t (sk t (R 7))))]) (M' := (sr (sr Z 65 W) 64 R1)) rfl ?_
    refine Hx.br (c := (wdI t (sk t (R 7)) (we t (sk t (R 7)))) = 1) (t := 103) (f := 30) rfl (fun h2 => ?_) (fun h2 => ?_)
    · skip
      exfalso; omega
    · skip
      refine Hx.run 2 (pc' := 32) (L' := [some (vr 64), some (vi 0), some (vi (wdI t (sk t (R 7)) (we t (sk t (R 7))))), none]) (st' := [vi 2, vi (wdI t (sk t (R 7)) (we t (sk t (R 7))))]) (M' := (sr (sr Z 65 W) 64 R1)) rfl ?_
      refine Hx.br (c := (wdI t (sk t (R 7)) (we t (sk t (R 7)))) = 2) (t := 35) (f := 45) rfl (fun h3 => ?_) (fun h3 => ?_)
      · skip
        refine Hx.run 1 (pc' := 36) (L' := [some (vr 64), some (vi 0), some (vi (wdI t (sk t (R 7)) (we t (sk t (R 7))))), none]) (st' := [vr 64]) (M' := (sr (sr Z 65 W) 64 R1)) rfl ?_
        refine Hx.call (t := 163) (as := [vr 64]) (pc' := 39) (rest := []) rfl (Ct.imp (r_readsFlight Z X W R1 t b (TR_2 hT a3) q hb8 (by omega) (sk t (R 7)) a8) (fun _ _ h => OutR_or h)) ?_
        rintro _ _ (⟨W2, R2, X2, g0, gw, g7, ho, q2, rfl, rfl⟩ | ⟨W2, R2, g0, gw, ho, rfl, rfl⟩)
        · skip
          have rr2 : ∀ j, j ≠ 7 → j ≠ 8 → j ≠ 9 → R2 j = R j := fun j h7 h8 h9 => by rw [g0 j h7 h8 h9]; exact rr1 j h7 h8 h9
          have b3 : R2 3 = R 3 := rr2 3 (by decide) (by decide) (by decide)
          refine Hx.run 8 (pc' := 114) (L' := [some (vr 64), some (vi 0), some (vi (wdI t (sk t (R 7)) (we t (sk t (R 7))))), some (vi 1)]) (st' := [vr 64]) (M' := (sr (sr Z 65 W2) 64 R2)) rfl ?_
          refine Hx.call (t := 162) (as := [vr 64]) (pc' := 117) (rest := []) rfl (r_takesEnd (sr (sr Z 65 W2) 64 R2) t (TR_2 hT (by omega)) (by show 0 ≤ R2 7 ∧ R2 7 ≤ R2 3; omega)) ?_
          rintro _ _ (⟨R3, y0, y7, y8, yk, rfl, rfl⟩ | ⟨R3, y0, y8, yk, rfl, rfl⟩)
          · skip
            rw [sr_sr]
            have rr3 : ∀ j, j ≠ 7 → j ≠ 8 → j ≠ 9 → R3 j = R j := fun j h7 h8 h9 => by have z : R3 j = R2 j := y0 j h7 h8 h9; rw [z]; exact rr2 j h7 h8 h9
            have d3 : R3 3 = R 3 := rr3 3 (by decide) (by decide) (by decide)
            have d8 : R3 8 = (sk t (R2 7)) := y8
            have d7 : R3 7 = (sk t (R2 7)) + 1 := y7
            have ok : t (sk t (R2 7)) = 59 := yk
            have sl := sk_lt (p := R2 7) hTX ok
            have sg := sk_rng (p := R2 7) hTX (by omega)
            refine Hx.run 3 (pc' := 125) (L' := [some (vr 64), some (vi 0), some (vi (wdI t (sk t (R 7)) (we t (sk t (R 7))))), some (vi 1)]) (st' := [vi 1]) (M' := (sr (sr Z 65 W2) 64 R3)) rfl ?_
            refine Hx.ret rfl ?_
            exact ⟨W2, R3, rr3, gw, Or.inr ⟨rfl, by omega, X2, by rw [itW_wd, if_pos (by omega), itF_b, ← a7, ho]; exact itE_yes ok d7, q2⟩, rfl⟩
          · skip
            rw [sr_sr]
            have rr3 : ∀ j, j ≠ 7 → j ≠ 8 → j ≠ 9 → R3 j = R j := fun j h7 h8 h9 => by have z : R3 j = R2 j := y0 j h7 h8 h9; rw [z]; exact rr2 j h7 h8 h9
            have d3 : R3 3 = R 3 := rr3 3 (by decide) (by decide) (by decide)
            have d8 : R3 8 = (sk t (R2 7)) := y8
            have ok : ¬ t (sk t (R2 7)) = 59 := yk
            refine Hx.run 2 (pc' := 125) (L' := [some (vr 64), some (vi 0), some (vi (wdI t (sk t (R 7)) (we t (sk t (R 7))))), some (vi 1)]) (st' := [vi 0]) (M' := (sr (sr Z 65 W2) 64 R3)) rfl ?_
            refine Hx.ret rfl ?_
            exact ⟨W2, R3, rr3, gw, Or.inl ⟨rfl, by rw [itW_wd, if_pos (by omega), itF_b, ← a7, ho]; exact itE_no ok d8⟩, rfl⟩
        · skip
          have rr2 : ∀ j, j ≠ 7 → j ≠ 8 → j ≠ 9 → R2 j = R j := fun j h7 h8 h9 => by rw [g0 j h7 h8 h9]; exact rr1 j h7 h8 h9
          have b3 : R2 3 = R 3 := rr2 3 (by decide) (by decide) (by decide)
          refine Hx.run 6 (pc' := 125) (L' := [some (vr 64), some (vi 0), some (vi (wdI t (sk t (R 7)) (we t (sk t (R 7))))), some (vi 0)]) (st' := [vi 0]) (M' := (sr (sr Z 65 W2) 64 R2)) rfl ?_
          refine Hx.ret rfl ?_
          exact ⟨W2, R2, rr2, gw, Or.inl ⟨rfl, by rw [itW_wd, if_pos (by omega), itF_b, ← a7, ho]; rfl⟩, rfl⟩
      · skip
        refine Hx.run 2 (pc' := 47) (L' := [some (vr 64), some (vi 0), some (vi (wdI t (sk t (R 7)) (we t (sk t (R 7))))), none]) (st' := [vi 3, vi (wdI t (sk t (R 7)) (we t (sk t (R 7))))]) (M' := (sr (sr Z 65 W) 64 R1)) rfl ?_
        refine Hx.br (c := (wdI t (sk t (R 7)) (we t (sk t (R 7)))) = 3) (t := 50) (f := 60) rfl (fun h4 => ?_) (fun h4 => ?_)
        · skip
          refine Hx.run 1 (pc' := 51) (L' := [some (vr 64), some (vi 0), some (vi (wdI t (sk t (R 7)) (we t (sk t (R 7))))), none]) (st' := [vr 64]) (M' := (sr (sr Z 65 W) 64 R1)) rfl ?_
          refine Hx.call (t := 164) (as := [vr 64]) (pc' := 54) (rest := []) rfl (Ct.imp (r_readsGoer Z X W R1 t b (TR_2 hT a3) q hb8 (by omega) (sk t (R 7)) a8) (fun _ _ h => OutR_or h)) ?_
          rintro _ _ (⟨W2, R2, X2, g0, gw, g7, ho, q2, rfl, rfl⟩ | ⟨W2, R2, g0, gw, ho, rfl, rfl⟩)
          · skip
            have rr2 : ∀ j, j ≠ 7 → j ≠ 8 → j ≠ 9 → R2 j = R j := fun j h7 h8 h9 => by rw [g0 j h7 h8 h9]; exact rr1 j h7 h8 h9
            have b3 : R2 3 = R 3 := rr2 3 (by decide) (by decide) (by decide)
            refine Hx.run 8 (pc' := 114) (L' := [some (vr 64), some (vi 0), some (vi (wdI t (sk t (R 7)) (we t (sk t (R 7))))), some (vi 1)]) (st' := [vr 64]) (M' := (sr (sr Z 65 W2) 64 R2)) rfl ?_
            refine Hx.call (t := 162) (as := [vr 64]) (pc' := 117) (rest := []) rfl (r_takesEnd (sr (sr Z 65 W2) 64 R2) t (TR_2 hT (by omega)) (by show 0 ≤ R2 7 ∧ R2 7 ≤ R2 3; omega)) ?_
            rintro _ _ (⟨R3, y0, y7, y8, yk, rfl, rfl⟩ | ⟨R3, y0, y8, yk, rfl, rfl⟩)
            · skip
              rw [sr_sr]
              have rr3 : ∀ j, j ≠ 7 → j ≠ 8 → j ≠ 9 → R3 j = R j := fun j h7 h8 h9 => by have z : R3 j = R2 j := y0 j h7 h8 h9; rw [z]; exact rr2 j h7 h8 h9
              have d3 : R3 3 = R 3 := rr3 3 (by decide) (by decide) (by decide)
              have d8 : R3 8 = (sk t (R2 7)) := y8
              have d7 : R3 7 = (sk t (R2 7)) + 1 := y7
              have ok : t (sk t (R2 7)) = 59 := yk
              have sl := sk_lt (p := R2 7) hTX ok
              have sg := sk_rng (p := R2 7) hTX (by omega)
              refine Hx.run 3 (pc' := 125) (L' := [some (vr 64), some (vi 0), some (vi (wdI t (sk t (R 7)) (we t (sk t (R 7))))), some (vi 1)]) (st' := [vi 1]) (M' := (sr (sr Z 65 W2) 64 R3)) rfl ?_
              refine Hx.ret rfl ?_
              exact ⟨W2, R3, rr3, gw, Or.inr ⟨rfl, by omega, X2, by rw [itW_wd, if_neg (by omega), if_pos (by omega), itG_b, ← a7, ho]; exact itE_yes ok d7, q2⟩, rfl⟩
            · skip
              rw [sr_sr]
              have rr3 : ∀ j, j ≠ 7 → j ≠ 8 → j ≠ 9 → R3 j = R j := fun j h7 h8 h9 => by have z : R3 j = R2 j := y0 j h7 h8 h9; rw [z]; exact rr2 j h7 h8 h9
              have d3 : R3 3 = R 3 := rr3 3 (by decide) (by decide) (by decide)
              have d8 : R3 8 = (sk t (R2 7)) := y8
              have ok : ¬ t (sk t (R2 7)) = 59 := yk
              refine Hx.run 2 (pc' := 125) (L' := [some (vr 64), some (vi 0), some (vi (wdI t (sk t (R 7)) (we t (sk t (R 7))))), some (vi 1)]) (st' := [vi 0]) (M' := (sr (sr Z 65 W2) 64 R3)) rfl ?_
              refine Hx.ret rfl ?_
              exact ⟨W2, R3, rr3, gw, Or.inl ⟨rfl, by rw [itW_wd, if_neg (by omega), if_pos (by omega), itG_b, ← a7, ho]; exact itE_no ok d8⟩, rfl⟩
          · skip
            have rr2 : ∀ j, j ≠ 7 → j ≠ 8 → j ≠ 9 → R2 j = R j := fun j h7 h8 h9 => by rw [g0 j h7 h8 h9]; exact rr1 j h7 h8 h9
            have b3 : R2 3 = R 3 := rr2 3 (by decide) (by decide) (by decide)
            refine Hx.run 6 (pc' := 125) (L' := [some (vr 64), some (vi 0), some (vi (wdI t (sk t (R 7)) (we t (sk t (R 7))))), some (vi 0)]) (st' := [vi 0]) (M' := (sr (sr Z 65 W2) 64 R2)) rfl ?_
            refine Hx.ret rfl ?_
            exact ⟨W2, R2, rr2, gw, Or.inl ⟨rfl, by rw [itW_wd, if_neg (by omega), if_pos (by omega), itG_b, ← a7, ho]; rfl⟩, rfl⟩
        · skip
          refine Hx.run 2 (pc' := 62) (L' := [some (vr 64), some (vi 0), some (vi (wdI t (sk t (R 7)) (we t (sk t (R 7))))), none]) (st' := [vi 4, vi (wdI t (sk t (R 7)) (we t (sk t (R 7))))]) (M' := (sr (sr Z 65 W) 64 R1)) rfl ?_
          refine Hx.br (c := (wdI t (sk t (R 7)) (we t (sk t (R 7)))) = 4) (t := 65) (f := 75) rfl (fun h5 => ?_) (fun h5 => ?_)
          · skip
            refine Hx.run 1 (pc' := 66) (L' := [some (vr 64), some (vi 0), some (vi (wdI t (sk t (R 7)) (we t (sk t (R 7))))), none]) (st' := [vr 64]) (M' := (sr (sr Z 65 W) 64 R1)) rfl ?_
            refine Hx.call (t := 165) (as := [vr 64]) (pc' := 69) (rest := []) rfl (Ct.imp (r_readsLoad Z X W R1 t b (TR_2 hT a3) q hb8 (by omega)) (fun _ _ h => OutR_or h)) ?_
            rintro _ _ (⟨W2, R2, X2, g0, gw, g7, ho, q2, rfl, rfl⟩ | ⟨W2, R2, g0, gw, ho, rfl, rfl⟩)
            · skip
              have rr2 : ∀ j, j ≠ 7 → j ≠ 8 → j ≠ 9 → R2 j = R j := fun j h7 h8 h9 => by rw [g0 j h7 h8 h9]; exact rr1 j h7 h8 h9
              have b3 : R2 3 = R 3 := rr2 3 (by decide) (by decide) (by decide)
              refine Hx.run 8 (pc' := 114) (L' := [some (vr 64), some (vi 0), some (vi (wdI t (sk t (R 7)) (we t (sk t (R 7))))), some (vi 1)]) (st' := [vr 64]) (M' := (sr (sr Z 65 W2) 64 R2)) rfl ?_
              refine Hx.call (t := 162) (as := [vr 64]) (pc' := 117) (rest := []) rfl (r_takesEnd (sr (sr Z 65 W2) 64 R2) t (TR_2 hT (by omega)) (by show 0 ≤ R2 7 ∧ R2 7 ≤ R2 3; omega)) ?_
              rintro _ _ (⟨R3, y0, y7, y8, yk, rfl, rfl⟩ | ⟨R3, y0, y8, yk, rfl, rfl⟩)
              · skip
                rw [sr_sr]
                have rr3 : ∀ j, j ≠ 7 → j ≠ 8 → j ≠ 9 → R3 j = R j := fun j h7 h8 h9 => by have z : R3 j = R2 j := y0 j h7 h8 h9; rw [z]; exact rr2 j h7 h8 h9
                have d3 : R3 3 = R 3 := rr3 3 (by decide) (by decide) (by decide)
                have d8 : R3 8 = (sk t (R2 7)) := y8
                have d7 : R3 7 = (sk t (R2 7)) + 1 := y7
                have ok : t (sk t (R2 7)) = 59 := yk
                have sl := sk_lt (p := R2 7) hTX ok
                have sg := sk_rng (p := R2 7) hTX (by omega)
                refine Hx.run 3 (pc' := 125) (L' := [some (vr 64), some (vi 0), some (vi (wdI t (sk t (R 7)) (we t (sk t (R 7))))), some (vi 1)]) (st' := [vi 1]) (M' := (sr (sr Z 65 W2) 64 R3)) rfl ?_
                refine Hx.ret rfl ?_
                exact ⟨W2, R3, rr3, gw, Or.inr ⟨rfl, by omega, X2, by rw [itW_wd, if_neg (by omega), if_neg (by omega), if_pos (by omega), itL_b, ← a7, ho]; exact itE_yes ok d7, q2⟩, rfl⟩
              · skip
                rw [sr_sr]
                have rr3 : ∀ j, j ≠ 7 → j ≠ 8 → j ≠ 9 → R3 j = R j := fun j h7 h8 h9 => by have z : R3 j = R2 j := y0 j h7 h8 h9; rw [z]; exact rr2 j h7 h8 h9
                have d3 : R3 3 = R 3 := rr3 3 (by decide) (by decide) (by decide)
                have d8 : R3 8 = (sk t (R2 7)) := y8
                have ok : ¬ t (sk t (R2 7)) = 59 := yk
                refine Hx.run 2 (pc' := 125) (L' := [some (vr 64), some (vi 0), some (vi (wdI t (sk t (R 7)) (we t (sk t (R 7))))), some (vi 1)]) (st' := [vi 0]) (M' := (sr (sr Z 65 W2) 64 R3)) rfl ?_
                refine Hx.ret rfl ?_
                exact ⟨W2, R3, rr3, gw, Or.inl ⟨rfl, by rw [itW_wd, if_neg (by omega), if_neg (by omega), if_pos (by omega), itL_b, ← a7, ho]; exact itE_no ok d8⟩, rfl⟩
            · skip
              have rr2 : ∀ j, j ≠ 7 → j ≠ 8 → j ≠ 9 → R2 j = R j := fun j h7 h8 h9 => by rw [g0 j h7 h8 h9]; exact rr1 j h7 h8 h9
              have b3 : R2 3 = R 3 := rr2 3 (by decide) (by decide) (by decide)
              refine Hx.run 6 (pc' := 125) (L' := [some (vr 64), some (vi 0), some (vi (wdI t (sk t (R 7)) (we t (sk t (R 7))))), some (vi 0)]) (st' := [vi 0]) (M' := (sr (sr Z 65 W2) 64 R2)) rfl ?_
              refine Hx.ret rfl ?_
              exact ⟨W2, R2, rr2, gw, Or.inl ⟨rfl, by rw [itW_wd, if_neg (by omega), if_neg (by omega), if_pos (by omega), itL_b, ← a7, ho]; rfl⟩, rfl⟩
          · skip
            refine Hx.run 2 (pc' := 77) (L' := [some (vr 64), some (vi 0), some (vi (wdI t (sk t (R 7)) (we t (sk t (R 7))))), none]) (st' := [vi 5, vi (wdI t (sk t (R 7)) (we t (sk t (R 7))))]) (M' := (sr (sr Z 65 W) 64 R1)) rfl ?_
            refine Hx.br (c := (wdI t (sk t (R 7)) (we t (sk t (R 7)))) = 5) (t := 80) (f := 90) rfl (fun h6 => ?_) (fun h6 => ?_)
            · skip
              refine Hx.run 1 (pc' := 81) (L' := [some (vr 64), some (vi 0), some (vi (wdI t (sk t (R 7)) (we t (sk t (R 7))))), none]) (st' := [vr 64]) (M' := (sr (sr Z 65 W) 64 R1)) rfl ?_
              refine Hx.call (t := 166) (as := [vr 64]) (pc' := 84) (rest := []) rfl (Ct.imp (r_readsStride Z X W R1 t b (TR_2 hT a3) q hb8 (by omega)) (fun _ _ h => OutR_or h)) ?_
              rintro _ _ (⟨W2, R2, X2, g0, gw, g7, ho, q2, rfl, rfl⟩ | ⟨W2, R2, g0, gw, ho, rfl, rfl⟩)
              · skip
                have rr2 : ∀ j, j ≠ 7 → j ≠ 8 → j ≠ 9 → R2 j = R j := fun j h7 h8 h9 => by rw [g0 j h7 h8 h9]; exact rr1 j h7 h8 h9
                have b3 : R2 3 = R 3 := rr2 3 (by decide) (by decide) (by decide)
                refine Hx.run 8 (pc' := 114) (L' := [some (vr 64), some (vi 0), some (vi (wdI t (sk t (R 7)) (we t (sk t (R 7))))), some (vi 1)]) (st' := [vr 64]) (M' := (sr (sr Z 65 W2) 64 R2)) rfl ?_
                refine Hx.call (t := 162) (as := [vr 64]) (pc' := 117) (rest := []) rfl (r_takesEnd (sr (sr Z 65 W2) 64 R2) t (TR_2 hT (by omega)) (by show 0 ≤ R2 7 ∧ R2 7 ≤ R2 3; omega)) ?_
                rintro _ _ (⟨R3, y0, y7, y8, yk, rfl, rfl⟩ | ⟨R3, y0, y8, yk, rfl, rfl⟩)
                · skip
                  rw [sr_sr]
                  have rr3 : ∀ j, j ≠ 7 → j ≠ 8 → j ≠ 9 → R3 j = R j := fun j h7 h8 h9 => by have z : R3 j = R2 j := y0 j h7 h8 h9; rw [z]; exact rr2 j h7 h8 h9
                  have d3 : R3 3 = R 3 := rr3 3 (by decide) (by decide) (by decide)
                  have d8 : R3 8 = (sk t (R2 7)) := y8
                  have d7 : R3 7 = (sk t (R2 7)) + 1 := y7
                  have ok : t (sk t (R2 7)) = 59 := yk
                  have sl := sk_lt (p := R2 7) hTX ok
                  have sg := sk_rng (p := R2 7) hTX (by omega)
                  refine Hx.run 3 (pc' := 125) (L' := [some (vr 64), some (vi 0), some (vi (wdI t (sk t (R 7)) (we t (sk t (R 7))))), some (vi 1)]) (st' := [vi 1]) (M' := (sr (sr Z 65 W2) 64 R3)) rfl ?_
                  refine Hx.ret rfl ?_
                  exact ⟨W2, R3, rr3, gw, Or.inr ⟨rfl, by omega, X2, by rw [itW_wd, if_neg (by omega), if_neg (by omega), if_neg (by omega), if_pos (by omega), itS_b, ← a7, ho]; exact itE_yes ok d7, q2⟩, rfl⟩
                · skip
                  rw [sr_sr]
                  have rr3 : ∀ j, j ≠ 7 → j ≠ 8 → j ≠ 9 → R3 j = R j := fun j h7 h8 h9 => by have z : R3 j = R2 j := y0 j h7 h8 h9; rw [z]; exact rr2 j h7 h8 h9
                  have d3 : R3 3 = R 3 := rr3 3 (by decide) (by decide) (by decide)
                  have d8 : R3 8 = (sk t (R2 7)) := y8
                  have ok : ¬ t (sk t (R2 7)) = 59 := yk
                  refine Hx.run 2 (pc' := 125) (L' := [some (vr 64), some (vi 0), some (vi (wdI t (sk t (R 7)) (we t (sk t (R 7))))), some (vi 1)]) (st' := [vi 0]) (M' := (sr (sr Z 65 W2) 64 R3)) rfl ?_
                  refine Hx.ret rfl ?_
                  exact ⟨W2, R3, rr3, gw, Or.inl ⟨rfl, by rw [itW_wd, if_neg (by omega), if_neg (by omega), if_neg (by omega), if_pos (by omega), itS_b, ← a7, ho]; exact itE_no ok d8⟩, rfl⟩
              · skip
                have rr2 : ∀ j, j ≠ 7 → j ≠ 8 → j ≠ 9 → R2 j = R j := fun j h7 h8 h9 => by rw [g0 j h7 h8 h9]; exact rr1 j h7 h8 h9
                have b3 : R2 3 = R 3 := rr2 3 (by decide) (by decide) (by decide)
                refine Hx.run 6 (pc' := 125) (L' := [some (vr 64), some (vi 0), some (vi (wdI t (sk t (R 7)) (we t (sk t (R 7))))), some (vi 0)]) (st' := [vi 0]) (M' := (sr (sr Z 65 W2) 64 R2)) rfl ?_
                refine Hx.ret rfl ?_
                exact ⟨W2, R2, rr2, gw, Or.inl ⟨rfl, by rw [itW_wd, if_neg (by omega), if_neg (by omega), if_neg (by omega), if_pos (by omega), itS_b, ← a7, ho]; rfl⟩, rfl⟩
            · skip
              refine Hx.run 2 (pc' := 93) (L' := [some (vr 64), some (vi 0), some (vi (wdI t (sk t (R 7)) (we t (sk t (R 7))))), none]) (st' := [vi 6, vi (wdI t (sk t (R 7)) (we t (sk t (R 7))))]) (M' := (sr (sr Z 65 W) 64 R1)) rfl ?_
              refine Hx.br (c := (wdI t (sk t (R 7)) (we t (sk t (R 7)))) = 6) (t := 96) (f := 107) rfl (fun h7 => ?_) (fun h7 => ?_)
              · skip
                refine Hx.run 1 (pc' := 97) (L' := [some (vr 64), some (vi 0), some (vi (wdI t (sk t (R 7)) (we t (sk t (R 7))))), none]) (st' := [vr 64]) (M' := (sr (sr Z 65 W) 64 R1)) rfl ?_
                refine Hx.call (t := 167) (as := [vr 64]) (pc' := 100) (rest := []) rfl (Ct.imp (r_readsHours Z X W R1 t b (TR_2 hT a3) q hb8 (by omega)) (fun _ _ h => OutR_or h)) ?_
                rintro _ _ (⟨W2, R2, X2, g0, gw, g7, ho, q2, rfl, rfl⟩ | ⟨W2, R2, g0, gw, ho, rfl, rfl⟩)
                · skip
                  have rr2 : ∀ j, j ≠ 7 → j ≠ 8 → j ≠ 9 → R2 j = R j := fun j h7 h8 h9 => by rw [g0 j h7 h8 h9]; exact rr1 j h7 h8 h9
                  have b3 : R2 3 = R 3 := rr2 3 (by decide) (by decide) (by decide)
                  refine Hx.run 7 (pc' := 114) (L' := [some (vr 64), some (vi 0), some (vi (wdI t (sk t (R 7)) (we t (sk t (R 7))))), some (vi 1)]) (st' := [vr 64]) (M' := (sr (sr Z 65 W2) 64 R2)) rfl ?_
                  refine Hx.call (t := 162) (as := [vr 64]) (pc' := 117) (rest := []) rfl (r_takesEnd (sr (sr Z 65 W2) 64 R2) t (TR_2 hT (by omega)) (by show 0 ≤ R2 7 ∧ R2 7 ≤ R2 3; omega)) ?_
                  rintro _ _ (⟨R3, y0, y7, y8, yk, rfl, rfl⟩ | ⟨R3, y0, y8, yk, rfl, rfl⟩)
                  · skip
                    rw [sr_sr]
                    have rr3 : ∀ j, j ≠ 7 → j ≠ 8 → j ≠ 9 → R3 j = R j := fun j h7 h8 h9 => by have z : R3 j = R2 j := y0 j h7 h8 h9; rw [z]; exact rr2 j h7 h8 h9
                    have d3 : R3 3 = R 3 := rr3 3 (by decide) (by decide) (by decide)
                    have d8 : R3 8 = (sk t (R2 7)) := y8
                    have d7 : R3 7 = (sk t (R2 7)) + 1 := y7
                    have ok : t (sk t (R2 7)) = 59 := yk
                    have sl := sk_lt (p := R2 7) hTX ok
                    have sg := sk_rng (p := R2 7) hTX (by omega)
                    refine Hx.run 3 (pc' := 125) (L' := [some (vr 64), some (vi 0), some (vi (wdI t (sk t (R 7)) (we t (sk t (R 7))))), some (vi 1)]) (st' := [vi 1]) (M' := (sr (sr Z 65 W2) 64 R3)) rfl ?_
                    refine Hx.ret rfl ?_
                    exact ⟨W2, R3, rr3, gw, Or.inr ⟨rfl, by omega, X2, by rw [itW_wd, if_neg (by omega), if_neg (by omega), if_neg (by omega), if_neg (by omega), if_pos (by omega), itH_b, ← a7, ho]; exact itE_yes ok d7, q2⟩, rfl⟩
                  · skip
                    rw [sr_sr]
                    have rr3 : ∀ j, j ≠ 7 → j ≠ 8 → j ≠ 9 → R3 j = R j := fun j h7 h8 h9 => by have z : R3 j = R2 j := y0 j h7 h8 h9; rw [z]; exact rr2 j h7 h8 h9
                    have d3 : R3 3 = R 3 := rr3 3 (by decide) (by decide) (by decide)
                    have d8 : R3 8 = (sk t (R2 7)) := y8
                    have ok : ¬ t (sk t (R2 7)) = 59 := yk
                    refine Hx.run 2 (pc' := 125) (L' := [some (vr 64), some (vi 0), some (vi (wdI t (sk t (R 7)) (we t (sk t (R 7))))), some (vi 1)]) (st' := [vi 0]) (M' := (sr (sr Z 65 W2) 64 R3)) rfl ?_
                    refine Hx.ret rfl ?_
                    exact ⟨W2, R3, rr3, gw, Or.inl ⟨rfl, by rw [itW_wd, if_neg (by omega), if_neg (by omega), if_neg (by omega), if_neg (by omega), if_pos (by omega), itH_b, ← a7, ho]; exact itE_no ok d8⟩, rfl⟩
                · skip
                  have rr2 : ∀ j, j ≠ 7 → j ≠ 8 → j ≠ 9 → R2 j = R j := fun j h7 h8 h9 => by rw [g0 j h7 h8 h9]; exact rr1 j h7 h8 h9
                  have b3 : R2 3 = R 3 := rr2 3 (by decide) (by decide) (by decide)
                  refine Hx.run 6 (pc' := 125) (L' := [some (vr 64), some (vi 0), some (vi (wdI t (sk t (R 7)) (we t (sk t (R 7))))), some (vi 0)]) (st' := [vi 0]) (M' := (sr (sr Z 65 W2) 64 R2)) rfl ?_
                  refine Hx.ret rfl ?_
                  exact ⟨W2, R2, rr2, gw, Or.inl ⟨rfl, by rw [itW_wd, if_neg (by omega), if_neg (by omega), if_neg (by omega), if_neg (by omega), if_pos (by omega), itH_b, ← a7, ho]; rfl⟩, rfl⟩
              · skip
                refine Hx.run 5 (pc' := 125) (L' := [some (vr 64), some (vi 0), some (vi (wdI t (sk t (R 7)) (we t (sk t (R 7))))), some (vi 0)]) (st' := [vi 0]) (M' := (sr (sr Z 65 W) 64 R1)) rfl ?_
                refine Hx.ret rfl ?_
                exact ⟨W, R1, rr1, fun _ _ => rfl, Or.inl ⟨rfl, by rw [itW_wd, if_neg (by omega), if_neg (by omega), if_neg (by omega), if_neg (by omega), if_neg (by omega), a8]⟩, rfl⟩
set_option maxRecDepth 100000 in
set_option maxHeartbeats 4000000 in
theorem r_readsItem1 (Z X : Mm) (W R : Int → Int) (t : Int → Int) (b : Int) (hT : TR (sr (sr Z 65 W) 64 R) t) (q : PI X W b) (hb8 : b ≤ 8000) (hR : 0 ≤ R 7 ∧ R 7 ≤ R 3) : Ct 168 [vr 64, vi 1] (sr (sr Z 65 W) 64 R) (fun q0 M' => OutR Z W R b (itP t (sk t (R 7)) X) q0 M') := by
  have hTX : TX t (R 3) := hT.1
  have tx := hTX.1
  have hsk := sk_rng (p := R 7) hTX hR.2
  have hwe := we_rng (p := sk t (R 7)) hTX hsk.2
  refine Hx.run 1 (pc' := 1) (L' := [some (vr 64), some (vi 1), none, none]) (st' := [vr 64]) (M' := (sr (sr Z 65 W) 64 R)) rfl ?_
  refine Hx.call (t := 157) (as := [vr 64]) (pc' := 4) (rest := []) rfl (r_takesWord (sr (sr Z 65 W) 64 R) t hT (by show 0 ≤ R 7 ∧ R 7 ≤ R 3; omega)) ?_
  rintro _ _ ⟨R1, y0, y7, y8, rfl, rfl⟩
  rw [sr_sr]
  have rr1 : ∀ j, j ≠ 7 → j ≠ 8 → j ≠ 9 → R1 j = R j := y0
  have a3 : R1 3 = R 3 := rr1 3 (by decide) (by decide) (by decide)
  have a7 : R1 7 = (we t (sk t (R 7))) := y7
  have a8 : R1 8 = (sk t (R 7)) := y8
  refine Hx.run 0 (pc' := 4) (L' := [some (vr 64), some (vi 1), none, none]) (st' := []) (M' := (sr (sr Z 65 W) 64 R1)) rfl ?_
  refine Hx.run 1 (pc' := 5) (L' := [some (vr 64), some (vi 1), none, none]) (st' := [vr 64]) (M' := (sr (sr Z 65 W) 64 R1)) rfl ?_
  refine Hx.call (t := 160) (as := [vr 64]) (pc' := 8) (rest := []) rfl ((show Ct 160 [vr 64] (sr (sr Z 65 W) 64 R1) (fun q0 M' => q0 = some (vi (wdI t (sk t (R 7)) (we t (sk t (R 7))))) ∧ (sr (sr Z 65 W) 64 R1) = M') from by have z := r_wordOf (sr (sr Z 65 W) 64 R1) t (TR_2 hT a3) (by show 0 ≤ R1 8; omega) (by show R1 8 ≤ R1 7 ∧ R1 7 ≤ R1 3; omega); rw [show (sr (sr Z 65 W) 64 R1) 64 8 = (sk t (R 7)) from a8, show (sr (sr Z 65 W) 64 R1) 64 7 = (we t (sk t (R 7))) from a7] at z; exact z)) ?_
  rintro _ _ ⟨rfl, rfl⟩
  refine Hx.run 0 (pc' := 8) (L' := [some (vr 64), some (vi 1), none, none]) (st' := [vi (wdI t (sk t (R 7)) (we t (sk t (R 7))))]) (M' := (sr (sr Z 65 W) 64 R1)) rfl ?_
  refine Hx.run 4 (pc' := 12) (L' := [some (vr 64), some (vi 1), some (vi (wdI t (sk t (R 7)) (we t (sk t (R 7))))), none]) (st' := [vi 1, vi (wdI t (sk t (R 7)) (we t (sk t (R 7)))), vi 1]) (M' := (sr (sr Z 65 W) 64 R1)) rfl ?_
  refine Hx.br (c := (wdI t (sk t (R 7)) (we t (sk t (R 7)))) = 1) (t := 15) (f := 19) rfl (fun h1 => ?_) (fun h1 => ?_)
  · skip
    refine Hx.run 5 (pc' := 27) (L' := [some (vr 64), some (vi 1), some (vi (wdI t (sk t (R 7)) (we t (sk t (R 7))))), none]) (st' := [vi 1, vi (wdI t (sk t (R 7)) (we t (sk t (R 7))))]) (M' := (sr (sr Z 65 W) 64 R1)) rfl ?_
    refine Hx.br (c := (wdI t (sk t (R 7)) (we t (sk t (R 7)))) = 1) (t := 103) (f := 30) rfl (fun h2 => ?_) (fun h2 => ?_)
    · skip
      refine Hx.run 6 (pc' := 114) (L' := [some (vr 64), some (vi 1), some (vi (wdI t (sk t (R 7)) (we t (sk t (R 7))))), some (vi 1)]) (st' := [vr 64]) (M' := (sr (sr Z 65 W) 64 R1)) rfl ?_
      refine Hx.call (t := 162) (as := [vr 64]) (pc' := 117) (rest := []) rfl (r_takesEnd (sr (sr Z 65 W) 64 R1) t (TR_2 hT (by omega)) (by show 0 ≤ R1 7 ∧ R1 7 ≤ R1 3; omega)) ?_
      rintro _ _ (⟨R3, y0, y7, y8, yk, rfl, rfl⟩ | ⟨R3, y0, y8, yk, rfl, rfl⟩)
      · skip
        rw [sr_sr]
        have rr3 : ∀ j, j ≠ 7 → j ≠ 8 → j ≠ 9 → R3 j = R j := fun j h7 h8 h9 => by have z : R3 j = R1 j := y0 j h7 h8 h9; rw [z]; exact rr1 j h7 h8 h9
        have d3 : R3 3 = R 3 := rr3 3 (by decide) (by decide) (by decide)
        have d8 : R3 8 = (sk t (R1 7)) := y8
        have d7 : R3 7 = (sk t (R1 7)) + 1 := y7
        have ok : t (sk t (R1 7)) = 59 := yk
        have sl := sk_lt (p := R1 7) hTX ok
        have sg := sk_rng (p := R1 7) hTX (by omega)
        refine Hx.run 3 (pc' := 125) (L' := [some (vr 64), some (vi 1), some (vi (wdI t (sk t (R 7)) (we t (sk t (R 7))))), some (vi 1)]) (st' := [vi 1]) (M' := (sr (sr Z 65 W) 64 R3)) rfl ?_
        refine Hx.ret rfl ?_
        exact ⟨W, R3, rr3, fun _ _ => rfl, Or.inr ⟨rfl, by omega, X, by rw [itP_wd, if_pos (by omega), ← a7]; exact itE_yes ok d7, PI_b (by omega) q⟩, rfl⟩
      · skip
        rw [sr_sr]
        have rr3 : ∀ j, j ≠ 7 → j ≠ 8 → j ≠ 9 → R3 j = R j := fun j h7 h8 h9 => by have z : R3 j = R1 j := y0 j h7 h8 h9; rw [z]; exact rr1 j h7 h8 h9
        have d3 : R3 3 = R 3 := rr3 3 (by decide) (by decide) (by decide)
        have d8 : R3 8 = (sk t (R1 7)) := y8
        have ok : ¬ t (sk t (R1 7)) = 59 := yk
        refine Hx.run 2 (pc' := 125) (L' := [some (vr 64), some (vi 1), some (vi (wdI t (sk t (R 7)) (we t (sk t (R 7))))), some (vi 1)]) (st' := [vi 0]) (M' := (sr (sr Z 65 W) 64 R3)) rfl ?_
        refine Hx.ret rfl ?_
        exact ⟨W, R3, rr3, fun _ _ => rfl, Or.inl ⟨rfl, by rw [itP_wd, if_pos (by omega), ← a7]; exact itE_no ok d8⟩, rfl⟩
    · skip
      exfalso; omega
  · skip
    refine Hx.run 3 (pc' := 24) (L' := [some (vr 64), some (vi 1), some (vi (wdI t (sk t (R 7)) (we t (sk t (R 7))))), none]) (st' := [vi 0]) (M' := (sr (sr Z 65 W) 64 R1)) rfl ?_
    refine Hx.ret rfl ?_
    exact ⟨W, R1, rr1, fun _ _ => rfl, Or.inl ⟨rfl, by rw [itP_wd, if_neg (by omega), a8]⟩, rfl⟩
