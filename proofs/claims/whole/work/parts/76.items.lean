/-! reading: the items of the reference (written by wip/whole/gen76.py) -/
def bF (t : Int → Int) (p s0 : Int) (X : Mm) : Int ⊕ (Int × Mm) := if 3 ≤ X 40 0 then Sum.inl s0 else itN t p 0 5 (fun p1 k => itN t p1 1 10 (fun p2 s => Sum.inr (p2, adF X k s)))
def bG (t : Int → Int) (p s0 : Int) (X : Mm) : Int ⊕ (Int × Mm) := if 6 ≤ X 40 1 then Sum.inl s0 else itN t p 0 5 (fun p1 k => itN t p1 1 4 (fun p2 l => itN t p2 0 (X 40 0 - 1) (fun p3 f => Sum.inr (p3, adG X k l f))))
def bL (t : Int → Int) (p : Int) (X : Mm) : Int ⊕ (Int × Mm) := itN t p 0 (X 40 1 - 1) (fun p1 i => itN t p1 0 9 (fun p2 x => Sum.inr (p2, adL X i x)))
def bS5 (t : Int → Int) (p : Int) (X : Mm) : Int ⊕ (Int × Mm) := itN t p 0 (X 40 1 - 1) (fun p1 i => if 11 ≤ X 45 i then Sum.inl (sk t p) else itN t p1 1 (rch X i) (fun p2 d => Sum.inr (p2, adS X i d)))
def bH (t : Int → Int) (p : Int) (X : Mm) : Int ⊕ (Int × Mm) := itN t p 1 99 (fun p1 n => Sum.inr (p1, adH X n))
def bE (t : Int → Int) (z : Int ⊕ (Int × Mm)) : Int ⊕ (Int × Mm) := match z with
  | Sum.inl s => Sum.inl s
  | Sum.inr y => itE t y.1 y.2
theorem bE_N {t : Int → Int} {p lo hi : Int} {k : Int → Int → Int ⊕ (Int × Mm)} : bE t (itN t p lo hi k) = itN t p lo hi (fun a b => bE t (k a b)) := by
  unfold itN
  split <;> rfl
theorem itF_b {t : Int → Int} {p s0 : Int} {X : Mm} : itF t p s0 X = bE t (bF t p s0 X) := by
  unfold itF bF
  split
  · rfl
  · simp only [bE_N]; rfl
theorem itG_b {t : Int → Int} {p s0 : Int} {X : Mm} : itG t p s0 X = bE t (bG t p s0 X) := by
  unfold itG bG
  split
  · rfl
  · simp only [bE_N]; rfl
theorem itL_b {t : Int → Int} {p : Int} {X : Mm} : itL t p X = bE t (bL t p X) := by
  unfold itL bL
  simp only [bE_N]; rfl
theorem itS_b {t : Int → Int} {p : Int} {X : Mm} : itS t p X = bE t (bS5 t p X) := by
  unfold itS bS5
  rw [bE_N]
  congr 1
  funext p1 i
  split
  · rfl
  · simp only [bE_N]; rfl
theorem itH_b {t : Int → Int} {p : Int} {X : Mm} : itH t p X = bE t (bH t p X) := by
  unfold itH bH
  simp only [bE_N]; rfl
theorem up65 {Z : Mm} {W R : Int → Int} {i v : Int} : up (sr (sr Z 65 W) 64 R) 65 i v = sr (sr Z 65 (st1 W i v)) 64 R := by
  funext a b
  simp only [up, sr, st1]
  by_cases e : a = 65
  · subst e; simp [st1]
  · by_cases e2 : a = 64
    · subst e2; simp
    · simp [e, e2]
def OutR (Z : Mm) (W R : Int → Int) (b : Int) (out : Int ⊕ (Int × Mm)) (q0 : Option PV) (M' : Mm) : Prop := ∃ (W' R' : Int → Int), (∀ j, j ≠ 7 → j ≠ 8 → j ≠ 9 → R' j = R j) ∧ (∀ j, j < 744 ∨ 992 ≤ j → W' j = W j) ∧ ((q0 = some (vi 0) ∧ out = Sum.inl (R' 8)) ∨ (q0 = some (vi 1) ∧ (0 ≤ R' 7 ∧ R' 7 ≤ R' 3) ∧ ∃ X' : Mm, out = Sum.inr (R' 7, X') ∧ PI X' W' (b + 1))) ∧ sr (sr Z 65 W') 64 R' = M'
theorem TR_2 {Z : Mm} {W W2 R R2 : Int → Int} {t : Int → Int} (h : TR (sr (sr Z 65 W) 64 R) t) (e : R2 3 = R 3) : TR (sr (sr Z 65 W2) 64 R2) t := by
  have h2 : TX t (R 3) ∧ ∀ j, 0 ≤ j → j < R 3 → t j = Z 67 j := h
  rw [← e] at h2
  exact h2
set_option maxRecDepth 100000 in
set_option maxHeartbeats 4000000 in
theorem r_readsFlight (Z X : Mm) (W R : Int → Int) (t : Int → Int) (b : Int) (hT : TR (sr (sr Z 65 W) 64 R) t) (q : PI X W b) (hb8 : b ≤ 8000) (hR : 0 ≤ R 7 ∧ R 7 ≤ R 3) (s0 : Int) (hs0 : R 8 = s0) : Ct 163 [vr 64] (sr (sr Z 65 W) 64 R) (fun q0 M' => OutR Z W R b (bF t (R 7) s0 X) q0 M') := by
  have hTX : TX t (R 3) := hT.1
  have tx := hTX.1
  obtain ⟨⟨c0, c1, c2, c3, c4, f0, f1, f2, f3, f4⟩, qf, qg, -⟩ := id q.1
  have h744 : W 744 = X 40 0 := f0.symm
  have h745 : W 745 = X 40 1 := f1.symm
  have h746 : W 746 = X 45 16 := f3.symm
  have h747 : W 747 = X 45 15 := f4.symm
  have k0 : 0 ≤ X 40 0 ∧ X 40 0 ≤ 3 := c0
  have k1 : 0 ≤ X 40 1 ∧ X 40 1 ≤ 6 := c1
  have k3 : 0 ≤ X 45 16 ∧ X 45 16 ≤ 9999 := c3
  have k4 : 0 ≤ X 45 15 ∧ X 45 15 ≤ b := c4
  refine Hx.run 5 (pc' := 9) (L' := [some (vr 64), none]) (st' := [vi 3, vi (W 744)]) (M' := (sr (sr Z 65 W) 64 R)) rfl ?_
  refine Hx.br (c := (W 744) = 3) (t := 21) (f := 12) rfl (fun h1 => ?_) (fun h1 => ?_)
  · skip
    refine Hx.run 1 (pc' := 22) (L' := [some (vr 64), none]) (st' := [vi 0]) (M' := (sr (sr Z 65 W) 64 R)) rfl ?_
    refine Hx.ret rfl ?_
    exact ⟨W, R, fun _ _ _ _ => rfl, fun _ _ => rfl, Or.inl ⟨rfl, by unfold bF; rw [if_pos (by omega), hs0]⟩, rfl⟩
  · skip
    refine Hx.run 3 (pc' := 15) (L' := [some (vr 64), none]) (st' := [vi 5, vi 0, vr 64]) (M' := (sr (sr Z 65 W) 64 R)) rfl ?_
    refine Hx.call (t := 161) (as := [vr 64, vi 0, vi 5]) (pc' := 18) (rest := []) rfl (r_takesNumber 0 5 (sr (sr Z 65 W) 64 R) t (TR_2 hT (by omega)) (by show 0 ≤ R 7 ∧ R 7 ≤ R 3; omega)) ?_
    rintro _ _ (⟨R15, y0, y7, y8, y9, yk, rfl, rfl⟩ | ⟨R15, y0, y8, yk, rfl, rfl⟩)
    · skip
      rw [sr_sr]
      have rr_15 : ∀ j, j ≠ 7 → j ≠ 8 → j ≠ 9 → R15 j = R j := fun j h7 h8 h9 => by have z : R15 j = R j := y0 j h7 h8 h9; exact z
      have a3_15 : R15 3 = R 3 := rr_15 3 (by decide) (by decide) (by decide)
      have a8_15 : R15 8 = (sk t (R 7)) := y8
      have sr15 := sk_rng (t := t) (n := R 3) (p := R 7) hTX (by omega)
      have a7_15 : R15 7 = fe t (sk t (R 7)) := y7
      have a9_15 : R15 9 = nv t (sk t (R 7)) (fe t (sk t (R 7))) := y9
      have fr15 := fe_rng (t := t) (n := R 3) (p := (sk t (R 7))) hTX (by omega)
      have ok15 : nOk t (sk t (R 7)) 0 5 := yk
      have kk15 := id ok15
      unfold nOk at kk15
      refine Hx.run 7 (pc' := 32) (L' := [some (vr 64), some (vi (R15 9))]) (st' := [vi 10, vi 1, vr 64]) (M' := (sr (sr Z 65 W) 64 R15)) rfl ?_
      refine Hx.call (t := 161) (as := [vr 64, vi 1, vi 10]) (pc' := 35) (rest := []) rfl (r_takesNumber 1 10 (sr (sr Z 65 W) 64 R15) t (TR_2 hT (by omega)) (by show 0 ≤ R15 7 ∧ R15 7 ≤ R15 3; omega)) ?_
      rintro _ _ (⟨R32, y0, y7, y8, y9, yk, rfl, rfl⟩ | ⟨R32, y0, y8, yk, rfl, rfl⟩)
      · skip
        rw [sr_sr]
        have rr_32 : ∀ j, j ≠ 7 → j ≠ 8 → j ≠ 9 → R32 j = R j := fun j h7 h8 h9 => by have z : R32 j = R15 j := y0 j h7 h8 h9; rw [z]; exact rr_15 j h7 h8 h9
        have a3_32 : R32 3 = R 3 := rr_32 3 (by decide) (by decide) (by decide)
        have a8_32 : R32 8 = (sk t (R15 7)) := y8
        have sr32 := sk_rng (t := t) (n := R 3) (p := R15 7) hTX (by omega)
        have a7_32 : R32 7 = fe t (sk t (R15 7)) := y7
        have a9_32 : R32 9 = nv t (sk t (R15 7)) (fe t (sk t (R15 7))) := y9
        have fr32 := fe_rng (t := t) (n := R 3) (p := (sk t (R15 7))) hTX (by omega)
        have ok32 : nOk t (sk t (R15 7)) 1 10 := yk
        have kk32 := id ok32
        unfold nOk at kk32
        refine Hx.run 6 (pc' := 49) (L' := [some (vr 64), some (vi (R15 9))]) (st' := [vi (R32 9), vi (R15 9), vi 744, vr 64]) (M' := (sr (sr Z 65 W) 64 R32)) rfl ?_
        refine Hx.call (t := 149) (as := [vr 64, vi 744, vi (R15 9), vi (R32 9)]) (pc' := 52) (rest := []) rfl (r_addsFlight_744 (R15 9) (R32 9) (sr (sr Z 65 W) 64 R32) (by show 0 ≤ W 744 ∧ W 744 < 3; omega)) ?_
        rintro _ _ ⟨rfl, rfl⟩
        refine Hx.eq (st' := []) rfl (show _ = (sr (sr Z 65 (wF W (R15 9) (R32 9))) 64 R32) from by rw [up65, up65, up65]; rfl) ?_
        refine Hx.run 0 (pc' := 52) (L' := [some (vr 64), some (vi (R15 9))]) (st' := []) (M' := (sr (sr Z 65 (wF W (R15 9) (R32 9))) 64 R32)) rfl ?_
        refine Hx.run 1 (pc' := 53) (L' := [some (vr 64), some (vi (R15 9))]) (st' := [vi 1]) (M' := (sr (sr Z 65 (wF W (R15 9) (R32 9))) 64 R32)) rfl ?_
        refine Hx.ret rfl ?_
        exact ⟨_, R32, rr_32, fun j hj => by unfold wF; rw [st1_ne (by omega), st1_ne (by omega), st1_ne (by omega)], Or.inr ⟨rfl, by omega, _, by unfold bF; rw [if_neg (by omega), itN_yes ok15 a7_15 a9_15, itN_yes ok32 a7_32 a9_32], PI_b (by omega) (PI_F q (by omega) (by omega) (by omega))⟩, rfl⟩
      · skip
        rw [sr_sr]
        have rr_32 : ∀ j, j ≠ 7 → j ≠ 8 → j ≠ 9 → R32 j = R j := fun j h7 h8 h9 => by have z : R32 j = R15 j := y0 j h7 h8 h9; rw [z]; exact rr_15 j h7 h8 h9
        have a3_32 : R32 3 = R 3 := rr_32 3 (by decide) (by decide) (by decide)
        have a8_32 : R32 8 = (sk t (R15 7)) := y8
        have sr32 := sk_rng (t := t) (n := R 3) (p := R15 7) hTX (by omega)
        have ok32 : ¬ nOk t (sk t (R15 7)) 1 10 := yk
        refine Hx.run 2 (pc' := 39) (L' := [some (vr 64), some (vi (R15 9))]) (st' := [vi 0]) (M' := (sr (sr Z 65 W) 64 R32)) rfl ?_
        refine Hx.ret rfl ?_
        exact ⟨W, R32, rr_32, fun _ _ => rfl, Or.inl ⟨rfl, by unfold bF; rw [if_neg (by omega), itN_yes ok15 a7_15 a9_15, itN_no ok32 a8_32]⟩, rfl⟩
    · skip
      rw [sr_sr]
      have rr_15 : ∀ j, j ≠ 7 → j ≠ 8 → j ≠ 9 → R15 j = R j := fun j h7 h8 h9 => by have z : R15 j = R j := y0 j h7 h8 h9; exact z
      have a3_15 : R15 3 = R 3 := rr_15 3 (by decide) (by decide) (by decide)
      have a8_15 : R15 8 = (sk t (R 7)) := y8
      have sr15 := sk_rng (t := t) (n := R 3) (p := R 7) hTX (by omega)
      have ok15 : ¬ nOk t (sk t (R 7)) 0 5 := yk
      refine Hx.run 2 (pc' := 22) (L' := [some (vr 64), none]) (st' := [vi 0]) (M' := (sr (sr Z 65 W) 64 R15)) rfl ?_
      refine Hx.ret rfl ?_
      exact ⟨W, R15, rr_15, fun _ _ => rfl, Or.inl ⟨rfl, by unfold bF; rw [if_neg (by omega), itN_no ok15 a8_15]⟩, rfl⟩
set_option maxRecDepth 100000 in
set_option maxHeartbeats 4000000 in
theorem r_readsGoer (Z X : Mm) (W R : Int → Int) (t : Int → Int) (b : Int) (hT : TR (sr (sr Z 65 W) 64 R) t) (q : PI X W b) (hb8 : b ≤ 8000) (hR : 0 ≤ R 7 ∧ R 7 ≤ R 3) (s0 : Int) (hs0 : R 8 = s0) : Ct 164 [vr 64] (sr (sr Z 65 W) 64 R) (fun q0 M' => OutR Z W R b (bG t (R 7) s0 X) q0 M') := by
  have hTX : TX t (R 3) := hT.1
  have tx := hTX.1
  obtain ⟨⟨c0, c1, c2, c3, c4, f0, f1, f2, f3, f4⟩, qf, qg, -⟩ := id q.1
  have h744 : W 744 = X 40 0 := f0.symm
  have h745 : W 745 = X 40 1 := f1.symm
  have h746 : W 746 = X 45 16 := f3.symm
  have h747 : W 747 = X 45 15 := f4.symm
  have k0 : 0 ≤ X 40 0 ∧ X 40 0 ≤ 3 := c0
  have k1 : 0 ≤ X 40 1 ∧ X 40 1 ≤ 6 := c1
  have k3 : 0 ≤ X 45 16 ∧ X 45 16 ≤ 9999 := c3
  have k4 : 0 ≤ X 45 15 ∧ X 45 15 ≤ b := c4
  refine Hx.run 5 (pc' := 10) (L' := [some (vr 64), none, none]) (st' := [vi 6, vi (W 745)]) (M' := (sr (sr Z 65 W) 64 R)) rfl ?_
  refine Hx.br (c := (W 745) = 6) (t := 22) (f := 13) rfl (fun h1 => ?_) (fun h1 => ?_)
  · skip
    refine Hx.run 1 (pc' := 23) (L' := [some (vr 64), none, none]) (st' := [vi 0]) (M' := (sr (sr Z 65 W) 64 R)) rfl ?_
    refine Hx.ret rfl ?_
    exact ⟨W, R, fun _ _ _ _ => rfl, fun _ _ => rfl, Or.inl ⟨rfl, by unfold bG; rw [if_pos (by omega), hs0]⟩, rfl⟩
  · skip
    refine Hx.run 3 (pc' := 16) (L' := [some (vr 64), none, none]) (st' := [vi 5, vi 0, vr 64]) (M' := (sr (sr Z 65 W) 64 R)) rfl ?_
    refine Hx.call (t := 161) (as := [vr 64, vi 0, vi 5]) (pc' := 19) (rest := []) rfl (r_takesNumber 0 5 (sr (sr Z 65 W) 64 R) t (TR_2 hT (by omega)) (by show 0 ≤ R 7 ∧ R 7 ≤ R 3; omega)) ?_
    rintro _ _ (⟨R16, y0, y7, y8, y9, yk, rfl, rfl⟩ | ⟨R16, y0, y8, yk, rfl, rfl⟩)
    · skip
      rw [sr_sr]
      have rr_16 : ∀ j, j ≠ 7 → j ≠ 8 → j ≠ 9 → R16 j = R j := fun j h7 h8 h9 => by have z : R16 j = R j := y0 j h7 h8 h9; exact z
      have a3_16 : R16 3 = R 3 := rr_16 3 (by decide) (by decide) (by decide)
      have a8_16 : R16 8 = (sk t (R 7)) := y8
      have sr16 := sk_rng (t := t) (n := R 3) (p := R 7) hTX (by omega)
      have a7_16 : R16 7 = fe t (sk t (R 7)) := y7
      have a9_16 : R16 9 = nv t (sk t (R 7)) (fe t (sk t (R 7))) := y9
      have fr16 := fe_rng (t := t) (n := R 3) (p := (sk t (R 7))) hTX (by omega)
      have ok16 : nOk t (sk t (R 7)) 0 5 := yk
      have kk16 := id ok16
      unfold nOk at kk16
      refine Hx.run 7 (pc' := 32) (L' := [some (vr 64), some (vi (R16 9)), none]) (st' := [vi 4, vi 1, vr 64]) (M' := (sr (sr Z 65 W) 64 R16)) rfl ?_
      refine Hx.call (t := 161) (as := [vr 64, vi 1, vi 4]) (pc' := 35) (rest := []) rfl (r_takesNumber 1 4 (sr (sr Z 65 W) 64 R16) t (TR_2 hT (by omega)) (by show 0 ≤ R16 7 ∧ R16 7 ≤ R16 3; omega)) ?_
      rintro _ _ (⟨R32, y0, y7, y8, y9, yk, rfl, rfl⟩ | ⟨R32, y0, y8, yk, rfl, rfl⟩)
      · skip
        rw [sr_sr]
        have rr_32 : ∀ j, j ≠ 7 → j ≠ 8 → j ≠ 9 → R32 j = R j := fun j h7 h8 h9 => by have z : R32 j = R16 j := y0 j h7 h8 h9; rw [z]; exact rr_16 j h7 h8 h9
        have a3_32 : R32 3 = R 3 := rr_32 3 (by decide) (by decide) (by decide)
        have a8_32 : R32 8 = (sk t (R16 7)) := y8
        have sr32 := sk_rng (t := t) (n := R 3) (p := R16 7) hTX (by omega)
        have a7_32 : R32 7 = fe t (sk t (R16 7)) := y7
        have a9_32 : R32 9 = nv t (sk t (R16 7)) (fe t (sk t (R16 7))) := y9
        have fr32 := fe_rng (t := t) (n := R 3) (p := (sk t (R16 7))) hTX (by omega)
        have ok32 : nOk t (sk t (R16 7)) 1 4 := yk
        have kk32 := id ok32
        unfold nOk at kk32
        refine Hx.run 11 (pc' := 56) (L' := [some (vr 64), some (vi (R16 9)), some (vi (R32 9))]) (st' := [vi 1, vi (W 744), vi 0, vr 64]) (M' := (sr (sr Z 65 W) 64 R32)) rfl ?_
        refine Hx.sub rfl (by omega) ?_
        refine Hx.call (t := 161) (as := [vr 64, vi 0, vi ((W 744) - 1)]) (pc' := 60) (rest := []) rfl (by rw [show ((W 744) - 1) = ((X 40 0) - 1) by omega]; exact r_takesNumber 0 ((X 40 0) - 1) (sr (sr Z 65 W) 64 R32) t (TR_2 hT (by omega)) (by show 0 ≤ R32 7 ∧ R32 7 ≤ R32 3; omega)) ?_
        rintro _ _ (⟨R57, y0, y7, y8, y9, yk, rfl, rfl⟩ | ⟨R57, y0, y8, yk, rfl, rfl⟩)
        · skip
          rw [sr_sr]
          have rr_57 : ∀ j, j ≠ 7 → j ≠ 8 → j ≠ 9 → R57 j = R j := fun j h7 h8 h9 => by have z : R57 j = R32 j := y0 j h7 h8 h9; rw [z]; exact rr_32 j h7 h8 h9
          have a3_57 : R57 3 = R 3 := rr_57 3 (by decide) (by decide) (by decide)
          have a8_57 : R57 8 = (sk t (R32 7)) := y8
          have sr57 := sk_rng (t := t) (n := R 3) (p := R32 7) hTX (by omega)
          have a7_57 : R57 7 = fe t (sk t (R32 7)) := y7
          have a9_57 : R57 9 = nv t (sk t (R32 7)) (fe t (sk t (R32 7))) := y9
          have fr57 := fe_rng (t := t) (n := R 3) (p := (sk t (R32 7))) hTX (by omega)
          have ok57 : nOk t (sk t (R32 7)) 0 ((X 40 0) - 1) := yk
          have kk57 := id ok57
          unfold nOk at kk57
          refine Hx.run 7 (pc' := 75) (L' := [some (vr 64), some (vi (R16 9)), some (vi (R32 9))]) (st' := [vi (R57 9), vi (R32 9), vi (R16 9), vi 744, vr 64]) (M' := (sr (sr Z 65 W) 64 R57)) rfl ?_
          refine Hx.call (t := 151) (as := [vr 64, vi 744, vi (R16 9), vi (R32 9), vi (R57 9)]) (pc' := 78) (rest := []) rfl (r_addsGoer_744 (R16 9) (R32 9) (R57 9) (sr (sr Z 65 W) 64 R57) (by show 0 ≤ W 745 ∧ W 745 < 6; omega)) ?_
          rintro _ _ ⟨rfl, rfl⟩
          refine Hx.eq (st' := []) rfl (show _ = (sr (sr Z 65 (wG W (R16 9) (R32 9) (R57 9))) 64 R57) from by rw [up65, up65, up65, up65, up65, up65]; rfl) ?_
          refine Hx.run 0 (pc' := 78) (L' := [some (vr 64), some (vi (R16 9)), some (vi (R32 9))]) (st' := []) (M' := (sr (sr Z 65 (wG W (R16 9) (R32 9) (R57 9))) 64 R57)) rfl ?_
          refine Hx.run 1 (pc' := 79) (L' := [some (vr 64), some (vi (R16 9)), some (vi (R32 9))]) (st' := [vi 1]) (M' := (sr (sr Z 65 (wG W (R16 9) (R32 9) (R57 9))) 64 R57)) rfl ?_
          refine Hx.ret rfl ?_
          exact ⟨_, R57, rr_57, fun j hj => by unfold wG; rw [st1_ne (by omega), st1_ne (by omega), st1_ne (by omega), st1_ne (by omega), st1_ne (by omega), st1_ne (by omega)], Or.inr ⟨rfl, by omega, _, by unfold bG; rw [if_neg (by omega), itN_yes ok16 a7_16 a9_16, itN_yes ok32 a7_32 a9_32, itN_yes ok57 a7_57 a9_57], PI_b (by omega) (PI_G q (by omega) (by omega) (by omega) (by omega))⟩, rfl⟩
        · skip
          rw [sr_sr]
          have rr_57 : ∀ j, j ≠ 7 → j ≠ 8 → j ≠ 9 → R57 j = R j := fun j h7 h8 h9 => by have z : R57 j = R32 j := y0 j h7 h8 h9; rw [z]; exact rr_32 j h7 h8 h9
          have a3_57 : R57 3 = R 3 := rr_57 3 (by decide) (by decide) (by decide)
          have a8_57 : R57 8 = (sk t (R32 7)) := y8
          have sr57 := sk_rng (t := t) (n := R 3) (p := R32 7) hTX (by omega)
          have ok57 : ¬ nOk t (sk t (R32 7)) 0 ((X 40 0) - 1) := yk
          refine Hx.run 2 (pc' := 64) (L' := [some (vr 64), some (vi (R16 9)), some (vi (R32 9))]) (st' := [vi 0]) (M' := (sr (sr Z 65 W) 64 R57)) rfl ?_
          refine Hx.ret rfl ?_
          exact ⟨W, R57, rr_57, fun _ _ => rfl, Or.inl ⟨rfl, by unfold bG; rw [if_neg (by omega), itN_yes ok16 a7_16 a9_16, itN_yes ok32 a7_32 a9_32, itN_no ok57 a8_57]⟩, rfl⟩
      · skip
        rw [sr_sr]
        have rr_32 : ∀ j, j ≠ 7 → j ≠ 8 → j ≠ 9 → R32 j = R j := fun j h7 h8 h9 => by have z : R32 j = R16 j := y0 j h7 h8 h9; rw [z]; exact rr_16 j h7 h8 h9
        have a3_32 : R32 3 = R 3 := rr_32 3 (by decide) (by decide) (by decide)
        have a8_32 : R32 8 = (sk t (R16 7)) := y8
        have sr32 := sk_rng (t := t) (n := R 3) (p := R16 7) hTX (by omega)
        have ok32 : ¬ nOk t (sk t (R16 7)) 1 4 := yk
        refine Hx.run 2 (pc' := 39) (L' := [some (vr 64), some (vi (R16 9)), none]) (st' := [vi 0]) (M' := (sr (sr Z 65 W) 64 R32)) rfl ?_
        refine Hx.ret rfl ?_
        exact ⟨W, R32, rr_32, fun _ _ => rfl, Or.inl ⟨rfl, by unfold bG; rw [if_neg (by omega), itN_yes ok16 a7_16 a9_16, itN_no ok32 a8_32]⟩, rfl⟩
    · skip
      rw [sr_sr]
      have rr_16 : ∀ j, j ≠ 7 → j ≠ 8 → j ≠ 9 → R16 j = R j := fun j h7 h8 h9 => by have z : R16 j = R j := y0 j h7 h8 h9; exact z
      have a3_16 : R16 3 = R 3 := rr_16 3 (by decide) (by decide) (by decide)
      have a8_16 : R16 8 = (sk t (R 7)) := y8
      have sr16 := sk_rng (t := t) (n := R 3) (p := R 7) hTX (by omega)
      have ok16 : ¬ nOk t (sk t (R 7)) 0 5 := yk
      refine Hx.run 2 (pc' := 23) (L' := [some (vr 64), none, none]) (st' := [vi 0]) (M' := (sr (sr Z 65 W) 64 R16)) rfl ?_
      refine Hx.ret rfl ?_
      exact ⟨W, R16, rr_16, fun _ _ => rfl, Or.inl ⟨rfl, by unfold bG; rw [if_neg (by omega), itN_no ok16 a8_16]⟩, rfl⟩
set_option maxRecDepth 100000 in
set_option maxHeartbeats 4000000 in
theorem r_readsLoad (Z X : Mm) (W R : Int → Int) (t : Int → Int) (b : Int) (hT : TR (sr (sr Z 65 W) 64 R) t) (q : PI X W b) (hb8 : b ≤ 8000) (hR : 0 ≤ R 7 ∧ R 7 ≤ R 3) : Ct 165 [vr 64] (sr (sr Z 65 W) 64 R) (fun q0 M' => OutR Z W R b (bL t (R 7) X) q0 M') := by
  have hTX : TX t (R 3) := hT.1
  have tx := hTX.1
  obtain ⟨⟨c0, c1, c2, c3, c4, f0, f1, f2, f3, f4⟩, qf, qg, -⟩ := id q.1
  have h744 : W 744 = X 40 0 := f0.symm
  have h745 : W 745 = X 40 1 := f1.symm
  have h746 : W 746 = X 45 16 := f3.symm
  have h747 : W 747 = X 45 15 := f4.symm
  have k0 : 0 ≤ X 40 0 ∧ X 40 0 ≤ 3 := c0
  have k1 : 0 ≤ X 40 1 ∧ X 40 1 ≤ 6 := c1
  have k3 : 0 ≤ X 45 16 ∧ X 45 16 ≤ 9999 := c3
  have k4 : 0 ≤ X 45 15 ∧ X 45 15 ≤ b := c4
  refine Hx.run 7 (pc' := 11) (L' := [some (vr 64), none]) (st' := [vi 1, vi (W 745), vi 0, vr 64]) (M' := (sr (sr Z 65 W) 64 R)) rfl ?_
  refine Hx.sub rfl (by omega) ?_
  refine Hx.call (t := 161) (as := [vr 64, vi 0, vi ((W 745) - 1)]) (pc' := 15) (rest := []) rfl (by rw [show ((W 745) - 1) = ((X 40 1) - 1) by omega]; exact r_takesNumber 0 ((X 40 1) - 1) (sr (sr Z 65 W) 64 R) t (TR_2 hT (by omega)) (by show 0 ≤ R 7 ∧ R 7 ≤ R 3; omega)) ?_
  rintro _ _ (⟨R12, y0, y7, y8, y9, yk, rfl, rfl⟩ | ⟨R12, y0, y8, yk, rfl, rfl⟩)
  · skip
    rw [sr_sr]
    have rr_12 : ∀ j, j ≠ 7 → j ≠ 8 → j ≠ 9 → R12 j = R j := fun j h7 h8 h9 => by have z : R12 j = R j := y0 j h7 h8 h9; exact z
    have a3_12 : R12 3 = R 3 := rr_12 3 (by decide) (by decide) (by decide)
    have a8_12 : R12 8 = (sk t (R 7)) := y8
    have sr12 := sk_rng (t := t) (n := R 3) (p := R 7) hTX (by omega)
    have a7_12 : R12 7 = fe t (sk t (R 7)) := y7
    have a9_12 : R12 9 = nv t (sk t (R 7)) (fe t (sk t (R 7))) := y9
    have fr12 := fe_rng (t := t) (n := R 3) (p := (sk t (R 7))) hTX (by omega)
    have ok12 : nOk t (sk t (R 7)) 0 ((X 40 1) - 1) := yk
    have kk12 := id ok12
    unfold nOk at kk12
    refine Hx.run 7 (pc' := 29) (L' := [some (vr 64), some (vi (R12 9))]) (st' := [vi 9, vi 0, vr 64]) (M' := (sr (sr Z 65 W) 64 R12)) rfl ?_
    refine Hx.call (t := 161) (as := [vr 64, vi 0, vi 9]) (pc' := 32) (rest := []) rfl (r_takesNumber 0 9 (sr (sr Z 65 W) 64 R12) t (TR_2 hT (by omega)) (by show 0 ≤ R12 7 ∧ R12 7 ≤ R12 3; omega)) ?_
    rintro _ _ (⟨R29, y0, y7, y8, y9, yk, rfl, rfl⟩ | ⟨R29, y0, y8, yk, rfl, rfl⟩)
    · skip
      rw [sr_sr]
      have rr_29 : ∀ j, j ≠ 7 → j ≠ 8 → j ≠ 9 → R29 j = R j := fun j h7 h8 h9 => by have z : R29 j = R12 j := y0 j h7 h8 h9; rw [z]; exact rr_12 j h7 h8 h9
      have a3_29 : R29 3 = R 3 := rr_29 3 (by decide) (by decide) (by decide)
      have a8_29 : R29 8 = (sk t (R12 7)) := y8
      have sr29 := sk_rng (t := t) (n := R 3) (p := R12 7) hTX (by omega)
      have a7_29 : R29 7 = fe t (sk t (R12 7)) := y7
      have a9_29 : R29 9 = nv t (sk t (R12 7)) (fe t (sk t (R12 7))) := y9
      have fr29 := fe_rng (t := t) (n := R 3) (p := (sk t (R12 7))) hTX (by omega)
      have ok29 : nOk t (sk t (R12 7)) 0 9 := yk
      have kk29 := id ok29
      unfold nOk at kk29
      refine Hx.run 5 (pc' := 45) (L' := [some (vr 64), some (vi (R12 9))]) (st' := [vi (R12 9), vi 778, vr 65]) (M' := (sr (sr Z 65 W) 64 R29)) rfl ?_
      refine Hx.add rfl (by omega) ?_
      refine Hx.run 2 (pc' := 50) (L' := [some (vr 64), some (vi (R12 9))]) (st' := [vi (R29 9), vi (778 + (R12 9)), vr 65]) (M' := (sr (sr Z 65 W) 64 R29)) rfl ?_
      refine Hx.astI (n := 1032) rfl rfl (by omega) ?_
      refine Hx.run 0 (pc' := 51) (L' := [some (vr 64), some (vi (R12 9))]) (st' := []) (M' := (up (sr (sr Z 65 W) 64 R29) 65 (778 + (R12 9)) (R29 9))) rfl ?_
      refine Hx.eq (st' := []) rfl (show _ = (sr (sr Z 65 (wL W (R12 9) (R29 9))) 64 R29) from by rw [up65]; rfl) ?_
      refine Hx.run 1 (pc' := 52) (L' := [some (vr 64), some (vi (R12 9))]) (st' := [vi 1]) (M' := (sr (sr Z 65 (wL W (R12 9) (R29 9))) 64 R29)) rfl ?_
      refine Hx.ret rfl ?_
      exact ⟨_, R29, rr_29, fun j hj => by unfold wL; rw [st1_ne (by omega)], Or.inr ⟨rfl, by omega, _, by unfold bL; rw [itN_yes ok12 a7_12 a9_12, itN_yes ok29 a7_29 a9_29], PI_b (by omega) (PI_L q (by omega) (by omega))⟩, rfl⟩
    · skip
      rw [sr_sr]
      have rr_29 : ∀ j, j ≠ 7 → j ≠ 8 → j ≠ 9 → R29 j = R j := fun j h7 h8 h9 => by have z : R29 j = R12 j := y0 j h7 h8 h9; rw [z]; exact rr_12 j h7 h8 h9
      have a3_29 : R29 3 = R 3 := rr_29 3 (by decide) (by decide) (by decide)
      have a8_29 : R29 8 = (sk t (R12 7)) := y8
      have sr29 := sk_rng (t := t) (n := R 3) (p := R12 7) hTX (by omega)
      have ok29 : ¬ nOk t (sk t (R12 7)) 0 9 := yk
      refine Hx.run 2 (pc' := 36) (L' := [some (vr 64), some (vi (R12 9))]) (st' := [vi 0]) (M' := (sr (sr Z 65 W) 64 R29)) rfl ?_
      refine Hx.ret rfl ?_
      exact ⟨W, R29, rr_29, fun _ _ => rfl, Or.inl ⟨rfl, by unfold bL; rw [itN_yes ok12 a7_12 a9_12, itN_no ok29 a8_29]⟩, rfl⟩
  · skip
    rw [sr_sr]
    have rr_12 : ∀ j, j ≠ 7 → j ≠ 8 → j ≠ 9 → R12 j = R j := fun j h7 h8 h9 => by have z : R12 j = R j := y0 j h7 h8 h9; exact z
    have a3_12 : R12 3 = R 3 := rr_12 3 (by decide) (by decide) (by decide)
    have a8_12 : R12 8 = (sk t (R 7)) := y8
    have sr12 := sk_rng (t := t) (n := R 3) (p := R 7) hTX (by omega)
    have ok12 : ¬ nOk t (sk t (R 7)) 0 ((X 40 1) - 1) := yk
    refine Hx.run 2 (pc' := 19) (L' := [some (vr 64), none]) (st' := [vi 0]) (M' := (sr (sr Z 65 W) 64 R12)) rfl ?_
    refine Hx.ret rfl ?_
    exact ⟨W, R12, rr_12, fun _ _ => rfl, Or.inl ⟨rfl, by unfold bL; rw [itN_no ok12 a8_12]⟩, rfl⟩
set_option maxRecDepth 100000 in
set_option maxHeartbeats 4000000 in
theorem r_readsStride (Z X : Mm) (W R : Int → Int) (t : Int → Int) (b : Int) (hT : TR (sr (sr Z 65 W) 64 R) t) (q : PI X W b) (hb8 : b ≤ 8000) (hR : 0 ≤ R 7 ∧ R 7 ≤ R 3) : Ct 166 [vr 64] (sr (sr Z 65 W) 64 R) (fun q0 M' => OutR Z W R b (bS5 t (R 7) X) q0 M') := by
  have hTX : TX t (R 3) := hT.1
  have tx := hTX.1
  obtain ⟨⟨c0, c1, c2, c3, c4, f0, f1, f2, f3, f4⟩, qf, qg, -⟩ := id q.1
  have h744 : W 744 = X 40 0 := f0.symm
  have h745 : W 745 = X 40 1 := f1.symm
  have h746 : W 746 = X 45 16 := f3.symm
  have h747 : W 747 = X 45 15 := f4.symm
  have k0 : 0 ≤ X 40 0 ∧ X 40 0 ≤ 3 := c0
  have k1 : 0 ≤ X 40 1 ∧ X 40 1 ≤ 6 := c1
  have k3 : 0 ≤ X 45 16 ∧ X 45 16 ≤ 9999 := c3
  have k4 : 0 ≤ X 45 15 ∧ X 45 15 ≤ b := c4
  refine Hx.run 7 (pc' := 11) (L' := [some (vr 64), none]) (st' := [vi 1, vi (W 745), vi 0, vr 64]) (M' := (sr (sr Z 65 W) 64 R)) rfl ?_
  refine Hx.sub rfl (by omega) ?_
  refine Hx.call (t := 161) (as := [vr 64, vi 0, vi ((W 745) - 1)]) (pc' := 15) (rest := []) rfl (by rw [show ((W 745) - 1) = ((X 40 1) - 1) by omega]; exact r_takesNumber 0 ((X 40 1) - 1) (sr (sr Z 65 W) 64 R) t (TR_2 hT (by omega)) (by show 0 ≤ R 7 ∧ R 7 ≤ R 3; omega)) ?_
  rintro _ _ (⟨R12, y0, y7, y8, y9, yk, rfl, rfl⟩ | ⟨R12, y0, y8, yk, rfl, rfl⟩)
  · skip
    rw [sr_sr]
    have rr_12 : ∀ j, j ≠ 7 → j ≠ 8 → j ≠ 9 → R12 j = R j := fun j h7 h8 h9 => by have z : R12 j = R j := y0 j h7 h8 h9; exact z
    have a3_12 : R12 3 = R 3 := rr_12 3 (by decide) (by decide) (by decide)
    have a8_12 : R12 8 = (sk t (R 7)) := y8
    have sr12 := sk_rng (t := t) (n := R 3) (p := R 7) hTX (by omega)
    have a7_12 : R12 7 = fe t (sk t (R 7)) := y7
    have a9_12 : R12 9 = nv t (sk t (R 7)) (fe t (sk t (R 7))) := y9
    have fr12 := fe_rng (t := t) (n := R 3) (p := (sk t (R 7))) hTX (by omega)
    have ok12 : nOk t (sk t (R 7)) 0 ((X 40 1) - 1) := yk
    have kk12 := id ok12
    unfold nOk at kk12
    refine Hx.run 1 (pc' := 18) (L' := [some (vr 64), none]) (st' := []) (M' := (sr (sr Z 65 W) 64 R12)) rfl ?_
    have gg := qg (R12 9) (by omega) (by omega)
    have g1 : (0 ≤ X 42 (R12 9) ∧ X 42 (R12 9) ≤ 5) ∧ (1 ≤ X 43 (R12 9) ∧ X 43 (R12 9) ≤ 4) ∧ (0 ≤ X 44 (R12 9) ∧ X 44 (R12 9) < X 40 0) ∧ (0 ≤ X 45 (R12 9) ∧ X 45 (R12 9) ≤ 11) ∧ (0 ≤ X 45 (6 + (R12 9)) ∧ X 45 (6 + (R12 9)) ≤ 9) := gg.1
    have gf := qf (X 44 (R12 9)) (by omega) (by omega)
    have g10 : W (754 + (R12 9)) = X 42 (R12 9) := by rw [show 754 + (R12 9) = 744 + 10 + (R12 9) by omega]; exact gg.2.1.symm
    have g16 : W (760 + (R12 9)) = X 43 (R12 9) := by rw [show 760 + (R12 9) = 744 + 16 + (R12 9) by omega]; exact gg.2.2.1.symm
    have g22 : W (766 + (R12 9)) = X 44 (R12 9) := by rw [show 766 + (R12 9) = 744 + 22 + (R12 9) by omega]; exact gg.2.2.2.1.symm
    have g28 : W (772 + (R12 9)) = X 45 (R12 9) := by rw [show 772 + (R12 9) = 744 + 28 + (R12 9) by omega]; exact gg.2.2.2.2.1.symm
    have g34 : W (778 + (R12 9)) = X 45 (6 + (R12 9)) := by rw [show 778 + (R12 9) = 744 + 34 + (R12 9) by omega]; exact gg.2.2.2.2.2.symm
    have g4 : W (748 + (X 44 (R12 9))) = X 41 (X 44 (R12 9)) := by rw [show 748 + (X 44 (R12 9)) = 744 + 4 + (X 44 (R12 9)) by omega]; exact gf.2.2.1.symm
    have g7 : W (751 + (X 44 (R12 9))) = X 45 (12 + (X 44 (R12 9))) := by rw [show 751 + (X 44 (R12 9)) = 744 + 7 + (X 44 (R12 9)) by omega]; exact gf.2.2.2.symm
    have g4b : W (748 + (W (766 + (R12 9)))) = X 41 (X 44 (R12 9)) := by rw [g22]; exact g4
    have g7b : W (751 + (W (766 + (R12 9)))) = X 45 (12 + (X 44 (R12 9))) := by rw [g22]; exact g7
    have gk : (0 ≤ X 41 (X 44 (R12 9)) ∧ X 41 (X 44 (R12 9)) ≤ 5) ∧ (1 ≤ X 45 (12 + (X 44 (R12 9))) ∧ X 45 (12 + (X 44 (R12 9))) ≤ 10) := ⟨gf.1, gf.2.1⟩
    have sR := sfF_rng (k := X 42 (R12 9)) (l := X 43 (R12 9)) (x := X 45 (6 + (R12 9))) (t := X 45 16 % 24) (by omega) (by omega)
    have rc : rch X (R12 9) = sfF (X 42 (R12 9)) (X 43 (R12 9)) (X 45 (6 + (R12 9))) (X 45 16 % 24) := rfl
    refine Hx.run 5 (pc' := 29) (L' := [some (vr 64), none]) (st' := [vi (R12 9), vi 772, vr 65]) (M' := (sr (sr Z 65 W) 64 R12)) rfl ?_
    refine Hx.add rfl (by omega) ?_
    refine Hx.aldI (n := 1032) rfl rfl (by omega) ?_
    refine Hx.run 0 (pc' := 31) (L' := [some (vr 64), none]) (st' := [vi (W (772 + (R12 9)))]) (M' := (sr (sr Z 65 W) 64 R12)) rfl ?_
    refine Hx.run 1 (pc' := 33) (L' := [some (vr 64), none]) (st' := [vi 11, vi (W (772 + (R12 9)))]) (M' := (sr (sr Z 65 W) 64 R12)) rfl ?_
    refine Hx.br (c := (W (772 + (R12 9))) = 11) (t := 36) (f := 38) rfl (fun h1 => ?_) (fun h1 => ?_)
    · skip
      refine Hx.run 1 (pc' := 37) (L' := [some (vr 64), none]) (st' := [vi 0]) (M' := (sr (sr Z 65 W) 64 R12)) rfl ?_
      refine Hx.ret rfl ?_
      first | exact ⟨W, R12, rr_12, fun _ _ => rfl, Or.inl ⟨rfl, by unfold bS5; rw [itN_no ok12 a8_12]⟩, rfl⟩ | exact ⟨W, R12, rr_12, fun _ _ => rfl, Or.inl ⟨rfl, by unfold bS5; rw [itN_yes ok12 a7_12 a9_12, if_pos (by omega), a8_12]⟩, rfl⟩
    · skip
      refine Hx.run 8 (pc' := 50) (L' := [some (vr 64), some (vi (R12 9))]) (st' := [vi (R12 9), vi 744, vr 64, vi 1, vr 64]) (M' := (sr (sr Z 65 W) 64 R12)) rfl ?_
      refine Hx.call (t := 147) (as := [vr 64, vi 744, vi (R12 9)]) (pc' := 53) (rest := [vi 1, vr 64]) rfl ((show Ct 147 [vr 64, vi 744, vi (R12 9)] (sr (sr Z 65 W) 64 R12) (fun q0 M' => q0 = some (vi (rch X (R12 9))) ∧ (sr (sr Z 65 W) 64 R12) = M') from by have z := r_stridesIn_744 (R12 9) (sr (sr Z 65 W) 64 R12) (show (0 ≤ (R12 9) ∧ (R12 9) < 6) ∧ (0 ≤ (sr (sr Z 65 W) 64 R12) 65 (754 + (R12 9)) ∧ (sr (sr Z 65 W) 64 R12) 65 (754 + (R12 9)) ≤ 5) ∧ (1 ≤ (sr (sr Z 65 W) 64 R12) 65 (760 + (R12 9)) ∧ (sr (sr Z 65 W) 64 R12) 65 (760 + (R12 9)) ≤ 4) ∧ (0 ≤ (sr (sr Z 65 W) 64 R12) 65 (766 + (R12 9)) ∧ (sr (sr Z 65 W) 64 R12) 65 (766 + (R12 9)) ≤ 2) ∧ (0 ≤ (sr (sr Z 65 W) 64 R12) 65 (772 + (R12 9)) ∧ (sr (sr Z 65 W) 64 R12) 65 (772 + (R12 9)) ≤ 11) ∧ (0 ≤ (sr (sr Z 65 W) 64 R12) 65 (778 + (R12 9)) ∧ (sr (sr Z 65 W) 64 R12) 65 (778 + (R12 9)) ≤ 9) from ⟨by omega, by show 0 ≤ W (754 + (R12 9)) ∧ W (754 + (R12 9)) ≤ 5; omega, by show 1 ≤ W (760 + (R12 9)) ∧ W (760 + (R12 9)) ≤ 4; omega, by show 0 ≤ W (766 + (R12 9)) ∧ W (766 + (R12 9)) ≤ 2; omega, by show 0 ≤ W (772 + (R12 9)) ∧ W (772 + (R12 9)) ≤ 11; omega, by show 0 ≤ W (778 + (R12 9)) ∧ W (778 + (R12 9)) ≤ 9; omega⟩) (by show 0 ≤ W 746 ∧ W 746 ≤ 9999; omega); rw [show ((sr (sr Z 65 W) 64 R12)) 65 (754 + (R12 9)) = X 42 (R12 9) from g10, show ((sr (sr Z 65 W) 64 R12)) 65 (760 + (R12 9)) = X 43 (R12 9) from g16, show ((sr (sr Z 65 W) 64 R12)) 65 (778 + (R12 9)) = X 45 (6 + (R12 9)) from g34, show ((sr (sr Z 65 W) 64 R12)) 65 746 = X 45 16 from h746] at z; exact z)) ?_
      rintro _ _ ⟨rfl, rfl⟩
      refine Hx.run 0 (pc' := 53) (L' := [some (vr 64), some (vi (R12 9))]) (st' := [vi (rch X (R12 9)), vi 1, vr 64]) (M' := (sr (sr Z 65 W) 64 R12)) rfl ?_
      refine Hx.call (t := 161) (as := [vr 64, vi 1, vi (rch X (R12 9))]) (pc' := 56) (rest := []) rfl (r_takesNumber 1 (rch X (R12 9)) (sr (sr Z 65 W) 64 R12) t (TR_2 hT (by omega)) (by show 0 ≤ R12 7 ∧ R12 7 ≤ R12 3; omega)) ?_
      rintro _ _ (⟨R53, y0, y7, y8, y9, yk, rfl, rfl⟩ | ⟨R53, y0, y8, yk, rfl, rfl⟩)
      · skip
        rw [sr_sr]
        have rr_53 : ∀ j, j ≠ 7 → j ≠ 8 → j ≠ 9 → R53 j = R j := fun j h7 h8 h9 => by have z : R53 j = R12 j := y0 j h7 h8 h9; rw [z]; exact rr_12 j h7 h8 h9
        have a3_53 : R53 3 = R 3 := rr_53 3 (by decide) (by decide) (by decide)
        have a8_53 : R53 8 = (sk t (R12 7)) := y8
        have sr53 := sk_rng (t := t) (n := R 3) (p := R12 7) hTX (by omega)
        have a7_53 : R53 7 = fe t (sk t (R12 7)) := y7
        have a9_53 : R53 9 = nv t (sk t (R12 7)) (fe t (sk t (R12 7))) := y9
        have fr53 := fe_rng (t := t) (n := R 3) (p := (sk t (R12 7))) hTX (by omega)
        have ok53 : nOk t (sk t (R12 7)) 1 (rch X (R12 9)) := yk
        have kk53 := id ok53
        unfold nOk at kk53
        refine Hx.run 6 (pc' := 70) (L' := [some (vr 64), some (vi (R12 9))]) (st' := [vi (R53 9), vi (R12 9), vi 744, vr 64]) (M' := (sr (sr Z 65 W) 64 R53)) rfl ?_
        refine Hx.call (t := 170) (as := [vr 64, vi 744, vi (R12 9), vi (R53 9)]) (pc' := 73) (rest := []) rfl (r_goes_744 (R12 9) (R53 9) (sr (sr Z 65 W) 64 R53) (show (0 ≤ (R12 9) ∧ (R12 9) < 6) ∧ (0 ≤ (sr (sr Z 65 W) 64 R53) 65 (754 + (R12 9)) ∧ (sr (sr Z 65 W) 64 R53) 65 (754 + (R12 9)) ≤ 5) ∧ (1 ≤ (sr (sr Z 65 W) 64 R53) 65 (760 + (R12 9)) ∧ (sr (sr Z 65 W) 64 R53) 65 (760 + (R12 9)) ≤ 4) ∧ (0 ≤ (sr (sr Z 65 W) 64 R53) 65 (766 + (R12 9)) ∧ (sr (sr Z 65 W) 64 R53) 65 (766 + (R12 9)) ≤ 2) ∧ (0 ≤ (sr (sr Z 65 W) 64 R53) 65 (772 + (R12 9)) ∧ (sr (sr Z 65 W) 64 R53) 65 (772 + (R12 9)) ≤ 11) ∧ (0 ≤ (sr (sr Z 65 W) 64 R53) 65 (778 + (R12 9)) ∧ (sr (sr Z 65 W) 64 R53) 65 (778 + (R12 9)) ≤ 9) from ⟨by omega, by show 0 ≤ W (754 + (R12 9)) ∧ W (754 + (R12 9)) ≤ 5; omega, by show 1 ≤ W (760 + (R12 9)) ∧ W (760 + (R12 9)) ≤ 4; omega, by show 0 ≤ W (766 + (R12 9)) ∧ W (766 + (R12 9)) ≤ 2; omega, by show 0 ≤ W (772 + (R12 9)) ∧ W (772 + (R12 9)) ≤ 11; omega, by show 0 ≤ W (778 + (R12 9)) ∧ W (778 + (R12 9)) ≤ 9; omega⟩) (show (0 ≤ ((sr (sr Z 65 W) 64 R53) 65 (766 + (R12 9))) ∧ ((sr (sr Z 65 W) 64 R53) 65 (766 + (R12 9))) < 3) ∧ (0 ≤ (sr (sr Z 65 W) 64 R53) 65 (748 + ((sr (sr Z 65 W) 64 R53) 65 (766 + (R12 9)))) ∧ (sr (sr Z 65 W) 64 R53) 65 (748 + ((sr (sr Z 65 W) 64 R53) 65 (766 + (R12 9)))) ≤ 5) ∧ (1 ≤ (sr (sr Z 65 W) 64 R53) 65 (751 + ((sr (sr Z 65 W) 64 R53) 65 (766 + (R12 9)))) ∧ (sr (sr Z 65 W) 64 R53) 65 (751 + ((sr (sr Z 65 W) 64 R53) 65 (766 + (R12 9)))) ≤ 10) from ⟨by show 0 ≤ W (766 + (R12 9)) ∧ W (766 + (R12 9)) < 3; omega, by show 0 ≤ W (748 + (W (766 + (R12 9)))) ∧ W (748 + (W (766 + (R12 9)))) ≤ 5; omega, by show 1 ≤ W (751 + (W (766 + (R12 9)))) ∧ W (751 + (W (766 + (R12 9)))) ≤ 10; omega⟩) (by show 0 ≤ W 746 ∧ W 746 ≤ 9999; omega) (by omega) (by show 0 ≤ W 747 ∧ W 747 ≤ 9999; omega)) ?_
        rintro _ _ (⟨zh, rfl, rfl⟩ | ⟨zh, rfl, rfl⟩)
        · skip
          refine Hx.eq (st' := []) rfl (show _ = (sr (sr Z 65 (wS W (R12 9) 0 (min 9999 (W 747 + 1)))) 64 R53) from by rw [up65, up65]; rfl) ?_
          have hh :  hb (bb (X 45 (12 + (X 44 (R12 9)))) (bcF (X 41 (X 44 (R12 9))) (X 45 16 % 24))) (min 11 ((X 45 (R12 9)) + (R53 9))) := by have z :  hb (bb (W (751 + (W (766 + (R12 9))))) (bcF (W (748 + (W (766 + (R12 9))))) ((W 746) % 24))) (min 11 ((W (772 + (R12 9))) + (R53 9))) := zh; rw [g7b, g4b, g28, h746] at z; exact z
          refine Hx.run 1 (pc' := 74) (L' := [some (vr 64), some (vi (R12 9))]) (st' := [vi 1]) (M' := (sr (sr Z 65 (wS W (R12 9) 0 (min 9999 (W 747 + 1)))) 64 R53)) rfl ?_
          refine Hx.ret rfl ?_
          exact ⟨_, R53, rr_53, fun j hj => by unfold wS; rw [st1_ne (by omega), st1_ne (by omega)], Or.inr ⟨rfl, by omega, adS X (R12 9) (R53 9), by unfold bS5; rw [itN_yes ok12 a7_12 a9_12, if_neg (by omega), itN_yes ok53 a7_53 a9_53], by unfold adS; rw [if_pos (bt_1 hh)]; exact PI_sfall (by omega) q (by omega)⟩, rfl⟩
        · skip
          refine Hx.eq (st' := []) rfl (show _ = (sr (sr Z 65 (wS W (R12 9) (min 11 ((X 45 (R12 9)) + (R53 9))) (W 747))) 64 R53) from by rw [up65, up65]; unfold wS; rw [← g28]; rfl) ?_
          have hh : ¬ hb (bb (X 45 (12 + (X 44 (R12 9)))) (bcF (X 41 (X 44 (R12 9))) (X 45 16 % 24))) (min 11 ((X 45 (R12 9)) + (R53 9))) := by have z : ¬ hb (bb (W (751 + (W (766 + (R12 9))))) (bcF (W (748 + (W (766 + (R12 9))))) ((W 746) % 24))) (min 11 ((W (772 + (R12 9))) + (R53 9))) := zh; rw [g7b, g4b, g28, h746] at z; exact z
          refine Hx.run 1 (pc' := 74) (L' := [some (vr 64), some (vi (R12 9))]) (st' := [vi 1]) (M' := (sr (sr Z 65 (wS W (R12 9) (min 11 ((X 45 (R12 9)) + (R53 9))) (W 747))) 64 R53)) rfl ?_
          refine Hx.ret rfl ?_
          exact ⟨_, R53, rr_53, fun j hj => by unfold wS; rw [st1_ne (by omega), st1_ne (by omega)], Or.inr ⟨rfl, by omega, adS X (R12 9) (R53 9), by unfold bS5; rw [itN_yes ok12 a7_12 a9_12, if_neg (by omega), itN_yes ok53 a7_53 a9_53], by unfold adS; rw [if_neg (by rw [bt_0 hh]; decide)]; exact PI_sgo q (by omega) (by omega)⟩, rfl⟩
      · skip
        rw [sr_sr]
        have rr_53 : ∀ j, j ≠ 7 → j ≠ 8 → j ≠ 9 → R53 j = R j := fun j h7 h8 h9 => by have z : R53 j = R12 j := y0 j h7 h8 h9; rw [z]; exact rr_12 j h7 h8 h9
        have a3_53 : R53 3 = R 3 := rr_53 3 (by decide) (by decide) (by decide)
        have a8_53 : R53 8 = (sk t (R12 7)) := y8
        have sr53 := sk_rng (t := t) (n := R 3) (p := R12 7) hTX (by omega)
        have ok53 : ¬ nOk t (sk t (R12 7)) 1 (rch X (R12 9)) := yk
        refine Hx.run 2 (pc' := 60) (L' := [some (vr 64), some (vi (R12 9))]) (st' := [vi 0]) (M' := (sr (sr Z 65 W) 64 R53)) rfl ?_
        refine Hx.ret rfl ?_
        exact ⟨W, R53, rr_53, fun _ _ => rfl, Or.inl ⟨rfl, by unfold bS5; rw [itN_yes ok12 a7_12 a9_12, if_neg (by omega), itN_no ok53 a8_53]⟩, rfl⟩
  · skip
    rw [sr_sr]
    have rr_12 : ∀ j, j ≠ 7 → j ≠ 8 → j ≠ 9 → R12 j = R j := fun j h7 h8 h9 => by have z : R12 j = R j := y0 j h7 h8 h9; exact z
    have a3_12 : R12 3 = R 3 := rr_12 3 (by decide) (by decide) (by decide)
    have a8_12 : R12 8 = (sk t (R 7)) := y8
    have sr12 := sk_rng (t := t) (n := R 3) (p := R 7) hTX (by omega)
    have ok12 : ¬ nOk t (sk t (R 7)) 0 ((X 40 1) - 1) := yk
    refine Hx.run 2 (pc' := 37) (L' := [some (vr 64), none]) (st' := [vi 0]) (M' := (sr (sr Z 65 W) 64 R12)) rfl ?_
    refine Hx.ret rfl ?_
    first | exact ⟨W, R12, rr_12, fun _ _ => rfl, Or.inl ⟨rfl, by unfold bS5; rw [itN_no ok12 a8_12]⟩, rfl⟩ | exact ⟨W, R12, rr_12, fun _ _ => rfl, Or.inl ⟨rfl, by unfold bS5; rw [itN_yes ok12 a7_12 a9_12, if_pos (by omega), a8_12]⟩, rfl⟩
set_option maxRecDepth 100000 in
set_option maxHeartbeats 4000000 in
theorem r_readsHours (Z X : Mm) (W R : Int → Int) (t : Int → Int) (b : Int) (hT : TR (sr (sr Z 65 W) 64 R) t) (q : PI X W b) (hb8 : b ≤ 8000) (hR : 0 ≤ R 7 ∧ R 7 ≤ R 3) : Ct 167 [vr 64] (sr (sr Z 65 W) 64 R) (fun q0 M' => OutR Z W R b (bH t (R 7) X) q0 M') := by
  have hTX : TX t (R 3) := hT.1
  have tx := hTX.1
  obtain ⟨⟨c0, c1, c2, c3, c4, f0, f1, f2, f3, f4⟩, qf, qg, -⟩ := id q.1
  have h744 : W 744 = X 40 0 := f0.symm
  have h745 : W 745 = X 40 1 := f1.symm
  have h746 : W 746 = X 45 16 := f3.symm
  have h747 : W 747 = X 45 15 := f4.symm
  have k0 : 0 ≤ X 40 0 ∧ X 40 0 ≤ 3 := c0
  have k1 : 0 ≤ X 40 1 ∧ X 40 1 ≤ 6 := c1
  have k3 : 0 ≤ X 45 16 ∧ X 45 16 ≤ 9999 := c3
  have k4 : 0 ≤ X 45 15 ∧ X 45 15 ≤ b := c4
  refine Hx.run 3 (pc' := 4) (L' := [some (vr 64)]) (st' := [vi 99, vi 1, vr 64]) (M' := (sr (sr Z 65 W) 64 R)) rfl ?_
  refine Hx.call (t := 161) (as := [vr 64, vi 1, vi 99]) (pc' := 7) (rest := []) rfl (r_takesNumber 1 99 (sr (sr Z 65 W) 64 R) t (TR_2 hT (by omega)) (by show 0 ≤ R 7 ∧ R 7 ≤ R 3; omega)) ?_
  rintro _ _ (⟨R4, y0, y7, y8, y9, yk, rfl, rfl⟩ | ⟨R4, y0, y8, yk, rfl, rfl⟩)
  · skip
    rw [sr_sr]
    have rr_4 : ∀ j, j ≠ 7 → j ≠ 8 → j ≠ 9 → R4 j = R j := fun j h7 h8 h9 => by have z : R4 j = R j := y0 j h7 h8 h9; exact z
    have a3_4 : R4 3 = R 3 := rr_4 3 (by decide) (by decide) (by decide)
    have a8_4 : R4 8 = (sk t (R 7)) := y8
    have sr4 := sk_rng (t := t) (n := R 3) (p := R 7) hTX (by omega)
    have a7_4 : R4 7 = fe t (sk t (R 7)) := y7
    have a9_4 : R4 9 = nv t (sk t (R 7)) (fe t (sk t (R 7))) := y9
    have fr4 := fe_rng (t := t) (n := R 3) (p := (sk t (R 7))) hTX (by omega)
    have ok4 : nOk t (sk t (R 7)) 1 99 := yk
    have kk4 := id ok4
    unfold nOk at kk4
    refine Hx.run 5 (pc' := 20) (L' := [some (vr 64)]) (st' := [vi (R4 9), vi 744, vr 64]) (M' := (sr (sr Z 65 W) 64 R4)) rfl ?_
    refine Hx.call (t := 171) (as := [vr 64, vi 744, vi (R4 9)]) (pc' := 23) (rest := []) rfl (r_passes_744 (R4 9) (sr (sr Z 65 W) 64 R4) (by omega) (by show 0 ≤ W 746 ∧ W 746 ≤ 9999; omega)) ?_
    rintro _ _ ⟨rfl, rfl⟩
    refine Hx.eq (st' := []) rfl (show _ = (sr (sr Z 65 (wH W (R4 9))) 64 R4) from by rw [up65]; rfl) ?_
    refine Hx.run 0 (pc' := 23) (L' := [some (vr 64)]) (st' := []) (M' := (sr (sr Z 65 (wH W (R4 9))) 64 R4)) rfl ?_
    refine Hx.run 1 (pc' := 24) (L' := [some (vr 64)]) (st' := [vi 1]) (M' := (sr (sr Z 65 (wH W (R4 9))) 64 R4)) rfl ?_
    refine Hx.ret rfl ?_
    exact ⟨_, R4, rr_4, fun j hj => by unfold wH; rw [st1_ne (by omega)], Or.inr ⟨rfl, by omega, _, by unfold bH; rw [itN_yes ok4 a7_4 a9_4], PI_b (by omega) (PI_H q (by omega))⟩, rfl⟩
  · skip
    rw [sr_sr]
    have rr_4 : ∀ j, j ≠ 7 → j ≠ 8 → j ≠ 9 → R4 j = R j := fun j h7 h8 h9 => by have z : R4 j = R j := y0 j h7 h8 h9; exact z
    have a3_4 : R4 3 = R 3 := rr_4 3 (by decide) (by decide) (by decide)
    have a8_4 : R4 8 = (sk t (R 7)) := y8
    have sr4 := sk_rng (t := t) (n := R 3) (p := R 7) hTX (by omega)
    have ok4 : ¬ nOk t (sk t (R 7)) 1 99 := yk
    refine Hx.run 2 (pc' := 11) (L' := [some (vr 64)]) (st' := [vi 0]) (M' := (sr (sr Z 65 W) 64 R4)) rfl ?_
    refine Hx.ret rfl ?_
    exact ⟨W, R4, rr_4, fun _ _ => rfl, Or.inl ⟨rfl, by unfold bH; rw [itN_no ok4 a8_4]⟩, rfl⟩
