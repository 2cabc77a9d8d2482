/-! read of the reference (written by wip/whole/gen78.py) -/
set_option maxRecDepth 100000 in
set_option maxHeartbeats 4000000 in
theorem rl_read (Z : Mm) (t : Int → Int) (n : Int) (W0 R0 : Int → Int) (out : Int ⊕ (Int × Mm)) (hTX : TX t n) : ∀ (kk : Nat) (p : Int) (X : Mm) (W : Int → Int) (R : Int → Int) (k : Int), R 3 = n → R 7 = sk t p → R 8 = sk t p → 0 ≤ p ∧ p ≤ n → 1 ≤ k ∧ k ≤ p → PI X W k → TR (sr (sr Z 65 W) 64 R) t → (∀ j, j ≠ 7 → j ≠ 8 → j ≠ 9 → R j = R0 j) → (∀ j, j < 744 ∨ 992 ≤ j → W j = W0 j) → prs t kk p X k = out → n - p < (kk : Int) → Hx 169 20 [some (vr 64), some (vi k), some (vi 1)] [] (sr (sr Z 65 W) 64 R) (fun q0 M' => (∃ s : Int, out = Sum.inl s ∧ q0 = some (vi (-10 - s)) ∧ ∃ W' R' : Int → Int, (∀ j, j ≠ 7 → j ≠ 8 → j ≠ 9 → R' j = R0 j) ∧ (∀ j, j < 744 ∨ 992 ≤ j → W' j = W0 j) ∧ sr (sr Z 65 W') 64 R' = M') ∨ (∃ (k : Int) (X' : Mm), out = Sum.inr (k, X') ∧ q0 = some (vi k) ∧ ∃ W' R' : Int → Int, (∀ j, j ≠ 7 → j ≠ 8 → j ≠ 9 → R' j = R0 j) ∧ (∀ j, j < 744 ∨ 992 ≤ j → W' j = W0 j) ∧ PI X' W' 200 ∧ cpW (sr (sr Z 65 W') 64 R') 744 0 248 = M')) := by
  intro kk
  induction kk with
  | zero => intro p X W R k _ _ _ _ _ _ _ _ _ _ hkk; exact absurd hkk (by omega)
  | succ kk ih =>
    intro p X W R k hn h7 h8 hpn hk q hT hrf hwf hout hkk
    have hsk := sk_rng (p := p) hTX hpn.2
    have tx := hTX.1
    have tz : n ≤ sk t p → t (sk t p) = -1 := fun z => hTX.2.1 _ z
    have tr : sk t p < n → 0 ≤ t (sk t p) := fun z => (hTX.2.2 _ (by omega) z).1
    refine Hx.run 6 (pc' := 32) (L' := [some (vr 64), some (vi k), some (vi 1)]) (st' := [vi (R 3), vi (R 8)]) (M' := (sr (sr Z 65 W) 64 R)) rfl ?_
    refine Hx.br (c := (R 8) < (R 3)) (t := 39) (f := 35) rfl (fun h1 => ?_) (fun h1 => ?_)
    · skip
      have hne : ¬ t (sk t p) = -1 := by omega
      refine Hx.run 2 (pc' := 41) (L' := [some (vr 64), some (vi k), some (vi 1)]) (st' := [vi k, vr 64]) (M' := (sr (sr Z 65 W) 64 R)) rfl ?_
      refine Hx.br (c := k = 0) (t := 44) (f := 48) rfl (fun h2 => ?_) (fun h2 => ?_)
      · skip
        exfalso; omega
      · skip
        refine Hx.run 1 (pc' := 49) (L' := [some (vr 64), some (vi k), some (vi 1)]) (st' := [vi 0, vr 64]) (M' := (sr (sr Z 65 W) 64 R)) rfl ?_
        refine Hx.call (t := 168) (as := [vr 64, vi 0]) (pc' := 52) (rest := []) rfl (Ct.imp (r_readsItem0 Z X W R t k (TR_2 hT (by omega)) q (by omega) (by omega)) (fun _ _ h => OutR_or h)) ?_
        rintro _ _ (⟨W2, R2, X2, g0, gw, g7, ho, q2, rfl, rfl⟩ | ⟨W2, R2, g0, gw, ho, rfl, rfl⟩)
        · skip
          have n3 : R2 3 = n := by rw [g0 3 (by decide) (by decide) (by decide)]; exact hn
          refine Hx.run 1 (pc' := 53) (L' := [some (vr 64), some (vi k), some (vi 1)]) (st' := []) (M' := (sr (sr Z 65 W2) 64 R2)) rfl ?_
          refine Hx.inc rfl rfl (by omega) ?_
          refine Hx.run 0 (pc' := 56) (L' := [some (vr 64), some (vi (k + 1)), some (vi 1)]) (st' := []) (M' := (sr (sr Z 65 W2) 64 R2)) rfl ?_
          refine Hx.run 3 (pc' := 61) (L' := [some (vr 64), some (vi (k + 1)), some (vi 1)]) (st' := [vr 64]) (M' := (sr (sr Z 65 W2) 64 R2)) rfl ?_
          refine Hx.call (t := 156) (as := [vr 64]) (pc' := 64) (rest := []) rfl (r_blanks (sr (sr Z 65 W2) 64 R2) t (TR_2 hT (by omega)) (by show 0 ≤ R2 7 ∧ R2 7 ≤ R2 3; omega)) ?_
          rintro _ _ ⟨R3, y0, y7, y8, rfl, rfl⟩
          rw [sr_sr]
          have m0 : ∀ j, j ≠ 7 → j ≠ 8 → j ≠ 9 → R3 j = R2 j := y0
          have m3 : R3 3 = R2 3 := m0 3 (by decide) (by decide) (by decide)
          have m7 : R3 7 = (sk t (R2 7)) := y7
          have m8 : R3 8 = (sk t (R2 7)) := y8
          refine Hx.run 0 (pc' := 64) (L' := [some (vr 64), some (vi (k + 1)), some (vi 1)]) (st' := []) (M' := (sr (sr Z 65 W2) 64 R3)) rfl ?_
          refine Hx.run 1 (pc' := 20) (L' := [some (vr 64), some (vi (k + 1)), some (vi 1)]) (st' := []) (M' := (sr (sr Z 65 W2) 64 R3)) rfl ?_
          rw [h7, sk_idem hTX] at ho
          obtain ⟨hp2, -, -⟩ := itW_inr hTX ⟨(we_rng hTX hsk.2).1, (we_rng hTX hsk.2).2⟩ (by omega) q ho
          rw [prs_go hne ho] at hout
          refine ih (R2 7) X2 W2 R3 (k + 1) (by omega) m7 m8 (by omega) (by omega) q2 (TR_2 hT (by omega)) (fun j h7 h8 h9 => by rw [m0 j h7 h8 h9, g0 j h7 h8 h9]; exact hrf j h7 h8 h9) (fun j hj => by rw [gw j hj]; exact hwf j hj) hout (by omega)
        · skip
          rw [h7, sk_idem hTX] at ho
          have fr := itW_inl hTX ⟨(we_rng hTX hsk.2).1, (we_rng hTX hsk.2).2⟩ ho
          rw [prs_bad hne ho] at hout
          refine Hx.run 1 (pc' := 53) (L' := [some (vr 64), some (vi k), some (vi 0)]) (st' := []) (M' := (sr (sr Z 65 W2) 64 R2)) rfl ?_
          refine Hx.inc rfl rfl (by omega) ?_
          refine Hx.run 0 (pc' := 56) (L' := [some (vr 64), some (vi (k + 1)), some (vi 0)]) (st' := []) (M' := (sr (sr Z 65 W2) 64 R2)) rfl ?_
          refine Hx.run 2 (pc' := 20) (L' := [some (vr 64), some (vi (k + 1)), some (vi 0)]) (st' := []) (M' := (sr (sr Z 65 W2) 64 R2)) rfl ?_
          refine Hx.run 7 (pc' := 77) (L' := [some (vr 64), some (vi (k + 1)), some (vi 0)]) (st' := [vi (R2 8), vi (-10)]) (M' := (sr (sr Z 65 W2) 64 R2)) rfl ?_
          refine Hx.sub rfl (by omega) ?_
          refine Hx.ret rfl ?_
          exact Or.inl ⟨R2 8, hout.symm, rfl, W2, R2, fun j h7 h8 h9 => by rw [g0 j h7 h8 h9]; exact hrf j h7 h8 h9, fun j hj => by rw [gw j hj]; exact hwf j hj, rfl⟩
    · skip
      refine Hx.run 1 (pc' := 36) (L' := [some (vr 64), some (vi k), some (vi 1)]) (st' := [vi k]) (M' := (sr (sr Z 65 W) 64 R)) rfl ?_
      refine Hx.br (c := k = 0) (t := 39) (f := 67) rfl (fun h3 => ?_) (fun h3 => ?_)
      · skip
        exfalso; omega
      · skip
        refine Hx.run 5 (pc' := 84) (L' := [some (vr 64), some (vi k), some (vi 1)]) (st' := [vi 0, vi 744, vr 64]) (M' := (sr (sr Z 65 W) 64 R)) rfl ?_
        refine Hx.call (t := 135) (as := [vr 64, vi 744, vi 0]) (pc' := 87) (rest := []) rfl (r_copy 744 0 (sr (sr Z 65 W) 64 R) (by omega) (by omega) (by omega)) ?_
        rintro _ _ ⟨rfl, rfl⟩
        refine Hx.run 0 (pc' := 87) (L' := [some (vr 64), some (vi k), some (vi 1)]) (st' := []) (M' := (cpW (sr (sr Z 65 W) 64 R) 744 0 248)) rfl ?_
        refine Hx.run 1 (pc' := 88) (L' := [some (vr 64), some (vi k), some (vi 1)]) (st' := [vi k]) (M' := (cpW (sr (sr Z 65 W) 64 R) 744 0 248)) rfl ?_
        refine Hx.ret rfl ?_
        rw [prs_end (by omega)] at hout
        exact Or.inr ⟨k, X, hout.symm, rfl, W, R, hrf, hwf, PI_b (by omega) q, rfl⟩
theorem up_sr64 {X : Mm} {i v : Int} : up X 64 i v = sr X 64 (st1 (X 64) i v) := by
  rw [← sr_up, sr_self]
theorem itO_pos {t : Int → Int} {n p' : Int} {X X' : Mm} (hT : TX t n) (h : itO t X = Sum.inr (p', X')) : 1 ≤ p' ∧ p' ≤ n := by
  unfold itO at h
  split at h
  · have a := sk_rng (p := 0) hT hT.1.1
    have b := we_rng (p := sk t 0) hT a.2
    obtain ⟨e1, e2, e3⟩ := itE_inr hT h
    have c := sk_rng hT b.2
    exact ⟨by omega, e3⟩
  · cases h
set_option maxRecDepth 100000 in
set_option maxHeartbeats 4000000 in
theorem R_read (M X0 : Mm) (t : Int → Int) (hT : TR M t) (hX0 : PI X0 (fun _ => 0) 0) : Ct 169 [vr 64] M (fun q0 M' => (∃ s : Int, prd t X0 = Sum.inl s ∧ q0 = some (vi (-10 - s)) ∧ ∃ W' R' : Int → Int, (∀ j, j ≠ 7 → j ≠ 8 → j ≠ 9 → R' j = M 64 j) ∧ (∀ j, j < 744 ∨ 992 ≤ j → W' j = M 65 j) ∧ sr (sr M 65 W') 64 R' = M') ∨ (∃ (k : Int) (X' : Mm), prd t X0 = Sum.inr (k, X') ∧ q0 = some (vi k) ∧ ∃ W' R' : Int → Int, (∀ j, j ≠ 7 → j ≠ 8 → j ≠ 9 → R' j = M 64 j) ∧ (∀ j, j < 744 ∨ 992 ≤ j → W' j = M 65 j) ∧ PI X' W' 200 ∧ cpW (sr (sr M 65 W') 64 R') 744 0 248 = M')) := by
  refine Hx.run 2 (pc' := 4) (L' := [some (vr 64), none, none]) (st' := [vi 744, vr 64]) (M' := M) rfl ?_
  refine Hx.call (t := 136) (as := [vr 64, vi 744]) (pc' := 7) (rest := []) rfl (r_empties 744 M (by omega)) ?_
  rintro _ _ ⟨rfl, rfl⟩
  refine Hx.run 0 (pc' := 7) (L' := [some (vr 64), none, none]) (st' := []) (M' := (fl M 65 744 (744 + 248) 0)) rfl ?_
  refine Hx.run 3 (pc' := 12) (L' := [some (vr 64), none, none]) (st' := []) (M' := (up (fl M 65 744 (744 + 248) 0) 64 7 0)) rfl ?_
  have hTX : TX t (M 64 3) := hT.1
  have tx := hTX.1
  have hsk := sk_rng (p := 0) hTX tx.1
  obtain ⟨W0, hW0⟩ : ∃ W0 : Int → Int, W0 = (fun x => if 744 ≤ x ∧ x < 744 + 248 then 0 else M 65 x) := ⟨_, rfl⟩
  have q : PI X0 W0 0 := by rw [hW0]; exact ⟨HS_eq (fun _ _ => rfl) (fun j h1 h2 => if_pos ⟨h1, h2⟩) (Int.le_refl 0) hX0.1, hX0.2⟩
  have hw0 : ∀ j, j < 744 ∨ 992 ≤ j → W0 j = M 65 j := fun j hj => by rw [hW0]; exact if_neg (by omega)
  refine Hx.eq (st' := []) rfl (show _ = (sr (sr M 65 W0) 64 (st1 (M 64) 7 0)) from by rw [hW0, ← fl_sr]; exact up_sr64) ?_
  refine Hx.run 3 (pc' := 15) (L' := [some (vr 64), some (vi 0), none]) (st' := [vr 64]) (M' := (sr (sr M 65 W0) 64 (st1 (M 64) 7 0))) rfl ?_
  refine Hx.call (t := 156) (as := [vr 64]) (pc' := 18) (rest := []) rfl (r_blanks (sr (sr M 65 W0) 64 (st1 (M 64) 7 0)) t (TR_2 (Z := M) (W := M 65) (R := M 64) (by rw [show sr (sr M 65 (M 65)) 64 (M 64) = M from by rw [sr_self, sr_self]]; exact hT) (by rw [st1_ne (by decide)])) (by show 0 ≤ st1 (M 64) 7 0 7 ∧ st1 (M 64) 7 0 7 ≤ st1 (M 64) 7 0 3; rw [st1_at, st1_ne (by decide)]; omega)) ?_
  rintro _ _ ⟨R1, y0, y7, y8, rfl, rfl⟩
  rw [sr_sr]
  have p7 : R1 7 = sk t 0 := by have z : R1 7 = sk t (st1 (M 64) 7 0 7) := y7; rw [st1_at] at z; exact z
  have p8 : R1 8 = sk t 0 := by have z : R1 8 = sk t (st1 (M 64) 7 0 7) := y8; rw [st1_at] at z; exact z
  have p0 : ∀ j, j ≠ 7 → j ≠ 8 → j ≠ 9 → R1 j = M 64 j := fun j h7 h8 h9 => by have z : R1 j = st1 (M 64) 7 0 j := y0 j h7 h8 h9; rw [st1_ne h7] at z; exact z
  have p3 : R1 3 = M 64 3 := p0 3 (by decide) (by decide) (by decide)
  have hT1 : TR (sr (sr M 65 W0) 64 R1) t := TR_2 (Z := M) (W := M 65) (R := M 64) (by rw [show sr (sr M 65 (M 65)) 64 (M 64) = M from by rw [sr_self, sr_self]]; exact hT) p3
  refine Hx.run 0 (pc' := 18) (L' := [some (vr 64), some (vi 0), none]) (st' := []) (M' := (sr (sr M 65 W0) 64 R1)) rfl ?_
  refine Hx.run 2 (pc' := 20) (L' := [some (vr 64), some (vi 0), some (vi 1)]) (st' := []) (M' := (sr (sr M 65 W0) 64 R1)) rfl ?_
  refine Hx.run 6 (pc' := 32) (L' := [some (vr 64), some (vi 0), some (vi 1)]) (st' := [vi (R1 3), vi (R1 8)]) (M' := (sr (sr M 65 W0) 64 R1)) rfl ?_
  refine Hx.br (c := (R1 8) < (R1 3)) (t := 39) (f := 35) rfl (fun h1 => ?_) (fun h1 => ?_)
  · skip
    refine Hx.run 5 (pc' := 49) (L' := [some (vr 64), some (vi 0), some (vi 1)]) (st' := [vi 1, vr 64]) (M' := (sr (sr M 65 W0) 64 R1)) rfl ?_
    refine Hx.call (t := 168) (as := [vr 64, vi 1]) (pc' := 52) (rest := []) rfl (Ct.imp (r_readsItem1 M X0 W0 R1 t 0 hT1 q (by omega) (by omega)) (fun _ _ h => OutR_or h)) ?_
    rintro _ _ (⟨W2, R2, X2, g0, gw, g7, ho, q2, rfl, rfl⟩ | ⟨W2, R2, g0, gw, ho, rfl, rfl⟩)
    · skip
      have ho1 : itO t X0 = _ := (show itO t X0 = itP t (sk t (R1 7)) X0 from by rw [p7, sk_idem hTX]; rfl).trans ho
      have n3 : R2 3 = M 64 3 := by rw [g0 3 (by decide) (by decide) (by decide)]; exact p3
      refine Hx.run 1 (pc' := 53) (L' := [some (vr 64), some (vi 0), some (vi 1)]) (st' := []) (M' := (sr (sr M 65 W2) 64 R2)) rfl ?_
      refine Hx.inc rfl rfl (by omega) ?_
      refine Hx.run 0 (pc' := 56) (L' := [some (vr 64), some (vi 1), some (vi 1)]) (st' := []) (M' := (sr (sr M 65 W2) 64 R2)) rfl ?_
      refine Hx.run 3 (pc' := 61) (L' := [some (vr 64), some (vi 1), some (vi 1)]) (st' := [vr 64]) (M' := (sr (sr M 65 W2) 64 R2)) rfl ?_
      refine Hx.call (t := 156) (as := [vr 64]) (pc' := 64) (rest := []) rfl (r_blanks (sr (sr M 65 W2) 64 R2) t (TR_2 hT1 (by omega)) (by show 0 ≤ R2 7 ∧ R2 7 ≤ R2 3; omega)) ?_
      rintro _ _ ⟨R3, y0, y7, y8, rfl, rfl⟩
      rw [sr_sr]
      have m0 : ∀ j, j ≠ 7 → j ≠ 8 → j ≠ 9 → R3 j = R2 j := y0
      have m3 : R3 3 = R2 3 := m0 3 (by decide) (by decide) (by decide)
      have m7 : R3 7 = (sk t (R2 7)) := y7
      have m8 : R3 8 = (sk t (R2 7)) := y8
      refine Hx.run 0 (pc' := 64) (L' := [some (vr 64), some (vi 1), some (vi 1)]) (st' := []) (M' := (sr (sr M 65 W2) 64 R3)) rfl ?_
      refine Hx.run 1 (pc' := 20) (L' := [some (vr 64), some (vi 1), some (vi 1)]) (st' := []) (M' := (sr (sr M 65 W2) 64 R3)) rfl ?_
      have hp2 := itO_pos hTX ho1
      have h0 := rl_read M t (M 64 3) (M 65) (M 64) (prd t X0) hTX 200 (R2 7) X2 W2 R3 1 (by omega) m7 m8 (by omega) (by omega) (PI_b (by omega) q2) (TR_2 hT1 (by omega)) (fun j h7 h8 h9 => by rw [m0 j h7 h8 h9, g0 j h7 h8 h9]; exact p0 j h7 h8 h9) (fun j hj => by rw [gw j hj]; exact hw0 j hj) (by unfold prd; rw [ho1]) (by omega)
      exact h0
    · skip
      have ho1 : itO t X0 = _ := (show itO t X0 = itP t (sk t (R1 7)) X0 from by rw [p7, sk_idem hTX]; rfl).trans ho
      have n3 : R2 3 = M 64 3 := by rw [g0 3 (by decide) (by decide) (by decide)]; exact p3
      have fr := itO_inl hTX ho1
      refine Hx.run 1 (pc' := 53) (L' := [some (vr 64), some (vi 0), some (vi 0)]) (st' := []) (M' := (sr (sr M 65 W2) 64 R2)) rfl ?_
      refine Hx.inc rfl rfl (by omega) ?_
      refine Hx.run 0 (pc' := 56) (L' := [some (vr 64), some (vi 1), some (vi 0)]) (st' := []) (M' := (sr (sr M 65 W2) 64 R2)) rfl ?_
      refine Hx.run 2 (pc' := 20) (L' := [some (vr 64), some (vi 1), some (vi 0)]) (st' := []) (M' := (sr (sr M 65 W2) 64 R2)) rfl ?_
      refine Hx.run 7 (pc' := 77) (L' := [some (vr 64), some (vi 1), some (vi 0)]) (st' := [vi (R2 8), vi (-10)]) (M' := (sr (sr M 65 W2) 64 R2)) rfl ?_
      refine Hx.sub rfl (by omega) ?_
      refine Hx.ret rfl ?_
      exact Or.inl ⟨R2 8, by unfold prd; rw [ho1], rfl, W2, R2, fun j h7 h8 h9 => by rw [g0 j h7 h8 h9]; exact p0 j h7 h8 h9, fun j hj => by rw [gw j hj]; exact hw0 j hj, rfl⟩
  · skip
    refine Hx.run 7 (pc' := 49) (L' := [some (vr 64), some (vi 0), some (vi 1)]) (st' := [vi 1, vr 64]) (M' := (sr (sr M 65 W0) 64 R1)) rfl ?_
    refine Hx.call (t := 168) (as := [vr 64, vi 1]) (pc' := 52) (rest := []) rfl (Ct.imp (r_readsItem1 M X0 W0 R1 t 0 hT1 q (by omega) (by omega)) (fun _ _ h => OutR_or h)) ?_
    rintro _ _ (⟨W2, R2, X2, g0, gw, g7, ho, q2, rfl, rfl⟩ | ⟨W2, R2, g0, gw, ho, rfl, rfl⟩)
    · skip
      have ho1 : itO t X0 = _ := (show itO t X0 = itP t (sk t (R1 7)) X0 from by rw [p7, sk_idem hTX]; rfl).trans ho
      have n3 : R2 3 = M 64 3 := by rw [g0 3 (by decide) (by decide) (by decide)]; exact p3
      refine Hx.run 1 (pc' := 53) (L' := [some (vr 64), some (vi 0), some (vi 1)]) (st' := []) (M' := (sr (sr M 65 W2) 64 R2)) rfl ?_
      refine Hx.inc rfl rfl (by omega) ?_
      refine Hx.run 0 (pc' := 56) (L' := [some (vr 64), some (vi 1), some (vi 1)]) (st' := []) (M' := (sr (sr M 65 W2) 64 R2)) rfl ?_
      refine Hx.run 3 (pc' := 61) (L' := [some (vr 64), some (vi 1), some (vi 1)]) (st' := [vr 64]) (M' := (sr (sr M 65 W2) 64 R2)) rfl ?_
      refine Hx.call (t := 156) (as := [vr 64]) (pc' := 64) (rest := []) rfl (r_blanks (sr (sr M 65 W2) 64 R2) t (TR_2 hT1 (by omega)) (by show 0 ≤ R2 7 ∧ R2 7 ≤ R2 3; omega)) ?_
      rintro _ _ ⟨R3, y0, y7, y8, rfl, rfl⟩
      rw [sr_sr]
      have m0 : ∀ j, j ≠ 7 → j ≠ 8 → j ≠ 9 → R3 j = R2 j := y0
      have m3 : R3 3 = R2 3 := m0 3 (by decide) (by decide) (by decide)
      have m7 : R3 7 = (sk t (R2 7)) := y7
      have m8 : R3 8 = (sk t (R2 7)) := y8
      refine Hx.run 0 (pc' := 64) (L' := [some (vr 64), some (vi 1), some (vi 1)]) (st' := []) (M' := (sr (sr M 65 W2) 64 R3)) rfl ?_
      refine Hx.run 1 (pc' := 20) (L' := [some (vr 64), some (vi 1), some (vi 1)]) (st' := []) (M' := (sr (sr M 65 W2) 64 R3)) rfl ?_
      have hp2 := itO_pos hTX ho1
      have h0 := rl_read M t (M 64 3) (M 65) (M 64) (prd t X0) hTX 200 (R2 7) X2 W2 R3 1 (by omega) m7 m8 (by omega) (by omega) (PI_b (by omega) q2) (TR_2 hT1 (by omega)) (fun j h7 h8 h9 => by rw [m0 j h7 h8 h9, g0 j h7 h8 h9]; exact p0 j h7 h8 h9) (fun j hj => by rw [gw j hj]; exact hw0 j hj) (by unfold prd; rw [ho1]) (by omega)
      exact h0
    · skip
      have ho1 : itO t X0 = _ := (show itO t X0 = itP t (sk t (R1 7)) X0 from by rw [p7, sk_idem hTX]; rfl).trans ho
      have n3 : R2 3 = M 64 3 := by rw [g0 3 (by decide) (by decide) (by decide)]; exact p3
      have fr := itO_inl hTX ho1
      refine Hx.run 1 (pc' := 53) (L' := [some (vr 64), some (vi 0), some (vi 0)]) (st' := []) (M' := (sr (sr M 65 W2) 64 R2)) rfl ?_
      refine Hx.inc rfl rfl (by omega) ?_
      refine Hx.run 0 (pc' := 56) (L' := [some (vr 64), some (vi 1), some (vi 0)]) (st' := []) (M' := (sr (sr M 65 W2) 64 R2)) rfl ?_
      refine Hx.run 2 (pc' := 20) (L' := [some (vr 64), some (vi 1), some (vi 0)]) (st' := []) (M' := (sr (sr M 65 W2) 64 R2)) rfl ?_
      refine Hx.run 7 (pc' := 77) (L' := [some (vr 64), some (vi 1), some (vi 0)]) (st' := [vi (R2 8), vi (-10)]) (M' := (sr (sr M 65 W2) 64 R2)) rfl ?_
      refine Hx.sub rfl (by omega) ?_
      refine Hx.ret rfl ?_
      exact Or.inl ⟨R2 8, by unfold prd; rw [ho1], rfl, W2, R2, fun j h7 h8 h9 => by rw [g0 j h7 h8 h9]; exact p0 j h7 h8 h9, fun j hj => by rw [gw j hj]; exact hw0 j hj, rfl⟩
