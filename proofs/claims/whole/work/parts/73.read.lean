/-! read of the class (written by wip/whole/gen73.py) -/
def itO (t : Int → Int) (X : Mm) : Int ⊕ (Int × Mm) := if w1B t (sk t 0) (we t (sk t 0)) = true then itE t (we t (sk t 0)) X else Sum.inl (sk t 0)
def prs (t : Int → Int) : Nat → Int → Mm → Int → Int ⊕ (Int × Mm)
  | 0, _, _, _ => Sum.inl 0
  | f + 1, p, X, k => if t (sk t p) = -1 then Sum.inr (k, X) else match itW t (sk t p) (we t (sk t p)) X with
    | Sum.inl s => Sum.inl s
    | Sum.inr z => prs t f z.1 z.2 (k + 1)
theorem prs_end {t : Int → Int} {f : Nat} {p k : Int} {X : Mm} (h : t (sk t p) = -1) : prs t (f + 1) p X k = Sum.inr (k, X) := by
  show (if t (sk t p) = -1 then _ else _) = _
  rw [if_pos h]
theorem prs_bad {t : Int → Int} {f : Nat} {p k s : Int} {X : Mm} (h : ¬ t (sk t p) = -1) (h2 : itW t (sk t p) (we t (sk t p)) X = Sum.inl s) : prs t (f + 1) p X k = Sum.inl s := by
  show (if t (sk t p) = -1 then _ else _) = _
  rw [if_neg h, h2]
theorem prs_go {t : Int → Int} {f : Nat} {p k p' : Int} {X X' : Mm} (h : ¬ t (sk t p) = -1) (h2 : itW t (sk t p) (we t (sk t p)) X = Sum.inr (p', X')) : prs t (f + 1) p X k = prs t f p' X' (k + 1) := by
  show (if t (sk t p) = -1 then _ else _) = _
  rw [if_neg h, h2]
def prd (t : Int → Int) (X : Mm) : Int ⊕ (Int × Mm) := match itO t X with
  | Sum.inl s => Sum.inl s
  | Sum.inr z => prs t 200 z.1 z.2 1
theorem OutC_or {X : Mm} {n : Int} {out : Int ⊕ (Int × Mm)} {q0 : Option PV} {M' : Mm} (h : OutC X n out q0 M') : (∃ (R' : Int → Int) (X' : Mm), R' 1 = n ∧ (∀ r, r < 40 ∨ 45 < r → X' r = X r) ∧ out = Sum.inr (R' 3, X') ∧ q0 = some (vi 1) ∧ sr X' 59 R' = M') ∨ (∃ (R' : Int → Int) (X' : Mm), R' 1 = n ∧ (∀ r, r < 40 ∨ 45 < r → X' r = X r) ∧ out = Sum.inl (R' 2) ∧ q0 = some (vi 0) ∧ sr X' 59 R' = M') := by
  obtain ⟨R', X', h1, h2, ⟨h3, h4⟩ | ⟨h3, h4⟩, h5⟩ := h
  · exact Or.inr ⟨R', X', h1, h2, h4, h3, h5⟩
  · exact Or.inl ⟨R', X', h1, h2, h4, h3, h5⟩
theorem c_movesOn2 (M : Mm) (t : Int → Int) (hT : TC M t) (hb : 0 ≤ M 59 3 ∧ M 59 3 ≤ M 59 1) : Ct 43 [vr 59] M (fun q0 M' => (∃ R : Int → Int, R 1 = M 59 1 ∧ NX t (sk t (M 59 3)) R ∧ ¬ t (sk t (M 59 3)) = -1 ∧ q0 = some (vi 1) ∧ sr M 59 R = M') ∨ (∃ R : Int → Int, R 1 = M 59 1 ∧ NX t (sk t (M 59 3)) R ∧ t (sk t (M 59 3)) = -1 ∧ q0 = some (vi 0) ∧ sr M 59 R = M')) := by
  refine Ct.imp (c_movesOn M t hT hb) ?_
  rintro q0 M' ⟨R, h1, h2, ⟨h3, h4⟩ | ⟨h3, h4⟩, h5⟩
  · exact Or.inl ⟨R, h1, h2, h3, h4, h5⟩
  · exact Or.inr ⟨R, h1, h2, h3, h4, h5⟩
theorem itE_inl {t : Int → Int} {p f : Int} {X : Mm} (h : itE t p X = Sum.inl f) : f = sk t p := by
  unfold itE at h
  split at h
  · cases h
  · injection h with h; exact h.symm
theorem itN_inl {t : Int → Int} {p lo hi f : Int} {k : Int → Int → Int ⊕ (Int × Mm)} (h : itN t p lo hi k = Sum.inl f) : f = sk t p ∨ k (fe t (sk t p)) (nv t (sk t p) (fe t (sk t p))) = Sum.inl f := by
  unfold itN at h
  split at h
  · exact Or.inr h
  · injection h with h; exact Or.inl h.symm
theorem itW_inl {t : Int → Int} {n s e f : Int} {X : Mm} (hT : TX t n) (hse : s ≤ e ∧ e ≤ n) (h : itW t s e X = Sum.inl f) : s ≤ f ∧ f ≤ n := by
  have g : ∀ p, p ≤ n → p ≤ sk t p ∧ sk t p ≤ n ∧ sk t p ≤ fe t (sk t p) ∧ fe t (sk t p) ≤ n := fun p hp => by
    have a := sk_rng hT hp
    have d := fe_rng hT a.2
    exact ⟨a.1, a.2, d.1, d.2⟩
  have g1 := g e hse.2
  have g2 := g _ g1.2.2.2
  have g3 := g _ g2.2.2.2
  have g4 := g _ g3.2.2.2
  unfold itW at h
  split at h
  · unfold itF at h
    split at h
    · injection h with h; omega
    · rcases itN_inl h with h | h
      · omega
      · rcases itN_inl h with h | h
        · omega
        · have := itE_inl h; omega
  · split at h
    · unfold itG at h
      split at h
      · injection h with h; omega
      · rcases itN_inl h with h | h
        · omega
        · rcases itN_inl h with h | h
          · omega
          · rcases itN_inl h with h | h
            · omega
            · have := itE_inl h; omega
    · split at h
      · unfold itL at h
        rcases itN_inl h with h | h
        · omega
        · rcases itN_inl h with h | h
          · omega
          · have := itE_inl h; omega
      · split at h
        · unfold itS at h
          rcases itN_inl h with h | h
          · omega
          · split at h
            · injection h with h; omega
            · rcases itN_inl h with h | h
              · omega
              · have := itE_inl h; omega
        · split at h
          · unfold itH at h
            rcases itN_inl h with h | h
            · omega
            · have := itE_inl h; omega
          · injection h with h; omega
theorem itO_inl {t : Int → Int} {n f : Int} {X : Mm} (hT : TX t n) (h : itO t X = Sum.inl f) : 0 ≤ f ∧ f ≤ n := by
  have a := sk_rng (p := 0) hT hT.1.1
  have b := we_rng (p := sk t 0) hT a.2
  have c := sk_rng hT b.2
  unfold itO at h
  split at h
  · have := itE_inl h; omega
  · injection h with h; omega
theorem NX_3 {t : Int → Int} {n s : Int} {R : Int → Int} (hT : TX t n) (hs : 0 ≤ s ∧ s ≤ n) (h : NX t s R) : s ≤ R 3 ∧ R 3 ≤ n := by
  have a := we_rng hT hs.2
  have b := fe_rng hT hs.2
  have c : n ≤ s → t s = -1 := fun z => hT.2.1 s z
  obtain ⟨-, hC⟩ := h
  rcases hC with c1 | c1 | c1 | c1 | c1 <;> omega
theorem NX_w {t : Int → Int} {s : Int} {R : Int → Int} (h : NX t s R) (h4 : R 4 = 1) : R 3 = we t s := by
  obtain ⟨-, hC⟩ := h
  rcases hC with c1 | c1 | c1 | c1 | c1 <;> omega
set_option maxRecDepth 100000 in
set_option maxHeartbeats 2000000 in
theorem c_readItem (X : Mm) (R : Int → Int) (t : Int → Int) (n s : Int) (hT : TC (sr X 59 R) t) (hn : R 1 = n) (hI : HI X 40) (hs : 0 ≤ s ∧ s ≤ n) (hX : NX t s R) : Ct 44 [vr 59, vr 40] (sr X 59 R) (fun q0 M' => OutC X n (itW t s (we t s) X) q0 M') := by
  have hTX : TX t n := by rw [← hn]; exact hT.1
  have h23 := NX_3 hTX hs hX
  have h2 := hX.1
  refine Hx.run 2 (pc' := 3) (L' := [some (vr 59), some (vr 40)]) (st' := [vr 501, vr 59]) (M' := (sr X 59 R)) rfl ?_
  refine Hx.call (t := 52) (as := [vr 59, vr 501]) (pc' := 6) (rest := []) rfl (c_isWord_2 (sr X 59 R) t (TC_R hT (by omega)) (by show 0 ≤ R 2; omega) (by show R 2 ≤ R 3 ∧ R 3 ≤ R 1; omega)) ?_
  rintro _ _ (⟨z, rfl, rfl⟩ | ⟨z, rfl, rfl⟩)
  · skip
    have z4 : R 4 = 1 := z.1
    have k2 : w2 t s (we t s) := (NXw_2 hX).mp z
    refine Hx.run 3 (pc' := 11) (L' := [some (vr 59), some (vr 40)]) (st' := [vr 40, vr 59]) (M' := (sr X 59 R)) rfl ?_
    refine Hx.call (t := 45) (as := [vr 59, vr 40]) (pc' := 14) (rest := []) rfl (Ct.imp (c_readFlight X R t n (TC_R hT (by omega)) (by omega) hI (by omega) s (by omega)) (fun _ _ h => OutC_or h)) ?_
    rintro _ _ (⟨R2, X2, g1, gf, ho, rfl, rfl⟩ | ⟨R2, X2, g1, gf, ho, rfl, rfl⟩)
    · skip
      refine Hx.ret rfl ?_
      exact ⟨R2, X2, g1, gf, Or.inr ⟨rfl, by unfold itW; rw [if_pos (w2B_1 k2), ← NX_w hX z4]; exact ho⟩, rfl⟩
    · skip
      refine Hx.ret rfl ?_
      exact ⟨R2, X2, g1, gf, Or.inl ⟨rfl, by unfold itW; rw [if_pos (w2B_1 k2), ← NX_w hX z4]; exact ho⟩, rfl⟩
  · skip
    have k2 : ¬ w2 t s (we t s) := fun y => z ((NXw_2 hX).mpr y)
    refine Hx.run 3 (pc' := 18) (L' := [some (vr 59), some (vr 40)]) (st' := [vr 502, vr 59]) (M' := (sr X 59 R)) rfl ?_
    refine Hx.call (t := 52) (as := [vr 59, vr 502]) (pc' := 21) (rest := []) rfl (c_isWord_3 (sr X 59 R) t (TC_R hT (by omega)) (by show 0 ≤ R 2; omega) (by show R 2 ≤ R 3 ∧ R 3 ≤ R 1; omega)) ?_
    rintro _ _ (⟨z, rfl, rfl⟩ | ⟨z, rfl, rfl⟩)
    · skip
      have z4 : R 4 = 1 := z.1
      have k3 : w3 t s (we t s) := (NXw_3 hX).mp z
      refine Hx.run 3 (pc' := 26) (L' := [some (vr 59), some (vr 40)]) (st' := [vr 40, vr 59]) (M' := (sr X 59 R)) rfl ?_
      refine Hx.call (t := 46) (as := [vr 59, vr 40]) (pc' := 29) (rest := []) rfl (Ct.imp (c_readGoer X R t n (TC_R hT (by omega)) (by omega) hI (by omega) s (by omega)) (fun _ _ h => OutC_or h)) ?_
      rintro _ _ (⟨R2, X2, g1, gf, ho, rfl, rfl⟩ | ⟨R2, X2, g1, gf, ho, rfl, rfl⟩)
      · skip
        refine Hx.ret rfl ?_
        exact ⟨R2, X2, g1, gf, Or.inr ⟨rfl, by unfold itW; rw [if_neg (w2B_0 k2), if_pos (w3B_1 k3), ← NX_w hX z4]; exact ho⟩, rfl⟩
      · skip
        refine Hx.ret rfl ?_
        exact ⟨R2, X2, g1, gf, Or.inl ⟨rfl, by unfold itW; rw [if_neg (w2B_0 k2), if_pos (w3B_1 k3), ← NX_w hX z4]; exact ho⟩, rfl⟩
    · skip
      have k3 : ¬ w3 t s (we t s) := fun y => z ((NXw_3 hX).mpr y)
      refine Hx.run 3 (pc' := 33) (L' := [some (vr 59), some (vr 40)]) (st' := [vr 503, vr 59]) (M' := (sr X 59 R)) rfl ?_
      refine Hx.call (t := 52) (as := [vr 59, vr 503]) (pc' := 36) (rest := []) rfl (c_isWord_4 (sr X 59 R) t (TC_R hT (by omega)) (by show 0 ≤ R 2; omega) (by show R 2 ≤ R 3 ∧ R 3 ≤ R 1; omega)) ?_
      rintro _ _ (⟨z, rfl, rfl⟩ | ⟨z, rfl, rfl⟩)
      · skip
        have z4 : R 4 = 1 := z.1
        have k4 : w4 t s (we t s) := (NXw_4 hX).mp z
        refine Hx.run 3 (pc' := 41) (L' := [some (vr 59), some (vr 40)]) (st' := [vr 40, vr 59]) (M' := (sr X 59 R)) rfl ?_
        refine Hx.call (t := 47) (as := [vr 59, vr 40]) (pc' := 44) (rest := []) rfl (Ct.imp (c_readLoad X R t n (TC_R hT (by omega)) (by omega) hI (by omega)) (fun _ _ h => OutC_or h)) ?_
        rintro _ _ (⟨R2, X2, g1, gf, ho, rfl, rfl⟩ | ⟨R2, X2, g1, gf, ho, rfl, rfl⟩)
        · skip
          refine Hx.ret rfl ?_
          exact ⟨R2, X2, g1, gf, Or.inr ⟨rfl, by unfold itW; rw [if_neg (w2B_0 k2), if_neg (w3B_0 k3), if_pos (w4B_1 k4), ← NX_w hX z4]; exact ho⟩, rfl⟩
        · skip
          refine Hx.ret rfl ?_
          exact ⟨R2, X2, g1, gf, Or.inl ⟨rfl, by unfold itW; rw [if_neg (w2B_0 k2), if_neg (w3B_0 k3), if_pos (w4B_1 k4), ← NX_w hX z4]; exact ho⟩, rfl⟩
      · skip
        have k4 : ¬ w4 t s (we t s) := fun y => z ((NXw_4 hX).mpr y)
        refine Hx.run 3 (pc' := 48) (L' := [some (vr 59), some (vr 40)]) (st' := [vr 504, vr 59]) (M' := (sr X 59 R)) rfl ?_
        refine Hx.call (t := 52) (as := [vr 59, vr 504]) (pc' := 51) (rest := []) rfl (c_isWord_5 (sr X 59 R) t (TC_R hT (by omega)) (by show 0 ≤ R 2; omega) (by show R 2 ≤ R 3 ∧ R 3 ≤ R 1; omega)) ?_
        rintro _ _ (⟨z, rfl, rfl⟩ | ⟨z, rfl, rfl⟩)
        · skip
          have z4 : R 4 = 1 := z.1
          have k5 : w5 t s (we t s) := (NXw_5 hX).mp z
          refine Hx.run 3 (pc' := 56) (L' := [some (vr 59), some (vr 40)]) (st' := [vr 40, vr 59]) (M' := (sr X 59 R)) rfl ?_
          refine Hx.call (t := 48) (as := [vr 59, vr 40]) (pc' := 59) (rest := []) rfl (Ct.imp (c_readStride X R t n (TC_R hT (by omega)) (by omega) hI (by omega)) (fun _ _ h => OutC_or h)) ?_
          rintro _ _ (⟨R2, X2, g1, gf, ho, rfl, rfl⟩ | ⟨R2, X2, g1, gf, ho, rfl, rfl⟩)
          · skip
            refine Hx.ret rfl ?_
            exact ⟨R2, X2, g1, gf, Or.inr ⟨rfl, by unfold itW; rw [if_neg (w2B_0 k2), if_neg (w3B_0 k3), if_neg (w4B_0 k4), if_pos (w5B_1 k5), ← NX_w hX z4]; exact ho⟩, rfl⟩
          · skip
            refine Hx.ret rfl ?_
            exact ⟨R2, X2, g1, gf, Or.inl ⟨rfl, by unfold itW; rw [if_neg (w2B_0 k2), if_neg (w3B_0 k3), if_neg (w4B_0 k4), if_pos (w5B_1 k5), ← NX_w hX z4]; exact ho⟩, rfl⟩
        · skip
          have k5 : ¬ w5 t s (we t s) := fun y => z ((NXw_5 hX).mpr y)
          refine Hx.run 3 (pc' := 63) (L' := [some (vr 59), some (vr 40)]) (st' := [vr 505, vr 59]) (M' := (sr X 59 R)) rfl ?_
          refine Hx.call (t := 52) (as := [vr 59, vr 505]) (pc' := 66) (rest := []) rfl (c_isWord_6 (sr X 59 R) t (TC_R hT (by omega)) (by show 0 ≤ R 2; omega) (by show R 2 ≤ R 3 ∧ R 3 ≤ R 1; omega)) ?_
          rintro _ _ (⟨z, rfl, rfl⟩ | ⟨z, rfl, rfl⟩)
          · skip
            have z4 : R 4 = 1 := z.1
            have k6 : w6 t s (we t s) := (NXw_6 hX).mp z
            refine Hx.run 3 (pc' := 71) (L' := [some (vr 59), some (vr 40)]) (st' := [vr 40, vr 59]) (M' := (sr X 59 R)) rfl ?_
            refine Hx.call (t := 49) (as := [vr 59, vr 40]) (pc' := 74) (rest := []) rfl (Ct.imp (c_readHours X R t n (TC_R hT (by omega)) (by omega) hI (by omega)) (fun _ _ h => OutC_or h)) ?_
            rintro _ _ (⟨R2, X2, g1, gf, ho, rfl, rfl⟩ | ⟨R2, X2, g1, gf, ho, rfl, rfl⟩)
            · skip
              refine Hx.run 3 (pc' := 82) (L' := [some (vr 59), some (vr 40)]) (st' := [vi 1]) (M' := (sr X2 59 R2)) rfl ?_
              refine Hx.ret rfl ?_
              exact ⟨R2, X2, g1, gf, Or.inr ⟨rfl, by unfold itW; rw [if_neg (w2B_0 k2), if_neg (w3B_0 k3), if_neg (w4B_0 k4), if_neg (w5B_0 k5), if_pos (w6B_1 k6), ← NX_w hX z4]; exact ho⟩, rfl⟩
            · skip
              refine Hx.run 2 (pc' := 82) (L' := [some (vr 59), some (vr 40)]) (st' := [vi 0]) (M' := (sr X2 59 R2)) rfl ?_
              refine Hx.ret rfl ?_
              exact ⟨R2, X2, g1, gf, Or.inl ⟨rfl, by unfold itW; rw [if_neg (w2B_0 k2), if_neg (w3B_0 k3), if_neg (w4B_0 k4), if_neg (w5B_0 k5), if_pos (w6B_1 k6), ← NX_w hX z4]; exact ho⟩, rfl⟩
          · skip
            have k6 : ¬ w6 t s (we t s) := fun y => z ((NXw_6 hX).mpr y)
            refine Hx.run 2 (pc' := 82) (L' := [some (vr 59), some (vr 40)]) (st' := [vi 0]) (M' := (sr X 59 R)) rfl ?_
            refine Hx.ret rfl ?_
            exact ⟨R, X, hn, fun _ _ => rfl, Or.inl ⟨rfl, by unfold itW; rw [if_neg (w2B_0 k2), if_neg (w3B_0 k3), if_neg (w4B_0 k4), if_neg (w5B_0 k5), if_neg (w6B_0 k6), hX.1]⟩, rfl⟩
set_option maxRecDepth 100000 in
theorem c_readOpening (X : Mm) (R : Int → Int) (t : Int → Int) (n s : Int) (hT : TC (sr X 59 R) t) (hn : R 1 = n) (hs0 : sk t 0 = s) : Ct 42 [vr 59] (sr X 59 R) (fun q0 M' => OutC X n (itO t X) q0 M') := by
  have hTX : TX t n := by rw [← hn]; exact hT.1
  have tx := hTX.1
  have hsk := sk_rng (p := 0) hTX tx.1
  refine Hx.run 3 (pc' := 5) (L' := [some (vr 59)]) (st' := []) (M' := (up (sr X 59 R) 59 3 0)) rfl ?_
  rw [sr_up]
  refine Hx.run 1 (pc' := 6) (L' := [some (vr 59)]) (st' := [vr 59]) (M' := (sr X 59 (st1 R 3 0))) rfl ?_
  refine Hx.call (t := 53) (as := [vr 59]) (pc' := 9) (rest := []) rfl (c_next (sr X 59 (st1 R 3 0)) t (TC_R hT (by rw [st1_ne (by decide)])) (by show 0 ≤ (st1 R 3 0) 3 ∧ (st1 R 3 0) 3 ≤ (st1 R 3 0) 1; rw [st1_at, st1_ne (by decide)]; omega)) ?_
  rintro _ _ ⟨rfl, R1, hN, hL, rfl⟩
  rw [sr_sr]
  have hX1 : NX t (sk t (st1 R 3 0 3)) R1 := hN
  rw [st1_at] at hX1
  have a1 : R1 1 = st1 R 3 0 1 := hL
  rw [st1_ne (by decide), hn] at a1
  have h23 := NX_3 hTX hsk hX1
  have h2 := hX1.1
  refine Hx.run 0 (pc' := 9) (L' := [some (vr 59)]) (st' := []) (M' := (sr X 59 R1)) rfl ?_
  refine Hx.run 2 (pc' := 12) (L' := [some (vr 59)]) (st' := [vr 500, vr 59]) (M' := (sr X 59 R1)) rfl ?_
  refine Hx.call (t := 52) (as := [vr 59, vr 500]) (pc' := 15) (rest := []) rfl (c_isWord_1 (sr X 59 R1) t (TC_R hT (by omega)) (by show 0 ≤ R1 2; omega) (by show R1 2 ≤ R1 3 ∧ R1 3 ≤ R1 1; omega)) ?_
  rintro _ _ (⟨z, rfl, rfl⟩ | ⟨z, rfl, rfl⟩)
  · skip
    have z4 : R1 4 = 1 := z.1
    have k1 : w1 t (sk t 0) (we t (sk t 0)) := (NXw_1 hX1).mp z
    refine Hx.run 2 (pc' := 19) (L' := [some (vr 59)]) (st' := [vr 59]) (M' := (sr X 59 R1)) rfl ?_
    refine Hx.call (t := 50) (as := [vr 59]) (pc' := 22) (rest := []) rfl (c_stops (sr X 59 R1) t (TC_R hT (by omega)) (by show 0 ≤ R1 3 ∧ R1 3 ≤ R1 1; omega)) ?_
    rintro _ _ (⟨R3, z1, z2, z3, zk, rfl, rfl⟩ | ⟨R3, z1, z2, zk, rfl, rfl⟩)
    · skip
      rw [sr_sr]
      have b1 : R3 1 = n := by have z : R3 1 = R1 1 := z1; omega
      have b2 : R3 2 = (sk t (R1 3)) := z2
      have b3 : R3 3 = (sk t (R1 3)) + 1 := z3
      have ok : t (sk t (R1 3)) = 59 := zk
      refine Hx.run 3 (pc' := 30) (L' := [some (vr 59)]) (st' := [vi 1]) (M' := (sr X 59 R3)) rfl ?_
      refine Hx.ret rfl ?_
      exact ⟨R3, X, b1, fun _ _ => rfl, Or.inr ⟨rfl, by unfold itO; rw [if_pos (w1B_1 k1), ← NX_w hX1 z4, itE_yes ok b3]⟩, rfl⟩
    · skip
      rw [sr_sr]
      have b1 : R3 1 = n := by have z : R3 1 = R1 1 := z1; omega
      have b2 : R3 2 = (sk t (R1 3)) := z2
      have ok : ¬ t (sk t (R1 3)) = 59 := zk
      refine Hx.run 2 (pc' := 30) (L' := [some (vr 59)]) (st' := [vi 0]) (M' := (sr X 59 R3)) rfl ?_
      refine Hx.ret rfl ?_
      exact ⟨R3, X, b1, fun _ _ => rfl, Or.inl ⟨rfl, by unfold itO; rw [if_pos (w1B_1 k1), ← NX_w hX1 z4, itE_no ok b2]⟩, rfl⟩
  · skip
    have k1 : ¬ w1 t (sk t 0) (we t (sk t 0)) := fun y => z ((NXw_1 hX1).mpr y)
    refine Hx.run 2 (pc' := 30) (L' := [some (vr 59)]) (st' := [vi 0]) (M' := (sr X 59 R1)) rfl ?_
    refine Hx.ret rfl ?_
    exact ⟨R1, X, a1, fun _ _ => rfl, Or.inl ⟨rfl, by unfold itO; rw [if_neg (w1B_0 k1), hX1.1]⟩, rfl⟩
set_option maxRecDepth 100000 in
set_option maxHeartbeats 2000000 in
theorem cl_read (t : Int → Int) (n : Int) (X0 : Mm) (out : Int ⊕ (Int × Mm)) (hTX : TX t n) : ∀ (kk : Nat) (p : Int) (X : Mm) (R : Int → Int) (W : Int → Int) (k : Int), R 1 = n → R 3 = p → 0 ≤ p ∧ p ≤ n → 1 ≤ k ∧ k ≤ p → PI X W k → TC (sr X 59 R) t → (∀ r, r < 40 ∨ 45 < r → X r = X0 r) → prs t kk p X k = out → n - p < (kk : Int) → Hx 63 17 [some (vr 0), some (vi 1), some (vi k)] [] (sr X 59 R) (fun q0 M' => (∃ s : Int, out = Sum.inl s ∧ q0 = some (vi (-10 - s)) ∧ ∃ (X' : Mm) (R' : Int → Int), R' 1 = n ∧ (∀ r, r < 40 ∨ 45 < r → X' r = X0 r) ∧ sr X' 59 R' = M') ∨ (∃ (k : Int) (X' : Mm), out = Sum.inr (k, X') ∧ q0 = some (vi k) ∧ ∃ R' : Int → Int, R' 1 = n ∧ (∀ r, r < 40 ∨ 45 < r → X' r = X0 r) ∧ tkM (sr X' 59 R') 1 40 = M')) := by
  intro kk
  induction kk with
  | zero => intro p X R W k _ _ _ _ _ _ _ _ hkk; exact absurd hkk (by omega)
  | succ kk ih =>
    intro p X R W k hn hp hpn hk q hT hf hout hkk
    subst hp
    have hsk := sk_rng (p := R 3) hTX hpn.2
    have tx := hTX.1
    refine Hx.run 4 (pc' := 25) (L' := [some (vr 0), some (vi 1), some (vi k)]) (st' := [vi 150, vi k]) (M' := (sr X 59 R)) rfl ?_
    refine Hx.br (c := 150 < k) (t := 56) (f := 28) rfl (fun h1 => ?_) (fun h1 => ?_)
    · skip
      exfalso; omega
    · skip
      refine Hx.run 2 (pc' := 32) (L' := [some (vr 0), some (vi 1), some (vi k)]) (st' := [vr 59]) (M' := (sr X 59 R)) rfl ?_
      refine Hx.call (t := 43) (as := [vr 59]) (pc' := 35) (rest := []) rfl (c_movesOn2 (sr X 59 R) t hT (by show 0 ≤ R 3 ∧ R 3 ≤ R 1; omega)) ?_
      rintro _ _ (⟨R1, z1, z2, z3, rfl, rfl⟩ | ⟨R1, z1, z2, z3, rfl, rfl⟩)
      · skip
        rw [sr_sr]
        have m1 : R1 1 = n := by have z : R1 1 = R 1 := z1; omega
        have mX : NX t (sk t (R 3)) R1 := z2
        have hne : ¬ t (sk t (R 3)) = -1 := z3
        refine Hx.run 5 (pc' := 46) (L' := [some (vr 0), some (vi 1), some (vi k)]) (st' := [vr 40, vr 59]) (M' := (sr X 59 R1)) rfl ?_
        refine Hx.call (t := 44) (as := [vr 59, vr 40]) (pc' := 49) (rest := []) rfl (Ct.imp (c_readItem X R1 t n (sk t (R 3)) (TC_R hT (by omega)) m1 (HS_HI (by omega) q.1) (by omega) mX) (fun _ _ h => OutC_or h)) ?_
        rintro _ _ (⟨R2, X2, g1, gf, ho, rfl, rfl⟩ | ⟨R2, X2, g1, gf, ho, rfl, rfl⟩)
        · skip
          refine Hx.run 1 (pc' := 50) (L' := [some (vr 0), some (vi 1), some (vi k)]) (st' := []) (M' := (sr X2 59 R2)) rfl ?_
          refine Hx.inc rfl rfl (by omega) ?_
          refine Hx.run 0 (pc' := 53) (L' := [some (vr 0), some (vi 1), some (vi (k + 1))]) (st' := []) (M' := (sr X2 59 R2)) rfl ?_
          refine Hx.run 1 (pc' := 17) (L' := [some (vr 0), some (vi 1), some (vi (k + 1))]) (st' := []) (M' := (sr X2 59 R2)) rfl ?_
          obtain ⟨hp2, W2, q2⟩ := itW_inr hTX ⟨(we_rng hTX hsk.2).1, (we_rng hTX hsk.2).2⟩ (by omega) q ho
          rw [prs_go hne ho] at hout
          exact ih (R2 3) X2 R2 W2 (k + 1) g1 rfl (by omega) (by omega) q2 (TC_R2 gf hT (by omega)) (fun r hr => by rw [gf r hr]; exact hf r hr) hout (by omega)
        · skip
          have fr := itW_inl hTX ⟨(we_rng hTX hsk.2).1, (we_rng hTX hsk.2).2⟩ ho
          refine Hx.run 1 (pc' := 50) (L' := [some (vr 0), some (vi 0), some (vi k)]) (st' := []) (M' := (sr X2 59 R2)) rfl ?_
          refine Hx.inc rfl rfl (by omega) ?_
          refine Hx.run 0 (pc' := 53) (L' := [some (vr 0), some (vi 0), some (vi (k + 1))]) (st' := []) (M' := (sr X2 59 R2)) rfl ?_
          refine Hx.run 1 (pc' := 17) (L' := [some (vr 0), some (vi 0), some (vi (k + 1))]) (st' := []) (M' := (sr X2 59 R2)) rfl ?_
          refine Hx.run 8 (pc' := 69) (L' := [some (vr 0), some (vi 0), some (vi (k + 1))]) (st' := [vi (R2 2), vi (-10)]) (M' := (sr X2 59 R2)) rfl ?_
          refine Hx.sub rfl (by omega) ?_
          refine Hx.ret rfl ?_
          rw [prs_bad hne ho] at hout
          exact Or.inl ⟨R2 2, hout.symm, rfl, X2, R2, g1, fun r hr => by rw [gf r hr]; exact hf r hr, rfl⟩
      · skip
        rw [sr_sr]
        have m1 : R1 1 = n := by have z : R1 1 = R 1 := z1; omega
        have mX : NX t (sk t (R 3)) R1 := z2
        have hne : t (sk t (R 3)) = -1 := z3
        refine Hx.run 7 (pc' := 79) (L' := [some (vr 0), some (vi 1), some (vi k)]) (st' := [vr 40, vr 1]) (M' := (sr X 59 R1)) rfl ?_
        refine Hx.call (t := 6) (as := [vr 1, vr 40]) (pc' := 82) (rest := []) rfl (c_takeOver_1_40 (sr X 59 R1)) ?_
        rintro _ _ ⟨rfl, rfl⟩
        refine Hx.run 0 (pc' := 82) (L' := [some (vr 0), some (vi 1), some (vi k)]) (st' := []) (M' := (tkM (sr X 59 R1) 1 40)) rfl ?_
        refine Hx.run 1 (pc' := 83) (L' := [some (vr 0), some (vi 1), some (vi k)]) (st' := [vi k]) (M' := (tkM (sr X 59 R1) 1 40)) rfl ?_
        refine Hx.ret rfl ?_
        rw [prs_end hne] at hout
        exact Or.inr ⟨k, X, hout.symm, rfl, R1, m1, hf, rfl⟩
theorem itO_inr {t : Int → Int} {p' : Int} {M X' : Mm} (hT : TX t (M 59 1)) (hL : (M 47 0 = 4 ∧ M 47 1 = 5) ∧ (M 49 0 = 3 ∧ M 49 1 = 6) ∧ (M 51 0 = 5 ∧ M 51 1 = 6)) (h : itO t (emM M 40) = Sum.inr (p', X')) : (1 ≤ p' ∧ p' ≤ M 59 1) ∧ PI X' (fun _ => 0) 1 := by
  unfold itO at h
  split at h
  · have a := sk_rng (p := 0) hT hT.1.1
    have b := we_rng (p := sk t 0) hT a.2
    obtain ⟨e1, e2, e3⟩ := itE_inr hT h
    have c := sk_rng hT b.2
    subst e2
    refine ⟨⟨by omega, e3⟩, HS_none (by decide) rfl rfl rfl rfl rfl ⟨hL.1.1, hL.1.2, rfl⟩ ⟨hL.2.1.1, hL.2.1.2, rfl⟩ ⟨hL.2.2.1, hL.2.2.2, rfl⟩ (fun _ _ _ => rfl), rfl⟩
  · cases h
set_option maxRecDepth 100000 in
set_option maxHeartbeats 2000000 in
theorem C_read (M : Mm) (t : Int → Int) (hT : TC M t) (hL : (M 47 0 = 4 ∧ M 47 1 = 5) ∧ (M 49 0 = 3 ∧ M 49 1 = 6) ∧ (M 51 0 = 5 ∧ M 51 1 = 6)) : Ct 63 [vr 0] M (fun q0 M' => (∃ s : Int, prd t (emM M 40) = Sum.inl s ∧ q0 = some (vi (-10 - s)) ∧ ∃ (X' : Mm) (R' : Int → Int), R' 1 = M 59 1 ∧ (∀ r, r < 40 ∨ 45 < r → X' r = emM M 40 r) ∧ sr X' 59 R' = M') ∨ (∃ (k : Int) (X' : Mm), prd t (emM M 40) = Sum.inr (k, X') ∧ q0 = some (vi k) ∧ ∃ R' : Int → Int, R' 1 = M 59 1 ∧ (∀ r, r < 40 ∨ 45 < r → X' r = emM M 40 r) ∧ tkM (sr X' 59 R') 1 40 = M')) := by
  refine Hx.run 2 (pc' := 4) (L' := [some (vr 0), none, none]) (st' := [vr 40]) (M' := M) rfl ?_
  refine Hx.call (t := 5) (as := [vr 40]) (pc' := 7) (rest := []) rfl (c_empty_40 M) ?_
  rintro _ _ ⟨rfl, rfl⟩
  refine Hx.run 0 (pc' := 7) (L' := [some (vr 0), none, none]) (st' := []) (M' := (emM M 40)) rfl ?_
  refine Hx.run 2 (pc' := 11) (L' := [some (vr 0), none, none]) (st' := [vr 59]) (M' := (emM M 40)) rfl ?_
  refine Hx.call (t := 42) (as := [vr 59]) (pc' := 14) (rest := []) rfl (Ct.imp (show Ct 42 [vr 59] (emM M 40) _ from by rw [← sr_self (M := emM M 40) (r := 59)]; exact c_readOpening (emM M 40) (emM M 40 59) t (M 59 1) (sk t 0) (by rw [sr_self]; exact hT) rfl rfl) (fun _ _ h => OutC_or h)) ?_
  rintro _ _ (⟨R2, X2, g1, gf, ho, rfl, rfl⟩ | ⟨R2, X2, g1, gf, ho, rfl, rfl⟩)
  · skip
    refine Hx.run 3 (pc' := 17) (L' := [some (vr 0), some (vi 1), some (vi 1)]) (st' := []) (M' := (sr X2 59 R2)) rfl ?_
    obtain ⟨hp2, q2⟩ := itO_inr hT.1 hL ho
    have h0 := cl_read t (M 59 1) (emM M 40) (prd t (emM M 40)) hT.1 200 (R2 3) X2 R2 _ 1 g1 rfl (by omega) (by omega) q2 (TC_R2 (R := M 59) gf (by rw [show sr (emM M 40) 59 (M 59) = emM M 40 from sr_self]; exact hT) g1) gf (by unfold prd; rw [ho]) (by have := hT.1.1; omega)
    exact h0
  · skip
    have fr := itO_inl hT.1 ho
    refine Hx.run 3 (pc' := 17) (L' := [some (vr 0), some (vi 0), some (vi 1)]) (st' := []) (M' := (sr X2 59 R2)) rfl ?_
    refine Hx.run 8 (pc' := 69) (L' := [some (vr 0), some (vi 0), some (vi 1)]) (st' := [vi (R2 2), vi (-10)]) (M' := (sr X2 59 R2)) rfl ?_
    refine Hx.sub rfl (by (first | omega | (have := hT.1.1; omega))) ?_
    refine Hx.ret rfl ?_
    exact Or.inl ⟨R2 2, by unfold prd; rw [ho], rfl, X2, R2, g1, gf, rfl⟩
