/-! reading: the new house and its row; the whole text (written by wip/whole/gen72.py) -/
theorem st1_eq {A : Int → Int} {s v x : Int} (h : x = s) : st1 A s v x = v := by rw [h, st1_at]
def wF (W : Int → Int) (k s : Int) : Int → Int := st1 (st1 (st1 W (748 + W 744) k) (751 + W 744) s) 744 (W 744 + 1)
def wG (W : Int → Int) (k l f : Int) : Int → Int := st1 (st1 (st1 (st1 (st1 (st1 W (754 + W 745) k) (760 + W 745) l) (766 + W 745) f) (772 + W 745) 0) (778 + W 745) 0) 745 (W 745 + 1)
def wL (W : Int → Int) (i x : Int) : Int → Int := st1 W (778 + i) x
def wH (W : Int → Int) (n : Int) : Int → Int := st1 W 746 (min 9999 (W 746 + n))
def wS (W : Int → Int) (i v u : Int) : Int → Int := st1 (st1 W (772 + i) v) 747 u
/-- the new house and its row -/
def PI (X : Mm) (W : Int → Int) (b : Int) : Prop := HS X 40 W 744 b ∧ X 40 2 = 0
theorem PI_F {X : Mm} {W : Int → Int} {b k s : Int} (q : PI X W b) (hF : X 40 0 < 3) (hk : 0 ≤ k ∧ k ≤ 5) (hs : 1 ≤ s ∧ s ≤ 10) : PI (adF X k s) (wF W k s) b := by
  have e := q.1.1.2.2.2.2.2.1
  have e2 : X 40 2 = W 855 := q.1.1.2.2.2.2.2.2.2.1
  have z := q.2
  have c := q.1.1.1
  have e' : X 40 0 = W 744 := e
  refine ⟨HS_flight q.1 hF hk hs rfl rfl rfl (fun j hj => ?_) ?_ (fun j hj => ?_) ?_ (fun j hj => ?_) ?_ ?_ ?_ ?_ (fun x h1 h2 h3 => ?_), rfl⟩
  · show adF X k s 41 j = X 41 j
    unfold adF; rw [up_ne (by decide), up_ne (by decide), up_ne (by decide), up_off hj]
  · show adF X k s 41 (X 40 0) = k
    unfold adF; rw [up_ne (by decide), up_ne (by decide), up_ne (by decide), up_at]
  · show adF X k s 45 j = X 45 j
    unfold adF; rw [up_ne (by decide), up_ne (by decide), up_off hj, up_ne (by decide)]
  · show adF X k s 45 (12 + X 40 0) = s
    unfold adF; rw [up_ne (by decide), up_ne (by decide), up_at]
  · unfold adF; rw [up_ne (by omega), up_ne (by omega), up_ne (by omega), up_ne (by omega)]
  · unfold wF; rw [st1_eq (by omega)]; omega
  · unfold wF; rw [st1_ne (by omega), st1_ne (by omega), st1_eq (by omega)]
  · unfold wF; rw [st1_ne (by omega), st1_eq (by omega)]
  · unfold wF; rw [st1_ne (by omega), st1_ne (by omega), st1_ne (by omega)]; show W 855 = 0; omega
  · unfold wF; rw [st1_ne (by omega), st1_ne (by omega), st1_ne (by omega)]
theorem PI_G {X : Mm} {W : Int → Int} {b k l f : Int} (q : PI X W b) (hG : X 40 1 < 6) (hk : 0 ≤ k ∧ k ≤ 5) (hl : 1 ≤ l ∧ l ≤ 4) (hf : 0 ≤ f ∧ f < X 40 0) : PI (adG X k l f) (wG W k l f) b := by
  have e2 : X 40 2 = W 855 := q.1.1.2.2.2.2.2.2.2.1
  have z := q.2
  have c := q.1.1.2.1
  have e' : X 40 1 = W 745 := q.1.1.2.2.2.2.2.2.1
  refine ⟨HS_goer q.1 hG hk hl hf rfl rfl rfl (fun j hj => ?_) ?_ (fun j hj => ?_) ?_ (fun j hj => ?_) ?_ (fun j hj hj2 => ?_) ?_ ?_ (fun j hj => ?_) ?_ ?_ ?_ ?_ ?_ ?_ ?_ (fun x h1 h2 h3 => ?_), rfl⟩
  · show adG X k l f 42 j = X 42 j
    unfold adG; rw [up_ne (by decide), up_ne (by decide), up_ne (by decide), up_ne (by decide), up_ne (by decide), up_ne (by decide), up_off hj]
  · show adG X k l f 42 (X 40 1) = k
    unfold adG; rw [up_ne (by decide), up_ne (by decide), up_ne (by decide), up_ne (by decide), up_ne (by decide), up_ne (by decide), up_at]
  · show adG X k l f 43 j = X 43 j
    unfold adG; rw [up_ne (by decide), up_ne (by decide), up_ne (by decide), up_ne (by decide), up_ne (by decide), up_off hj, up_ne (by decide)]
  · show adG X k l f 43 (X 40 1) = l
    unfold adG; rw [up_ne (by decide), up_ne (by decide), up_ne (by decide), up_ne (by decide), up_ne (by decide), up_at]
  · show adG X k l f 44 j = X 44 j
    unfold adG; rw [up_ne (by decide), up_ne (by decide), up_ne (by decide), up_ne (by decide), up_off hj, up_ne (by decide), up_ne (by decide)]
  · show adG X k l f 44 (X 40 1) = f
    unfold adG; rw [up_ne (by decide), up_ne (by decide), up_ne (by decide), up_ne (by decide), up_at]
  · show adG X k l f 45 j = X 45 j
    unfold adG; rw [up_ne (by decide), up_ne (by decide), up_off hj2, up_off hj, up_ne (by decide), up_ne (by decide), up_ne (by decide)]
  · show adG X k l f 45 (X 40 1) = 0
    unfold adG; rw [up_ne (by decide), up_ne (by decide), up_off (by omega), up_at]
  · show adG X k l f 45 (6 + X 40 1) = 0
    unfold adG; rw [up_ne (by decide), up_ne (by decide), up_at]
  · unfold adG; rw [up_ne (by omega), up_ne (by omega), up_ne (by omega), up_ne (by omega), up_ne (by omega), up_ne (by omega), up_ne (by omega)]
  · unfold wG; rw [st1_eq (by omega)]; omega
  · unfold wG; rw [st1_ne (by omega), st1_ne (by omega), st1_ne (by omega), st1_ne (by omega), st1_ne (by omega), st1_eq (by omega)]
  · unfold wG; rw [st1_ne (by omega), st1_ne (by omega), st1_ne (by omega), st1_ne (by omega), st1_eq (by omega)]
  · unfold wG; rw [st1_ne (by omega), st1_ne (by omega), st1_ne (by omega), st1_eq (by omega)]
  · unfold wG; rw [st1_ne (by omega), st1_ne (by omega), st1_eq (by omega)]
  · unfold wG; rw [st1_ne (by omega), st1_eq (by omega)]
  · unfold wG; rw [st1_ne (by omega), st1_ne (by omega), st1_ne (by omega), st1_ne (by omega), st1_ne (by omega), st1_ne (by omega)]; show W 855 = 0; omega
  · unfold wG; rw [st1_ne (by omega), st1_ne (by omega), st1_ne (by omega), st1_ne (by omega), st1_ne (by omega), st1_ne (by omega)]
theorem PI_L {X : Mm} {W : Int → Int} {b i x : Int} (q : PI X W b) (hi : 0 ≤ i ∧ i < X 40 1) (hx : 0 ≤ x ∧ x ≤ 9) : PI (adL X i x) (wL W i x) b := by
  obtain ⟨⟨c0, c1, c2, c3, c4, f0, f1, f2, f3, f4⟩, qf, qg, -⟩ := id q.1
  have n6 : ∀ j, j ≠ 6 + i → adL X i x 45 j = X 45 j := fun j hj => by unfold adL; rw [up_off hj]
  have n60 : adL X i x 45 (6 + i) = x := by unfold adL; rw [up_at]
  refine ⟨HS_now q.1 (Int.le_refl b) rfl (fun j hj => by unfold adL; rw [up_ne (by omega)]) (fun y h1 h2 h3 => by unfold wL; rw [st1_ne (by omega)]) ?_ ?_ ?_ ?_ (fun f h1 h2 => ?_) (fun j h1 h2 => ?_), q.2⟩
  · show 0 ≤ adL X i x 45 16 ∧ adL X i x 45 16 ≤ 9999; rw [n6 16 (by omega)]; exact c3
  · show 0 ≤ adL X i x 45 15 ∧ adL X i x 45 15 ≤ b; rw [n6 15 (by omega)]; exact c4
  · show adL X i x 45 16 = _; unfold wL; rw [n6 16 (by omega), st1_ne (by omega)]; exact f3
  · show adL X i x 45 15 = _; unfold wL; rw [n6 15 (by omega), st1_ne (by omega)]; exact f4
  · show (1 ≤ adL X i x 45 (12 + f) ∧ adL X i x 45 (12 + f) ≤ 10) ∧ adL X i x 45 (12 + f) = _
    unfold wL
    rw [n6 (12 + f) (by omega), st1_ne (by omega)]; exact ⟨(qf f h1 h2).2.1, (qf f h1 h2).2.2.2⟩
  · show (0 ≤ adL X i x 45 j ∧ adL X i x 45 j ≤ 11) ∧ (0 ≤ adL X i x 45 (6 + j) ∧ adL X i x 45 (6 + j) ≤ 9) ∧ adL X i x 45 j = _ ∧ adL X i x 45 (6 + j) = _
    have y := qg j h1 h2
    have c1' : X 40 1 ≤ 6 := c1.2
    unfold wL
    rw [n6 j (by omega), st1_ne (show 744 + 28 + j ≠ 778 + i by omega)]
    by_cases e : j = i
    · subst e
      rw [n60, st1_eq (by omega)]; exact ⟨y.1.2.2.2.1, hx, y.2.2.2.2.1, rfl⟩
    · rw [n6 (6 + j) (by omega), st1_ne (by omega)]; exact ⟨y.1.2.2.2.1, y.1.2.2.2.2, y.2.2.2.2.1, y.2.2.2.2.2⟩
theorem PI_H {X : Mm} {W : Int → Int} {b n : Int} (q : PI X W b) (hn : 0 ≤ n) : PI (adH X n) (wH W n) b := by
  obtain ⟨⟨c0, c1, c2, c3, c4, f0, f1, f2, f3, f4⟩, qf, qg, -⟩ := id q.1
  have c1' : X 40 1 ≤ 6 := c1.2
  have c0' : X 40 0 ≤ 3 := c0.2
  have c3' : 0 ≤ X 45 16 ∧ X 45 16 ≤ 9999 := c3
  have f3' : X 45 16 = W 746 := f3
  have n6 : ∀ j, j ≠ 16 → adH X n 45 j = X 45 j := fun j hj => by unfold adH; rw [up_off hj]
  have n60 : adH X n 45 16 = min 9999 (X 45 16 + n) := by unfold adH; rw [up_at]
  refine ⟨HS_now q.1 (Int.le_refl b) rfl (fun j hj => by unfold adH; rw [up_ne (by omega)]) (fun y h1 h2 h3 => by unfold wH; rw [st1_ne (by omega)]) ?_ ?_ ?_ ?_ (fun f h1 h2 => ?_) (fun j h1 h2 => ?_), q.2⟩
  · show 0 ≤ adH X n 45 16 ∧ adH X n 45 16 ≤ 9999; rw [n60]; omega
  · show 0 ≤ adH X n 45 15 ∧ adH X n 45 15 ≤ b; rw [n6 15 (by omega)]; exact c4
  · show adH X n 45 16 = _; unfold wH; rw [n60, st1_eq (by omega)]; omega
  · show adH X n 45 15 = _; unfold wH; rw [n6 15 (by omega), st1_ne (by omega)]; exact f4
  · show (1 ≤ adH X n 45 (12 + f) ∧ adH X n 45 (12 + f) ≤ 10) ∧ adH X n 45 (12 + f) = _
    unfold wH
    rw [n6 (12 + f) (by omega), st1_ne (by omega)]; exact ⟨(qf f h1 h2).2.1, (qf f h1 h2).2.2.2⟩
  · show (0 ≤ adH X n 45 j ∧ adH X n 45 j ≤ 11) ∧ (0 ≤ adH X n 45 (6 + j) ∧ adH X n 45 (6 + j) ≤ 9) ∧ adH X n 45 j = _ ∧ adH X n 45 (6 + j) = _
    have y := qg j h1 h2
    unfold wH
    rw [n6 j (by omega), n6 (6 + j) (by omega), st1_ne (show 744 + 28 + j ≠ 746 by omega), st1_ne (show 744 + 34 + j ≠ 746 by omega)]
    exact ⟨y.1.2.2.2.1, y.1.2.2.2.2, y.2.2.2.2.1, y.2.2.2.2.2⟩
/-- a goer's step becomes v, the falls u -/
theorem PI_S {X : Mm} {W : Int → Int} {b i v u : Int} {X' : Mm} (q : PI X W b) (hi : 0 ≤ i ∧ i < X 40 1) (hv : 0 ≤ v ∧ v ≤ 11) (hu : 0 ≤ u ∧ u ≤ b + 1) (er : ∀ r, r ≠ 45 → X' r = X r) (ei : X' 45 i = v) (eu : X' 45 15 = u) (eo : ∀ j, j ≠ i → j ≠ 15 → X' 45 j = X 45 j) : PI X' (wS W i v u) (b + 1) := by
  obtain ⟨⟨c0, c1, c2, c3, c4, f0, f1, f2, f3, f4⟩, qf, qg, -⟩ := id q.1
  have c1' : X 40 1 ≤ 6 := c1.2
  have c0' : X 40 0 ≤ 3 := c0.2
  refine ⟨HS_now q.1 (by omega) (er 40 (by decide)) (fun j hj => er _ (by omega)) (fun y h1 h2 h3 => by unfold wS; rw [st1_ne (by omega), st1_ne (by omega)]) ?_ ?_ ?_ ?_ (fun f h1 h2 => ?_) (fun j h1 h2 => ?_), by rw [er 40 (by decide)]; exact q.2⟩
  · show 0 ≤ X' 45 16 ∧ X' 45 16 ≤ 9999; rw [eo 16 (by omega) (by omega)]; exact c3
  · show 0 ≤ X' 45 15 ∧ X' 45 15 ≤ b + 1; rw [eu]; exact hu
  · show X' 45 16 = _; unfold wS; rw [eo 16 (by omega) (by omega), st1_ne (by omega), st1_ne (by omega)]; exact f3
  · show X' 45 15 = _; unfold wS; rw [eu, st1_eq (by omega)]
  · show (1 ≤ X' 45 (12 + f) ∧ X' 45 (12 + f) ≤ 10) ∧ X' 45 (12 + f) = _
    unfold wS
    rw [eo (12 + f) (by omega) (by omega), st1_ne (by omega), st1_ne (by omega)]; exact ⟨(qf f h1 h2).2.1, (qf f h1 h2).2.2.2⟩
  · show (0 ≤ X' 45 j ∧ X' 45 j ≤ 11) ∧ (0 ≤ X' 45 (6 + j) ∧ X' 45 (6 + j) ≤ 9) ∧ X' 45 j = _ ∧ X' 45 (6 + j) = _
    have y := qg j h1 h2
    unfold wS
    rw [eo (6 + j) (by omega) (by omega), st1_ne (show 744 + 28 + j ≠ 747 by omega), st1_ne (show 744 + 34 + j ≠ 747 by omega), st1_ne (show 744 + 34 + j ≠ 772 + i by omega)]
    by_cases e : j = i
    · subst e
      rw [ei, st1_eq (by omega)]; exact ⟨hv, y.1.2.2.2.2, rfl, y.2.2.2.2.2⟩
    · rw [eo j e (by omega), st1_ne (by omega)]; exact ⟨y.1.2.2.2.1, y.1.2.2.2.2, y.2.2.2.2.1, y.2.2.2.2.2⟩
theorem itE_inr {t : Int → Int} {n p p' : Int} {X X' : Mm} (hT : TX t n) (h : itE t p X = Sum.inr (p', X')) : p' = sk t p + 1 ∧ X' = X ∧ p' ≤ n := by
  unfold itE at h
  split at h
  · rename_i z
    have y := sk_lt hT z
    injection h with h
    injection h with h1 h2
    exact ⟨h1.symm, h2.symm, by omega⟩
  · cases h
theorem itN_inr {t : Int → Int} {p lo hi : Int} {k : Int → Int → Int ⊕ (Int × Mm)} {z : Int × Mm} (h : itN t p lo hi k = Sum.inr z) : nOk t (sk t p) lo hi ∧ k (fe t (sk t p)) (nv t (sk t p) (fe t (sk t p))) = Sum.inr z := by
  unfold itN at h
  split at h
  · rename_i y
    exact ⟨by unfold nB at y; have y2 := of_decide_eq_true y; exact y2, h⟩
  · cases h
theorem PI_sfall {X : Mm} {W : Int → Int} {b i : Int} (hb : b ≤ 9000) (q : PI X W b) (hi : 0 ≤ i ∧ i < X 40 1) : PI (up (up X 45 15 (min 9999 (X 45 15 + 1))) 45 i 0) (wS W i 0 (min 9999 (W 747 + 1))) (b + 1) := by
  have c4 : 0 ≤ X 45 15 ∧ X 45 15 ≤ b := q.1.1.2.2.2.2.1
  have f4 : X 45 15 = W 747 := q.1.1.2.2.2.2.2.2.2.2.2
  have c1' : X 40 1 ≤ 6 := q.1.1.2.1.2
  rw [← f4]
  exact PI_S q hi (by decide) (by omega) (fun r hr => by rw [up_ne hr, up_ne hr]) up_at (by rw [up_off (by omega), up_at]) (fun j h1 h2 => by rw [up_off h1, up_off h2])
theorem PI_sgo {X : Mm} {W : Int → Int} {b i v : Int} (q : PI X W b) (hi : 0 ≤ i ∧ i < X 40 1) (hv : 0 ≤ v ∧ v ≤ 11) : PI (up X 45 i v) (wS W i v (W 747)) (b + 1) := by
  have c4 : 0 ≤ X 45 15 ∧ X 45 15 ≤ b := q.1.1.2.2.2.2.1
  have f4 : X 45 15 = W 747 := q.1.1.2.2.2.2.2.2.2.2.2
  have c1' : X 40 1 ≤ 6 := q.1.1.2.1.2
  rw [← f4]
  exact PI_S q hi hv (by omega) (fun r hr => by rw [up_ne hr]) up_at (by rw [up_off (by omega)]) (fun j h1 h2 => by rw [up_off h1])
theorem PI_b {X : Mm} {W : Int → Int} {b b' : Int} (h : b ≤ b') (q : PI X W b) : PI X W b' := ⟨HS_eq (fun _ _ => rfl) (fun _ _ _ => rfl) h q.1, q.2⟩
theorem PI_adS {X : Mm} {W : Int → Int} {b i d : Int} (hb : b ≤ 9000) (q : PI X W b) (hi : 0 ≤ i ∧ i < X 40 1) (hd : 0 ≤ d) : ∃ W', PI (adS X i d) W' (b + 1) := by
  have y : 0 ≤ X 45 i ∧ X 45 i ≤ 11 := (q.1.2.2.1 i hi.1 hi.2).1.2.2.2.1
  unfold adS
  split
  · exact ⟨_, PI_sfall hb q hi⟩
  · exact ⟨_, PI_sgo q hi (by omega)⟩
/-- what an item leaves -/
theorem itW_inr {t : Int → Int} {n s e p' b : Int} {X X' : Mm} {W : Int → Int} (hT : TX t n) (hse : s ≤ e ∧ e ≤ n) (hb : b ≤ 9000) (q : PI X W b) (h : itW t s e X = Sum.inr (p', X')) : (s < p' ∧ p' ≤ n) ∧ ∃ W', PI X' W' (b + 1) := by
  have c0 : 0 ≤ X 40 0 ∧ X 40 0 ≤ 3 := q.1.1.1
  have c1 : 0 ≤ X 40 1 ∧ X 40 1 ≤ 6 := q.1.1.2.1
  have g : ∀ p, p ≤ n → p ≤ sk t p ∧ sk t p ≤ n ∧ sk t p ≤ fe t (sk t p) ∧ fe t (sk t p) ≤ n := fun p hp => by
    have a := sk_rng hT hp
    have d := fe_rng hT a.2
    exact ⟨a.1, a.2, d.1, d.2⟩
  have sE : ∀ p, p ≤ n → p ≤ sk t p := fun p hp => (g p hp).1
  unfold itW at h
  split at h
  · unfold itF at h
    split at h
    · cases h
    · obtain ⟨k1, h⟩ := itN_inr h
      obtain ⟨k2, h⟩ := itN_inr h
      obtain ⟨e1, e2, e3⟩ := itE_inr hT h
      have g1 := g e hse.2
      have g2 := g _ g1.2.2.2
      have g3 := sE _ g2.2.2.2
      subst e2
      exact ⟨⟨by omega, e3⟩, _, PI_b (by omega) (PI_F q (by omega) k1.2 k2.2)⟩
  · split at h
    · unfold itG at h
      split at h
      · cases h
      · obtain ⟨k1, h⟩ := itN_inr h
        obtain ⟨k2, h⟩ := itN_inr h
        obtain ⟨k3, h⟩ := itN_inr h
        obtain ⟨e1, e2, e3⟩ := itE_inr hT h
        have g1 := g e hse.2
        have g2 := g _ g1.2.2.2
        have g3 := g _ g2.2.2.2
        have g4 := sE _ g3.2.2.2
        subst e2
        exact ⟨⟨by omega, e3⟩, _, PI_b (by omega) (PI_G q (by omega) k1.2 k2.2 ⟨k3.2.1, by have := k3.2.2; omega⟩)⟩
    · split at h
      · unfold itL at h
        obtain ⟨k1, h⟩ := itN_inr h
        obtain ⟨k2, h⟩ := itN_inr h
        obtain ⟨e1, e2, e3⟩ := itE_inr hT h
        have g1 := g e hse.2
        have g2 := g _ g1.2.2.2
        have g3 := sE _ g2.2.2.2
        subst e2
        exact ⟨⟨by omega, e3⟩, _, PI_b (by omega) (PI_L q ⟨k1.2.1, by have := k1.2.2; omega⟩ k2.2)⟩
      · split at h
        · unfold itS at h
          obtain ⟨k1, h⟩ := itN_inr h
          split at h
          · cases h
          · obtain ⟨k2, h⟩ := itN_inr h
            obtain ⟨e1, e2, e3⟩ := itE_inr hT h
            have g1 := g e hse.2
            have g2 := g _ g1.2.2.2
            have g3 := sE _ g2.2.2.2
            subst e2
            exact ⟨⟨by omega, e3⟩, PI_adS hb q ⟨k1.2.1, by have := k1.2.2; omega⟩ (by have := k2.2.1; omega)⟩
        · split at h
          · unfold itH at h
            obtain ⟨k1, h⟩ := itN_inr h
            obtain ⟨e1, e2, e3⟩ := itE_inr hT h
            have g1 := g e hse.2
            have g3 := sE _ g1.2.2.2
            subst e2
            exact ⟨⟨by omega, e3⟩, _, PI_b (by omega) (PI_H q (by have := k1.2.1; omega))⟩
          · cases h
theorem NXw_1 {t : Int → Int} {s : Int} {R : Int → Int} (h : NX t s R) : (R 4 = 1 ∧ w1 t (R 2) (R 3)) ↔ w1 t s (we t s) := by
  obtain ⟨e2, hC⟩ := h
  rcases hC with c | c | c | c | c
  · rw [we_stop (by omega)]; unfold w1; constructor <;> (intro z; exfalso; omega)
  · rw [c.2.1, e2]; exact ⟨fun z => z.2, fun z => ⟨c.2.2, z⟩⟩
  · rw [we_stop (by omega)]; unfold w1; constructor <;> (intro z; exfalso; omega)
  · rw [we_stop (by omega)]; unfold w1; constructor <;> (intro z; exfalso; omega)
  · rw [we_stop (by omega)]; unfold w1; constructor <;> (intro z; exfalso; omega)
theorem NXw_2 {t : Int → Int} {s : Int} {R : Int → Int} (h : NX t s R) : (R 4 = 1 ∧ w2 t (R 2) (R 3)) ↔ w2 t s (we t s) := by
  obtain ⟨e2, hC⟩ := h
  rcases hC with c | c | c | c | c
  · rw [we_stop (by omega)]; unfold w2; constructor <;> (intro z; exfalso; omega)
  · rw [c.2.1, e2]; exact ⟨fun z => z.2, fun z => ⟨c.2.2, z⟩⟩
  · rw [we_stop (by omega)]; unfold w2; constructor <;> (intro z; exfalso; omega)
  · rw [we_stop (by omega)]; unfold w2; constructor <;> (intro z; exfalso; omega)
  · rw [we_stop (by omega)]; unfold w2; constructor <;> (intro z; exfalso; omega)
theorem NXw_3 {t : Int → Int} {s : Int} {R : Int → Int} (h : NX t s R) : (R 4 = 1 ∧ w3 t (R 2) (R 3)) ↔ w3 t s (we t s) := by
  obtain ⟨e2, hC⟩ := h
  rcases hC with c | c | c | c | c
  · rw [we_stop (by omega)]; unfold w3; constructor <;> (intro z; exfalso; omega)
  · rw [c.2.1, e2]; exact ⟨fun z => z.2, fun z => ⟨c.2.2, z⟩⟩
  · rw [we_stop (by omega)]; unfold w3; constructor <;> (intro z; exfalso; omega)
  · rw [we_stop (by omega)]; unfold w3; constructor <;> (intro z; exfalso; omega)
  · rw [we_stop (by omega)]; unfold w3; constructor <;> (intro z; exfalso; omega)
theorem NXw_4 {t : Int → Int} {s : Int} {R : Int → Int} (h : NX t s R) : (R 4 = 1 ∧ w4 t (R 2) (R 3)) ↔ w4 t s (we t s) := by
  obtain ⟨e2, hC⟩ := h
  rcases hC with c | c | c | c | c
  · rw [we_stop (by omega)]; unfold w4; constructor <;> (intro z; exfalso; omega)
  · rw [c.2.1, e2]; exact ⟨fun z => z.2, fun z => ⟨c.2.2, z⟩⟩
  · rw [we_stop (by omega)]; unfold w4; constructor <;> (intro z; exfalso; omega)
  · rw [we_stop (by omega)]; unfold w4; constructor <;> (intro z; exfalso; omega)
  · rw [we_stop (by omega)]; unfold w4; constructor <;> (intro z; exfalso; omega)
theorem NXw_5 {t : Int → Int} {s : Int} {R : Int → Int} (h : NX t s R) : (R 4 = 1 ∧ w5 t (R 2) (R 3)) ↔ w5 t s (we t s) := by
  obtain ⟨e2, hC⟩ := h
  rcases hC with c | c | c | c | c
  · rw [we_stop (by omega)]; unfold w5; constructor <;> (intro z; exfalso; omega)
  · rw [c.2.1, e2]; exact ⟨fun z => z.2, fun z => ⟨c.2.2, z⟩⟩
  · rw [we_stop (by omega)]; unfold w5; constructor <;> (intro z; exfalso; omega)
  · rw [we_stop (by omega)]; unfold w5; constructor <;> (intro z; exfalso; omega)
  · rw [we_stop (by omega)]; unfold w5; constructor <;> (intro z; exfalso; omega)
theorem NXw_6 {t : Int → Int} {s : Int} {R : Int → Int} (h : NX t s R) : (R 4 = 1 ∧ w6 t (R 2) (R 3)) ↔ w6 t s (we t s) := by
  obtain ⟨e2, hC⟩ := h
  rcases hC with c | c | c | c | c
  · rw [we_stop (by omega)]; unfold w6; constructor <;> (intro z; exfalso; omega)
  · rw [c.2.1, e2]; exact ⟨fun z => z.2, fun z => ⟨c.2.2, z⟩⟩
  · rw [we_stop (by omega)]; unfold w6; constructor <;> (intro z; exfalso; omega)
  · rw [we_stop (by omega)]; unfold w6; constructor <;> (intro z; exfalso; omega)
  · rw [we_stop (by omega)]; unfold w6; constructor <;> (intro z; exfalso; omega)

