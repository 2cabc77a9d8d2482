/-! reading: what an item comes to, and the items of the class (written by wip/whole/gen71.py) -/
def adF (X : Mm) (k s : Int) : Mm := up (up (up (up X 41 (X 40 0) k) 45 (12 + (X 40 0)) s) 40 0 (X 40 0 + 1)) 40 2 0
def adG (X : Mm) (k l f : Int) : Mm := up (up (up (up (up (up (up X 42 (X 40 1) k) 43 (X 40 1) l) 44 (X 40 1) f) 45 (X 40 1) 0) 45 (6 + (X 40 1)) 0) 40 1 (X 40 1 + 1)) 40 2 0
def adL (X : Mm) (i x : Int) : Mm := up X 45 (6 + i) x
def adS (X : Mm) (i d : Int) : Mm := if bt (bb (X 45 (12 + (X 44 i))) (bcF (X 41 (X 44 i)) (X 45 16 % 24))) (min 11 ((X 45 i) + d)) = true then up (up X 45 15 (min 9999 (X 45 15 + 1))) 45 i 0 else up X 45 i (min 11 ((X 45 i) + d))
def adH (X : Mm) (n : Int) : Mm := up X 45 16 (min 9999 (X 45 16 + n))
def rch (X : Mm) (i : Int) : Int := sfF (X 42 i) (X 43 i) (X 45 (6 + i)) (X 45 16 % 24)
theorem sr_upne {X : Mm} {R : Int → Int} {r : Nat} {i v : Int} (h : r ≠ 59) : up (sr X 59 R) r i v = sr (up X r i v) 59 R := by
  funext a b
  simp only [up, sr]
  by_cases e : a = 59
  · subst e
    rw [if_neg (fun z => h z.1.symm), if_pos rfl, if_pos rfl]
  · rw [if_neg e, if_neg e]; rfl
theorem adF_sr {X : Mm} {R : Int → Int} {k s : Int} : adF (sr X 59 R) k s = sr (adF X k s) 59 R := by
  unfold adF
  rw [sr_upne (by decide), sr_upne (by decide), sr_upne (by decide), sr_upne (by decide)]
  rfl
theorem adG_sr {X : Mm} {R : Int → Int} {k l f : Int} : adG (sr X 59 R) k l f = sr (adG X k l f) 59 R := by
  unfold adG
  rw [sr_upne (by decide), sr_upne (by decide), sr_upne (by decide), sr_upne (by decide), sr_upne (by decide), sr_upne (by decide), sr_upne (by decide)]
  rfl
theorem adL_sr {X : Mm} {R : Int → Int} {i x : Int} : adL (sr X 59 R) i x = sr (adL X i x) 59 R := sr_upne (by decide)
theorem adH_sr {X : Mm} {R : Int → Int} {n : Int} : adH (sr X 59 R) n = sr (adH X n) 59 R := sr_upne (by decide)
theorem adS_fall {X : Mm} {R : Int → Int} {i d : Int} (h : hb (bb (X 45 (12 + (X 44 i))) (bcF (X 41 (X 44 i)) (X 45 16 % 24))) (min 11 ((X 45 i) + d))) : up (up (sr X 59 R) 45 15 (min 9999 (X 45 15 + 1))) 45 i 0 = sr (adS X i d) 59 R := by
  unfold adS
  rw [if_pos (bt_1 h), sr_upne (by decide), sr_upne (by decide)]
theorem adS_go {X : Mm} {R : Int → Int} {i d : Int} (h : ¬ hb (bb (X 45 (12 + (X 44 i))) (bcF (X 41 (X 44 i)) (X 45 16 % 24))) (min 11 ((X 45 i) + d))) : up (sr X 59 R) 45 i (min 11 ((X 45 i) + d)) = sr (adS X i d) 59 R := by
  unfold adS
  rw [if_neg (by rw [bt_0 h]; decide), sr_upne (by decide)]
def nB (t : Int → Int) (s lo hi : Int) : Bool := decide ((1 ≤ fe t s - s ∧ fe t s - s ≤ 2) ∧ lo ≤ nv t s (fe t s) ∧ nv t s (fe t s) ≤ hi)
theorem nB_1 {t : Int → Int} {s lo hi : Int} (h : nOk t s lo hi) : nB t s lo hi = true := decide_eq_true h
theorem nB_0 {t : Int → Int} {s lo hi : Int} (h : ¬ nOk t s lo hi) : ¬ nB t s lo hi = true := fun z => by
  unfold nB at z
  have y := of_decide_eq_true z
  exact h y
/-- a number, and then k; a fault where it begins -/
def itN (t : Int → Int) (p lo hi : Int) (k : Int → Int → Int ⊕ (Int × Mm)) : Int ⊕ (Int × Mm) := if nB t (sk t p) lo hi = true then k (fe t (sk t p)) (nv t (sk t p) (fe t (sk t p))) else Sum.inl (sk t p)
theorem itN_yes {t : Int → Int} {p lo hi p' v : Int} {k : Int → Int → Int ⊕ (Int × Mm)} (h : nOk t (sk t p) lo hi) (h1 : p' = fe t (sk t p)) (h2 : v = nv t (sk t p) (fe t (sk t p))) : itN t p lo hi k = k p' v := by
  unfold itN; rw [if_pos (nB_1 h), h1, h2]
theorem itN_no {t : Int → Int} {p lo hi s : Int} {k : Int → Int → Int ⊕ (Int × Mm)} (h : ¬ nOk t (sk t p) lo hi) (h1 : s = sk t p) : itN t p lo hi k = Sum.inl s := by
  unfold itN; rw [if_neg (nB_0 h), h1]
def itE (t : Int → Int) (p : Int) (X : Mm) : Int ⊕ (Int × Mm) := if t (sk t p) = 59 then Sum.inr (sk t p + 1, X) else Sum.inl (sk t p)
theorem itE_yes {t : Int → Int} {p p' : Int} {X : Mm} (h : t (sk t p) = 59) (h1 : p' = sk t p + 1) : itE t p X = Sum.inr (p', X) := by
  unfold itE; rw [if_pos h, h1]
theorem itE_no {t : Int → Int} {p s : Int} {X : Mm} (h : ¬ t (sk t p) = 59) (h1 : s = sk t p) : itE t p X = Sum.inl s := by
  unfold itE; rw [if_neg h, h1]
def itF (t : Int → Int) (p s0 : Int) (X : Mm) : Int ⊕ (Int × Mm) := if 3 ≤ X 40 0 then Sum.inl s0 else itN t p 0 5 (fun p1 k => itN t p1 1 10 (fun p2 s => itE t p2 (adF X k s)))
def itG (t : Int → Int) (p s0 : Int) (X : Mm) : Int ⊕ (Int × Mm) := if 6 ≤ X 40 1 then Sum.inl s0 else itN t p 0 5 (fun p1 k => itN t p1 1 4 (fun p2 l => itN t p2 0 (X 40 0 - 1) (fun p3 f => itE t p3 (adG X k l f))))
def itL (t : Int → Int) (p : Int) (X : Mm) : Int ⊕ (Int × Mm) := itN t p 0 (X 40 1 - 1) (fun p1 i => itN t p1 0 9 (fun p2 x => itE t p2 (adL X i x)))
def itS (t : Int → Int) (p : Int) (X : Mm) : Int ⊕ (Int × Mm) := itN t p 0 (X 40 1 - 1) (fun p1 i => if 11 ≤ X 45 i then Sum.inl (sk t p) else itN t p1 1 (rch X i) (fun p2 d => itE t p2 (adS X i d)))
def itH (t : Int → Int) (p : Int) (X : Mm) : Int ⊕ (Int × Mm) := itN t p 1 99 (fun p1 n => itE t p1 (adH X n))
def w1B (t : Int → Int) (s e : Int) : Bool := decide (e - s = 8 ∧ t (s + 0) = 116 ∧ t (s + 1) = 101 ∧ t (s + 2) = 110 ∧ t (s + 3) = 101 ∧ t (s + 4) = 109 ∧ t (s + 5) = 101 ∧ t (s + 6) = 110 ∧ t (s + 7) = 116)
theorem w1B_1 {t : Int → Int} {s e : Int} (h : w1 t s e) : w1B t s e = true := decide_eq_true h
theorem w1B_0 {t : Int → Int} {s e : Int} (h : ¬ w1 t s e) : ¬ w1B t s e = true := fun z => by
  unfold w1B at z
  have y := of_decide_eq_true z
  exact h y
def w2B (t : Int → Int) (s e : Int) : Bool := decide (e - s = 6 ∧ t (s + 0) = 102 ∧ t (s + 1) = 108 ∧ t (s + 2) = 105 ∧ t (s + 3) = 103 ∧ t (s + 4) = 104 ∧ t (s + 5) = 116)
theorem w2B_1 {t : Int → Int} {s e : Int} (h : w2 t s e) : w2B t s e = true := decide_eq_true h
theorem w2B_0 {t : Int → Int} {s e : Int} (h : ¬ w2 t s e) : ¬ w2B t s e = true := fun z => by
  unfold w2B at z
  have y := of_decide_eq_true z
  exact h y
def w3B (t : Int → Int) (s e : Int) : Bool := decide (e - s = 4 ∧ t (s + 0) = 103 ∧ t (s + 1) = 111 ∧ t (s + 2) = 101 ∧ t (s + 3) = 114)
theorem w3B_1 {t : Int → Int} {s e : Int} (h : w3 t s e) : w3B t s e = true := decide_eq_true h
theorem w3B_0 {t : Int → Int} {s e : Int} (h : ¬ w3 t s e) : ¬ w3B t s e = true := fun z => by
  unfold w3B at z
  have y := of_decide_eq_true z
  exact h y
def w4B (t : Int → Int) (s e : Int) : Bool := decide (e - s = 4 ∧ t (s + 0) = 108 ∧ t (s + 1) = 111 ∧ t (s + 2) = 97 ∧ t (s + 3) = 100)
theorem w4B_1 {t : Int → Int} {s e : Int} (h : w4 t s e) : w4B t s e = true := decide_eq_true h
theorem w4B_0 {t : Int → Int} {s e : Int} (h : ¬ w4 t s e) : ¬ w4B t s e = true := fun z => by
  unfold w4B at z
  have y := of_decide_eq_true z
  exact h y
def w5B (t : Int → Int) (s e : Int) : Bool := decide (e - s = 6 ∧ t (s + 0) = 115 ∧ t (s + 1) = 116 ∧ t (s + 2) = 114 ∧ t (s + 3) = 105 ∧ t (s + 4) = 100 ∧ t (s + 5) = 101)
theorem w5B_1 {t : Int → Int} {s e : Int} (h : w5 t s e) : w5B t s e = true := decide_eq_true h
theorem w5B_0 {t : Int → Int} {s e : Int} (h : ¬ w5 t s e) : ¬ w5B t s e = true := fun z => by
  unfold w5B at z
  have y := of_decide_eq_true z
  exact h y
def w6B (t : Int → Int) (s e : Int) : Bool := decide (e - s = 5 ∧ t (s + 0) = 104 ∧ t (s + 1) = 111 ∧ t (s + 2) = 117 ∧ t (s + 3) = 114 ∧ t (s + 4) = 115)
theorem w6B_1 {t : Int → Int} {s e : Int} (h : w6 t s e) : w6B t s e = true := decide_eq_true h
theorem w6B_0 {t : Int → Int} {s e : Int} (h : ¬ w6 t s e) : ¬ w6B t s e = true := fun z => by
  unfold w6B at z
  have y := of_decide_eq_true z
  exact h y
/-- an item whose word stands from s to e -/
def itW (t : Int → Int) (s e : Int) (X : Mm) : Int ⊕ (Int × Mm) := if w2B t s e = true then itF t e s X else if w3B t s e = true then itG t e s X else if w4B t s e = true then itL t e X else if w5B t s e = true then itS t e X else if w6B t s e = true then itH t e X else Sum.inl s
/-- what a part of the reader answers, and what lies then in memory -/
def OutC (X : Mm) (n : Int) (out : Int ⊕ (Int × Mm)) (q0 : Option PV) (M' : Mm) : Prop := ∃ (R' : Int → Int) (X' : Mm), R' 1 = n ∧ (∀ r, r < 40 ∨ 45 < r → X' r = X r) ∧ ((q0 = some (vi 0) ∧ out = Sum.inl (R' 2)) ∨ (q0 = some (vi 1) ∧ out = Sum.inr (R' 3, X'))) ∧ sr X' 59 R' = M'
theorem sk_lt {t : Int → Int} {n p : Int} (h : TX t n) (h2 : t (sk t p) = 59) : sk t p < n := by
  rcases Int.lt_or_le (sk t p) n with z | z
  · exact z
  · have := h.2.1 _ z; omega
theorem fr_F {X : Mm} {k s : Int} : ∀ r, r < 40 ∨ 45 < r → adF X k s r = X r := fun r h => by unfold adF; rw [up_ne (by omega), up_ne (by omega), up_ne (by omega), up_ne (by omega)]
theorem fr_G {X : Mm} {k l f : Int} : ∀ r, r < 40 ∨ 45 < r → adG X k l f r = X r := fun r h => by unfold adG; rw [up_ne (by omega), up_ne (by omega), up_ne (by omega), up_ne (by omega), up_ne (by omega), up_ne (by omega), up_ne (by omega)]
theorem fr_L {X : Mm} {i x : Int} : ∀ r, r < 40 ∨ 45 < r → adL X i x r = X r := fun r h => by unfold adL; rw [up_ne (by omega)]
theorem fr_H {X : Mm} {n : Int} : ∀ r, r < 40 ∨ 45 < r → adH X n r = X r := fun r h => by unfold adH; rw [up_ne (by omega)]
theorem fr_S {X : Mm} {i d : Int} : ∀ r, r < 40 ∨ 45 < r → adS X i d r = X r := fun r h => by
  unfold adS
  split
  · rw [up_ne (by omega), up_ne (by omega)]
  · rw [up_ne (by omega)]
theorem TC_R {X : Mm} {R R2 : Int → Int} {t : Int → Int} (h : TC (sr X 59 R) t) (e : R2 1 = R 1) : TC (sr X 59 R2) t := by
  have h2 : TX t (R 1) ∧ ∀ j, 0 ≤ j → j < R 1 → t j = X 60 j := h
  rw [← e] at h2
  exact h2
theorem TC_R2 {X X2 : Mm} {R R2 : Int → Int} {t : Int → Int} (hf : ∀ r, r < 40 ∨ 45 < r → X2 r = X r) (h : TC (sr X 59 R) t) (e : R2 1 = R 1) : TC (sr X2 59 R2) t := by
  have h2 : TX t (R 1) ∧ ∀ j, 0 ≤ j → j < R 1 → t j = X 60 j := h
  rw [← e, ← hf 60 (by omega)] at h2
  exact h2
set_option maxRecDepth 100000 in
set_option maxHeartbeats 2000000 in
theorem c_readFlight (X : Mm) (R : Int → Int) (t : Int → Int) (n : Int) (hT : TC (sr X 59 R) t) (hn : R 1 = n) (hI : HI X 40) (hR : 0 ≤ R 3 ∧ R 3 ≤ n) (s0 : Int) (hs0 : R 2 = s0) : Ct 45 [vr 59, vr 40] (sr X 59 R) (fun q0 M' => OutC X n (itF t (R 3) s0 X) q0 M') := by
  obtain ⟨iF, iG, iK, iH, iFa, aF, aG, lS, lN, lM, rS, rN, rM, aK⟩ := (show (0 ≤ X 40 0 ∧ X 40 0 ≤ 3) ∧ (0 ≤ X 40 1 ∧ X 40 1 ≤ 6) ∧ (0 ≤ X 40 2 ∧ X 40 2 ≤ 8) ∧ (0 ≤ X 45 16 ∧ X 45 16 ≤ 9999) ∧ (0 ≤ X 45 15 ∧ X 45 15 ≤ 9000) ∧ (∀ f : Int, 0 ≤ f → f < X 40 0 → (0 ≤ X 41 f ∧ X 41 f ≤ 5) ∧ (1 ≤ X 45 (12 + f) ∧ X 45 (12 + f) ≤ 10)) ∧ (∀ i : Int, 0 ≤ i → i < X 40 1 → (0 ≤ X 42 i ∧ X 42 i ≤ 5) ∧ (1 ≤ X 43 i ∧ X 43 i ≤ 4) ∧ (0 ≤ X 44 i ∧ X 44 i < X 40 0) ∧ (0 ≤ X 45 i ∧ X 45 i ≤ 11) ∧ (0 ≤ X 45 (6 + i) ∧ X 45 (6 + i) ≤ 9)) ∧ (X 47 0 = 4 ∧ X 47 1 = 5 ∧ 0 ≤ X 47 3 ∧ X 47 3 ≤ 5) ∧ (X 49 0 = 3 ∧ X 49 1 = 6 ∧ 0 ≤ X 49 3 ∧ X 49 3 ≤ 6) ∧ (X 51 0 = 5 ∧ X 51 1 = 6 ∧ 0 ≤ X 51 3 ∧ X 51 3 ≤ 6) ∧ (∀ n : Int, 0 ≤ n → n < X 47 3 → (0 ≤ X 48 (n * 4 + 0) ∧ X 48 (n * 4 + 0) ≤ 2) ∧ (1 ≤ X 48 (n * 4 + 1) ∧ X 48 (n * 4 + 1) ≤ 10) ∧ (0 ≤ X 48 (n * 4 + 2) ∧ X 48 (n * 4 + 2) ≤ 23) ∧ (0 ≤ X 48 (n * 4 + 3) ∧ X 48 (n * 4 + 3) ≤ 1)) ∧ (∀ n : Int, 0 ≤ n → n < X 49 3 → (0 ≤ X 50 (n * 3 + 0) ∧ X 50 (n * 3 + 0) ≤ 2) ∧ (0 ≤ X 50 (n * 3 + 1) ∧ X 50 (n * 3 + 1) ≤ 23) ∧ (0 ≤ X 50 (n * 3 + 2) ∧ X 50 (n * 3 + 2) ≤ 9)) ∧ (∀ n : Int, 0 ≤ n → n < X 51 3 → (0 ≤ X 52 (n * 5 + 0) ∧ X 52 (n * 5 + 0) ≤ 5) ∧ (1 ≤ X 52 (n * 5 + 1) ∧ X 52 (n * 5 + 1) ≤ 4) ∧ (0 ≤ X 52 (n * 5 + 2) ∧ X 52 (n * 5 + 2) ≤ 9) ∧ (0 ≤ X 52 (n * 5 + 3) ∧ X 52 (n * 5 + 3) ≤ 23) ∧ (0 ≤ X 52 (n * 5 + 4) ∧ X 52 (n * 5 + 4) ≤ 9)) ∧ (∀ k : Int, 0 ≤ k → k < X 40 2 → (0 ≤ X 46 (k * 17 + 16) ∧ X 46 (k * 17 + 16) ≤ 9999) ∧ (0 ≤ X 46 (k * 17 + 15) ∧ X 46 (k * 17 + 15) ≤ 9000) ∧ (∀ f : Int, 0 ≤ f → f < X 40 0 → (1 ≤ X 46 (k * 17 + (12 + f)) ∧ X 46 (k * 17 + (12 + f)) ≤ 10)) ∧ (∀ i : Int, 0 ≤ i → i < X 40 1 → (0 ≤ X 46 (k * 17 + i) ∧ X 46 (k * 17 + i) ≤ 11) ∧ (0 ≤ X 46 (k * 17 + (6 + i)) ∧ X 46 (k * 17 + (6 + i)) ≤ 9))) from hI)
  have hTX : TX t n := by rw [← hn]; exact hT.1
  have tx := hTX.1
  refine Hx.run 3 (pc' := 5) (L' := [some (vr 59), some (vr 40), none]) (st' := [vi 3, vi (X 40 0)]) (M' := (sr X 59 R)) rfl ?_
  refine Hx.br (c := (X 40 0) < 3) (t := 8) (f := 17) rfl (fun h1 => ?_) (fun h1 => ?_)
  · skip
    refine Hx.run 3 (pc' := 11) (L' := [some (vr 59), some (vr 40), none]) (st' := [vi 5, vi 0, vr 59]) (M' := (sr X 59 R)) rfl ?_
    refine Hx.call (t := 51) (as := [vr 59, vi 0, vi 5]) (pc' := 14) (rest := []) rfl (c_isNumber 0 5 (sr X 59 R) t (TC_R hT (by omega)) (by show 0 ≤ R 3 ∧ R 3 ≤ R 1; omega)) ?_
    rintro _ _ (⟨R11, z1, z2, z3, z5, zk, rfl, rfl⟩ | ⟨R11, z1, z2, zk, rfl, rfl⟩)
    · skip
      rw [sr_sr]
      have a1_11 : R11 1 = n := by have z : R11 1 = R 1 := z1; omega
      have a2_11 : R11 2 = (sk t (R 3)) := z2
      have rr11 := sk_rng (t := t) (n := n) (p := R 3) hTX (by omega)
      have a3_11 : R11 3 = fe t (sk t (R 3)) := z3
      have a5_11 : R11 5 = nv t (sk t (R 3)) (fe t (sk t (R 3))) := z5
      have fr11 := fe_rng (t := t) (n := n) (p := (sk t (R 3))) hTX (by omega)
      have ok11 : nOk t (sk t (R 3)) 0 5 := zk
      have kk11 := id ok11
      unfold nOk at kk11
      refine Hx.run 7 (pc' := 28) (L' := [some (vr 59), some (vr 40), some (vi (R11 5))]) (st' := [vi 10, vi 1, vr 59]) (M' := (sr X 59 R11)) rfl ?_
      refine Hx.call (t := 51) (as := [vr 59, vi 1, vi 10]) (pc' := 31) (rest := []) rfl (c_isNumber 1 10 (sr X 59 R11) t (TC_R hT (by omega)) (by show 0 ≤ R11 3 ∧ R11 3 ≤ R11 1; omega)) ?_
      rintro _ _ (⟨R28, z1, z2, z3, z5, zk, rfl, rfl⟩ | ⟨R28, z1, z2, zk, rfl, rfl⟩)
      · skip
        rw [sr_sr]
        have a1_28 : R28 1 = n := by have z : R28 1 = R11 1 := z1; omega
        have a2_28 : R28 2 = (sk t (R11 3)) := z2
        have rr28 := sk_rng (t := t) (n := n) (p := R11 3) hTX (by omega)
        have a3_28 : R28 3 = fe t (sk t (R11 3)) := z3
        have a5_28 : R28 5 = nv t (sk t (R11 3)) (fe t (sk t (R11 3))) := z5
        have fr28 := fe_rng (t := t) (n := n) (p := (sk t (R11 3))) hTX (by omega)
        have ok28 : nOk t (sk t (R11 3)) 1 10 := zk
        have kk28 := id ok28
        unfold nOk at kk28
        refine Hx.run 5 (pc' := 42) (L' := [some (vr 59), some (vr 40), some (vi (R11 5))]) (st' := [vi (R28 5), vi (R11 5), vr 40]) (M' := (sr X 59 R28)) rfl ?_
        refine Hx.call (t := 9) (as := [vr 40, vi (R11 5), vi (R28 5)]) (pc' := 45) (rest := []) rfl (c_addFlight_40 (R11 5) (R28 5) (sr X 59 R28) (by show 0 ≤ X 40 0 ∧ X 40 0 < 3; omega)) ?_
        rintro _ _ ⟨rfl, rfl⟩
        refine Hx.eq (st' := [vi (X 40 0)]) rfl (show _ = (sr (adF X (R11 5) (R28 5)) 59 R28) from adF_sr) ?_
        refine Hx.run 0 (pc' := 45) (L' := [some (vr 59), some (vr 40), some (vi (R11 5))]) (st' := [vi (X 40 0)]) (M' := (sr (adF X (R11 5) (R28 5)) 59 R28)) rfl ?_
        refine Hx.run 2 (pc' := 47) (L' := [some (vr 59), some (vr 40), some (vi (R11 5))]) (st' := [vr 59]) (M' := (sr (adF X (R11 5) (R28 5)) 59 R28)) rfl ?_
        refine Hx.call (t := 50) (as := [vr 59]) (pc' := 50) (rest := []) rfl (c_stops (sr (adF X (R11 5) (R28 5)) 59 R28) t (TC_R2 fr_F hT (by omega)) (by show 0 ≤ R28 3 ∧ R28 3 ≤ R28 1; omega)) ?_
        rintro _ _ (⟨R47, z1, z2, z3, zk, rfl, rfl⟩ | ⟨R47, z1, z2, zk, rfl, rfl⟩)
        · skip
          rw [sr_sr]
          have a1_47 : R47 1 = n := by have z : R47 1 = R28 1 := z1; omega
          have a2_47 : R47 2 = (sk t (R28 3)) := z2
          have a3_47 : R47 3 = (sk t (R28 3)) + 1 := z3
          have ok47 : t (sk t (R28 3)) = 59 := zk
          refine Hx.ret rfl ?_
          exact ⟨R47, (adF X (R11 5) (R28 5)), a1_47, fr_F, Or.inr ⟨rfl, by unfold itF; rw [if_neg (by omega), itN_yes ok11 a3_11 a5_11, itN_yes ok28 a3_28 a5_28, itE_yes ok47 a3_47]⟩, rfl⟩
        · skip
          rw [sr_sr]
          have a1_47 : R47 1 = n := by have z : R47 1 = R28 1 := z1; omega
          have a2_47 : R47 2 = (sk t (R28 3)) := z2
          have ok47 : ¬ t (sk t (R28 3)) = 59 := zk
          refine Hx.ret rfl ?_
          exact ⟨R47, (adF X (R11 5) (R28 5)), a1_47, fr_F, Or.inl ⟨rfl, by unfold itF; rw [if_neg (by omega), itN_yes ok11 a3_11 a5_11, itN_yes ok28 a3_28 a5_28, itE_no ok47 a2_47]⟩, rfl⟩
      · skip
        rw [sr_sr]
        have a1_28 : R28 1 = n := by have z : R28 1 = R11 1 := z1; omega
        have a2_28 : R28 2 = (sk t (R11 3)) := z2
        have rr28 := sk_rng (t := t) (n := n) (p := R11 3) hTX (by omega)
        have ok28 : ¬ nOk t (sk t (R11 3)) 1 10 := zk
        refine Hx.run 2 (pc' := 35) (L' := [some (vr 59), some (vr 40), some (vi (R11 5))]) (st' := [vi 0]) (M' := (sr X 59 R28)) rfl ?_
        refine Hx.ret rfl ?_
        exact ⟨R28, X, a1_28, fun _ _ => rfl, Or.inl ⟨rfl, by unfold itF; rw [if_neg (by omega), itN_yes ok11 a3_11 a5_11, itN_no ok28 a2_28]⟩, rfl⟩
    · skip
      rw [sr_sr]
      have a1_11 : R11 1 = n := by have z : R11 1 = R 1 := z1; omega
      have a2_11 : R11 2 = (sk t (R 3)) := z2
      have rr11 := sk_rng (t := t) (n := n) (p := R 3) hTX (by omega)
      have ok11 : ¬ nOk t (sk t (R 3)) 0 5 := zk
      refine Hx.run 2 (pc' := 18) (L' := [some (vr 59), some (vr 40), none]) (st' := [vi 0]) (M' := (sr X 59 R11)) rfl ?_
      refine Hx.ret rfl ?_
      exact ⟨R11, X, a1_11, fun _ _ => rfl, Or.inl ⟨rfl, by unfold itF; rw [if_neg (by omega), itN_no ok11 a2_11]⟩, rfl⟩
  · skip
    refine Hx.run 1 (pc' := 18) (L' := [some (vr 59), some (vr 40), none]) (st' := [vi 0]) (M' := (sr X 59 R)) rfl ?_
    refine Hx.ret rfl ?_
    exact ⟨R, X, hn, fun _ _ => rfl, Or.inl ⟨rfl, by unfold itF; rw [if_pos (by omega), hs0]⟩, rfl⟩
set_option maxRecDepth 100000 in
set_option maxHeartbeats 2000000 in
theorem c_readGoer (X : Mm) (R : Int → Int) (t : Int → Int) (n : Int) (hT : TC (sr X 59 R) t) (hn : R 1 = n) (hI : HI X 40) (hR : 0 ≤ R 3 ∧ R 3 ≤ n) (s0 : Int) (hs0 : R 2 = s0) : Ct 46 [vr 59, vr 40] (sr X 59 R) (fun q0 M' => OutC X n (itG t (R 3) s0 X) q0 M') := by
  obtain ⟨iF, iG, iK, iH, iFa, aF, aG, lS, lN, lM, rS, rN, rM, aK⟩ := (show (0 ≤ X 40 0 ∧ X 40 0 ≤ 3) ∧ (0 ≤ X 40 1 ∧ X 40 1 ≤ 6) ∧ (0 ≤ X 40 2 ∧ X 40 2 ≤ 8) ∧ (0 ≤ X 45 16 ∧ X 45 16 ≤ 9999) ∧ (0 ≤ X 45 15 ∧ X 45 15 ≤ 9000) ∧ (∀ f : Int, 0 ≤ f → f < X 40 0 → (0 ≤ X 41 f ∧ X 41 f ≤ 5) ∧ (1 ≤ X 45 (12 + f) ∧ X 45 (12 + f) ≤ 10)) ∧ (∀ i : Int, 0 ≤ i → i < X 40 1 → (0 ≤ X 42 i ∧ X 42 i ≤ 5) ∧ (1 ≤ X 43 i ∧ X 43 i ≤ 4) ∧ (0 ≤ X 44 i ∧ X 44 i < X 40 0) ∧ (0 ≤ X 45 i ∧ X 45 i ≤ 11) ∧ (0 ≤ X 45 (6 + i) ∧ X 45 (6 + i) ≤ 9)) ∧ (X 47 0 = 4 ∧ X 47 1 = 5 ∧ 0 ≤ X 47 3 ∧ X 47 3 ≤ 5) ∧ (X 49 0 = 3 ∧ X 49 1 = 6 ∧ 0 ≤ X 49 3 ∧ X 49 3 ≤ 6) ∧ (X 51 0 = 5 ∧ X 51 1 = 6 ∧ 0 ≤ X 51 3 ∧ X 51 3 ≤ 6) ∧ (∀ n : Int, 0 ≤ n → n < X 47 3 → (0 ≤ X 48 (n * 4 + 0) ∧ X 48 (n * 4 + 0) ≤ 2) ∧ (1 ≤ X 48 (n * 4 + 1) ∧ X 48 (n * 4 + 1) ≤ 10) ∧ (0 ≤ X 48 (n * 4 + 2) ∧ X 48 (n * 4 + 2) ≤ 23) ∧ (0 ≤ X 48 (n * 4 + 3) ∧ X 48 (n * 4 + 3) ≤ 1)) ∧ (∀ n : Int, 0 ≤ n → n < X 49 3 → (0 ≤ X 50 (n * 3 + 0) ∧ X 50 (n * 3 + 0) ≤ 2) ∧ (0 ≤ X 50 (n * 3 + 1) ∧ X 50 (n * 3 + 1) ≤ 23) ∧ (0 ≤ X 50 (n * 3 + 2) ∧ X 50 (n * 3 + 2) ≤ 9)) ∧ (∀ n : Int, 0 ≤ n → n < X 51 3 → (0 ≤ X 52 (n * 5 + 0) ∧ X 52 (n * 5 + 0) ≤ 5) ∧ (1 ≤ X 52 (n * 5 + 1) ∧ X 52 (n * 5 + 1) ≤ 4) ∧ (0 ≤ X 52 (n * 5 + 2) ∧ X 52 (n * 5 + 2) ≤ 9) ∧ (0 ≤ X 52 (n * 5 + 3) ∧ X 52 (n * 5 + 3) ≤ 23) ∧ (0 ≤ X 52 (n * 5 + 4) ∧ X 52 (n * 5 + 4) ≤ 9)) ∧ (∀ k : Int, 0 ≤ k → k < X 40 2 → (0 ≤ X 46 (k * 17 + 16) ∧ X 46 (k * 17 + 16) ≤ 9999) ∧ (0 ≤ X 46 (k * 17 + 15) ∧ X 46 (k * 17 + 15) ≤ 9000) ∧ (∀ f : Int, 0 ≤ f → f < X 40 0 → (1 ≤ X 46 (k * 17 + (12 + f)) ∧ X 46 (k * 17 + (12 + f)) ≤ 10)) ∧ (∀ i : Int, 0 ≤ i → i < X 40 1 → (0 ≤ X 46 (k * 17 + i) ∧ X 46 (k * 17 + i) ≤ 11) ∧ (0 ≤ X 46 (k * 17 + (6 + i)) ∧ X 46 (k * 17 + (6 + i)) ≤ 9))) from hI)
  have hTX : TX t n := by rw [← hn]; exact hT.1
  have tx := hTX.1
  refine Hx.run 3 (pc' := 6) (L' := [some (vr 59), some (vr 40), none, none]) (st' := [vi 6, vi (X 40 1)]) (M' := (sr X 59 R)) rfl ?_
  refine Hx.br (c := (X 40 1) < 6) (t := 9) (f := 18) rfl (fun h1 => ?_) (fun h1 => ?_)
  · skip
    refine Hx.run 3 (pc' := 12) (L' := [some (vr 59), some (vr 40), none, none]) (st' := [vi 5, vi 0, vr 59]) (M' := (sr X 59 R)) rfl ?_
    refine Hx.call (t := 51) (as := [vr 59, vi 0, vi 5]) (pc' := 15) (rest := []) rfl (c_isNumber 0 5 (sr X 59 R) t (TC_R hT (by omega)) (by show 0 ≤ R 3 ∧ R 3 ≤ R 1; omega)) ?_
    rintro _ _ (⟨R12, z1, z2, z3, z5, zk, rfl, rfl⟩ | ⟨R12, z1, z2, zk, rfl, rfl⟩)
    · skip
      rw [sr_sr]
      have a1_12 : R12 1 = n := by have z : R12 1 = R 1 := z1; omega
      have a2_12 : R12 2 = (sk t (R 3)) := z2
      have rr12 := sk_rng (t := t) (n := n) (p := R 3) hTX (by omega)
      have a3_12 : R12 3 = fe t (sk t (R 3)) := z3
      have a5_12 : R12 5 = nv t (sk t (R 3)) (fe t (sk t (R 3))) := z5
      have fr12 := fe_rng (t := t) (n := n) (p := (sk t (R 3))) hTX (by omega)
      have ok12 : nOk t (sk t (R 3)) 0 5 := zk
      have kk12 := id ok12
      unfold nOk at kk12
      refine Hx.run 7 (pc' := 28) (L' := [some (vr 59), some (vr 40), some (vi (R12 5)), none]) (st' := [vi 4, vi 1, vr 59]) (M' := (sr X 59 R12)) rfl ?_
      refine Hx.call (t := 51) (as := [vr 59, vi 1, vi 4]) (pc' := 31) (rest := []) rfl (c_isNumber 1 4 (sr X 59 R12) t (TC_R hT (by omega)) (by show 0 ≤ R12 3 ∧ R12 3 ≤ R12 1; omega)) ?_
      rintro _ _ (⟨R28, z1, z2, z3, z5, zk, rfl, rfl⟩ | ⟨R28, z1, z2, zk, rfl, rfl⟩)
      · skip
        rw [sr_sr]
        have a1_28 : R28 1 = n := by have z : R28 1 = R12 1 := z1; omega
        have a2_28 : R28 2 = (sk t (R12 3)) := z2
        have rr28 := sk_rng (t := t) (n := n) (p := R12 3) hTX (by omega)
        have a3_28 : R28 3 = fe t (sk t (R12 3)) := z3
        have a5_28 : R28 5 = nv t (sk t (R12 3)) (fe t (sk t (R12 3))) := z5
        have fr28 := fe_rng (t := t) (n := n) (p := (sk t (R12 3))) hTX (by omega)
        have ok28 : nOk t (sk t (R12 3)) 1 4 := zk
        have kk28 := id ok28
        unfold nOk at kk28
        refine Hx.run 9 (pc' := 48) (L' := [some (vr 59), some (vr 40), some (vi (R12 5)), some (vi (R28 5))]) (st' := [vi 1, vi (X 40 0), vi 0, vr 59]) (M' := (sr X 59 R28)) rfl ?_
        refine Hx.sub rfl (by omega) ?_
        refine Hx.call (t := 51) (as := [vr 59, vi 0, vi ((X 40 0) - 1)]) (pc' := 52) (rest := []) rfl (c_isNumber 0 ((X 40 0) - 1) (sr X 59 R28) t (TC_R hT (by omega)) (by show 0 ≤ R28 3 ∧ R28 3 ≤ R28 1; omega)) ?_
        rintro _ _ (⟨R49, z1, z2, z3, z5, zk, rfl, rfl⟩ | ⟨R49, z1, z2, zk, rfl, rfl⟩)
        · skip
          rw [sr_sr]
          have a1_49 : R49 1 = n := by have z : R49 1 = R28 1 := z1; omega
          have a2_49 : R49 2 = (sk t (R28 3)) := z2
          have rr49 := sk_rng (t := t) (n := n) (p := R28 3) hTX (by omega)
          have a3_49 : R49 3 = fe t (sk t (R28 3)) := z3
          have a5_49 : R49 5 = nv t (sk t (R28 3)) (fe t (sk t (R28 3))) := z5
          have fr49 := fe_rng (t := t) (n := n) (p := (sk t (R28 3))) hTX (by omega)
          have ok49 : nOk t (sk t (R28 3)) 0 ((X 40 0) - 1) := zk
          have kk49 := id ok49
          unfold nOk at kk49
          refine Hx.run 6 (pc' := 64) (L' := [some (vr 59), some (vr 40), some (vi (R12 5)), some (vi (R28 5))]) (st' := [vi (R49 5), vi (R28 5), vi (R12 5), vr 40]) (M' := (sr X 59 R49)) rfl ?_
          refine Hx.call (t := 10) (as := [vr 40, vi (R12 5), vi (R28 5), vi (R49 5)]) (pc' := 67) (rest := []) rfl (c_addGoer_40 (R12 5) (R28 5) (R49 5) (sr X 59 R49) (by show 0 ≤ X 40 1 ∧ X 40 1 < 6; omega)) ?_
          rintro _ _ ⟨rfl, rfl⟩
          refine Hx.eq (st' := [vi (X 40 1)]) rfl (show _ = (sr (adG X (R12 5) (R28 5) (R49 5)) 59 R49) from adG_sr) ?_
          refine Hx.run 0 (pc' := 67) (L' := [some (vr 59), some (vr 40), some (vi (R12 5)), some (vi (R28 5))]) (st' := [vi (X 40 1)]) (M' := (sr (adG X (R12 5) (R28 5) (R49 5)) 59 R49)) rfl ?_
          refine Hx.run 2 (pc' := 69) (L' := [some (vr 59), some (vr 40), some (vi (R12 5)), some (vi (R28 5))]) (st' := [vr 59]) (M' := (sr (adG X (R12 5) (R28 5) (R49 5)) 59 R49)) rfl ?_
          refine Hx.call (t := 50) (as := [vr 59]) (pc' := 72) (rest := []) rfl (c_stops (sr (adG X (R12 5) (R28 5) (R49 5)) 59 R49) t (TC_R2 fr_G hT (by omega)) (by show 0 ≤ R49 3 ∧ R49 3 ≤ R49 1; omega)) ?_
          rintro _ _ (⟨R69, z1, z2, z3, zk, rfl, rfl⟩ | ⟨R69, z1, z2, zk, rfl, rfl⟩)
          · skip
            rw [sr_sr]
            have a1_69 : R69 1 = n := by have z : R69 1 = R49 1 := z1; omega
            have a2_69 : R69 2 = (sk t (R49 3)) := z2
            have a3_69 : R69 3 = (sk t (R49 3)) + 1 := z3
            have ok69 : t (sk t (R49 3)) = 59 := zk
            refine Hx.ret rfl ?_
            exact ⟨R69, (adG X (R12 5) (R28 5) (R49 5)), a1_69, fr_G, Or.inr ⟨rfl, by unfold itG; rw [if_neg (by omega), itN_yes ok12 a3_12 a5_12, itN_yes ok28 a3_28 a5_28, itN_yes ok49 a3_49 a5_49, itE_yes ok69 a3_69]⟩, rfl⟩
          · skip
            rw [sr_sr]
            have a1_69 : R69 1 = n := by have z : R69 1 = R49 1 := z1; omega
            have a2_69 : R69 2 = (sk t (R49 3)) := z2
            have ok69 : ¬ t (sk t (R49 3)) = 59 := zk
            refine Hx.ret rfl ?_
            exact ⟨R69, (adG X (R12 5) (R28 5) (R49 5)), a1_69, fr_G, Or.inl ⟨rfl, by unfold itG; rw [if_neg (by omega), itN_yes ok12 a3_12 a5_12, itN_yes ok28 a3_28 a5_28, itN_yes ok49 a3_49 a5_49, itE_no ok69 a2_69]⟩, rfl⟩
        · skip
          rw [sr_sr]
          have a1_49 : R49 1 = n := by have z : R49 1 = R28 1 := z1; omega
          have a2_49 : R49 2 = (sk t (R28 3)) := z2
          have rr49 := sk_rng (t := t) (n := n) (p := R28 3) hTX (by omega)
          have ok49 : ¬ nOk t (sk t (R28 3)) 0 ((X 40 0) - 1) := zk
          refine Hx.run 2 (pc' := 56) (L' := [some (vr 59), some (vr 40), some (vi (R12 5)), some (vi (R28 5))]) (st' := [vi 0]) (M' := (sr X 59 R49)) rfl ?_
          refine Hx.ret rfl ?_
          exact ⟨R49, X, a1_49, fun _ _ => rfl, Or.inl ⟨rfl, by unfold itG; rw [if_neg (by omega), itN_yes ok12 a3_12 a5_12, itN_yes ok28 a3_28 a5_28, itN_no ok49 a2_49]⟩, rfl⟩
      · skip
        rw [sr_sr]
        have a1_28 : R28 1 = n := by have z : R28 1 = R12 1 := z1; omega
        have a2_28 : R28 2 = (sk t (R12 3)) := z2
        have rr28 := sk_rng (t := t) (n := n) (p := R12 3) hTX (by omega)
        have ok28 : ¬ nOk t (sk t (R12 3)) 1 4 := zk
        refine Hx.run 2 (pc' := 35) (L' := [some (vr 59), some (vr 40), some (vi (R12 5)), none]) (st' := [vi 0]) (M' := (sr X 59 R28)) rfl ?_
        refine Hx.ret rfl ?_
        exact ⟨R28, X, a1_28, fun _ _ => rfl, Or.inl ⟨rfl, by unfold itG; rw [if_neg (by omega), itN_yes ok12 a3_12 a5_12, itN_no ok28 a2_28]⟩, rfl⟩
    · skip
      rw [sr_sr]
      have a1_12 : R12 1 = n := by have z : R12 1 = R 1 := z1; omega
      have a2_12 : R12 2 = (sk t (R 3)) := z2
      have rr12 := sk_rng (t := t) (n := n) (p := R 3) hTX (by omega)
      have ok12 : ¬ nOk t (sk t (R 3)) 0 5 := zk
      refine Hx.run 2 (pc' := 19) (L' := [some (vr 59), some (vr 40), none, none]) (st' := [vi 0]) (M' := (sr X 59 R12)) rfl ?_
      refine Hx.ret rfl ?_
      exact ⟨R12, X, a1_12, fun _ _ => rfl, Or.inl ⟨rfl, by unfold itG; rw [if_neg (by omega), itN_no ok12 a2_12]⟩, rfl⟩
  · skip
    refine Hx.run 1 (pc' := 19) (L' := [some (vr 59), some (vr 40), none, none]) (st' := [vi 0]) (M' := (sr X 59 R)) rfl ?_
    refine Hx.ret rfl ?_
    exact ⟨R, X, hn, fun _ _ => rfl, Or.inl ⟨rfl, by unfold itG; rw [if_pos (by omega), hs0]⟩, rfl⟩
set_option maxRecDepth 100000 in
set_option maxHeartbeats 2000000 in
theorem c_readLoad (X : Mm) (R : Int → Int) (t : Int → Int) (n : Int) (hT : TC (sr X 59 R) t) (hn : R 1 = n) (hI : HI X 40) (hR : 0 ≤ R 3 ∧ R 3 ≤ n) : Ct 47 [vr 59, vr 40] (sr X 59 R) (fun q0 M' => OutC X n (itL t (R 3) X) q0 M') := by
  obtain ⟨iF, iG, iK, iH, iFa, aF, aG, lS, lN, lM, rS, rN, rM, aK⟩ := (show (0 ≤ X 40 0 ∧ X 40 0 ≤ 3) ∧ (0 ≤ X 40 1 ∧ X 40 1 ≤ 6) ∧ (0 ≤ X 40 2 ∧ X 40 2 ≤ 8) ∧ (0 ≤ X 45 16 ∧ X 45 16 ≤ 9999) ∧ (0 ≤ X 45 15 ∧ X 45 15 ≤ 9000) ∧ (∀ f : Int, 0 ≤ f → f < X 40 0 → (0 ≤ X 41 f ∧ X 41 f ≤ 5) ∧ (1 ≤ X 45 (12 + f) ∧ X 45 (12 + f) ≤ 10)) ∧ (∀ i : Int, 0 ≤ i → i < X 40 1 → (0 ≤ X 42 i ∧ X 42 i ≤ 5) ∧ (1 ≤ X 43 i ∧ X 43 i ≤ 4) ∧ (0 ≤ X 44 i ∧ X 44 i < X 40 0) ∧ (0 ≤ X 45 i ∧ X 45 i ≤ 11) ∧ (0 ≤ X 45 (6 + i) ∧ X 45 (6 + i) ≤ 9)) ∧ (X 47 0 = 4 ∧ X 47 1 = 5 ∧ 0 ≤ X 47 3 ∧ X 47 3 ≤ 5) ∧ (X 49 0 = 3 ∧ X 49 1 = 6 ∧ 0 ≤ X 49 3 ∧ X 49 3 ≤ 6) ∧ (X 51 0 = 5 ∧ X 51 1 = 6 ∧ 0 ≤ X 51 3 ∧ X 51 3 ≤ 6) ∧ (∀ n : Int, 0 ≤ n → n < X 47 3 → (0 ≤ X 48 (n * 4 + 0) ∧ X 48 (n * 4 + 0) ≤ 2) ∧ (1 ≤ X 48 (n * 4 + 1) ∧ X 48 (n * 4 + 1) ≤ 10) ∧ (0 ≤ X 48 (n * 4 + 2) ∧ X 48 (n * 4 + 2) ≤ 23) ∧ (0 ≤ X 48 (n * 4 + 3) ∧ X 48 (n * 4 + 3) ≤ 1)) ∧ (∀ n : Int, 0 ≤ n → n < X 49 3 → (0 ≤ X 50 (n * 3 + 0) ∧ X 50 (n * 3 + 0) ≤ 2) ∧ (0 ≤ X 50 (n * 3 + 1) ∧ X 50 (n * 3 + 1) ≤ 23) ∧ (0 ≤ X 50 (n * 3 + 2) ∧ X 50 (n * 3 + 2) ≤ 9)) ∧ (∀ n : Int, 0 ≤ n → n < X 51 3 → (0 ≤ X 52 (n * 5 + 0) ∧ X 52 (n * 5 + 0) ≤ 5) ∧ (1 ≤ X 52 (n * 5 + 1) ∧ X 52 (n * 5 + 1) ≤ 4) ∧ (0 ≤ X 52 (n * 5 + 2) ∧ X 52 (n * 5 + 2) ≤ 9) ∧ (0 ≤ X 52 (n * 5 + 3) ∧ X 52 (n * 5 + 3) ≤ 23) ∧ (0 ≤ X 52 (n * 5 + 4) ∧ X 52 (n * 5 + 4) ≤ 9)) ∧ (∀ k : Int, 0 ≤ k → k < X 40 2 → (0 ≤ X 46 (k * 17 + 16) ∧ X 46 (k * 17 + 16) ≤ 9999) ∧ (0 ≤ X 46 (k * 17 + 15) ∧ X 46 (k * 17 + 15) ≤ 9000) ∧ (∀ f : Int, 0 ≤ f → f < X 40 0 → (1 ≤ X 46 (k * 17 + (12 + f)) ∧ X 46 (k * 17 + (12 + f)) ≤ 10)) ∧ (∀ i : Int, 0 ≤ i → i < X 40 1 → (0 ≤ X 46 (k * 17 + i) ∧ X 46 (k * 17 + i) ≤ 11) ∧ (0 ≤ X 46 (k * 17 + (6 + i)) ∧ X 46 (k * 17 + (6 + i)) ≤ 9))) from hI)
  have hTX : TX t n := by rw [← hn]; exact hT.1
  have tx := hTX.1
  refine Hx.run 5 (pc' := 7) (L' := [some (vr 59), some (vr 40), none]) (st' := [vi 1, vi (X 40 1), vi 0, vr 59]) (M' := (sr X 59 R)) rfl ?_
  refine Hx.sub rfl (by omega) ?_
  refine Hx.call (t := 51) (as := [vr 59, vi 0, vi ((X 40 1) - 1)]) (pc' := 11) (rest := []) rfl (c_isNumber 0 ((X 40 1) - 1) (sr X 59 R) t (TC_R hT (by omega)) (by show 0 ≤ R 3 ∧ R 3 ≤ R 1; omega)) ?_
  rintro _ _ (⟨R8, z1, z2, z3, z5, zk, rfl, rfl⟩ | ⟨R8, z1, z2, zk, rfl, rfl⟩)
  · skip
    rw [sr_sr]
    have a1_8 : R8 1 = n := by have z : R8 1 = R 1 := z1; omega
    have a2_8 : R8 2 = (sk t (R 3)) := z2
    have rr8 := sk_rng (t := t) (n := n) (p := R 3) hTX (by omega)
    have a3_8 : R8 3 = fe t (sk t (R 3)) := z3
    have a5_8 : R8 5 = nv t (sk t (R 3)) (fe t (sk t (R 3))) := z5
    have fr8 := fe_rng (t := t) (n := n) (p := (sk t (R 3))) hTX (by omega)
    have ok8 : nOk t (sk t (R 3)) 0 ((X 40 1) - 1) := zk
    have kk8 := id ok8
    unfold nOk at kk8
    refine Hx.run 7 (pc' := 25) (L' := [some (vr 59), some (vr 40), some (vi (R8 5))]) (st' := [vi 9, vi 0, vr 59]) (M' := (sr X 59 R8)) rfl ?_
    refine Hx.call (t := 51) (as := [vr 59, vi 0, vi 9]) (pc' := 28) (rest := []) rfl (c_isNumber 0 9 (sr X 59 R8) t (TC_R hT (by omega)) (by show 0 ≤ R8 3 ∧ R8 3 ≤ R8 1; omega)) ?_
    rintro _ _ (⟨R25, z1, z2, z3, z5, zk, rfl, rfl⟩ | ⟨R25, z1, z2, zk, rfl, rfl⟩)
    · skip
      rw [sr_sr]
      have a1_25 : R25 1 = n := by have z : R25 1 = R8 1 := z1; omega
      have a2_25 : R25 2 = (sk t (R8 3)) := z2
      have rr25 := sk_rng (t := t) (n := n) (p := R8 3) hTX (by omega)
      have a3_25 : R25 3 = fe t (sk t (R8 3)) := z3
      have a5_25 : R25 5 = nv t (sk t (R8 3)) (fe t (sk t (R8 3))) := z5
      have fr25 := fe_rng (t := t) (n := n) (p := (sk t (R8 3))) hTX (by omega)
      have ok25 : nOk t (sk t (R8 3)) 0 9 := zk
      have kk25 := id ok25
      unfold nOk at kk25
      refine Hx.run 5 (pc' := 39) (L' := [some (vr 59), some (vr 40), some (vi (R8 5))]) (st' := [vi (R25 5), vi (R8 5), vr 40]) (M' := (sr X 59 R25)) rfl ?_
      refine Hx.call (t := 21) (as := [vr 40, vi (R8 5), vi (R25 5)]) (pc' := 42) (rest := []) rfl (c_setLoad_40 (R8 5) (R25 5) (sr X 59 R25) (by omega)) ?_
      rintro _ _ ⟨rfl, rfl⟩
      refine Hx.eq (st' := []) rfl (show _ = (sr (adL X (R8 5) (R25 5)) 59 R25) from adL_sr) ?_
      refine Hx.run 0 (pc' := 42) (L' := [some (vr 59), some (vr 40), some (vi (R8 5))]) (st' := []) (M' := (sr (adL X (R8 5) (R25 5)) 59 R25)) rfl ?_
      refine Hx.run 1 (pc' := 43) (L' := [some (vr 59), some (vr 40), some (vi (R8 5))]) (st' := [vr 59]) (M' := (sr (adL X (R8 5) (R25 5)) 59 R25)) rfl ?_
      refine Hx.call (t := 50) (as := [vr 59]) (pc' := 46) (rest := []) rfl (c_stops (sr (adL X (R8 5) (R25 5)) 59 R25) t (TC_R2 fr_L hT (by omega)) (by show 0 ≤ R25 3 ∧ R25 3 ≤ R25 1; omega)) ?_
      rintro _ _ (⟨R43, z1, z2, z3, zk, rfl, rfl⟩ | ⟨R43, z1, z2, zk, rfl, rfl⟩)
      · skip
        rw [sr_sr]
        have a1_43 : R43 1 = n := by have z : R43 1 = R25 1 := z1; omega
        have a2_43 : R43 2 = (sk t (R25 3)) := z2
        have a3_43 : R43 3 = (sk t (R25 3)) + 1 := z3
        have ok43 : t (sk t (R25 3)) = 59 := zk
        refine Hx.ret rfl ?_
        exact ⟨R43, (adL X (R8 5) (R25 5)), a1_43, fr_L, Or.inr ⟨rfl, by unfold itL; rw [itN_yes ok8 a3_8 a5_8, itN_yes ok25 a3_25 a5_25, itE_yes ok43 a3_43]⟩, rfl⟩
      · skip
        rw [sr_sr]
        have a1_43 : R43 1 = n := by have z : R43 1 = R25 1 := z1; omega
        have a2_43 : R43 2 = (sk t (R25 3)) := z2
        have ok43 : ¬ t (sk t (R25 3)) = 59 := zk
        refine Hx.ret rfl ?_
        exact ⟨R43, (adL X (R8 5) (R25 5)), a1_43, fr_L, Or.inl ⟨rfl, by unfold itL; rw [itN_yes ok8 a3_8 a5_8, itN_yes ok25 a3_25 a5_25, itE_no ok43 a2_43]⟩, rfl⟩
    · skip
      rw [sr_sr]
      have a1_25 : R25 1 = n := by have z : R25 1 = R8 1 := z1; omega
      have a2_25 : R25 2 = (sk t (R8 3)) := z2
      have rr25 := sk_rng (t := t) (n := n) (p := R8 3) hTX (by omega)
      have ok25 : ¬ nOk t (sk t (R8 3)) 0 9 := zk
      refine Hx.run 2 (pc' := 32) (L' := [some (vr 59), some (vr 40), some (vi (R8 5))]) (st' := [vi 0]) (M' := (sr X 59 R25)) rfl ?_
      refine Hx.ret rfl ?_
      exact ⟨R25, X, a1_25, fun _ _ => rfl, Or.inl ⟨rfl, by unfold itL; rw [itN_yes ok8 a3_8 a5_8, itN_no ok25 a2_25]⟩, rfl⟩
  · skip
    rw [sr_sr]
    have a1_8 : R8 1 = n := by have z : R8 1 = R 1 := z1; omega
    have a2_8 : R8 2 = (sk t (R 3)) := z2
    have rr8 := sk_rng (t := t) (n := n) (p := R 3) hTX (by omega)
    have ok8 : ¬ nOk t (sk t (R 3)) 0 ((X 40 1) - 1) := zk
    refine Hx.run 2 (pc' := 15) (L' := [some (vr 59), some (vr 40), none]) (st' := [vi 0]) (M' := (sr X 59 R8)) rfl ?_
    refine Hx.ret rfl ?_
    exact ⟨R8, X, a1_8, fun _ _ => rfl, Or.inl ⟨rfl, by unfold itL; rw [itN_no ok8 a2_8]⟩, rfl⟩
set_option maxRecDepth 100000 in
set_option maxHeartbeats 2000000 in
theorem c_readStride (X : Mm) (R : Int → Int) (t : Int → Int) (n : Int) (hT : TC (sr X 59 R) t) (hn : R 1 = n) (hI : HI X 40) (hR : 0 ≤ R 3 ∧ R 3 ≤ n) : Ct 48 [vr 59, vr 40] (sr X 59 R) (fun q0 M' => OutC X n (itS t (R 3) X) q0 M') := by
  obtain ⟨iF, iG, iK, iH, iFa, aF, aG, lS, lN, lM, rS, rN, rM, aK⟩ := (show (0 ≤ X 40 0 ∧ X 40 0 ≤ 3) ∧ (0 ≤ X 40 1 ∧ X 40 1 ≤ 6) ∧ (0 ≤ X 40 2 ∧ X 40 2 ≤ 8) ∧ (0 ≤ X 45 16 ∧ X 45 16 ≤ 9999) ∧ (0 ≤ X 45 15 ∧ X 45 15 ≤ 9000) ∧ (∀ f : Int, 0 ≤ f → f < X 40 0 → (0 ≤ X 41 f ∧ X 41 f ≤ 5) ∧ (1 ≤ X 45 (12 + f) ∧ X 45 (12 + f) ≤ 10)) ∧ (∀ i : Int, 0 ≤ i → i < X 40 1 → (0 ≤ X 42 i ∧ X 42 i ≤ 5) ∧ (1 ≤ X 43 i ∧ X 43 i ≤ 4) ∧ (0 ≤ X 44 i ∧ X 44 i < X 40 0) ∧ (0 ≤ X 45 i ∧ X 45 i ≤ 11) ∧ (0 ≤ X 45 (6 + i) ∧ X 45 (6 + i) ≤ 9)) ∧ (X 47 0 = 4 ∧ X 47 1 = 5 ∧ 0 ≤ X 47 3 ∧ X 47 3 ≤ 5) ∧ (X 49 0 = 3 ∧ X 49 1 = 6 ∧ 0 ≤ X 49 3 ∧ X 49 3 ≤ 6) ∧ (X 51 0 = 5 ∧ X 51 1 = 6 ∧ 0 ≤ X 51 3 ∧ X 51 3 ≤ 6) ∧ (∀ n : Int, 0 ≤ n → n < X 47 3 → (0 ≤ X 48 (n * 4 + 0) ∧ X 48 (n * 4 + 0) ≤ 2) ∧ (1 ≤ X 48 (n * 4 + 1) ∧ X 48 (n * 4 + 1) ≤ 10) ∧ (0 ≤ X 48 (n * 4 + 2) ∧ X 48 (n * 4 + 2) ≤ 23) ∧ (0 ≤ X 48 (n * 4 + 3) ∧ X 48 (n * 4 + 3) ≤ 1)) ∧ (∀ n : Int, 0 ≤ n → n < X 49 3 → (0 ≤ X 50 (n * 3 + 0) ∧ X 50 (n * 3 + 0) ≤ 2) ∧ (0 ≤ X 50 (n * 3 + 1) ∧ X 50 (n * 3 + 1) ≤ 23) ∧ (0 ≤ X 50 (n * 3 + 2) ∧ X 50 (n * 3 + 2) ≤ 9)) ∧ (∀ n : Int, 0 ≤ n → n < X 51 3 → (0 ≤ X 52 (n * 5 + 0) ∧ X 52 (n * 5 + 0) ≤ 5) ∧ (1 ≤ X 52 (n * 5 + 1) ∧ X 52 (n * 5 + 1) ≤ 4) ∧ (0 ≤ X 52 (n * 5 + 2) ∧ X 52 (n * 5 + 2) ≤ 9) ∧ (0 ≤ X 52 (n * 5 + 3) ∧ X 52 (n * 5 + 3) ≤ 23) ∧ (0 ≤ X 52 (n * 5 + 4) ∧ X 52 (n * 5 + 4) ≤ 9)) ∧ (∀ k : Int, 0 ≤ k → k < X 40 2 → (0 ≤ X 46 (k * 17 + 16) ∧ X 46 (k * 17 + 16) ≤ 9999) ∧ (0 ≤ X 46 (k * 17 + 15) ∧ X 46 (k * 17 + 15) ≤ 9000) ∧ (∀ f : Int, 0 ≤ f → f < X 40 0 → (1 ≤ X 46 (k * 17 + (12 + f)) ∧ X 46 (k * 17 + (12 + f)) ≤ 10)) ∧ (∀ i : Int, 0 ≤ i → i < X 40 1 → (0 ≤ X 46 (k * 17 + i) ∧ X 46 (k * 17 + i) ≤ 11) ∧ (0 ≤ X 46 (k * 17 + (6 + i)) ∧ X 46 (k * 17 + (6 + i)) ≤ 9))) from hI)
  have hTX : TX t n := by rw [← hn]; exact hT.1
  have tx := hTX.1
  refine Hx.run 5 (pc' := 7) (L' := [some (vr 59), some (vr 40), none]) (st' := [vi 1, vi (X 40 1), vi 0, vr 59]) (M' := (sr X 59 R)) rfl ?_
  refine Hx.sub rfl (by omega) ?_
  refine Hx.call (t := 51) (as := [vr 59, vi 0, vi ((X 40 1) - 1)]) (pc' := 11) (rest := []) rfl (c_isNumber 0 ((X 40 1) - 1) (sr X 59 R) t (TC_R hT (by omega)) (by show 0 ≤ R 3 ∧ R 3 ≤ R 1; omega)) ?_
  rintro _ _ (⟨R8, z1, z2, z3, z5, zk, rfl, rfl⟩ | ⟨R8, z1, z2, zk, rfl, rfl⟩)
  · skip
    rw [sr_sr]
    have a1_8 : R8 1 = n := by have z : R8 1 = R 1 := z1; omega
    have a2_8 : R8 2 = (sk t (R 3)) := z2
    have rr8 := sk_rng (t := t) (n := n) (p := R 3) hTX (by omega)
    have a3_8 : R8 3 = fe t (sk t (R 3)) := z3
    have a5_8 : R8 5 = nv t (sk t (R 3)) (fe t (sk t (R 3))) := z5
    have fr8 := fe_rng (t := t) (n := n) (p := (sk t (R 3))) hTX (by omega)
    have ok8 : nOk t (sk t (R 3)) 0 ((X 40 1) - 1) := zk
    have kk8 := id ok8
    unfold nOk at kk8
    refine Hx.run 1 (pc' := 14) (L' := [some (vr 59), some (vr 40), none]) (st' := []) (M' := (sr X 59 R8)) rfl ?_
    have gg := aG (R8 5) (by omega) (by omega)
    have gf := aF (X 44 (R8 5)) (by omega) (by omega)
    have sR := sfF_rng (k := X 42 (R8 5)) (l := X 43 (R8 5)) (x := X 45 (6 + (R8 5))) (t := X 45 16 % 24) (by omega) (by omega)
    have rc : rch X (R8 5) = sfF (X 42 (R8 5)) (X 43 (R8 5)) (X 45 (6 + (R8 5))) (X 45 16 % 24) := rfl
    refine Hx.run 3 (pc' := 19) (L' := [some (vr 59), some (vr 40), none]) (st' := [vi (R8 5), vr 40]) (M' := (sr X 59 R8)) rfl ?_
    refine Hx.call (t := 26) (as := [vr 40, vi (R8 5)]) (pc' := 22) (rest := []) rfl (c_isOver_40 (R8 5) (sr X 59 R8) (by omega)) ?_
    rintro _ _ (⟨z, rfl, rfl⟩ | ⟨z, rfl, rfl⟩)
    · skip
      have ov : 11 ≤ X 45 (R8 5) := z
      refine Hx.run 2 (pc' := 26) (L' := [some (vr 59), some (vr 40), none]) (st' := [vi 0]) (M' := (sr X 59 R8)) rfl ?_
      refine Hx.ret rfl ?_
      first | exact ⟨R8, X, a1_8, fun _ _ => rfl, Or.inl ⟨rfl, by unfold itS; rw [itN_no ok8 a2_8]⟩, rfl⟩ | exact ⟨R8, X, a1_8, fun _ _ => rfl, Or.inl ⟨rfl, by unfold itS; rw [itN_yes ok8 a3_8 a5_8, if_pos ov, a2_8]⟩, rfl⟩
    · skip
      have ov : ¬ 11 ≤ X 45 (R8 5) := z
      refine Hx.run 8 (pc' := 36) (L' := [some (vr 59), some (vr 40), some (vi (R8 5))]) (st' := [vi (R8 5), vr 40, vi 1, vr 59]) (M' := (sr X 59 R8)) rfl ?_
      refine Hx.call (t := 30) (as := [vr 40, vi (R8 5)]) (pc' := 39) (rest := [vi 1, vr 59]) rfl (c_reach_40 (R8 5) (sr X 59 R8) (by exact ⟨by omega, gg.1, gg.2.1, ⟨gg.2.2.1.1, by show X 44 (R8 5) < 3; omega⟩, gg.2.2.2.1, gg.2.2.2.2⟩) (by show 0 ≤ X 45 16 ∧ X 45 16 ≤ 9999; omega)) ?_
      rintro _ _ ⟨rfl, rfl⟩
      refine Hx.run 0 (pc' := 39) (L' := [some (vr 59), some (vr 40), some (vi (R8 5))]) (st' := [vi (rch X (R8 5)), vi 1, vr 59]) (M' := (sr X 59 R8)) rfl ?_
      refine Hx.call (t := 51) (as := [vr 59, vi 1, vi (rch X (R8 5))]) (pc' := 42) (rest := []) rfl (c_isNumber 1 (rch X (R8 5)) (sr X 59 R8) t (TC_R hT (by omega)) (by show 0 ≤ R8 3 ∧ R8 3 ≤ R8 1; omega)) ?_
      rintro _ _ (⟨R39, z1, z2, z3, z5, zk, rfl, rfl⟩ | ⟨R39, z1, z2, zk, rfl, rfl⟩)
      · skip
        rw [sr_sr]
        have a1_39 : R39 1 = n := by have z : R39 1 = R8 1 := z1; omega
        have a2_39 : R39 2 = (sk t (R8 3)) := z2
        have rr39 := sk_rng (t := t) (n := n) (p := R8 3) hTX (by omega)
        have a3_39 : R39 3 = fe t (sk t (R8 3)) := z3
        have a5_39 : R39 5 = nv t (sk t (R8 3)) (fe t (sk t (R8 3))) := z5
        have fr39 := fe_rng (t := t) (n := n) (p := (sk t (R8 3))) hTX (by omega)
        have ok39 : nOk t (sk t (R8 3)) 1 (rch X (R8 5)) := zk
        have kk39 := id ok39
        unfold nOk at kk39
        refine Hx.run 5 (pc' := 53) (L' := [some (vr 59), some (vr 40), some (vi (R8 5))]) (st' := [vi (R39 5), vi (R8 5), vr 40]) (M' := (sr X 59 R39)) rfl ?_
        refine Hx.call (t := 33) (as := [vr 40, vi (R8 5), vi (R39 5)]) (pc' := 56) (rest := []) rfl (c_stride_40 (R8 5) (R39 5) (sr X 59 R39) (by exact ⟨by omega, gg.1, gg.2.1, ⟨gg.2.2.1.1, by show X 44 (R8 5) < 3; omega⟩, gg.2.2.2.1, gg.2.2.2.2⟩) (by exact ⟨⟨gg.2.2.1.1, by show X 44 (R8 5) < 3; omega⟩, gf.1, gf.2⟩) (by show 0 ≤ X 45 16 ∧ X 45 16 ≤ 9999; omega) (by omega) (by show 0 ≤ X 45 15 ∧ X 45 15 ≤ 9999; omega)) ?_
        rintro _ _ (⟨zh, rfl, rfl⟩ | ⟨zh, rfl, rfl⟩)
        · skip
          refine Hx.eq (st' := [vi 0]) rfl (show _ = (sr (adS X (R8 5) (R39 5)) 59 R39) from adS_fall zh) ?_
          refine Hx.run 2 (pc' := 58) (L' := [some (vr 59), some (vr 40), some (vi (R8 5))]) (st' := [vr 59]) (M' := (sr (adS X (R8 5) (R39 5)) 59 R39)) rfl ?_
          refine Hx.call (t := 50) (as := [vr 59]) (pc' := 61) (rest := []) rfl (c_stops (sr (adS X (R8 5) (R39 5)) 59 R39) t (TC_R2 fr_S hT (by omega)) (by show 0 ≤ R39 3 ∧ R39 3 ≤ R39 1; omega)) ?_
          rintro _ _ (⟨R58, z1, z2, z3, zk, rfl, rfl⟩ | ⟨R58, z1, z2, zk, rfl, rfl⟩)
          · skip
            rw [sr_sr]
            have a1_58 : R58 1 = n := by have z : R58 1 = R39 1 := z1; omega
            have a2_58 : R58 2 = (sk t (R39 3)) := z2
            have a3_58 : R58 3 = (sk t (R39 3)) + 1 := z3
            have ok58 : t (sk t (R39 3)) = 59 := zk
            refine Hx.ret rfl ?_
            exact ⟨R58, (adS X (R8 5) (R39 5)), a1_58, fr_S, Or.inr ⟨rfl, by unfold itS; rw [itN_yes ok8 a3_8 a5_8, if_neg ov, itN_yes ok39 a3_39 a5_39, itE_yes ok58 a3_58]⟩, rfl⟩
          · skip
            rw [sr_sr]
            have a1_58 : R58 1 = n := by have z : R58 1 = R39 1 := z1; omega
            have a2_58 : R58 2 = (sk t (R39 3)) := z2
            have ok58 : ¬ t (sk t (R39 3)) = 59 := zk
            refine Hx.ret rfl ?_
            exact ⟨R58, (adS X (R8 5) (R39 5)), a1_58, fr_S, Or.inl ⟨rfl, by unfold itS; rw [itN_yes ok8 a3_8 a5_8, if_neg ov, itN_yes ok39 a3_39 a5_39, itE_no ok58 a2_58]⟩, rfl⟩
        · skip
          refine Hx.eq (st' := [vi (min 11 ((X 45 (R8 5)) + (R39 5)))]) rfl (show _ = (sr (adS X (R8 5) (R39 5)) 59 R39) from adS_go zh) ?_
          refine Hx.run 2 (pc' := 58) (L' := [some (vr 59), some (vr 40), some (vi (R8 5))]) (st' := [vr 59]) (M' := (sr (adS X (R8 5) (R39 5)) 59 R39)) rfl ?_
          refine Hx.call (t := 50) (as := [vr 59]) (pc' := 61) (rest := []) rfl (c_stops (sr (adS X (R8 5) (R39 5)) 59 R39) t (TC_R2 fr_S hT (by omega)) (by show 0 ≤ R39 3 ∧ R39 3 ≤ R39 1; omega)) ?_
          rintro _ _ (⟨R58, z1, z2, z3, zk, rfl, rfl⟩ | ⟨R58, z1, z2, zk, rfl, rfl⟩)
          · skip
            rw [sr_sr]
            have a1_58 : R58 1 = n := by have z : R58 1 = R39 1 := z1; omega
            have a2_58 : R58 2 = (sk t (R39 3)) := z2
            have a3_58 : R58 3 = (sk t (R39 3)) + 1 := z3
            have ok58 : t (sk t (R39 3)) = 59 := zk
            refine Hx.ret rfl ?_
            exact ⟨R58, (adS X (R8 5) (R39 5)), a1_58, fr_S, Or.inr ⟨rfl, by unfold itS; rw [itN_yes ok8 a3_8 a5_8, if_neg ov, itN_yes ok39 a3_39 a5_39, itE_yes ok58 a3_58]⟩, rfl⟩
          · skip
            rw [sr_sr]
            have a1_58 : R58 1 = n := by have z : R58 1 = R39 1 := z1; omega
            have a2_58 : R58 2 = (sk t (R39 3)) := z2
            have ok58 : ¬ t (sk t (R39 3)) = 59 := zk
            refine Hx.ret rfl ?_
            exact ⟨R58, (adS X (R8 5) (R39 5)), a1_58, fr_S, Or.inl ⟨rfl, by unfold itS; rw [itN_yes ok8 a3_8 a5_8, if_neg ov, itN_yes ok39 a3_39 a5_39, itE_no ok58 a2_58]⟩, rfl⟩
      · skip
        rw [sr_sr]
        have a1_39 : R39 1 = n := by have z : R39 1 = R8 1 := z1; omega
        have a2_39 : R39 2 = (sk t (R8 3)) := z2
        have rr39 := sk_rng (t := t) (n := n) (p := R8 3) hTX (by omega)
        have ok39 : ¬ nOk t (sk t (R8 3)) 1 (rch X (R8 5)) := zk
        refine Hx.run 2 (pc' := 46) (L' := [some (vr 59), some (vr 40), some (vi (R8 5))]) (st' := [vi 0]) (M' := (sr X 59 R39)) rfl ?_
        refine Hx.ret rfl ?_
        exact ⟨R39, X, a1_39, fun _ _ => rfl, Or.inl ⟨rfl, by unfold itS; rw [itN_yes ok8 a3_8 a5_8, if_neg ov, itN_no ok39 a2_39]⟩, rfl⟩
  · skip
    rw [sr_sr]
    have a1_8 : R8 1 = n := by have z : R8 1 = R 1 := z1; omega
    have a2_8 : R8 2 = (sk t (R 3)) := z2
    have rr8 := sk_rng (t := t) (n := n) (p := R 3) hTX (by omega)
    have ok8 : ¬ nOk t (sk t (R 3)) 0 ((X 40 1) - 1) := zk
    refine Hx.run 2 (pc' := 26) (L' := [some (vr 59), some (vr 40), none]) (st' := [vi 0]) (M' := (sr X 59 R8)) rfl ?_
    refine Hx.ret rfl ?_
    first | exact ⟨R8, X, a1_8, fun _ _ => rfl, Or.inl ⟨rfl, by unfold itS; rw [itN_no ok8 a2_8]⟩, rfl⟩ | exact ⟨R8, X, a1_8, fun _ _ => rfl, Or.inl ⟨rfl, by unfold itS; rw [itN_yes ok8 a3_8 a5_8, if_pos ov, a2_8]⟩, rfl⟩
set_option maxRecDepth 100000 in
set_option maxHeartbeats 2000000 in
theorem c_readHours (X : Mm) (R : Int → Int) (t : Int → Int) (n : Int) (hT : TC (sr X 59 R) t) (hn : R 1 = n) (hI : HI X 40) (hR : 0 ≤ R 3 ∧ R 3 ≤ n) : Ct 49 [vr 59, vr 40] (sr X 59 R) (fun q0 M' => OutC X n (itH t (R 3) X) q0 M') := by
  obtain ⟨iF, iG, iK, iH, iFa, aF, aG, lS, lN, lM, rS, rN, rM, aK⟩ := (show (0 ≤ X 40 0 ∧ X 40 0 ≤ 3) ∧ (0 ≤ X 40 1 ∧ X 40 1 ≤ 6) ∧ (0 ≤ X 40 2 ∧ X 40 2 ≤ 8) ∧ (0 ≤ X 45 16 ∧ X 45 16 ≤ 9999) ∧ (0 ≤ X 45 15 ∧ X 45 15 ≤ 9000) ∧ (∀ f : Int, 0 ≤ f → f < X 40 0 → (0 ≤ X 41 f ∧ X 41 f ≤ 5) ∧ (1 ≤ X 45 (12 + f) ∧ X 45 (12 + f) ≤ 10)) ∧ (∀ i : Int, 0 ≤ i → i < X 40 1 → (0 ≤ X 42 i ∧ X 42 i ≤ 5) ∧ (1 ≤ X 43 i ∧ X 43 i ≤ 4) ∧ (0 ≤ X 44 i ∧ X 44 i < X 40 0) ∧ (0 ≤ X 45 i ∧ X 45 i ≤ 11) ∧ (0 ≤ X 45 (6 + i) ∧ X 45 (6 + i) ≤ 9)) ∧ (X 47 0 = 4 ∧ X 47 1 = 5 ∧ 0 ≤ X 47 3 ∧ X 47 3 ≤ 5) ∧ (X 49 0 = 3 ∧ X 49 1 = 6 ∧ 0 ≤ X 49 3 ∧ X 49 3 ≤ 6) ∧ (X 51 0 = 5 ∧ X 51 1 = 6 ∧ 0 ≤ X 51 3 ∧ X 51 3 ≤ 6) ∧ (∀ n : Int, 0 ≤ n → n < X 47 3 → (0 ≤ X 48 (n * 4 + 0) ∧ X 48 (n * 4 + 0) ≤ 2) ∧ (1 ≤ X 48 (n * 4 + 1) ∧ X 48 (n * 4 + 1) ≤ 10) ∧ (0 ≤ X 48 (n * 4 + 2) ∧ X 48 (n * 4 + 2) ≤ 23) ∧ (0 ≤ X 48 (n * 4 + 3) ∧ X 48 (n * 4 + 3) ≤ 1)) ∧ (∀ n : Int, 0 ≤ n → n < X 49 3 → (0 ≤ X 50 (n * 3 + 0) ∧ X 50 (n * 3 + 0) ≤ 2) ∧ (0 ≤ X 50 (n * 3 + 1) ∧ X 50 (n * 3 + 1) ≤ 23) ∧ (0 ≤ X 50 (n * 3 + 2) ∧ X 50 (n * 3 + 2) ≤ 9)) ∧ (∀ n : Int, 0 ≤ n → n < X 51 3 → (0 ≤ X 52 (n * 5 + 0) ∧ X 52 (n * 5 + 0) ≤ 5) ∧ (1 ≤ X 52 (n * 5 + 1) ∧ X 52 (n * 5 + 1) ≤ 4) ∧ (0 ≤ X 52 (n * 5 + 2) ∧ X 52 (n * 5 + 2) ≤ 9) ∧ (0 ≤ X 52 (n * 5 + 3) ∧ X 52 (n * 5 + 3) ≤ 23) ∧ (0 ≤ X 52 (n * 5 + 4) ∧ X 52 (n * 5 + 4) ≤ 9)) ∧ (∀ k : Int, 0 ≤ k → k < X 40 2 → (0 ≤ X 46 (k * 17 + 16) ∧ X 46 (k * 17 + 16) ≤ 9999) ∧ (0 ≤ X 46 (k * 17 + 15) ∧ X 46 (k * 17 + 15) ≤ 9000) ∧ (∀ f : Int, 0 ≤ f → f < X 40 0 → (1 ≤ X 46 (k * 17 + (12 + f)) ∧ X 46 (k * 17 + (12 + f)) ≤ 10)) ∧ (∀ i : Int, 0 ≤ i → i < X 40 1 → (0 ≤ X 46 (k * 17 + i) ∧ X 46 (k * 17 + i) ≤ 11) ∧ (0 ≤ X 46 (k * 17 + (6 + i)) ∧ X 46 (k * 17 + (6 + i)) ≤ 9))) from hI)
  have hTX : TX t n := by rw [← hn]; exact hT.1
  have tx := hTX.1
  refine Hx.run 3 (pc' := 4) (L' := [some (vr 59), some (vr 40)]) (st' := [vi 99, vi 1, vr 59]) (M' := (sr X 59 R)) rfl ?_
  refine Hx.call (t := 51) (as := [vr 59, vi 1, vi 99]) (pc' := 7) (rest := []) rfl (c_isNumber 1 99 (sr X 59 R) t (TC_R hT (by omega)) (by show 0 ≤ R 3 ∧ R 3 ≤ R 1; omega)) ?_
  rintro _ _ (⟨R4, z1, z2, z3, z5, zk, rfl, rfl⟩ | ⟨R4, z1, z2, zk, rfl, rfl⟩)
  · skip
    rw [sr_sr]
    have a1_4 : R4 1 = n := by have z : R4 1 = R 1 := z1; omega
    have a2_4 : R4 2 = (sk t (R 3)) := z2
    have rr4 := sk_rng (t := t) (n := n) (p := R 3) hTX (by omega)
    have a3_4 : R4 3 = fe t (sk t (R 3)) := z3
    have a5_4 : R4 5 = nv t (sk t (R 3)) (fe t (sk t (R 3))) := z5
    have fr4 := fe_rng (t := t) (n := n) (p := (sk t (R 3))) hTX (by omega)
    have ok4 : nOk t (sk t (R 3)) 1 99 := zk
    have kk4 := id ok4
    unfold nOk at kk4
    refine Hx.run 4 (pc' := 17) (L' := [some (vr 59), some (vr 40)]) (st' := [vi (R4 5), vr 40]) (M' := (sr X 59 R4)) rfl ?_
    refine Hx.call (t := 25) (as := [vr 40, vi (R4 5)]) (pc' := 20) (rest := []) rfl (c_pass_40 (R4 5) (sr X 59 R4) (by omega) (by show 0 ≤ X 45 16 ∧ X 45 16 ≤ 9999; omega)) ?_
    rintro _ _ ⟨rfl, rfl⟩
    refine Hx.eq (st' := []) rfl (show _ = (sr (adH X (R4 5)) 59 R4) from adH_sr) ?_
    refine Hx.run 0 (pc' := 20) (L' := [some (vr 59), some (vr 40)]) (st' := []) (M' := (sr (adH X (R4 5)) 59 R4)) rfl ?_
    refine Hx.run 1 (pc' := 21) (L' := [some (vr 59), some (vr 40)]) (st' := [vr 59]) (M' := (sr (adH X (R4 5)) 59 R4)) rfl ?_
    refine Hx.call (t := 50) (as := [vr 59]) (pc' := 24) (rest := []) rfl (c_stops (sr (adH X (R4 5)) 59 R4) t (TC_R2 fr_H hT (by omega)) (by show 0 ≤ R4 3 ∧ R4 3 ≤ R4 1; omega)) ?_
    rintro _ _ (⟨R21, z1, z2, z3, zk, rfl, rfl⟩ | ⟨R21, z1, z2, zk, rfl, rfl⟩)
    · skip
      rw [sr_sr]
      have a1_21 : R21 1 = n := by have z : R21 1 = R4 1 := z1; omega
      have a2_21 : R21 2 = (sk t (R4 3)) := z2
      have a3_21 : R21 3 = (sk t (R4 3)) + 1 := z3
      have ok21 : t (sk t (R4 3)) = 59 := zk
      refine Hx.ret rfl ?_
      exact ⟨R21, (adH X (R4 5)), a1_21, fr_H, Or.inr ⟨rfl, by unfold itH; rw [itN_yes ok4 a3_4 a5_4, itE_yes ok21 a3_21]⟩, rfl⟩
    · skip
      rw [sr_sr]
      have a1_21 : R21 1 = n := by have z : R21 1 = R4 1 := z1; omega
      have a2_21 : R21 2 = (sk t (R4 3)) := z2
      have ok21 : ¬ t (sk t (R4 3)) = 59 := zk
      refine Hx.ret rfl ?_
      exact ⟨R21, (adH X (R4 5)), a1_21, fr_H, Or.inl ⟨rfl, by unfold itH; rw [itN_yes ok4 a3_4 a5_4, itE_no ok21 a2_21]⟩, rfl⟩
  · skip
    rw [sr_sr]
    have a1_4 : R4 1 = n := by have z : R4 1 = R 1 := z1; omega
    have a2_4 : R4 2 = (sk t (R 3)) := z2
    have rr4 := sk_rng (t := t) (n := n) (p := R 3) hTX (by omega)
    have ok4 : ¬ nOk t (sk t (R 3)) 1 99 := zk
    refine Hx.run 2 (pc' := 11) (L' := [some (vr 59), some (vr 40)]) (st' := [vi 0]) (M' := (sr X 59 R4)) rfl ?_
    refine Hx.ret rfl ?_
    exact ⟨R4, X, a1_4, fun _ _ => rfl, Or.inl ⟨rfl, by unfold itH; rw [itN_no ok4 a2_4]⟩, rfl⟩
