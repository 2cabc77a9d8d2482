/-! reading: the next token of the class (written by wip/whole/gen67.py) -/
theorem row_of {M M' : Mm} {r : Nat} (h : ∀ a, a ≠ r → M' a = M a) : sr M r (M' r) = M' := by
  funext a
  by_cases e : a = r
  · subst e; exact sr_at
  · rw [sr_ne e, h a e]
def NX (t : Int → Int) (s : Int) (R : Int → Int) : Prop := R 2 = s ∧ ((t s = -1 ∧ R 3 = s ∧ R 4 = 0) ∨ ((97 ≤ t s ∧ t s ≤ 122) ∧ R 3 = we t s ∧ R 4 = 1) ∨ ((48 ≤ t s ∧ t s ≤ 57) ∧ R 3 = fe t s ∧ ((fe t s - s ≤ 2 ∧ R 4 = 2 ∧ R 5 = nv t s (fe t s)) ∨ (2 < fe t s - s ∧ R 4 = 4))) ∨ (t s = 59 ∧ R 3 = s + 1 ∧ R 4 = 3) ∨ ((¬ t s = -1 ∧ ¬ (97 ≤ t s ∧ t s ≤ 122) ∧ ¬ (48 ≤ t s ∧ t s ≤ 57) ∧ ¬ t s = 59) ∧ R 3 = s + 1 ∧ R 4 = 4))
def nOk (t : Int → Int) (s lo hi : Int) : Prop := (1 ≤ fe t s - s ∧ fe t s - s ≤ 2) ∧ lo ≤ nv t s (fe t s) ∧ nv t s (fe t s) ≤ hi
def w1 (t : Int → Int) (s e : Int) : Prop := e - s = 8 ∧ t (s + 0) = 116 ∧ t (s + 1) = 101 ∧ t (s + 2) = 110 ∧ t (s + 3) = 101 ∧ t (s + 4) = 109 ∧ t (s + 5) = 101 ∧ t (s + 6) = 110 ∧ t (s + 7) = 116
def w2 (t : Int → Int) (s e : Int) : Prop := e - s = 6 ∧ t (s + 0) = 102 ∧ t (s + 1) = 108 ∧ t (s + 2) = 105 ∧ t (s + 3) = 103 ∧ t (s + 4) = 104 ∧ t (s + 5) = 116
def w3 (t : Int → Int) (s e : Int) : Prop := e - s = 4 ∧ t (s + 0) = 103 ∧ t (s + 1) = 111 ∧ t (s + 2) = 101 ∧ t (s + 3) = 114
def w4 (t : Int → Int) (s e : Int) : Prop := e - s = 4 ∧ t (s + 0) = 108 ∧ t (s + 1) = 111 ∧ t (s + 2) = 97 ∧ t (s + 3) = 100
def w5 (t : Int → Int) (s e : Int) : Prop := e - s = 6 ∧ t (s + 0) = 115 ∧ t (s + 1) = 116 ∧ t (s + 2) = 114 ∧ t (s + 3) = 105 ∧ t (s + 4) = 100 ∧ t (s + 5) = 101
def w6 (t : Int → Int) (s e : Int) : Prop := e - s = 5 ∧ t (s + 0) = 104 ∧ t (s + 1) = 111 ∧ t (s + 2) = 117 ∧ t (s + 3) = 114 ∧ t (s + 4) = 115
set_option maxRecDepth 100000 in
theorem cl_next (s : Int) (M : Mm) (t : Int → Int) (hT : TC M t) {P : Option PV → Mm → Prop} (hk : Hx 53 48 [some (vr 59)] [] (up M 59 2 s) P) : ∀ (kk : Nat) (q : Int), 0 ≤ q ∧ q ≤ M 59 1 → sk t q = s → M 59 1 - q < (kk : Int) → Hx 53 8 [some (vr 59)] [] (up M 59 2 q) P := by
  intro kk
  induction kk with
  | zero => intro q _ _ hkk; exact absurd hkk (by omega)
  | succ kk ih =>
    intro q hq hs hkk
    have tx := hT.1.1
    have tq : q < M 59 1 → t q = M 60 q := fun z => hT.2 q (by omega) z
    have tz : M 59 1 ≤ q → t q = -1 := fun z => hT.1.2.1 q z
    refine Hx.run 4 (pc' := 16) (L' := [some (vr 59)]) (st' := [vi (M 59 1), vi q]) (M' := (up M 59 2 q)) rfl ?_
    refine Hx.br (c := q < (M 59 1)) (t := 19) (f := 48) rfl (fun h1 => ?_) (fun h1 => ?_)
    · skip
      refine Hx.run 4 (pc' := 27) (L' := [some (vr 59)]) (st' := [vi q, vr 60]) (M' := (up M 59 2 q)) rfl ?_
      refine Hx.call (t := 121) (as := [vr 60, vi q]) (pc' := 30) (rest := []) rfl (c_at (r := 60) (n := 150) rfl (by decide) (i := q) (by omega) (up M 59 2 q)) ?_
      rintro _ _ ⟨rfl, rfl⟩
      refine Hx.run 0 (pc' := 30) (L' := [some (vr 59)]) (st' := [vi (M 60 q)]) (M' := (up M 59 2 q)) rfl ?_
      refine Hx.run 1 (pc' := 32) (L' := [some (vr 59)]) (st' := [vi 32, vi (M 60 q)]) (M' := (up M 59 2 q)) rfl ?_
      refine Hx.br (c := (M 60 q) = 32) (t := 35) (f := 48) rfl (fun h2 => ?_) (fun h2 => ?_)
      · skip
        refine Hx.run 4 (pc' := 41) (L' := [some (vr 59)]) (st' := [vi 1, vi q, vr 59]) (M' := (up M 59 2 q)) rfl ?_
        refine Hx.add rfl (by omega) ?_
        refine Hx.run 2 (pc' := 8) (L' := [some (vr 59)]) (st' := []) (M' := (up (up M 59 2 q) 59 2 (q + 1))) rfl ?_
        rw [up_up]
        exact ih (q + 1) (by omega) (by rw [← sk_go (by omega) (by omega)]; exact hs) (by omega)
      · skip
        refine Hx.run 0 (pc' := 48) (L' := [some (vr 59)]) (st' := []) (M' := (up M 59 2 q)) rfl ?_
        rw [sk_stop (by omega)] at hs
        rw [hs]
        exact hk
    · skip
      refine Hx.run 0 (pc' := 48) (L' := [some (vr 59)]) (st' := []) (M' := (up M 59 2 q)) rfl ?_
      rw [sk_stop (by omega)] at hs
      rw [hs]
      exact hk
set_option maxRecDepth 100000 in
theorem c_next (M : Mm) (t : Int → Int) (hT : TC M t) (hb : 0 ≤ M 59 3 ∧ M 59 3 ≤ M 59 1) : Ct 53 [vr 59] M (fun q0 M' => q0 = none ∧ ∃ R : Int → Int, NX t (sk t (M 59 3)) R ∧ R 1 = M 59 1 ∧ sr M 59 R = M') := by
  refine Hx.run 4 (pc' := 8) (L' := [some (vr 59)]) (st' := []) (M' := (up M 59 2 (M 59 3))) rfl ?_
  have hsr := sk_rng hT.1 hb.2
  have tx := hT.1.1
  refine cl_next (sk t (M 59 3)) M t hT ?_ 200 (M 59 3) hb rfl (by omega)
  generalize hs : (sk t (M 59 3)) = s at hsr ⊢
  have ts : s < M 59 1 → t s = M 60 s := fun z => hT.2 s (by omega) z
  have tz : M 59 1 ≤ s → t s = -1 := fun z => hT.1.2.1 s z
  have tr : s < M 59 1 → 0 ≤ t s ∧ t s ≤ 127 := fun z => hT.1.2.2 s (by omega) z
  have f1 := fe_1 (t := t) (p := s) (by omega)
  refine Hx.run 8 (pc' := 64) (L' := [some (vr 59)]) (st' := [vi (M 59 1), vi s]) (M' := (up (up M 59 2 s) 59 3 s)) rfl ?_
  refine Hx.br (c := s < (M 59 1)) (t := 75) (f := 67) rfl (fun h1 => ?_) (fun h1 => ?_)
  · skip
    refine Hx.run 3 (pc' := 80) (L' := [some (vr 59)]) (st' := [vi s, vr 59]) (M' := (up (up M 59 2 s) 59 3 s)) rfl ?_
    refine Hx.call (t := 56) (as := [vr 59, vi s]) (pc' := 83) (rest := []) rfl (c_isLetter s (up (up M 59 2 s) 59 3 s) (by omega)) ?_
    rintro _ _ (⟨q151, rfl, rfl⟩ | ⟨q151, rfl, rfl⟩)
    · skip
      have nq151 : (97 ≤ (M 60 s) ∧ (M 60 s) ≤ 122) := q151
      refine Hx.run 2 (pc' := 87) (L' := [some (vr 59)]) (st' := [vr 59]) (M' := (up (up M 59 2 s) 59 3 s)) rfl ?_
      refine Hx.call (t := 54) (as := [vr 59]) (pc' := 90) (rest := []) rfl (c_takeWord s (up (up M 59 2 s) 59 3 s) t (show TC (up (up M 59 2 s) 59 3 s) t from hT) (by show 0 ≤ s ∧ s ≤ M 59 1; omega) rfl) ?_
      rintro _ _ ⟨rfl, rfl⟩
      refine Hx.run 0 (pc' := 90) (L' := [some (vr 59)]) (st' := []) (M' := (up (up (up (up M 59 2 s) 59 3 s) 59 4 1) 59 3 (we t s))) rfl ?_
      refine Hx.run 1 (pc' := 146) (L' := [some (vr 59)]) (st' := []) (M' := (up (up (up (up M 59 2 s) 59 3 s) 59 4 1) 59 3 (we t s))) rfl ?_
      refine Hx.ret rfl ?_
      refine ⟨rfl, (up (up (up (up M 59 2 s) 59 3 s) 59 4 1) 59 3 (we t s)) 59, ⟨rfl, ?_⟩, rfl, row_of (fun a ha => by simp only [up_ne ha])⟩
      exact Or.inr (Or.inl ⟨by omega, rfl, rfl⟩)
    · skip
      have nq151 : ¬ (97 ≤ (M 60 s) ∧ (M 60 s) ≤ 122) := q151
      refine Hx.run 4 (pc' := 98) (L' := [some (vr 59)]) (st' := [vi s, vr 59]) (M' := (up (up M 59 2 s) 59 3 s)) rfl ?_
      refine Hx.call (t := 57) (as := [vr 59, vi s]) (pc' := 101) (rest := []) rfl (c_isFigure s (up (up M 59 2 s) 59 3 s) (by omega)) ?_
      rintro _ _ (⟨q152, rfl, rfl⟩ | ⟨q152, rfl, rfl⟩)
      · skip
        have nq152 : (48 ≤ (M 60 s) ∧ (M 60 s) ≤ 57) := q152
        refine Hx.run 2 (pc' := 105) (L' := [some (vr 59)]) (st' := [vr 59]) (M' := (up (up M 59 2 s) 59 3 s)) rfl ?_
        refine Hx.call (t := 55) (as := [vr 59]) (pc' := 108) (rest := []) rfl (c_takeNumber s (up (up M 59 2 s) 59 3 s) t (show TC (up (up M 59 2 s) 59 3 s) t from hT) rfl rfl (by show 0 ≤ s ∧ s ≤ M 59 1; omega) (by omega)) ?_
        rintro _ _ ⟨v, k, rfl, hvk, rfl⟩
        refine Hx.run 0 (pc' := 108) (L' := [some (vr 59)]) (st' := []) (M' := (up (up (up (up (up M 59 2 s) 59 3 s) 59 5 v) 59 3 (fe t s)) 59 4 k)) rfl ?_
        refine Hx.run 1 (pc' := 146) (L' := [some (vr 59)]) (st' := []) (M' := (up (up (up (up (up M 59 2 s) 59 3 s) 59 5 v) 59 3 (fe t s)) 59 4 k)) rfl ?_
        refine Hx.ret rfl ?_
        refine ⟨rfl, (up (up (up (up (up M 59 2 s) 59 3 s) 59 5 v) 59 3 (fe t s)) 59 4 k) 59, ⟨rfl, ?_⟩, rfl, row_of (fun a ha => by simp only [up_ne ha])⟩
        rcases hvk with ⟨a1, a2, a3⟩ | ⟨a1, a2⟩
        · exact Or.inr (Or.inr (Or.inl ⟨by omega, rfl, Or.inl ⟨a1, a2, a3⟩⟩))
        · exact Or.inr (Or.inr (Or.inl ⟨by omega, rfl, Or.inr ⟨a1, a2⟩⟩))
      · skip
        have nq152 : ¬ (48 ≤ (M 60 s) ∧ (M 60 s) ≤ 57) := q152
        refine Hx.run 6 (pc' := 120) (L' := [some (vr 59)]) (st' := [vi s, vr 60, vr 59]) (M' := (up (up M 59 2 s) 59 3 s)) rfl ?_
        refine Hx.call (t := 121) (as := [vr 60, vi s]) (pc' := 123) (rest := [vr 59]) rfl (c_at (r := 60) (n := 150) rfl (by decide) (i := s) (by omega) (up (up M 59 2 s) 59 3 s)) ?_
        rintro _ _ ⟨rfl, rfl⟩
        refine Hx.run 0 (pc' := 123) (L' := [some (vr 59)]) (st' := [vi (M 60 s), vr 59]) (M' := (up (up M 59 2 s) 59 3 s)) rfl ?_
        refine Hx.run 1 (pc' := 125) (L' := [some (vr 59)]) (st' := [vi 59, vi (M 60 s), vr 59]) (M' := (up (up M 59 2 s) 59 3 s)) rfl ?_
        refine Hx.br (c := (M 60 s) = 59) (t := 128) (f := 132) rfl (fun h2 => ?_) (fun h2 => ?_)
        · skip
          refine Hx.run 7 (pc' := 142) (L' := [some (vr 59)]) (st' := [vi 1, vi s, vr 59]) (M' := (up (up (up M 59 2 s) 59 3 s) 59 4 3)) rfl ?_
          refine Hx.add rfl (by omega) ?_
          refine Hx.run 1 (pc' := 146) (L' := [some (vr 59)]) (st' := []) (M' := (up (up (up (up M 59 2 s) 59 3 s) 59 4 3) 59 3 (s + 1))) rfl ?_
          refine Hx.ret rfl ?_
          refine ⟨rfl, (up (up (up (up M 59 2 s) 59 3 s) 59 4 3) 59 3 (s + 1)) 59, ⟨rfl, ?_⟩, rfl, row_of (fun a ha => by simp only [up_ne ha])⟩
          exact Or.inr (Or.inr (Or.inr (Or.inl ⟨by omega, rfl, rfl⟩)))
        · skip
          refine Hx.run 6 (pc' := 142) (L' := [some (vr 59)]) (st' := [vi 1, vi s, vr 59]) (M' := (up (up (up M 59 2 s) 59 3 s) 59 4 4)) rfl ?_
          refine Hx.add rfl (by omega) ?_
          refine Hx.run 1 (pc' := 146) (L' := [some (vr 59)]) (st' := []) (M' := (up (up (up (up M 59 2 s) 59 3 s) 59 4 4) 59 3 (s + 1))) rfl ?_
          refine Hx.ret rfl ?_
          refine ⟨rfl, (up (up (up (up M 59 2 s) 59 3 s) 59 4 4) 59 3 (s + 1)) 59, ⟨rfl, ?_⟩, rfl, row_of (fun a ha => by simp only [up_ne ha])⟩
          exact Or.inr (Or.inr (Or.inr (Or.inr ⟨by omega, rfl, rfl⟩)))
  · skip
    refine Hx.run 4 (pc' := 146) (L' := [some (vr 59)]) (st' := []) (M' := (up (up (up M 59 2 s) 59 3 s) 59 4 0)) rfl ?_
    refine Hx.ret rfl ?_
    refine ⟨rfl, (up (up (up M 59 2 s) 59 3 s) 59 4 0) 59, ⟨rfl, ?_⟩, rfl, row_of (fun a ha => by simp only [up_ne ha])⟩
    exact Or.inl ⟨by omega, rfl, rfl⟩
set_option maxRecDepth 100000 in
theorem c_isNumber (lo hi : Int) (M : Mm) (t : Int → Int) (hT : TC M t) (hb : 0 ≤ M 59 3 ∧ M 59 3 ≤ M 59 1) : Ct 51 [vr 59, vi lo, vi hi] M (fun q0 M' => (∃ R : Int → Int, R 1 = M 59 1 ∧ R 2 = (sk t (M 59 3)) ∧ R 3 = fe t (sk t (M 59 3)) ∧ R 5 = nv t (sk t (M 59 3)) (fe t (sk t (M 59 3))) ∧ nOk t (sk t (M 59 3)) lo hi ∧ q0 = some (vi 1) ∧ sr M 59 R = M') ∨ (∃ R : Int → Int, R 1 = M 59 1 ∧ R 2 = (sk t (M 59 3)) ∧ ¬ nOk t (sk t (M 59 3)) lo hi ∧ q0 = some (vi 0) ∧ sr M 59 R = M')) := by
  have hsr := sk_rng hT.1 hb.2
  have tx := hT.1.1
  have f1 := fe_1 (t := t) (p := (sk t (M 59 3))) (by omega)
  refine Hx.run 1 (pc' := 1) (L' := [some (vr 59), some (vi lo), some (vi hi)]) (st' := [vr 59]) (M' := M) rfl ?_
  refine Hx.call (t := 53) (as := [vr 59]) (pc' := 4) (rest := []) rfl (c_next M t (show TC M t from hT) (by show 0 ≤ (M 59 3) ∧ (M 59 3) ≤ (M 59 1); omega)) ?_
  rintro _ _ ⟨rfl, R153, hNR153, hLR153, rfl⟩
  have hXR153 : NX t (sk t (M 59 3)) R153 := hNR153
  have hlR153 : R153 1 = (M 59 1) := hLR153
  refine Hx.run 0 (pc' := 4) (L' := [some (vr 59), some (vi lo), some (vi hi)]) (st' := []) (M' := (sr M 59 R153)) rfl ?_
  refine Hx.run 3 (pc' := 9) (L' := [some (vr 59), some (vi lo), some (vi hi)]) (st' := [vi 2, vi (R153 4)]) (M' := (sr M 59 R153)) rfl ?_
  refine Hx.br (c := (R153 4) = 2) (t := 12) (f := 32) rfl (fun h1 => ?_) (fun h1 => ?_)
  · skip
    refine Hx.run 3 (pc' := 17) (L' := [some (vr 59), some (vi lo), some (vi hi)]) (st' := [vi lo, vi (R153 5)]) (M' := (sr M 59 R153)) rfl ?_
    refine Hx.br (c := (R153 5) < lo) (t := 32) (f := 20) rfl (fun h2 => ?_) (fun h2 => ?_)
    · skip
      refine Hx.run 1 (pc' := 33) (L' := [some (vr 59), some (vi lo), some (vi hi)]) (st' := [vi 0]) (M' := (sr M 59 R153)) rfl ?_
      refine Hx.ret rfl ?_
      obtain ⟨hR2, hC⟩ := hXR153
      exact Or.inr ⟨R153, hlR153, hR2, by unfold nOk; omega, rfl, rfl⟩
    · skip
      refine Hx.run 3 (pc' := 25) (L' := [some (vr 59), some (vi lo), some (vi hi)]) (st' := [vi hi, vi (R153 5)]) (M' := (sr M 59 R153)) rfl ?_
      refine Hx.br (c := hi < (R153 5)) (t := 32) (f := 28) rfl (fun h3 => ?_) (fun h3 => ?_)
      · skip
        refine Hx.run 1 (pc' := 33) (L' := [some (vr 59), some (vi lo), some (vi hi)]) (st' := [vi 0]) (M' := (sr M 59 R153)) rfl ?_
        refine Hx.ret rfl ?_
        obtain ⟨hR2, hC⟩ := hXR153
        exact Or.inr ⟨R153, hlR153, hR2, by unfold nOk; omega, rfl, rfl⟩
      · skip
        refine Hx.run 2 (pc' := 33) (L' := [some (vr 59), some (vi lo), some (vi hi)]) (st' := [vi 1]) (M' := (sr M 59 R153)) rfl ?_
        refine Hx.ret rfl ?_
        obtain ⟨hR2, hC⟩ := hXR153
        exact Or.inl ⟨R153, hlR153, hR2, by omega, by omega, by unfold nOk; omega, rfl, rfl⟩
  · skip
    refine Hx.run 1 (pc' := 33) (L' := [some (vr 59), some (vi lo), some (vi hi)]) (st' := [vi 0]) (M' := (sr M 59 R153)) rfl ?_
    refine Hx.ret rfl ?_
    obtain ⟨hR2, hC⟩ := hXR153
    exact Or.inr ⟨R153, hlR153, hR2, by unfold nOk; omega, rfl, rfl⟩
set_option maxRecDepth 100000 in
theorem c_stops (M : Mm) (t : Int → Int) (hT : TC M t) (hb : 0 ≤ M 59 3 ∧ M 59 3 ≤ M 59 1) : Ct 50 [vr 59] M (fun q0 M' => (∃ R : Int → Int, R 1 = M 59 1 ∧ R 2 = (sk t (M 59 3)) ∧ R 3 = (sk t (M 59 3)) + 1 ∧ t (sk t (M 59 3)) = 59 ∧ q0 = some (vi 1) ∧ sr M 59 R = M') ∨ (∃ R : Int → Int, R 1 = M 59 1 ∧ R 2 = (sk t (M 59 3)) ∧ ¬ t (sk t (M 59 3)) = 59 ∧ q0 = some (vi 0) ∧ sr M 59 R = M')) := by
  have hsr := sk_rng hT.1 hb.2
  have tx := hT.1.1
  have f1 := fe_1 (t := t) (p := (sk t (M 59 3))) (by omega)
  refine Hx.run 1 (pc' := 1) (L' := [some (vr 59)]) (st' := [vr 59]) (M' := M) rfl ?_
  refine Hx.call (t := 53) (as := [vr 59]) (pc' := 4) (rest := []) rfl (c_next M t (show TC M t from hT) (by show 0 ≤ (M 59 3) ∧ (M 59 3) ≤ (M 59 1); omega)) ?_
  rintro _ _ ⟨rfl, R154, hNR154, hLR154, rfl⟩
  have hXR154 : NX t (sk t (M 59 3)) R154 := hNR154
  have hlR154 : R154 1 = (M 59 1) := hLR154
  refine Hx.run 0 (pc' := 4) (L' := [some (vr 59)]) (st' := []) (M' := (sr M 59 R154)) rfl ?_
  refine Hx.run 3 (pc' := 9) (L' := [some (vr 59)]) (st' := [vi 3, vi (R154 4)]) (M' := (sr M 59 R154)) rfl ?_
  refine Hx.br (c := (R154 4) = 3) (t := 12) (f := 16) rfl (fun h1 => ?_) (fun h1 => ?_)
  · skip
    refine Hx.run 2 (pc' := 17) (L' := [some (vr 59)]) (st' := [vi 1]) (M' := (sr M 59 R154)) rfl ?_
    refine Hx.ret rfl ?_
    obtain ⟨hR2, hC⟩ := hXR154
    exact Or.inl ⟨R154, hlR154, hR2, by omega, by omega, rfl, rfl⟩
  · skip
    refine Hx.run 1 (pc' := 17) (L' := [some (vr 59)]) (st' := [vi 0]) (M' := (sr M 59 R154)) rfl ?_
    refine Hx.ret rfl ?_
    obtain ⟨hR2, hC⟩ := hXR154
    exact Or.inr ⟨R154, hlR154, hR2, by omega, rfl, rfl⟩
set_option maxRecDepth 100000 in
theorem c_movesOn (M : Mm) (t : Int → Int) (hT : TC M t) (hb : 0 ≤ M 59 3 ∧ M 59 3 ≤ M 59 1) : Ct 43 [vr 59] M (fun q0 M' => ∃ R : Int → Int, R 1 = M 59 1 ∧ NX t (sk t (M 59 3)) R ∧ ((¬ t (sk t (M 59 3)) = -1 ∧ q0 = some (vi 1)) ∨ (t (sk t (M 59 3)) = -1 ∧ q0 = some (vi 0))) ∧ sr M 59 R = M') := by
  have hsr := sk_rng hT.1 hb.2
  have tx := hT.1.1
  have f1 := fe_1 (t := t) (p := (sk t (M 59 3))) (by omega)
  refine Hx.run 1 (pc' := 1) (L' := [some (vr 59)]) (st' := [vr 59]) (M' := M) rfl ?_
  refine Hx.call (t := 53) (as := [vr 59]) (pc' := 4) (rest := []) rfl (c_next M t (show TC M t from hT) (by show 0 ≤ (M 59 3) ∧ (M 59 3) ≤ (M 59 1); omega)) ?_
  rintro _ _ ⟨rfl, R155, hNR155, hLR155, rfl⟩
  have hXR155 : NX t (sk t (M 59 3)) R155 := hNR155
  have hlR155 : R155 1 = (M 59 1) := hLR155
  refine Hx.run 0 (pc' := 4) (L' := [some (vr 59)]) (st' := []) (M' := (sr M 59 R155)) rfl ?_
  refine Hx.run 2 (pc' := 8) (L' := [some (vr 59)]) (st' := [vi (R155 4)]) (M' := (sr M 59 R155)) rfl ?_
  refine Hx.br (c := (R155 4) = 0) (t := 15) (f := 11) rfl (fun h1 => ?_) (fun h1 => ?_)
  · skip
    refine Hx.run 1 (pc' := 16) (L' := [some (vr 59)]) (st' := [vi 0]) (M' := (sr M 59 R155)) rfl ?_
    refine Hx.ret rfl ?_
    have hC := hXR155.2
    exact ⟨R155, hlR155, hXR155, Or.inr ⟨by omega, rfl⟩, rfl⟩
  · skip
    refine Hx.run 2 (pc' := 16) (L' := [some (vr 59)]) (st' := [vi 1]) (M' := (sr M 59 R155)) rfl ?_
    refine Hx.ret rfl ?_
    have hC := hXR155.2
    exact ⟨R155, hlR155, hXR155, Or.inl ⟨by omega, rfl⟩, rfl⟩
set_option maxRecDepth 100000 in
theorem c_isWord_1 (M : Mm) (t : Int → Int) (hT : TC M t) (h2 : 0 ≤ M 59 2) (h3 : M 59 2 ≤ M 59 3 ∧ M 59 3 ≤ M 59 1) : Ct 52 [vr 59, vr 500] M (fun q0 M' => ((M 59 4 = 1 ∧ w1 t (M 59 2) (M 59 3)) ∧ q0 = some (vi 1) ∧ M = M') ∨ (¬ (M 59 4 = 1 ∧ w1 t (M 59 2) (M 59 3)) ∧ q0 = some (vi 0) ∧ M = M')) := by
  have tx := hT.1.1
  have t0 : M 59 3 - M 59 2 = 8 → t (M 59 2 + 0) = M 60 (M 59 2 + 0) := fun z => hT.2 _ (by omega) (by omega)
  have t1 : M 59 3 - M 59 2 = 8 → t (M 59 2 + 1) = M 60 (M 59 2 + 1) := fun z => hT.2 _ (by omega) (by omega)
  have t2 : M 59 3 - M 59 2 = 8 → t (M 59 2 + 2) = M 60 (M 59 2 + 2) := fun z => hT.2 _ (by omega) (by omega)
  have t3 : M 59 3 - M 59 2 = 8 → t (M 59 2 + 3) = M 60 (M 59 2 + 3) := fun z => hT.2 _ (by omega) (by omega)
  have t4 : M 59 3 - M 59 2 = 8 → t (M 59 2 + 4) = M 60 (M 59 2 + 4) := fun z => hT.2 _ (by omega) (by omega)
  have t5 : M 59 3 - M 59 2 = 8 → t (M 59 2 + 5) = M 60 (M 59 2 + 5) := fun z => hT.2 _ (by omega) (by omega)
  have t6 : M 59 3 - M 59 2 = 8 → t (M 59 2 + 6) = M 60 (M 59 2 + 6) := fun z => hT.2 _ (by omega) (by omega)
  have t7 : M 59 3 - M 59 2 = 8 → t (M 59 2 + 7) = M 60 (M 59 2 + 7) := fun z => hT.2 _ (by omega) (by omega)
  refine Hx.run 3 (pc' := 5) (L' := [some (vr 59), some (vr 500), none]) (st' := [vi 1, vi (M 59 4)]) (M' := M) rfl ?_
  refine Hx.br (c := (M 59 4) = 1) (t := 8) (f := 24) rfl (fun h1 => ?_) (fun h1 => ?_)
  · skip
    refine Hx.run 4 (pc' := 16) (L' := [some (vr 59), some (vr 500), none]) (st' := [vi (M 59 2), vi (M 59 3)]) (M' := M) rfl ?_
    refine Hx.sub rfl (by omega) ?_
    refine Hx.run 1 (pc' := 18) (L' := [some (vr 59), some (vr 500), none]) (st' := [vr 500, vi ((M 59 3) - (M 59 2))]) (M' := M) rfl ?_
    refine Hx.run 1 (pc' := 21) (L' := [some (vr 59), some (vr 500), none]) (st' := [vi 8, vi ((M 59 3) - (M 59 2))]) (M' := M) rfl ?_
    refine Hx.br (c := ((M 59 3) - (M 59 2)) = 8) (t := 26) (f := 24) rfl (fun h2 => ?_) (fun h2 => ?_)
    · skip
      refine Hx.run 4 (pc' := 30) (L' := [some (vr 59), some (vr 500), some (vi 0)]) (st' := [vr 500, vi 0]) (M' := M) rfl ?_
      refine Hx.run 7 (pc' := 45) (L' := [some (vr 59), some (vr 500), some (vi 0)]) (st' := [vi 0, vi (M 59 2), vr 60]) (M' := M) rfl ?_
      refine Hx.add rfl (by omega) ?_
      refine Hx.call (t := 121) (as := [vr 60, vi ((M 59 2) + 0)]) (pc' := 49) (rest := []) rfl (c_at (r := 60) (n := 150) rfl (by decide) (i := ((M 59 2) + 0)) (by omega) M) ?_
      rintro _ _ ⟨rfl, rfl⟩
      refine Hx.run 0 (pc' := 49) (L' := [some (vr 59), some (vr 500), some (vi 0)]) (st' := [vi (M 60 ((M 59 2) + 0))]) (M' := M) rfl ?_
      refine Hx.run 2 (pc' := 51) (L' := [some (vr 59), some (vr 500), some (vi 0)]) (st' := [vi 0, vr 500, vi (M 60 ((M 59 2) + 0))]) (M' := M) rfl ?_
      refine Hx.run 1 (pc' := 54) (L' := [some (vr 59), some (vr 500), some (vi 0)]) (st' := [vi 116, vi (M 60 ((M 59 2) + 0))]) (M' := M) rfl ?_
      refine Hx.br (c := (M 60 ((M 59 2) + 0)) = 116) (t := 59) (f := 57) rfl (fun h3 => ?_) (fun h3 => ?_)
      · skip
        refine Hx.inc rfl rfl (by omega) ?_
        refine Hx.run 0 (pc' := 62) (L' := [some (vr 59), some (vr 500), some (vi 1)]) (st' := []) (M' := M) rfl ?_
        refine Hx.run 3 (pc' := 30) (L' := [some (vr 59), some (vr 500), some (vi 1)]) (st' := [vr 500, vi 1]) (M' := M) rfl ?_
        refine Hx.run 7 (pc' := 45) (L' := [some (vr 59), some (vr 500), some (vi 1)]) (st' := [vi 1, vi (M 59 2), vr 60]) (M' := M) rfl ?_
        refine Hx.add rfl (by omega) ?_
        refine Hx.call (t := 121) (as := [vr 60, vi ((M 59 2) + 1)]) (pc' := 49) (rest := []) rfl (c_at (r := 60) (n := 150) rfl (by decide) (i := ((M 59 2) + 1)) (by omega) M) ?_
        rintro _ _ ⟨rfl, rfl⟩
        refine Hx.run 0 (pc' := 49) (L' := [some (vr 59), some (vr 500), some (vi 1)]) (st' := [vi (M 60 ((M 59 2) + 1))]) (M' := M) rfl ?_
        refine Hx.run 2 (pc' := 51) (L' := [some (vr 59), some (vr 500), some (vi 1)]) (st' := [vi 1, vr 500, vi (M 60 ((M 59 2) + 1))]) (M' := M) rfl ?_
        refine Hx.run 1 (pc' := 54) (L' := [some (vr 59), some (vr 500), some (vi 1)]) (st' := [vi 101, vi (M 60 ((M 59 2) + 1))]) (M' := M) rfl ?_
        refine Hx.br (c := (M 60 ((M 59 2) + 1)) = 101) (t := 59) (f := 57) rfl (fun h4 => ?_) (fun h4 => ?_)
        · skip
          refine Hx.inc rfl rfl (by omega) ?_
          refine Hx.run 0 (pc' := 62) (L' := [some (vr 59), some (vr 500), some (vi 2)]) (st' := []) (M' := M) rfl ?_
          refine Hx.run 3 (pc' := 30) (L' := [some (vr 59), some (vr 500), some (vi 2)]) (st' := [vr 500, vi 2]) (M' := M) rfl ?_
          refine Hx.run 7 (pc' := 45) (L' := [some (vr 59), some (vr 500), some (vi 2)]) (st' := [vi 2, vi (M 59 2), vr 60]) (M' := M) rfl ?_
          refine Hx.add rfl (by omega) ?_
          refine Hx.call (t := 121) (as := [vr 60, vi ((M 59 2) + 2)]) (pc' := 49) (rest := []) rfl (c_at (r := 60) (n := 150) rfl (by decide) (i := ((M 59 2) + 2)) (by omega) M) ?_
          rintro _ _ ⟨rfl, rfl⟩
          refine Hx.run 0 (pc' := 49) (L' := [some (vr 59), some (vr 500), some (vi 2)]) (st' := [vi (M 60 ((M 59 2) + 2))]) (M' := M) rfl ?_
          refine Hx.run 2 (pc' := 51) (L' := [some (vr 59), some (vr 500), some (vi 2)]) (st' := [vi 2, vr 500, vi (M 60 ((M 59 2) + 2))]) (M' := M) rfl ?_
          refine Hx.run 1 (pc' := 54) (L' := [some (vr 59), some (vr 500), some (vi 2)]) (st' := [vi 110, vi (M 60 ((M 59 2) + 2))]) (M' := M) rfl ?_
          refine Hx.br (c := (M 60 ((M 59 2) + 2)) = 110) (t := 59) (f := 57) rfl (fun h5 => ?_) (fun h5 => ?_)
          · skip
            refine Hx.inc rfl rfl (by omega) ?_
            refine Hx.run 0 (pc' := 62) (L' := [some (vr 59), some (vr 500), some (vi 3)]) (st' := []) (M' := M) rfl ?_
            refine Hx.run 3 (pc' := 30) (L' := [some (vr 59), some (vr 500), some (vi 3)]) (st' := [vr 500, vi 3]) (M' := M) rfl ?_
            refine Hx.run 7 (pc' := 45) (L' := [some (vr 59), some (vr 500), some (vi 3)]) (st' := [vi 3, vi (M 59 2), vr 60]) (M' := M) rfl ?_
            refine Hx.add rfl (by omega) ?_
            refine Hx.call (t := 121) (as := [vr 60, vi ((M 59 2) + 3)]) (pc' := 49) (rest := []) rfl (c_at (r := 60) (n := 150) rfl (by decide) (i := ((M 59 2) + 3)) (by omega) M) ?_
            rintro _ _ ⟨rfl, rfl⟩
            refine Hx.run 0 (pc' := 49) (L' := [some (vr 59), some (vr 500), some (vi 3)]) (st' := [vi (M 60 ((M 59 2) + 3))]) (M' := M) rfl ?_
            refine Hx.run 2 (pc' := 51) (L' := [some (vr 59), some (vr 500), some (vi 3)]) (st' := [vi 3, vr 500, vi (M 60 ((M 59 2) + 3))]) (M' := M) rfl ?_
            refine Hx.run 1 (pc' := 54) (L' := [some (vr 59), some (vr 500), some (vi 3)]) (st' := [vi 101, vi (M 60 ((M 59 2) + 3))]) (M' := M) rfl ?_
            refine Hx.br (c := (M 60 ((M 59 2) + 3)) = 101) (t := 59) (f := 57) rfl (fun h6 => ?_) (fun h6 => ?_)
            · skip
              refine Hx.inc rfl rfl (by omega) ?_
              refine Hx.run 0 (pc' := 62) (L' := [some (vr 59), some (vr 500), some (vi 4)]) (st' := []) (M' := M) rfl ?_
              refine Hx.run 3 (pc' := 30) (L' := [some (vr 59), some (vr 500), some (vi 4)]) (st' := [vr 500, vi 4]) (M' := M) rfl ?_
              refine Hx.run 7 (pc' := 45) (L' := [some (vr 59), some (vr 500), some (vi 4)]) (st' := [vi 4, vi (M 59 2), vr 60]) (M' := M) rfl ?_
              refine Hx.add rfl (by omega) ?_
              refine Hx.call (t := 121) (as := [vr 60, vi ((M 59 2) + 4)]) (pc' := 49) (rest := []) rfl (c_at (r := 60) (n := 150) rfl (by decide) (i := ((M 59 2) + 4)) (by omega) M) ?_
              rintro _ _ ⟨rfl, rfl⟩
              refine Hx.run 0 (pc' := 49) (L' := [some (vr 59), some (vr 500), some (vi 4)]) (st' := [vi (M 60 ((M 59 2) + 4))]) (M' := M) rfl ?_
              refine Hx.run 2 (pc' := 51) (L' := [some (vr 59), some (vr 500), some (vi 4)]) (st' := [vi 4, vr 500, vi (M 60 ((M 59 2) + 4))]) (M' := M) rfl ?_
              refine Hx.run 1 (pc' := 54) (L' := [some (vr 59), some (vr 500), some (vi 4)]) (st' := [vi 109, vi (M 60 ((M 59 2) + 4))]) (M' := M) rfl ?_
              refine Hx.br (c := (M 60 ((M 59 2) + 4)) = 109) (t := 59) (f := 57) rfl (fun h7 => ?_) (fun h7 => ?_)
              · skip
                refine Hx.inc rfl rfl (by omega) ?_
                refine Hx.run 0 (pc' := 62) (L' := [some (vr 59), some (vr 500), some (vi 5)]) (st' := []) (M' := M) rfl ?_
                refine Hx.run 3 (pc' := 30) (L' := [some (vr 59), some (vr 500), some (vi 5)]) (st' := [vr 500, vi 5]) (M' := M) rfl ?_
                refine Hx.run 7 (pc' := 45) (L' := [some (vr 59), some (vr 500), some (vi 5)]) (st' := [vi 5, vi (M 59 2), vr 60]) (M' := M) rfl ?_
                refine Hx.add rfl (by omega) ?_
                refine Hx.call (t := 121) (as := [vr 60, vi ((M 59 2) + 5)]) (pc' := 49) (rest := []) rfl (c_at (r := 60) (n := 150) rfl (by decide) (i := ((M 59 2) + 5)) (by omega) M) ?_
                rintro _ _ ⟨rfl, rfl⟩
                refine Hx.run 0 (pc' := 49) (L' := [some (vr 59), some (vr 500), some (vi 5)]) (st' := [vi (M 60 ((M 59 2) + 5))]) (M' := M) rfl ?_
                refine Hx.run 2 (pc' := 51) (L' := [some (vr 59), some (vr 500), some (vi 5)]) (st' := [vi 5, vr 500, vi (M 60 ((M 59 2) + 5))]) (M' := M) rfl ?_
                refine Hx.run 1 (pc' := 54) (L' := [some (vr 59), some (vr 500), some (vi 5)]) (st' := [vi 101, vi (M 60 ((M 59 2) + 5))]) (M' := M) rfl ?_
                refine Hx.br (c := (M 60 ((M 59 2) + 5)) = 101) (t := 59) (f := 57) rfl (fun h8 => ?_) (fun h8 => ?_)
                · skip
                  refine Hx.inc rfl rfl (by omega) ?_
                  refine Hx.run 0 (pc' := 62) (L' := [some (vr 59), some (vr 500), some (vi 6)]) (st' := []) (M' := M) rfl ?_
                  refine Hx.run 3 (pc' := 30) (L' := [some (vr 59), some (vr 500), some (vi 6)]) (st' := [vr 500, vi 6]) (M' := M) rfl ?_
                  refine Hx.run 7 (pc' := 45) (L' := [some (vr 59), some (vr 500), some (vi 6)]) (st' := [vi 6, vi (M 59 2), vr 60]) (M' := M) rfl ?_
                  refine Hx.add rfl (by omega) ?_
                  refine Hx.call (t := 121) (as := [vr 60, vi ((M 59 2) + 6)]) (pc' := 49) (rest := []) rfl (c_at (r := 60) (n := 150) rfl (by decide) (i := ((M 59 2) + 6)) (by omega) M) ?_
                  rintro _ _ ⟨rfl, rfl⟩
                  refine Hx.run 0 (pc' := 49) (L' := [some (vr 59), some (vr 500), some (vi 6)]) (st' := [vi (M 60 ((M 59 2) + 6))]) (M' := M) rfl ?_
                  refine Hx.run 2 (pc' := 51) (L' := [some (vr 59), some (vr 500), some (vi 6)]) (st' := [vi 6, vr 500, vi (M 60 ((M 59 2) + 6))]) (M' := M) rfl ?_
                  refine Hx.run 1 (pc' := 54) (L' := [some (vr 59), some (vr 500), some (vi 6)]) (st' := [vi 110, vi (M 60 ((M 59 2) + 6))]) (M' := M) rfl ?_
                  refine Hx.br (c := (M 60 ((M 59 2) + 6)) = 110) (t := 59) (f := 57) rfl (fun h9 => ?_) (fun h9 => ?_)
                  · skip
                    refine Hx.inc rfl rfl (by omega) ?_
                    refine Hx.run 0 (pc' := 62) (L' := [some (vr 59), some (vr 500), some (vi 7)]) (st' := []) (M' := M) rfl ?_
                    refine Hx.run 3 (pc' := 30) (L' := [some (vr 59), some (vr 500), some (vi 7)]) (st' := [vr 500, vi 7]) (M' := M) rfl ?_
                    refine Hx.run 7 (pc' := 45) (L' := [some (vr 59), some (vr 500), some (vi 7)]) (st' := [vi 7, vi (M 59 2), vr 60]) (M' := M) rfl ?_
                    refine Hx.add rfl (by omega) ?_
                    refine Hx.call (t := 121) (as := [vr 60, vi ((M 59 2) + 7)]) (pc' := 49) (rest := []) rfl (c_at (r := 60) (n := 150) rfl (by decide) (i := ((M 59 2) + 7)) (by omega) M) ?_
                    rintro _ _ ⟨rfl, rfl⟩
                    refine Hx.run 0 (pc' := 49) (L' := [some (vr 59), some (vr 500), some (vi 7)]) (st' := [vi (M 60 ((M 59 2) + 7))]) (M' := M) rfl ?_
                    refine Hx.run 2 (pc' := 51) (L' := [some (vr 59), some (vr 500), some (vi 7)]) (st' := [vi 7, vr 500, vi (M 60 ((M 59 2) + 7))]) (M' := M) rfl ?_
                    refine Hx.run 1 (pc' := 54) (L' := [some (vr 59), some (vr 500), some (vi 7)]) (st' := [vi 116, vi (M 60 ((M 59 2) + 7))]) (M' := M) rfl ?_
                    refine Hx.br (c := (M 60 ((M 59 2) + 7)) = 116) (t := 59) (f := 57) rfl (fun h10 => ?_) (fun h10 => ?_)
                    · skip
                      refine Hx.inc rfl rfl (by omega) ?_
                      refine Hx.run 0 (pc' := 62) (L' := [some (vr 59), some (vr 500), some (vi 8)]) (st' := []) (M' := M) rfl ?_
                      refine Hx.run 3 (pc' := 30) (L' := [some (vr 59), some (vr 500), some (vi 8)]) (st' := [vr 500, vi 8]) (M' := M) rfl ?_
                      refine Hx.run 3 (pc' := 66) (L' := [some (vr 59), some (vr 500), some (vi 8)]) (st' := [vi 1]) (M' := M) rfl ?_
                      refine Hx.ret rfl ?_
                      first | exact Or.inl ⟨by unfold w1; omega, rfl, rfl⟩ | exact Or.inr ⟨by unfold w1; omega, rfl, rfl⟩
                    · skip
                      refine Hx.run 1 (pc' := 58) (L' := [some (vr 59), some (vr 500), some (vi 7)]) (st' := [vi 0]) (M' := M) rfl ?_
                      refine Hx.ret rfl ?_
                      first | exact Or.inl ⟨by unfold w1; omega, rfl, rfl⟩ | exact Or.inr ⟨by unfold w1; omega, rfl, rfl⟩
                  · skip
                    refine Hx.run 1 (pc' := 58) (L' := [some (vr 59), some (vr 500), some (vi 6)]) (st' := [vi 0]) (M' := M) rfl ?_
                    refine Hx.ret rfl ?_
                    first | exact Or.inl ⟨by unfold w1; omega, rfl, rfl⟩ | exact Or.inr ⟨by unfold w1; omega, rfl, rfl⟩
                · skip
                  refine Hx.run 1 (pc' := 58) (L' := [some (vr 59), some (vr 500), some (vi 5)]) (st' := [vi 0]) (M' := M) rfl ?_
                  refine Hx.ret rfl ?_
                  first | exact Or.inl ⟨by unfold w1; omega, rfl, rfl⟩ | exact Or.inr ⟨by unfold w1; omega, rfl, rfl⟩
              · skip
                refine Hx.run 1 (pc' := 58) (L' := [some (vr 59), some (vr 500), some (vi 4)]) (st' := [vi 0]) (M' := M) rfl ?_
                refine Hx.ret rfl ?_
                first | exact Or.inl ⟨by unfold w1; omega, rfl, rfl⟩ | exact Or.inr ⟨by unfold w1; omega, rfl, rfl⟩
            · skip
              refine Hx.run 1 (pc' := 58) (L' := [some (vr 59), some (vr 500), some (vi 3)]) (st' := [vi 0]) (M' := M) rfl ?_
              refine Hx.ret rfl ?_
              first | exact Or.inl ⟨by unfold w1; omega, rfl, rfl⟩ | exact Or.inr ⟨by unfold w1; omega, rfl, rfl⟩
          · skip
            refine Hx.run 1 (pc' := 58) (L' := [some (vr 59), some (vr 500), some (vi 2)]) (st' := [vi 0]) (M' := M) rfl ?_
            refine Hx.ret rfl ?_
            first | exact Or.inl ⟨by unfold w1; omega, rfl, rfl⟩ | exact Or.inr ⟨by unfold w1; omega, rfl, rfl⟩
        · skip
          refine Hx.run 1 (pc' := 58) (L' := [some (vr 59), some (vr 500), some (vi 1)]) (st' := [vi 0]) (M' := M) rfl ?_
          refine Hx.ret rfl ?_
          first | exact Or.inl ⟨by unfold w1; omega, rfl, rfl⟩ | exact Or.inr ⟨by unfold w1; omega, rfl, rfl⟩
      · skip
        refine Hx.run 1 (pc' := 58) (L' := [some (vr 59), some (vr 500), some (vi 0)]) (st' := [vi 0]) (M' := M) rfl ?_
        refine Hx.ret rfl ?_
        first | exact Or.inl ⟨by unfold w1; omega, rfl, rfl⟩ | exact Or.inr ⟨by unfold w1; omega, rfl, rfl⟩
    · skip
      refine Hx.run 1 (pc' := 25) (L' := [some (vr 59), some (vr 500), none]) (st' := [vi 0]) (M' := M) rfl ?_
      refine Hx.ret rfl ?_
      first | exact Or.inl ⟨by unfold w1; omega, rfl, rfl⟩ | exact Or.inr ⟨by unfold w1; omega, rfl, rfl⟩
  · skip
    refine Hx.run 1 (pc' := 25) (L' := [some (vr 59), some (vr 500), none]) (st' := [vi 0]) (M' := M) rfl ?_
    refine Hx.ret rfl ?_
    first | exact Or.inl ⟨by unfold w1; omega, rfl, rfl⟩ | exact Or.inr ⟨by unfold w1; omega, rfl, rfl⟩
set_option maxRecDepth 100000 in
theorem c_isWord_2 (M : Mm) (t : Int → Int) (hT : TC M t) (h2 : 0 ≤ M 59 2) (h3 : M 59 2 ≤ M 59 3 ∧ M 59 3 ≤ M 59 1) : Ct 52 [vr 59, vr 501] M (fun q0 M' => ((M 59 4 = 1 ∧ w2 t (M 59 2) (M 59 3)) ∧ q0 = some (vi 1) ∧ M = M') ∨ (¬ (M 59 4 = 1 ∧ w2 t (M 59 2) (M 59 3)) ∧ q0 = some (vi 0) ∧ M = M')) := by
  have tx := hT.1.1
  have t0 : M 59 3 - M 59 2 = 6 → t (M 59 2 + 0) = M 60 (M 59 2 + 0) := fun z => hT.2 _ (by omega) (by omega)
  have t1 : M 59 3 - M 59 2 = 6 → t (M 59 2 + 1) = M 60 (M 59 2 + 1) := fun z => hT.2 _ (by omega) (by omega)
  have t2 : M 59 3 - M 59 2 = 6 → t (M 59 2 + 2) = M 60 (M 59 2 + 2) := fun z => hT.2 _ (by omega) (by omega)
  have t3 : M 59 3 - M 59 2 = 6 → t (M 59 2 + 3) = M 60 (M 59 2 + 3) := fun z => hT.2 _ (by omega) (by omega)
  have t4 : M 59 3 - M 59 2 = 6 → t (M 59 2 + 4) = M 60 (M 59 2 + 4) := fun z => hT.2 _ (by omega) (by omega)
  have t5 : M 59 3 - M 59 2 = 6 → t (M 59 2 + 5) = M 60 (M 59 2 + 5) := fun z => hT.2 _ (by omega) (by omega)
  refine Hx.run 3 (pc' := 5) (L' := [some (vr 59), some (vr 501), none]) (st' := [vi 1, vi (M 59 4)]) (M' := M) rfl ?_
  refine Hx.br (c := (M 59 4) = 1) (t := 8) (f := 24) rfl (fun h1 => ?_) (fun h1 => ?_)
  · skip
    refine Hx.run 4 (pc' := 16) (L' := [some (vr 59), some (vr 501), none]) (st' := [vi (M 59 2), vi (M 59 3)]) (M' := M) rfl ?_
    refine Hx.sub rfl (by omega) ?_
    refine Hx.run 1 (pc' := 18) (L' := [some (vr 59), some (vr 501), none]) (st' := [vr 501, vi ((M 59 3) - (M 59 2))]) (M' := M) rfl ?_
    refine Hx.run 1 (pc' := 21) (L' := [some (vr 59), some (vr 501), none]) (st' := [vi 6, vi ((M 59 3) - (M 59 2))]) (M' := M) rfl ?_
    refine Hx.br (c := ((M 59 3) - (M 59 2)) = 6) (t := 26) (f := 24) rfl (fun h2 => ?_) (fun h2 => ?_)
    · skip
      refine Hx.run 4 (pc' := 30) (L' := [some (vr 59), some (vr 501), some (vi 0)]) (st' := [vr 501, vi 0]) (M' := M) rfl ?_
      refine Hx.run 7 (pc' := 45) (L' := [some (vr 59), some (vr 501), some (vi 0)]) (st' := [vi 0, vi (M 59 2), vr 60]) (M' := M) rfl ?_
      refine Hx.add rfl (by omega) ?_
      refine Hx.call (t := 121) (as := [vr 60, vi ((M 59 2) + 0)]) (pc' := 49) (rest := []) rfl (c_at (r := 60) (n := 150) rfl (by decide) (i := ((M 59 2) + 0)) (by omega) M) ?_
      rintro _ _ ⟨rfl, rfl⟩
      refine Hx.run 0 (pc' := 49) (L' := [some (vr 59), some (vr 501), some (vi 0)]) (st' := [vi (M 60 ((M 59 2) + 0))]) (M' := M) rfl ?_
      refine Hx.run 2 (pc' := 51) (L' := [some (vr 59), some (vr 501), some (vi 0)]) (st' := [vi 0, vr 501, vi (M 60 ((M 59 2) + 0))]) (M' := M) rfl ?_
      refine Hx.run 1 (pc' := 54) (L' := [some (vr 59), some (vr 501), some (vi 0)]) (st' := [vi 102, vi (M 60 ((M 59 2) + 0))]) (M' := M) rfl ?_
      refine Hx.br (c := (M 60 ((M 59 2) + 0)) = 102) (t := 59) (f := 57) rfl (fun h3 => ?_) (fun h3 => ?_)
      · skip
        refine Hx.inc rfl rfl (by omega) ?_
        refine Hx.run 0 (pc' := 62) (L' := [some (vr 59), some (vr 501), some (vi 1)]) (st' := []) (M' := M) rfl ?_
        refine Hx.run 3 (pc' := 30) (L' := [some (vr 59), some (vr 501), some (vi 1)]) (st' := [vr 501, vi 1]) (M' := M) rfl ?_
        refine Hx.run 7 (pc' := 45) (L' := [some (vr 59), some (vr 501), some (vi 1)]) (st' := [vi 1, vi (M 59 2), vr 60]) (M' := M) rfl ?_
        refine Hx.add rfl (by omega) ?_
        refine Hx.call (t := 121) (as := [vr 60, vi ((M 59 2) + 1)]) (pc' := 49) (rest := []) rfl (c_at (r := 60) (n := 150) rfl (by decide) (i := ((M 59 2) + 1)) (by omega) M) ?_
        rintro _ _ ⟨rfl, rfl⟩
        refine Hx.run 0 (pc' := 49) (L' := [some (vr 59), some (vr 501), some (vi 1)]) (st' := [vi (M 60 ((M 59 2) + 1))]) (M' := M) rfl ?_
        refine Hx.run 2 (pc' := 51) (L' := [some (vr 59), some (vr 501), some (vi 1)]) (st' := [vi 1, vr 501, vi (M 60 ((M 59 2) + 1))]) (M' := M) rfl ?_
        refine Hx.run 1 (pc' := 54) (L' := [some (vr 59), some (vr 501), some (vi 1)]) (st' := [vi 108, vi (M 60 ((M 59 2) + 1))]) (M' := M) rfl ?_
        refine Hx.br (c := (M 60 ((M 59 2) + 1)) = 108) (t := 59) (f := 57) rfl (fun h4 => ?_) (fun h4 => ?_)
        · skip
          refine Hx.inc rfl rfl (by omega) ?_
          refine Hx.run 0 (pc' := 62) (L' := [some (vr 59), some (vr 501), some (vi 2)]) (st' := []) (M' := M) rfl ?_
          refine Hx.run 3 (pc' := 30) (L' := [some (vr 59), some (vr 501), some (vi 2)]) (st' := [vr 501, vi 2]) (M' := M) rfl ?_
          refine Hx.run 7 (pc' := 45) (L' := [some (vr 59), some (vr 501), some (vi 2)]) (st' := [vi 2, vi (M 59 2), vr 60]) (M' := M) rfl ?_
          refine Hx.add rfl (by omega) ?_
          refine Hx.call (t := 121) (as := [vr 60, vi ((M 59 2) + 2)]) (pc' := 49) (rest := []) rfl (c_at (r := 60) (n := 150) rfl (by decide) (i := ((M 59 2) + 2)) (by omega) M) ?_
          rintro _ _ ⟨rfl, rfl⟩
          refine Hx.run 0 (pc' := 49) (L' := [some (vr 59), some (vr 501), some (vi 2)]) (st' := [vi (M 60 ((M 59 2) + 2))]) (M' := M) rfl ?_
          refine Hx.run 2 (pc' := 51) (L' := [some (vr 59), some (vr 501), some (vi 2)]) (st' := [vi 2, vr 501, vi (M 60 ((M 59 2) + 2))]) (M' := M) rfl ?_
          refine Hx.run 1 (pc' := 54) (L' := [some (vr 59), some (vr 501), some (vi 2)]) (st' := [vi 105, vi (M 60 ((M 59 2) + 2))]) (M' := M) rfl ?_
          refine Hx.br (c := (M 60 ((M 59 2) + 2)) = 105) (t := 59) (f := 57) rfl (fun h5 => ?_) (fun h5 => ?_)
          · skip
            refine Hx.inc rfl rfl (by omega) ?_
            refine Hx.run 0 (pc' := 62) (L' := [some (vr 59), some (vr 501), some (vi 3)]) (st' := []) (M' := M) rfl ?_
            refine Hx.run 3 (pc' := 30) (L' := [some (vr 59), some (vr 501), some (vi 3)]) (st' := [vr 501, vi 3]) (M' := M) rfl ?_
            refine Hx.run 7 (pc' := 45) (L' := [some (vr 59), some (vr 501), some (vi 3)]) (st' := [vi 3, vi (M 59 2), vr 60]) (M' := M) rfl ?_
            refine Hx.add rfl (by omega) ?_
            refine Hx.call (t := 121) (as := [vr 60, vi ((M 59 2) + 3)]) (pc' := 49) (rest := []) rfl (c_at (r := 60) (n := 150) rfl (by decide) (i := ((M 59 2) + 3)) (by omega) M) ?_
            rintro _ _ ⟨rfl, rfl⟩
            refine Hx.run 0 (pc' := 49) (L' := [some (vr 59), some (vr 501), some (vi 3)]) (st' := [vi (M 60 ((M 59 2) + 3))]) (M' := M) rfl ?_
            refine Hx.run 2 (pc' := 51) (L' := [some (vr 59), some (vr 501), some (vi 3)]) (st' := [vi 3, vr 501, vi (M 60 ((M 59 2) + 3))]) (M' := M) rfl ?_
            refine Hx.run 1 (pc' := 54) (L' := [some (vr 59), some (vr 501), some (vi 3)]) (st' := [vi 103, vi (M 60 ((M 59 2) + 3))]) (M' := M) rfl ?_
            refine Hx.br (c := (M 60 ((M 59 2) + 3)) = 103) (t := 59) (f := 57) rfl (fun h6 => ?_) (fun h6 => ?_)
            · skip
              refine Hx.inc rfl rfl (by omega) ?_
              refine Hx.run 0 (pc' := 62) (L' := [some (vr 59), some (vr 501), some (vi 4)]) (st' := []) (M' := M) rfl ?_
              refine Hx.run 3 (pc' := 30) (L' := [some (vr 59), some (vr 501), some (vi 4)]) (st' := [vr 501, vi 4]) (M' := M) rfl ?_
              refine Hx.run 7 (pc' := 45) (L' := [some (vr 59), some (vr 501), some (vi 4)]) (st' := [vi 4, vi (M 59 2), vr 60]) (M' := M) rfl ?_
              refine Hx.add rfl (by omega) ?_
              refine Hx.call (t := 121) (as := [vr 60, vi ((M 59 2) + 4)]) (pc' := 49) (rest := []) rfl (c_at (r := 60) (n := 150) rfl (by decide) (i := ((M 59 2) + 4)) (by omega) M) ?_
              rintro _ _ ⟨rfl, rfl⟩
              refine Hx.run 0 (pc' := 49) (L' := [some (vr 59), some (vr 501), some (vi 4)]) (st' := [vi (M 60 ((M 59 2) + 4))]) (M' := M) rfl ?_
              refine Hx.run 2 (pc' := 51) (L' := [some (vr 59), some (vr 501), some (vi 4)]) (st' := [vi 4, vr 501, vi (M 60 ((M 59 2) + 4))]) (M' := M) rfl ?_
              refine Hx.run 1 (pc' := 54) (L' := [some (vr 59), some (vr 501), some (vi 4)]) (st' := [vi 104, vi (M 60 ((M 59 2) + 4))]) (M' := M) rfl ?_
              refine Hx.br (c := (M 60 ((M 59 2) + 4)) = 104) (t := 59) (f := 57) rfl (fun h7 => ?_) (fun h7 => ?_)
              · skip
                refine Hx.inc rfl rfl (by omega) ?_
                refine Hx.run 0 (pc' := 62) (L' := [some (vr 59), some (vr 501), some (vi 5)]) (st' := []) (M' := M) rfl ?_
                refine Hx.run 3 (pc' := 30) (L' := [some (vr 59), some (vr 501), some (vi 5)]) (st' := [vr 501, vi 5]) (M' := M) rfl ?_
                refine Hx.run 7 (pc' := 45) (L' := [some (vr 59), some (vr 501), some (vi 5)]) (st' := [vi 5, vi (M 59 2), vr 60]) (M' := M) rfl ?_
                refine Hx.add rfl (by omega) ?_
                refine Hx.call (t := 121) (as := [vr 60, vi ((M 59 2) + 5)]) (pc' := 49) (rest := []) rfl (c_at (r := 60) (n := 150) rfl (by decide) (i := ((M 59 2) + 5)) (by omega) M) ?_
                rintro _ _ ⟨rfl, rfl⟩
                refine Hx.run 0 (pc' := 49) (L' := [some (vr 59), some (vr 501), some (vi 5)]) (st' := [vi (M 60 ((M 59 2) + 5))]) (M' := M) rfl ?_
                refine Hx.run 2 (pc' := 51) (L' := [some (vr 59), some (vr 501), some (vi 5)]) (st' := [vi 5, vr 501, vi (M 60 ((M 59 2) + 5))]) (M' := M) rfl ?_
                refine Hx.run 1 (pc' := 54) (L' := [some (vr 59), some (vr 501), some (vi 5)]) (st' := [vi 116, vi (M 60 ((M 59 2) + 5))]) (M' := M) rfl ?_
                refine Hx.br (c := (M 60 ((M 59 2) + 5)) = 116) (t := 59) (f := 57) rfl (fun h8 => ?_) (fun h8 => ?_)
                · skip
                  refine Hx.inc rfl rfl (by omega) ?_
                  refine Hx.run 0 (pc' := 62) (L' := [some (vr 59), some (vr 501), some (vi 6)]) (st' := []) (M' := M) rfl ?_
                  refine Hx.run 3 (pc' := 30) (L' := [some (vr 59), some (vr 501), some (vi 6)]) (st' := [vr 501, vi 6]) (M' := M) rfl ?_
                  refine Hx.run 3 (pc' := 66) (L' := [some (vr 59), some (vr 501), some (vi 6)]) (st' := [vi 1]) (M' := M) rfl ?_
                  refine Hx.ret rfl ?_
                  first | exact Or.inl ⟨by unfold w2; omega, rfl, rfl⟩ | exact Or.inr ⟨by unfold w2; omega, rfl, rfl⟩
                · skip
                  refine Hx.run 1 (pc' := 58) (L' := [some (vr 59), some (vr 501), some (vi 5)]) (st' := [vi 0]) (M' := M) rfl ?_
                  refine Hx.ret rfl ?_
                  first | exact Or.inl ⟨by unfold w2; omega, rfl, rfl⟩ | exact Or.inr ⟨by unfold w2; omega, rfl, rfl⟩
              · skip
                refine Hx.run 1 (pc' := 58) (L' := [some (vr 59), some (vr 501), some (vi 4)]) (st' := [vi 0]) (M' := M) rfl ?_
                refine Hx.ret rfl ?_
                first | exact Or.inl ⟨by unfold w2; omega, rfl, rfl⟩ | exact Or.inr ⟨by unfold w2; omega, rfl, rfl⟩
            · skip
              refine Hx.run 1 (pc' := 58) (L' := [some (vr 59), some (vr 501), some (vi 3)]) (st' := [vi 0]) (M' := M) rfl ?_
              refine Hx.ret rfl ?_
              first | exact Or.inl ⟨by unfold w2; omega, rfl, rfl⟩ | exact Or.inr ⟨by unfold w2; omega, rfl, rfl⟩
          · skip
            refine Hx.run 1 (pc' := 58) (L' := [some (vr 59), some (vr 501), some (vi 2)]) (st' := [vi 0]) (M' := M) rfl ?_
            refine Hx.ret rfl ?_
            first | exact Or.inl ⟨by unfold w2; omega, rfl, rfl⟩ | exact Or.inr ⟨by unfold w2; omega, rfl, rfl⟩
        · skip
          refine Hx.run 1 (pc' := 58) (L' := [some (vr 59), some (vr 501), some (vi 1)]) (st' := [vi 0]) (M' := M) rfl ?_
          refine Hx.ret rfl ?_
          first | exact Or.inl ⟨by unfold w2; omega, rfl, rfl⟩ | exact Or.inr ⟨by unfold w2; omega, rfl, rfl⟩
      · skip
        refine Hx.run 1 (pc' := 58) (L' := [some (vr 59), some (vr 501), some (vi 0)]) (st' := [vi 0]) (M' := M) rfl ?_
        refine Hx.ret rfl ?_
        first | exact Or.inl ⟨by unfold w2; omega, rfl, rfl⟩ | exact Or.inr ⟨by unfold w2; omega, rfl, rfl⟩
    · skip
      refine Hx.run 1 (pc' := 25) (L' := [some (vr 59), some (vr 501), none]) (st' := [vi 0]) (M' := M) rfl ?_
      refine Hx.ret rfl ?_
      first | exact Or.inl ⟨by unfold w2; omega, rfl, rfl⟩ | exact Or.inr ⟨by unfold w2; omega, rfl, rfl⟩
  · skip
    refine Hx.run 1 (pc' := 25) (L' := [some (vr 59), some (vr 501), none]) (st' := [vi 0]) (M' := M) rfl ?_
    refine Hx.ret rfl ?_
    first | exact Or.inl ⟨by unfold w2; omega, rfl, rfl⟩ | exact Or.inr ⟨by unfold w2; omega, rfl, rfl⟩
set_option maxRecDepth 100000 in
theorem c_isWord_3 (M : Mm) (t : Int → Int) (hT : TC M t) (h2 : 0 ≤ M 59 2) (h3 : M 59 2 ≤ M 59 3 ∧ M 59 3 ≤ M 59 1) : Ct 52 [vr 59, vr 502] M (fun q0 M' => ((M 59 4 = 1 ∧ w3 t (M 59 2) (M 59 3)) ∧ q0 = some (vi 1) ∧ M = M') ∨ (¬ (M 59 4 = 1 ∧ w3 t (M 59 2) (M 59 3)) ∧ q0 = some (vi 0) ∧ M = M')) := by
  have tx := hT.1.1
  have t0 : M 59 3 - M 59 2 = 4 → t (M 59 2 + 0) = M 60 (M 59 2 + 0) := fun z => hT.2 _ (by omega) (by omega)
  have t1 : M 59 3 - M 59 2 = 4 → t (M 59 2 + 1) = M 60 (M 59 2 + 1) := fun z => hT.2 _ (by omega) (by omega)
  have t2 : M 59 3 - M 59 2 = 4 → t (M 59 2 + 2) = M 60 (M 59 2 + 2) := fun z => hT.2 _ (by omega) (by omega)
  have t3 : M 59 3 - M 59 2 = 4 → t (M 59 2 + 3) = M 60 (M 59 2 + 3) := fun z => hT.2 _ (by omega) (by omega)
  refine Hx.run 3 (pc' := 5) (L' := [some (vr 59), some (vr 502), none]) (st' := [vi 1, vi (M 59 4)]) (M' := M) rfl ?_
  refine Hx.br (c := (M 59 4) = 1) (t := 8) (f := 24) rfl (fun h1 => ?_) (fun h1 => ?_)
  · skip
    refine Hx.run 4 (pc' := 16) (L' := [some (vr 59), some (vr 502), none]) (st' := [vi (M 59 2), vi (M 59 3)]) (M' := M) rfl ?_
    refine Hx.sub rfl (by omega) ?_
    refine Hx.run 1 (pc' := 18) (L' := [some (vr 59), some (vr 502), none]) (st' := [vr 502, vi ((M 59 3) - (M 59 2))]) (M' := M) rfl ?_
    refine Hx.run 1 (pc' := 21) (L' := [some (vr 59), some (vr 502), none]) (st' := [vi 4, vi ((M 59 3) - (M 59 2))]) (M' := M) rfl ?_
    refine Hx.br (c := ((M 59 3) - (M 59 2)) = 4) (t := 26) (f := 24) rfl (fun h2 => ?_) (fun h2 => ?_)
    · skip
      refine Hx.run 4 (pc' := 30) (L' := [some (vr 59), some (vr 502), some (vi 0)]) (st' := [vr 502, vi 0]) (M' := M) rfl ?_
      refine Hx.run 7 (pc' := 45) (L' := [some (vr 59), some (vr 502), some (vi 0)]) (st' := [vi 0, vi (M 59 2), vr 60]) (M' := M) rfl ?_
      refine Hx.add rfl (by omega) ?_
      refine Hx.call (t := 121) (as := [vr 60, vi ((M 59 2) + 0)]) (pc' := 49) (rest := []) rfl (c_at (r := 60) (n := 150) rfl (by decide) (i := ((M 59 2) + 0)) (by omega) M) ?_
      rintro _ _ ⟨rfl, rfl⟩
      refine Hx.run 0 (pc' := 49) (L' := [some (vr 59), some (vr 502), some (vi 0)]) (st' := [vi (M 60 ((M 59 2) + 0))]) (M' := M) rfl ?_
      refine Hx.run 2 (pc' := 51) (L' := [some (vr 59), some (vr 502), some (vi 0)]) (st' := [vi 0, vr 502, vi (M 60 ((M 59 2) + 0))]) (M' := M) rfl ?_
      refine Hx.run 1 (pc' := 54) (L' := [some (vr 59), some (vr 502), some (vi 0)]) (st' := [vi 103, vi (M 60 ((M 59 2) + 0))]) (M' := M) rfl ?_
      refine Hx.br (c := (M 60 ((M 59 2) + 0)) = 103) (t := 59) (f := 57) rfl (fun h3 => ?_) (fun h3 => ?_)
      · skip
        refine Hx.inc rfl rfl (by omega) ?_
        refine Hx.run 0 (pc' := 62) (L' := [some (vr 59), some (vr 502), some (vi 1)]) (st' := []) (M' := M) rfl ?_
        refine Hx.run 3 (pc' := 30) (L' := [some (vr 59), some (vr 502), some (vi 1)]) (st' := [vr 502, vi 1]) (M' := M) rfl ?_
        refine Hx.run 7 (pc' := 45) (L' := [some (vr 59), some (vr 502), some (vi 1)]) (st' := [vi 1, vi (M 59 2), vr 60]) (M' := M) rfl ?_
        refine Hx.add rfl (by omega) ?_
        refine Hx.call (t := 121) (as := [vr 60, vi ((M 59 2) + 1)]) (pc' := 49) (rest := []) rfl (c_at (r := 60) (n := 150) rfl (by decide) (i := ((M 59 2) + 1)) (by omega) M) ?_
        rintro _ _ ⟨rfl, rfl⟩
        refine Hx.run 0 (pc' := 49) (L' := [some (vr 59), some (vr 502), some (vi 1)]) (st' := [vi (M 60 ((M 59 2) + 1))]) (M' := M) rfl ?_
        refine Hx.run 2 (pc' := 51) (L' := [some (vr 59), some (vr 502), some (vi 1)]) (st' := [vi 1, vr 502, vi (M 60 ((M 59 2) + 1))]) (M' := M) rfl ?_
        refine Hx.run 1 (pc' := 54) (L' := [some (vr 59), some (vr 502), some (vi 1)]) (st' := [vi 111, vi (M 60 ((M 59 2) + 1))]) (M' := M) rfl ?_
        refine Hx.br (c := (M 60 ((M 59 2) + 1)) = 111) (t := 59) (f := 57) rfl (fun h4 => ?_) (fun h4 => ?_)
        · skip
          refine Hx.inc rfl rfl (by omega) ?_
          refine Hx.run 0 (pc' := 62) (L' := [some (vr 59), some (vr 502), some (vi 2)]) (st' := []) (M' := M) rfl ?_
          refine Hx.run 3 (pc' := 30) (L' := [some (vr 59), some (vr 502), some (vi 2)]) (st' := [vr 502, vi 2]) (M' := M) rfl ?_
          refine Hx.run 7 (pc' := 45) (L' := [some (vr 59), some (vr 502), some (vi 2)]) (st' := [vi 2, vi (M 59 2), vr 60]) (M' := M) rfl ?_
          refine Hx.add rfl (by omega) ?_
          refine Hx.call (t := 121) (as := [vr 60, vi ((M 59 2) + 2)]) (pc' := 49) (rest := []) rfl (c_at (r := 60) (n := 150) rfl (by decide) (i := ((M 59 2) + 2)) (by omega) M) ?_
          rintro _ _ ⟨rfl, rfl⟩
          refine Hx.run 0 (pc' := 49) (L' := [some (vr 59), some (vr 502), some (vi 2)]) (st' := [vi (M 60 ((M 59 2) + 2))]) (M' := M) rfl ?_
          refine Hx.run 2 (pc' := 51) (L' := [some (vr 59), some (vr 502), some (vi 2)]) (st' := [vi 2, vr 502, vi (M 60 ((M 59 2) + 2))]) (M' := M) rfl ?_
          refine Hx.run 1 (pc' := 54) (L' := [some (vr 59), some (vr 502), some (vi 2)]) (st' := [vi 101, vi (M 60 ((M 59 2) + 2))]) (M' := M) rfl ?_
          refine Hx.br (c := (M 60 ((M 59 2) + 2)) = 101) (t := 59) (f := 57) rfl (fun h5 => ?_) (fun h5 => ?_)
          · skip
            refine Hx.inc rfl rfl (by omega) ?_
            refine Hx.run 0 (pc' := 62) (L' := [some (vr 59), some (vr 502), some (vi 3)]) (st' := []) (M' := M) rfl ?_
            refine Hx.run 3 (pc' := 30) (L' := [some (vr 59), some (vr 502), some (vi 3)]) (st' := [vr 502, vi 3]) (M' := M) rfl ?_
            refine Hx.run 7 (pc' := 45) (L' := [some (vr 59), some (vr 502), some (vi 3)]) (st' := [vi 3, vi (M 59 2), vr 60]) (M' := M) rfl ?_
            refine Hx.add rfl (by omega) ?_
            refine Hx.call (t := 121) (as := [vr 60, vi ((M 59 2) + 3)]) (pc' := 49) (rest := []) rfl (c_at (r := 60) (n := 150) rfl (by decide) (i := ((M 59 2) + 3)) (by omega) M) ?_
            rintro _ _ ⟨rfl, rfl⟩
            refine Hx.run 0 (pc' := 49) (L' := [some (vr 59), some (vr 502), some (vi 3)]) (st' := [vi (M 60 ((M 59 2) + 3))]) (M' := M) rfl ?_
            refine Hx.run 2 (pc' := 51) (L' := [some (vr 59), some (vr 502), some (vi 3)]) (st' := [vi 3, vr 502, vi (M 60 ((M 59 2) + 3))]) (M' := M) rfl ?_
            refine Hx.run 1 (pc' := 54) (L' := [some (vr 59), some (vr 502), some (vi 3)]) (st' := [vi 114, vi (M 60 ((M 59 2) + 3))]) (M' := M) rfl ?_
            refine Hx.br (c := (M 60 ((M 59 2) + 3)) = 114) (t := 59) (f := 57) rfl (fun h6 => ?_) (fun h6 => ?_)
            · skip
              refine Hx.inc rfl rfl (by omega) ?_
              refine Hx.run 0 (pc' := 62) (L' := [some (vr 59), some (vr 502), some (vi 4)]) (st' := []) (M' := M) rfl ?_
              refine Hx.run 3 (pc' := 30) (L' := [some (vr 59), some (vr 502), some (vi 4)]) (st' := [vr 502, vi 4]) (M' := M) rfl ?_
              refine Hx.run 3 (pc' := 66) (L' := [some (vr 59), some (vr 502), some (vi 4)]) (st' := [vi 1]) (M' := M) rfl ?_
              refine Hx.ret rfl ?_
              first | exact Or.inl ⟨by unfold w3; omega, rfl, rfl⟩ | exact Or.inr ⟨by unfold w3; omega, rfl, rfl⟩
            · skip
              refine Hx.run 1 (pc' := 58) (L' := [some (vr 59), some (vr 502), some (vi 3)]) (st' := [vi 0]) (M' := M) rfl ?_
              refine Hx.ret rfl ?_
              first | exact Or.inl ⟨by unfold w3; omega, rfl, rfl⟩ | exact Or.inr ⟨by unfold w3; omega, rfl, rfl⟩
          · skip
            refine Hx.run 1 (pc' := 58) (L' := [some (vr 59), some (vr 502), some (vi 2)]) (st' := [vi 0]) (M' := M) rfl ?_
            refine Hx.ret rfl ?_
            first | exact Or.inl ⟨by unfold w3; omega, rfl, rfl⟩ | exact Or.inr ⟨by unfold w3; omega, rfl, rfl⟩
        · skip
          refine Hx.run 1 (pc' := 58) (L' := [some (vr 59), some (vr 502), some (vi 1)]) (st' := [vi 0]) (M' := M) rfl ?_
          refine Hx.ret rfl ?_
          first | exact Or.inl ⟨by unfold w3; omega, rfl, rfl⟩ | exact Or.inr ⟨by unfold w3; omega, rfl, rfl⟩
      · skip
        refine Hx.run 1 (pc' := 58) (L' := [some (vr 59), some (vr 502), some (vi 0)]) (st' := [vi 0]) (M' := M) rfl ?_
        refine Hx.ret rfl ?_
        first | exact Or.inl ⟨by unfold w3; omega, rfl, rfl⟩ | exact Or.inr ⟨by unfold w3; omega, rfl, rfl⟩
    · skip
      refine Hx.run 1 (pc' := 25) (L' := [some (vr 59), some (vr 502), none]) (st' := [vi 0]) (M' := M) rfl ?_
      refine Hx.ret rfl ?_
      first | exact Or.inl ⟨by unfold w3; omega, rfl, rfl⟩ | exact Or.inr ⟨by unfold w3; omega, rfl, rfl⟩
  · skip
    refine Hx.run 1 (pc' := 25) (L' := [some (vr 59), some (vr 502), none]) (st' := [vi 0]) (M' := M) rfl ?_
    refine Hx.ret rfl ?_
    first | exact Or.inl ⟨by unfold w3; omega, rfl, rfl⟩ | exact Or.inr ⟨by unfold w3; omega, rfl, rfl⟩
set_option maxRecDepth 100000 in
theorem c_isWord_4 (M : Mm) (t : Int → Int) (hT : TC M t) (h2 : 0 ≤ M 59 2) (h3 : M 59 2 ≤ M 59 3 ∧ M 59 3 ≤ M 59 1) : Ct 52 [vr 59, vr 503] M (fun q0 M' => ((M 59 4 = 1 ∧ w4 t (M 59 2) (M 59 3)) ∧ q0 = some (vi 1) ∧ M = M') ∨ (¬ (M 59 4 = 1 ∧ w4 t (M 59 2) (M 59 3)) ∧ q0 = some (vi 0) ∧ M = M')) := by
  have tx := hT.1.1
  have t0 : M 59 3 - M 59 2 = 4 → t (M 59 2 + 0) = M 60 (M 59 2 + 0) := fun z => hT.2 _ (by omega) (by omega)
  have t1 : M 59 3 - M 59 2 = 4 → t (M 59 2 + 1) = M 60 (M 59 2 + 1) := fun z => hT.2 _ (by omega) (by omega)
  have t2 : M 59 3 - M 59 2 = 4 → t (M 59 2 + 2) = M 60 (M 59 2 + 2) := fun z => hT.2 _ (by omega) (by omega)
  have t3 : M 59 3 - M 59 2 = 4 → t (M 59 2 + 3) = M 60 (M 59 2 + 3) := fun z => hT.2 _ (by omega) (by omega)
  refine Hx.run 3 (pc' := 5) (L' := [some (vr 59), some (vr 503), none]) (st' := [vi 1, vi (M 59 4)]) (M' := M) rfl ?_
  refine Hx.br (c := (M 59 4) = 1) (t := 8) (f := 24) rfl (fun h1 => ?_) (fun h1 => ?_)
  · skip
    refine Hx.run 4 (pc' := 16) (L' := [some (vr 59), some (vr 503), none]) (st' := [vi (M 59 2), vi (M 59 3)]) (M' := M) rfl ?_
    refine Hx.sub rfl (by omega) ?_
    refine Hx.run 1 (pc' := 18) (L' := [some (vr 59), some (vr 503), none]) (st' := [vr 503, vi ((M 59 3) - (M 59 2))]) (M' := M) rfl ?_
    refine Hx.run 1 (pc' := 21) (L' := [some (vr 59), some (vr 503), none]) (st' := [vi 4, vi ((M 59 3) - (M 59 2))]) (M' := M) rfl ?_
    refine Hx.br (c := ((M 59 3) - (M 59 2)) = 4) (t := 26) (f := 24) rfl (fun h2 => ?_) (fun h2 => ?_)
    · skip
      refine Hx.run 4 (pc' := 30) (L' := [some (vr 59), some (vr 503), some (vi 0)]) (st' := [vr 503, vi 0]) (M' := M) rfl ?_
      refine Hx.run 7 (pc' := 45) (L' := [some (vr 59), some (vr 503), some (vi 0)]) (st' := [vi 0, vi (M 59 2), vr 60]) (M' := M) rfl ?_
      refine Hx.add rfl (by omega) ?_
      refine Hx.call (t := 121) (as := [vr 60, vi ((M 59 2) + 0)]) (pc' := 49) (rest := []) rfl (c_at (r := 60) (n := 150) rfl (by decide) (i := ((M 59 2) + 0)) (by omega) M) ?_
      rintro _ _ ⟨rfl, rfl⟩
      refine Hx.run 0 (pc' := 49) (L' := [some (vr 59), some (vr 503), some (vi 0)]) (st' := [vi (M 60 ((M 59 2) + 0))]) (M' := M) rfl ?_
      refine Hx.run 2 (pc' := 51) (L' := [some (vr 59), some (vr 503), some (vi 0)]) (st' := [vi 0, vr 503, vi (M 60 ((M 59 2) + 0))]) (M' := M) rfl ?_
      refine Hx.run 1 (pc' := 54) (L' := [some (vr 59), some (vr 503), some (vi 0)]) (st' := [vi 108, vi (M 60 ((M 59 2) + 0))]) (M' := M) rfl ?_
      refine Hx.br (c := (M 60 ((M 59 2) + 0)) = 108) (t := 59) (f := 57) rfl (fun h3 => ?_) (fun h3 => ?_)
      · skip
        refine Hx.inc rfl rfl (by omega) ?_
        refine Hx.run 0 (pc' := 62) (L' := [some (vr 59), some (vr 503), some (vi 1)]) (st' := []) (M' := M) rfl ?_
        refine Hx.run 3 (pc' := 30) (L' := [some (vr 59), some (vr 503), some (vi 1)]) (st' := [vr 503, vi 1]) (M' := M) rfl ?_
        refine Hx.run 7 (pc' := 45) (L' := [some (vr 59), some (vr 503), some (vi 1)]) (st' := [vi 1, vi (M 59 2), vr 60]) (M' := M) rfl ?_
        refine Hx.add rfl (by omega) ?_
        refine Hx.call (t := 121) (as := [vr 60, vi ((M 59 2) + 1)]) (pc' := 49) (rest := []) rfl (c_at (r := 60) (n := 150) rfl (by decide) (i := ((M 59 2) + 1)) (by omega) M) ?_
        rintro _ _ ⟨rfl, rfl⟩
        refine Hx.run 0 (pc' := 49) (L' := [some (vr 59), some (vr 503), some (vi 1)]) (st' := [vi (M 60 ((M 59 2) + 1))]) (M' := M) rfl ?_
        refine Hx.run 2 (pc' := 51) (L' := [some (vr 59), some (vr 503), some (vi 1)]) (st' := [vi 1, vr 503, vi (M 60 ((M 59 2) + 1))]) (M' := M) rfl ?_
        refine Hx.run 1 (pc' := 54) (L' := [some (vr 59), some (vr 503), some (vi 1)]) (st' := [vi 111, vi (M 60 ((M 59 2) + 1))]) (M' := M) rfl ?_
        refine Hx.br (c := (M 60 ((M 59 2) + 1)) = 111) (t := 59) (f := 57) rfl (fun h4 => ?_) (fun h4 => ?_)
        · skip
          refine Hx.inc rfl rfl (by omega) ?_
          refine Hx.run 0 (pc' := 62) (L' := [some (vr 59), some (vr 503), some (vi 2)]) (st' := []) (M' := M) rfl ?_
          refine Hx.run 3 (pc' := 30) (L' := [some (vr 59), some (vr 503), some (vi 2)]) (st' := [vr 503, vi 2]) (M' := M) rfl ?_
          refine Hx.run 7 (pc' := 45) (L' := [some (vr 59), some (vr 503), some (vi 2)]) (st' := [vi 2, vi (M 59 2), vr 60]) (M' := M) rfl ?_
          refine Hx.add rfl (by omega) ?_
          refine Hx.call (t := 121) (as := [vr 60, vi ((M 59 2) + 2)]) (pc' := 49) (rest := []) rfl (c_at (r := 60) (n := 150) rfl (by decide) (i := ((M 59 2) + 2)) (by omega) M) ?_
          rintro _ _ ⟨rfl, rfl⟩
          refine Hx.run 0 (pc' := 49) (L' := [some (vr 59), some (vr 503), some (vi 2)]) (st' := [vi (M 60 ((M 59 2) + 2))]) (M' := M) rfl ?_
          refine Hx.run 2 (pc' := 51) (L' := [some (vr 59), some (vr 503), some (vi 2)]) (st' := [vi 2, vr 503, vi (M 60 ((M 59 2) + 2))]) (M' := M) rfl ?_
          refine Hx.run 1 (pc' := 54) (L' := [some (vr 59), some (vr 503), some (vi 2)]) (st' := [vi 97, vi (M 60 ((M 59 2) + 2))]) (M' := M) rfl ?_
          refine Hx.br (c := (M 60 ((M 59 2) + 2)) = 97) (t := 59) (f := 57) rfl (fun h5 => ?_) (fun h5 => ?_)
          · skip
            refine Hx.inc rfl rfl (by omega) ?_
            refine Hx.run 0 (pc' := 62) (L' := [some (vr 59), some (vr 503), some (vi 3)]) (st' := []) (M' := M) rfl ?_
            refine Hx.run 3 (pc' := 30) (L' := [some (vr 59), some (vr 503), some (vi 3)]) (st' := [vr 503, vi 3]) (M' := M) rfl ?_
            refine Hx.run 7 (pc' := 45) (L' := [some (vr 59), some (vr 503), some (vi 3)]) (st' := [vi 3, vi (M 59 2), vr 60]) (M' := M) rfl ?_
            refine Hx.add rfl (by omega) ?_
            refine Hx.call (t := 121) (as := [vr 60, vi ((M 59 2) + 3)]) (pc' := 49) (rest := []) rfl (c_at (r := 60) (n := 150) rfl (by decide) (i := ((M 59 2) + 3)) (by omega) M) ?_
            rintro _ _ ⟨rfl, rfl⟩
            refine Hx.run 0 (pc' := 49) (L' := [some (vr 59), some (vr 503), some (vi 3)]) (st' := [vi (M 60 ((M 59 2) + 3))]) (M' := M) rfl ?_
            refine Hx.run 2 (pc' := 51) (L' := [some (vr 59), some (vr 503), some (vi 3)]) (st' := [vi 3, vr 503, vi (M 60 ((M 59 2) + 3))]) (M' := M) rfl ?_
            refine Hx.run 1 (pc' := 54) (L' := [some (vr 59), some (vr 503), some (vi 3)]) (st' := [vi 100, vi (M 60 ((M 59 2) + 3))]) (M' := M) rfl ?_
            refine Hx.br (c := (M 60 ((M 59 2) + 3)) = 100) (t := 59) (f := 57) rfl (fun h6 => ?_) (fun h6 => ?_)
            · skip
              refine Hx.inc rfl rfl (by omega) ?_
              refine Hx.run 0 (pc' := 62) (L' := [some (vr 59), some (vr 503), some (vi 4)]) (st' := []) (M' := M) rfl ?_
              refine Hx.run 3 (pc' := 30) (L' := [some (vr 59), some (vr 503), some (vi 4)]) (st' := [vr 503, vi 4]) (M' := M) rfl ?_
              refine Hx.run 3 (pc' := 66) (L' := [some (vr 59), some (vr 503), some (vi 4)]) (st' := [vi 1]) (M' := M) rfl ?_
              refine Hx.ret rfl ?_
              first | exact Or.inl ⟨by unfold w4; omega, rfl, rfl⟩ | exact Or.inr ⟨by unfold w4; omega, rfl, rfl⟩
            · skip
              refine Hx.run 1 (pc' := 58) (L' := [some (vr 59), some (vr 503), some (vi 3)]) (st' := [vi 0]) (M' := M) rfl ?_
              refine Hx.ret rfl ?_
              first | exact Or.inl ⟨by unfold w4; omega, rfl, rfl⟩ | exact Or.inr ⟨by unfold w4; omega, rfl, rfl⟩
          · skip
            refine Hx.run 1 (pc' := 58) (L' := [some (vr 59), some (vr 503), some (vi 2)]) (st' := [vi 0]) (M' := M) rfl ?_
            refine Hx.ret rfl ?_
            first | exact Or.inl ⟨by unfold w4; omega, rfl, rfl⟩ | exact Or.inr ⟨by unfold w4; omega, rfl, rfl⟩
        · skip
          refine Hx.run 1 (pc' := 58) (L' := [some (vr 59), some (vr 503), some (vi 1)]) (st' := [vi 0]) (M' := M) rfl ?_
          refine Hx.ret rfl ?_
          first | exact Or.inl ⟨by unfold w4; omega, rfl, rfl⟩ | exact Or.inr ⟨by unfold w4; omega, rfl, rfl⟩
      · skip
        refine Hx.run 1 (pc' := 58) (L' := [some (vr 59), some (vr 503), some (vi 0)]) (st' := [vi 0]) (M' := M) rfl ?_
        refine Hx.ret rfl ?_
        first | exact Or.inl ⟨by unfold w4; omega, rfl, rfl⟩ | exact Or.inr ⟨by unfold w4; omega, rfl, rfl⟩
    · skip
      refine Hx.run 1 (pc' := 25) (L' := [some (vr 59), some (vr 503), none]) (st' := [vi 0]) (M' := M) rfl ?_
      refine Hx.ret rfl ?_
      first | exact Or.inl ⟨by unfold w4; omega, rfl, rfl⟩ | exact Or.inr ⟨by unfold w4; omega, rfl, rfl⟩
  · skip
    refine Hx.run 1 (pc' := 25) (L' := [some (vr 59), some (vr 503), none]) (st' := [vi 0]) (M' := M) rfl ?_
    refine Hx.ret rfl ?_
    first | exact Or.inl ⟨by unfold w4; omega, rfl, rfl⟩ | exact Or.inr ⟨by unfold w4; omega, rfl, rfl⟩
set_option maxRecDepth 100000 in
theorem c_isWord_5 (M : Mm) (t : Int → Int) (hT : TC M t) (h2 : 0 ≤ M 59 2) (h3 : M 59 2 ≤ M 59 3 ∧ M 59 3 ≤ M 59 1) : Ct 52 [vr 59, vr 504] M (fun q0 M' => ((M 59 4 = 1 ∧ w5 t (M 59 2) (M 59 3)) ∧ q0 = some (vi 1) ∧ M = M') ∨ (¬ (M 59 4 = 1 ∧ w5 t (M 59 2) (M 59 3)) ∧ q0 = some (vi 0) ∧ M = M')) := by
  have tx := hT.1.1
  have t0 : M 59 3 - M 59 2 = 6 → t (M 59 2 + 0) = M 60 (M 59 2 + 0) := fun z => hT.2 _ (by omega) (by omega)
  have t1 : M 59 3 - M 59 2 = 6 → t (M 59 2 + 1) = M 60 (M 59 2 + 1) := fun z => hT.2 _ (by omega) (by omega)
  have t2 : M 59 3 - M 59 2 = 6 → t (M 59 2 + 2) = M 60 (M 59 2 + 2) := fun z => hT.2 _ (by omega) (by omega)
  have t3 : M 59 3 - M 59 2 = 6 → t (M 59 2 + 3) = M 60 (M 59 2 + 3) := fun z => hT.2 _ (by omega) (by omega)
  have t4 : M 59 3 - M 59 2 = 6 → t (M 59 2 + 4) = M 60 (M 59 2 + 4) := fun z => hT.2 _ (by omega) (by omega)
  have t5 : M 59 3 - M 59 2 = 6 → t (M 59 2 + 5) = M 60 (M 59 2 + 5) := fun z => hT.2 _ (by omega) (by omega)
  refine Hx.run 3 (pc' := 5) (L' := [some (vr 59), some (vr 504), none]) (st' := [vi 1, vi (M 59 4)]) (M' := M) rfl ?_
  refine Hx.br (c := (M 59 4) = 1) (t := 8) (f := 24) rfl (fun h1 => ?_) (fun h1 => ?_)
  · skip
    refine Hx.run 4 (pc' := 16) (L' := [some (vr 59), some (vr 504), none]) (st' := [vi (M 59 2), vi (M 59 3)]) (M' := M) rfl ?_
    refine Hx.sub rfl (by omega) ?_
    refine Hx.run 1 (pc' := 18) (L' := [some (vr 59), some (vr 504), none]) (st' := [vr 504, vi ((M 59 3) - (M 59 2))]) (M' := M) rfl ?_
    refine Hx.run 1 (pc' := 21) (L' := [some (vr 59), some (vr 504), none]) (st' := [vi 6, vi ((M 59 3) - (M 59 2))]) (M' := M) rfl ?_
    refine Hx.br (c := ((M 59 3) - (M 59 2)) = 6) (t := 26) (f := 24) rfl (fun h2 => ?_) (fun h2 => ?_)
    · skip
      refine Hx.run 4 (pc' := 30) (L' := [some (vr 59), some (vr 504), some (vi 0)]) (st' := [vr 504, vi 0]) (M' := M) rfl ?_
      refine Hx.run 7 (pc' := 45) (L' := [some (vr 59), some (vr 504), some (vi 0)]) (st' := [vi 0, vi (M 59 2), vr 60]) (M' := M) rfl ?_
      refine Hx.add rfl (by omega) ?_
      refine Hx.call (t := 121) (as := [vr 60, vi ((M 59 2) + 0)]) (pc' := 49) (rest := []) rfl (c_at (r := 60) (n := 150) rfl (by decide) (i := ((M 59 2) + 0)) (by omega) M) ?_
      rintro _ _ ⟨rfl, rfl⟩
      refine Hx.run 0 (pc' := 49) (L' := [some (vr 59), some (vr 504), some (vi 0)]) (st' := [vi (M 60 ((M 59 2) + 0))]) (M' := M) rfl ?_
      refine Hx.run 2 (pc' := 51) (L' := [some (vr 59), some (vr 504), some (vi 0)]) (st' := [vi 0, vr 504, vi (M 60 ((M 59 2) + 0))]) (M' := M) rfl ?_
      refine Hx.run 1 (pc' := 54) (L' := [some (vr 59), some (vr 504), some (vi 0)]) (st' := [vi 115, vi (M 60 ((M 59 2) + 0))]) (M' := M) rfl ?_
      refine Hx.br (c := (M 60 ((M 59 2) + 0)) = 115) (t := 59) (f := 57) rfl (fun h3 => ?_) (fun h3 => ?_)
      · skip
        refine Hx.inc rfl rfl (by omega) ?_
        refine Hx.run 0 (pc' := 62) (L' := [some (vr 59), some (vr 504), some (vi 1)]) (st' := []) (M' := M) rfl ?_
        refine Hx.run 3 (pc' := 30) (L' := [some (vr 59), some (vr 504), some (vi 1)]) (st' := [vr 504, vi 1]) (M' := M) rfl ?_
        refine Hx.run 7 (pc' := 45) (L' := [some (vr 59), some (vr 504), some (vi 1)]) (st' := [vi 1, vi (M 59 2), vr 60]) (M' := M) rfl ?_
        refine Hx.add rfl (by omega) ?_
        refine Hx.call (t := 121) (as := [vr 60, vi ((M 59 2) + 1)]) (pc' := 49) (rest := []) rfl (c_at (r := 60) (n := 150) rfl (by decide) (i := ((M 59 2) + 1)) (by omega) M) ?_
        rintro _ _ ⟨rfl, rfl⟩
        refine Hx.run 0 (pc' := 49) (L' := [some (vr 59), some (vr 504), some (vi 1)]) (st' := [vi (M 60 ((M 59 2) + 1))]) (M' := M) rfl ?_
        refine Hx.run 2 (pc' := 51) (L' := [some (vr 59), some (vr 504), some (vi 1)]) (st' := [vi 1, vr 504, vi (M 60 ((M 59 2) + 1))]) (M' := M) rfl ?_
        refine Hx.run 1 (pc' := 54) (L' := [some (vr 59), some (vr 504), some (vi 1)]) (st' := [vi 116, vi (M 60 ((M 59 2) + 1))]) (M' := M) rfl ?_
        refine Hx.br (c := (M 60 ((M 59 2) + 1)) = 116) (t := 59) (f := 57) rfl (fun h4 => ?_) (fun h4 => ?_)
        · skip
          refine Hx.inc rfl rfl (by omega) ?_
          refine Hx.run 0 (pc' := 62) (L' := [some (vr 59), some (vr 504), some (vi 2)]) (st' := []) (M' := M) rfl ?_
          refine Hx.run 3 (pc' := 30) (L' := [some (vr 59), some (vr 504), some (vi 2)]) (st' := [vr 504, vi 2]) (M' := M) rfl ?_
          refine Hx.run 7 (pc' := 45) (L' := [some (vr 59), some (vr 504), some (vi 2)]) (st' := [vi 2, vi (M 59 2), vr 60]) (M' := M) rfl ?_
          refine Hx.add rfl (by omega) ?_
          refine Hx.call (t := 121) (as := [vr 60, vi ((M 59 2) + 2)]) (pc' := 49) (rest := []) rfl (c_at (r := 60) (n := 150) rfl (by decide) (i := ((M 59 2) + 2)) (by omega) M) ?_
          rintro _ _ ⟨rfl, rfl⟩
          refine Hx.run 0 (pc' := 49) (L' := [some (vr 59), some (vr 504), some (vi 2)]) (st' := [vi (M 60 ((M 59 2) + 2))]) (M' := M) rfl ?_
          refine Hx.run 2 (pc' := 51) (L' := [some (vr 59), some (vr 504), some (vi 2)]) (st' := [vi 2, vr 504, vi (M 60 ((M 59 2) + 2))]) (M' := M) rfl ?_
          refine Hx.run 1 (pc' := 54) (L' := [some (vr 59), some (vr 504), some (vi 2)]) (st' := [vi 114, vi (M 60 ((M 59 2) + 2))]) (M' := M) rfl ?_
          refine Hx.br (c := (M 60 ((M 59 2) + 2)) = 114) (t := 59) (f := 57) rfl (fun h5 => ?_) (fun h5 => ?_)
          · skip
            refine Hx.inc rfl rfl (by omega) ?_
            refine Hx.run 0 (pc' := 62) (L' := [some (vr 59), some (vr 504), some (vi 3)]) (st' := []) (M' := M) rfl ?_
            refine Hx.run 3 (pc' := 30) (L' := [some (vr 59), some (vr 504), some (vi 3)]) (st' := [vr 504, vi 3]) (M' := M) rfl ?_
            refine Hx.run 7 (pc' := 45) (L' := [some (vr 59), some (vr 504), some (vi 3)]) (st' := [vi 3, vi (M 59 2), vr 60]) (M' := M) rfl ?_
            refine Hx.add rfl (by omega) ?_
            refine Hx.call (t := 121) (as := [vr 60, vi ((M 59 2) + 3)]) (pc' := 49) (rest := []) rfl (c_at (r := 60) (n := 150) rfl (by decide) (i := ((M 59 2) + 3)) (by omega) M) ?_
            rintro _ _ ⟨rfl, rfl⟩
            refine Hx.run 0 (pc' := 49) (L' := [some (vr 59), some (vr 504), some (vi 3)]) (st' := [vi (M 60 ((M 59 2) + 3))]) (M' := M) rfl ?_
            refine Hx.run 2 (pc' := 51) (L' := [some (vr 59), some (vr 504), some (vi 3)]) (st' := [vi 3, vr 504, vi (M 60 ((M 59 2) + 3))]) (M' := M) rfl ?_
            refine Hx.run 1 (pc' := 54) (L' := [some (vr 59), some (vr 504), some (vi 3)]) (st' := [vi 105, vi (M 60 ((M 59 2) + 3))]) (M' := M) rfl ?_
            refine Hx.br (c := (M 60 ((M 59 2) + 3)) = 105) (t := 59) (f := 57) rfl (fun h6 => ?_) (fun h6 => ?_)
            · skip
              refine Hx.inc rfl rfl (by omega) ?_
              refine Hx.run 0 (pc' := 62) (L' := [some (vr 59), some (vr 504), some (vi 4)]) (st' := []) (M' := M) rfl ?_
              refine Hx.run 3 (pc' := 30) (L' := [some (vr 59), some (vr 504), some (vi 4)]) (st' := [vr 504, vi 4]) (M' := M) rfl ?_
              refine Hx.run 7 (pc' := 45) (L' := [some (vr 59), some (vr 504), some (vi 4)]) (st' := [vi 4, vi (M 59 2), vr 60]) (M' := M) rfl ?_
              refine Hx.add rfl (by omega) ?_
              refine Hx.call (t := 121) (as := [vr 60, vi ((M 59 2) + 4)]) (pc' := 49) (rest := []) rfl (c_at (r := 60) (n := 150) rfl (by decide) (i := ((M 59 2) + 4)) (by omega) M) ?_
              rintro _ _ ⟨rfl, rfl⟩
              refine Hx.run 0 (pc' := 49) (L' := [some (vr 59), some (vr 504), some (vi 4)]) (st' := [vi (M 60 ((M 59 2) + 4))]) (M' := M) rfl ?_
              refine Hx.run 2 (pc' := 51) (L' := [some (vr 59), some (vr 504), some (vi 4)]) (st' := [vi 4, vr 504, vi (M 60 ((M 59 2) + 4))]) (M' := M) rfl ?_
              refine Hx.run 1 (pc' := 54) (L' := [some (vr 59), some (vr 504), some (vi 4)]) (st' := [vi 100, vi (M 60 ((M 59 2) + 4))]) (M' := M) rfl ?_
              refine Hx.br (c := (M 60 ((M 59 2) + 4)) = 100) (t := 59) (f := 57) rfl (fun h7 => ?_) (fun h7 => ?_)
              · skip
                refine Hx.inc rfl rfl (by omega) ?_
                refine Hx.run 0 (pc' := 62) (L' := [some (vr 59), some (vr 504), some (vi 5)]) (st' := []) (M' := M) rfl ?_
                refine Hx.run 3 (pc' := 30) (L' := [some (vr 59), some (vr 504), some (vi 5)]) (st' := [vr 504, vi 5]) (M' := M) rfl ?_
                refine Hx.run 7 (pc' := 45) (L' := [some (vr 59), some (vr 504), some (vi 5)]) (st' := [vi 5, vi (M 59 2), vr 60]) (M' := M) rfl ?_
                refine Hx.add rfl (by omega) ?_
                refine Hx.call (t := 121) (as := [vr 60, vi ((M 59 2) + 5)]) (pc' := 49) (rest := []) rfl (c_at (r := 60) (n := 150) rfl (by decide) (i := ((M 59 2) + 5)) (by omega) M) ?_
                rintro _ _ ⟨rfl, rfl⟩
                refine Hx.run 0 (pc' := 49) (L' := [some (vr 59), some (vr 504), some (vi 5)]) (st' := [vi (M 60 ((M 59 2) + 5))]) (M' := M) rfl ?_
                refine Hx.run 2 (pc' := 51) (L' := [some (vr 59), some (vr 504), some (vi 5)]) (st' := [vi 5, vr 504, vi (M 60 ((M 59 2) + 5))]) (M' := M) rfl ?_
                refine Hx.run 1 (pc' := 54) (L' := [some (vr 59), some (vr 504), some (vi 5)]) (st' := [vi 101, vi (M 60 ((M 59 2) + 5))]) (M' := M) rfl ?_
                refine Hx.br (c := (M 60 ((M 59 2) + 5)) = 101) (t := 59) (f := 57) rfl (fun h8 => ?_) (fun h8 => ?_)
                · skip
                  refine Hx.inc rfl rfl (by omega) ?_
                  refine Hx.run 0 (pc' := 62) (L' := [some (vr 59), some (vr 504), some (vi 6)]) (st' := []) (M' := M) rfl ?_
                  refine Hx.run 3 (pc' := 30) (L' := [some (vr 59), some (vr 504), some (vi 6)]) (st' := [vr 504, vi 6]) (M' := M) rfl ?_
                  refine Hx.run 3 (pc' := 66) (L' := [some (vr 59), some (vr 504), some (vi 6)]) (st' := [vi 1]) (M' := M) rfl ?_
                  refine Hx.ret rfl ?_
                  first | exact Or.inl ⟨by unfold w5; omega, rfl, rfl⟩ | exact Or.inr ⟨by unfold w5; omega, rfl, rfl⟩
                · skip
                  refine Hx.run 1 (pc' := 58) (L' := [some (vr 59), some (vr 504), some (vi 5)]) (st' := [vi 0]) (M' := M) rfl ?_
                  refine Hx.ret rfl ?_
                  first | exact Or.inl ⟨by unfold w5; omega, rfl, rfl⟩ | exact Or.inr ⟨by unfold w5; omega, rfl, rfl⟩
              · skip
                refine Hx.run 1 (pc' := 58) (L' := [some (vr 59), some (vr 504), some (vi 4)]) (st' := [vi 0]) (M' := M) rfl ?_
                refine Hx.ret rfl ?_
                first | exact Or.inl ⟨by unfold w5; omega, rfl, rfl⟩ | exact Or.inr ⟨by unfold w5; omega, rfl, rfl⟩
            · skip
              refine Hx.run 1 (pc' := 58) (L' := [some (vr 59), some (vr 504), some (vi 3)]) (st' := [vi 0]) (M' := M) rfl ?_
              refine Hx.ret rfl ?_
              first | exact Or.inl ⟨by unfold w5; omega, rfl, rfl⟩ | exact Or.inr ⟨by unfold w5; omega, rfl, rfl⟩
          · skip
            refine Hx.run 1 (pc' := 58) (L' := [some (vr 59), some (vr 504), some (vi 2)]) (st' := [vi 0]) (M' := M) rfl ?_
            refine Hx.ret rfl ?_
            first | exact Or.inl ⟨by unfold w5; omega, rfl, rfl⟩ | exact Or.inr ⟨by unfold w5; omega, rfl, rfl⟩
        · skip
          refine Hx.run 1 (pc' := 58) (L' := [some (vr 59), some (vr 504), some (vi 1)]) (st' := [vi 0]) (M' := M) rfl ?_
          refine Hx.ret rfl ?_
          first | exact Or.inl ⟨by unfold w5; omega, rfl, rfl⟩ | exact Or.inr ⟨by unfold w5; omega, rfl, rfl⟩
      · skip
        refine Hx.run 1 (pc' := 58) (L' := [some (vr 59), some (vr 504), some (vi 0)]) (st' := [vi 0]) (M' := M) rfl ?_
        refine Hx.ret rfl ?_
        first | exact Or.inl ⟨by unfold w5; omega, rfl, rfl⟩ | exact Or.inr ⟨by unfold w5; omega, rfl, rfl⟩
    · skip
      refine Hx.run 1 (pc' := 25) (L' := [some (vr 59), some (vr 504), none]) (st' := [vi 0]) (M' := M) rfl ?_
      refine Hx.ret rfl ?_
      first | exact Or.inl ⟨by unfold w5; omega, rfl, rfl⟩ | exact Or.inr ⟨by unfold w5; omega, rfl, rfl⟩
  · skip
    refine Hx.run 1 (pc' := 25) (L' := [some (vr 59), some (vr 504), none]) (st' := [vi 0]) (M' := M) rfl ?_
    refine Hx.ret rfl ?_
    first | exact Or.inl ⟨by unfold w5; omega, rfl, rfl⟩ | exact Or.inr ⟨by unfold w5; omega, rfl, rfl⟩
set_option maxRecDepth 100000 in
theorem c_isWord_6 (M : Mm) (t : Int → Int) (hT : TC M t) (h2 : 0 ≤ M 59 2) (h3 : M 59 2 ≤ M 59 3 ∧ M 59 3 ≤ M 59 1) : Ct 52 [vr 59, vr 505] M (fun q0 M' => ((M 59 4 = 1 ∧ w6 t (M 59 2) (M 59 3)) ∧ q0 = some (vi 1) ∧ M = M') ∨ (¬ (M 59 4 = 1 ∧ w6 t (M 59 2) (M 59 3)) ∧ q0 = some (vi 0) ∧ M = M')) := by
  have tx := hT.1.1
  have t0 : M 59 3 - M 59 2 = 5 → t (M 59 2 + 0) = M 60 (M 59 2 + 0) := fun z => hT.2 _ (by omega) (by omega)
  have t1 : M 59 3 - M 59 2 = 5 → t (M 59 2 + 1) = M 60 (M 59 2 + 1) := fun z => hT.2 _ (by omega) (by omega)
  have t2 : M 59 3 - M 59 2 = 5 → t (M 59 2 + 2) = M 60 (M 59 2 + 2) := fun z => hT.2 _ (by omega) (by omega)
  have t3 : M 59 3 - M 59 2 = 5 → t (M 59 2 + 3) = M 60 (M 59 2 + 3) := fun z => hT.2 _ (by omega) (by omega)
  have t4 : M 59 3 - M 59 2 = 5 → t (M 59 2 + 4) = M 60 (M 59 2 + 4) := fun z => hT.2 _ (by omega) (by omega)
  refine Hx.run 3 (pc' := 5) (L' := [some (vr 59), some (vr 505), none]) (st' := [vi 1, vi (M 59 4)]) (M' := M) rfl ?_
  refine Hx.br (c := (M 59 4) = 1) (t := 8) (f := 24) rfl (fun h1 => ?_) (fun h1 => ?_)
  · skip
    refine Hx.run 4 (pc' := 16) (L' := [some (vr 59), some (vr 505), none]) (st' := [vi (M 59 2), vi (M 59 3)]) (M' := M) rfl ?_
    refine Hx.sub rfl (by omega) ?_
    refine Hx.run 1 (pc' := 18) (L' := [some (vr 59), some (vr 505), none]) (st' := [vr 505, vi ((M 59 3) - (M 59 2))]) (M' := M) rfl ?_
    refine Hx.run 1 (pc' := 21) (L' := [some (vr 59), some (vr 505), none]) (st' := [vi 5, vi ((M 59 3) - (M 59 2))]) (M' := M) rfl ?_
    refine Hx.br (c := ((M 59 3) - (M 59 2)) = 5) (t := 26) (f := 24) rfl (fun h2 => ?_) (fun h2 => ?_)
    · skip
      refine Hx.run 4 (pc' := 30) (L' := [some (vr 59), some (vr 505), some (vi 0)]) (st' := [vr 505, vi 0]) (M' := M) rfl ?_
      refine Hx.run 7 (pc' := 45) (L' := [some (vr 59), some (vr 505), some (vi 0)]) (st' := [vi 0, vi (M 59 2), vr 60]) (M' := M) rfl ?_
      refine Hx.add rfl (by omega) ?_
      refine Hx.call (t := 121) (as := [vr 60, vi ((M 59 2) + 0)]) (pc' := 49) (rest := []) rfl (c_at (r := 60) (n := 150) rfl (by decide) (i := ((M 59 2) + 0)) (by omega) M) ?_
      rintro _ _ ⟨rfl, rfl⟩
      refine Hx.run 0 (pc' := 49) (L' := [some (vr 59), some (vr 505), some (vi 0)]) (st' := [vi (M 60 ((M 59 2) + 0))]) (M' := M) rfl ?_
      refine Hx.run 2 (pc' := 51) (L' := [some (vr 59), some (vr 505), some (vi 0)]) (st' := [vi 0, vr 505, vi (M 60 ((M 59 2) + 0))]) (M' := M) rfl ?_
      refine Hx.run 1 (pc' := 54) (L' := [some (vr 59), some (vr 505), some (vi 0)]) (st' := [vi 104, vi (M 60 ((M 59 2) + 0))]) (M' := M) rfl ?_
      refine Hx.br (c := (M 60 ((M 59 2) + 0)) = 104) (t := 59) (f := 57) rfl (fun h3 => ?_) (fun h3 => ?_)
      · skip
        refine Hx.inc rfl rfl (by omega) ?_
        refine Hx.run 0 (pc' := 62) (L' := [some (vr 59), some (vr 505), some (vi 1)]) (st' := []) (M' := M) rfl ?_
        refine Hx.run 3 (pc' := 30) (L' := [some (vr 59), some (vr 505), some (vi 1)]) (st' := [vr 505, vi 1]) (M' := M) rfl ?_
        refine Hx.run 7 (pc' := 45) (L' := [some (vr 59), some (vr 505), some (vi 1)]) (st' := [vi 1, vi (M 59 2), vr 60]) (M' := M) rfl ?_
        refine Hx.add rfl (by omega) ?_
        refine Hx.call (t := 121) (as := [vr 60, vi ((M 59 2) + 1)]) (pc' := 49) (rest := []) rfl (c_at (r := 60) (n := 150) rfl (by decide) (i := ((M 59 2) + 1)) (by omega) M) ?_
        rintro _ _ ⟨rfl, rfl⟩
        refine Hx.run 0 (pc' := 49) (L' := [some (vr 59), some (vr 505), some (vi 1)]) (st' := [vi (M 60 ((M 59 2) + 1))]) (M' := M) rfl ?_
        refine Hx.run 2 (pc' := 51) (L' := [some (vr 59), some (vr 505), some (vi 1)]) (st' := [vi 1, vr 505, vi (M 60 ((M 59 2) + 1))]) (M' := M) rfl ?_
        refine Hx.run 1 (pc' := 54) (L' := [some (vr 59), some (vr 505), some (vi 1)]) (st' := [vi 111, vi (M 60 ((M 59 2) + 1))]) (M' := M) rfl ?_
        refine Hx.br (c := (M 60 ((M 59 2) + 1)) = 111) (t := 59) (f := 57) rfl (fun h4 => ?_) (fun h4 => ?_)
        · skip
          refine Hx.inc rfl rfl (by omega) ?_
          refine Hx.run 0 (pc' := 62) (L' := [some (vr 59), some (vr 505), some (vi 2)]) (st' := []) (M' := M) rfl ?_
          refine Hx.run 3 (pc' := 30) (L' := [some (vr 59), some (vr 505), some (vi 2)]) (st' := [vr 505, vi 2]) (M' := M) rfl ?_
          refine Hx.run 7 (pc' := 45) (L' := [some (vr 59), some (vr 505), some (vi 2)]) (st' := [vi 2, vi (M 59 2), vr 60]) (M' := M) rfl ?_
          refine Hx.add rfl (by omega) ?_
          refine Hx.call (t := 121) (as := [vr 60, vi ((M 59 2) + 2)]) (pc' := 49) (rest := []) rfl (c_at (r := 60) (n := 150) rfl (by decide) (i := ((M 59 2) + 2)) (by omega) M) ?_
          rintro _ _ ⟨rfl, rfl⟩
          refine Hx.run 0 (pc' := 49) (L' := [some (vr 59), some (vr 505), some (vi 2)]) (st' := [vi (M 60 ((M 59 2) + 2))]) (M' := M) rfl ?_
          refine Hx.run 2 (pc' := 51) (L' := [some (vr 59), some (vr 505), some (vi 2)]) (st' := [vi 2, vr 505, vi (M 60 ((M 59 2) + 2))]) (M' := M) rfl ?_
          refine Hx.run 1 (pc' := 54) (L' := [some (vr 59), some (vr 505), some (vi 2)]) (st' := [vi 117, vi (M 60 ((M 59 2) + 2))]) (M' := M) rfl ?_
          refine Hx.br (c := (M 60 ((M 59 2) + 2)) = 117) (t := 59) (f := 57) rfl (fun h5 => ?_) (fun h5 => ?_)
          · skip
            refine Hx.inc rfl rfl (by omega) ?_
            refine Hx.run 0 (pc' := 62) (L' := [some (vr 59), some (vr 505), some (vi 3)]) (st' := []) (M' := M) rfl ?_
            refine Hx.run 3 (pc' := 30) (L' := [some (vr 59), some (vr 505), some (vi 3)]) (st' := [vr 505, vi 3]) (M' := M) rfl ?_
            refine Hx.run 7 (pc' := 45) (L' := [some (vr 59), some (vr 505), some (vi 3)]) (st' := [vi 3, vi (M 59 2), vr 60]) (M' := M) rfl ?_
            refine Hx.add rfl (by omega) ?_
            refine Hx.call (t := 121) (as := [vr 60, vi ((M 59 2) + 3)]) (pc' := 49) (rest := []) rfl (c_at (r := 60) (n := 150) rfl (by decide) (i := ((M 59 2) + 3)) (by omega) M) ?_
            rintro _ _ ⟨rfl, rfl⟩
            refine Hx.run 0 (pc' := 49) (L' := [some (vr 59), some (vr 505), some (vi 3)]) (st' := [vi (M 60 ((M 59 2) + 3))]) (M' := M) rfl ?_
            refine Hx.run 2 (pc' := 51) (L' := [some (vr 59), some (vr 505), some (vi 3)]) (st' := [vi 3, vr 505, vi (M 60 ((M 59 2) + 3))]) (M' := M) rfl ?_
            refine Hx.run 1 (pc' := 54) (L' := [some (vr 59), some (vr 505), some (vi 3)]) (st' := [vi 114, vi (M 60 ((M 59 2) + 3))]) (M' := M) rfl ?_
            refine Hx.br (c := (M 60 ((M 59 2) + 3)) = 114) (t := 59) (f := 57) rfl (fun h6 => ?_) (fun h6 => ?_)
            · skip
              refine Hx.inc rfl rfl (by omega) ?_
              refine Hx.run 0 (pc' := 62) (L' := [some (vr 59), some (vr 505), some (vi 4)]) (st' := []) (M' := M) rfl ?_
              refine Hx.run 3 (pc' := 30) (L' := [some (vr 59), some (vr 505), some (vi 4)]) (st' := [vr 505, vi 4]) (M' := M) rfl ?_
              refine Hx.run 7 (pc' := 45) (L' := [some (vr 59), some (vr 505), some (vi 4)]) (st' := [vi 4, vi (M 59 2), vr 60]) (M' := M) rfl ?_
              refine Hx.add rfl (by omega) ?_
              refine Hx.call (t := 121) (as := [vr 60, vi ((M 59 2) + 4)]) (pc' := 49) (rest := []) rfl (c_at (r := 60) (n := 150) rfl (by decide) (i := ((M 59 2) + 4)) (by omega) M) ?_
              rintro _ _ ⟨rfl, rfl⟩
              refine Hx.run 0 (pc' := 49) (L' := [some (vr 59), some (vr 505), some (vi 4)]) (st' := [vi (M 60 ((M 59 2) + 4))]) (M' := M) rfl ?_
              refine Hx.run 2 (pc' := 51) (L' := [some (vr 59), some (vr 505), some (vi 4)]) (st' := [vi 4, vr 505, vi (M 60 ((M 59 2) + 4))]) (M' := M) rfl ?_
              refine Hx.run 1 (pc' := 54) (L' := [some (vr 59), some (vr 505), some (vi 4)]) (st' := [vi 115, vi (M 60 ((M 59 2) + 4))]) (M' := M) rfl ?_
              refine Hx.br (c := (M 60 ((M 59 2) + 4)) = 115) (t := 59) (f := 57) rfl (fun h7 => ?_) (fun h7 => ?_)
              · skip
                refine Hx.inc rfl rfl (by omega) ?_
                refine Hx.run 0 (pc' := 62) (L' := [some (vr 59), some (vr 505), some (vi 5)]) (st' := []) (M' := M) rfl ?_
                refine Hx.run 3 (pc' := 30) (L' := [some (vr 59), some (vr 505), some (vi 5)]) (st' := [vr 505, vi 5]) (M' := M) rfl ?_
                refine Hx.run 3 (pc' := 66) (L' := [some (vr 59), some (vr 505), some (vi 5)]) (st' := [vi 1]) (M' := M) rfl ?_
                refine Hx.ret rfl ?_
                first | exact Or.inl ⟨by unfold w6; omega, rfl, rfl⟩ | exact Or.inr ⟨by unfold w6; omega, rfl, rfl⟩
              · skip
                refine Hx.run 1 (pc' := 58) (L' := [some (vr 59), some (vr 505), some (vi 4)]) (st' := [vi 0]) (M' := M) rfl ?_
                refine Hx.ret rfl ?_
                first | exact Or.inl ⟨by unfold w6; omega, rfl, rfl⟩ | exact Or.inr ⟨by unfold w6; omega, rfl, rfl⟩
            · skip
              refine Hx.run 1 (pc' := 58) (L' := [some (vr 59), some (vr 505), some (vi 3)]) (st' := [vi 0]) (M' := M) rfl ?_
              refine Hx.ret rfl ?_
              first | exact Or.inl ⟨by unfold w6; omega, rfl, rfl⟩ | exact Or.inr ⟨by unfold w6; omega, rfl, rfl⟩
          · skip
            refine Hx.run 1 (pc' := 58) (L' := [some (vr 59), some (vr 505), some (vi 2)]) (st' := [vi 0]) (M' := M) rfl ?_
            refine Hx.ret rfl ?_
            first | exact Or.inl ⟨by unfold w6; omega, rfl, rfl⟩ | exact Or.inr ⟨by unfold w6; omega, rfl, rfl⟩
        · skip
          refine Hx.run 1 (pc' := 58) (L' := [some (vr 59), some (vr 505), some (vi 1)]) (st' := [vi 0]) (M' := M) rfl ?_
          refine Hx.ret rfl ?_
          first | exact Or.inl ⟨by unfold w6; omega, rfl, rfl⟩ | exact Or.inr ⟨by unfold w6; omega, rfl, rfl⟩
      · skip
        refine Hx.run 1 (pc' := 58) (L' := [some (vr 59), some (vr 505), some (vi 0)]) (st' := [vi 0]) (M' := M) rfl ?_
        refine Hx.ret rfl ?_
        first | exact Or.inl ⟨by unfold w6; omega, rfl, rfl⟩ | exact Or.inr ⟨by unfold w6; omega, rfl, rfl⟩
    · skip
      refine Hx.run 1 (pc' := 25) (L' := [some (vr 59), some (vr 505), none]) (st' := [vi 0]) (M' := M) rfl ?_
      refine Hx.ret rfl ?_
      first | exact Or.inl ⟨by unfold w6; omega, rfl, rfl⟩ | exact Or.inr ⟨by unfold w6; omega, rfl, rfl⟩
  · skip
    refine Hx.run 1 (pc' := 25) (L' := [some (vr 59), some (vr 505), none]) (st' := [vi 0]) (M' := M) rfl ?_
    refine Hx.ret rfl ?_
    first | exact Or.inl ⟨by unfold w6; omega, rfl, rfl⟩ | exact Or.inr ⟨by unfold w6; omega, rfl, rfl⟩
