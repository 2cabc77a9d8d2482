/-! reading: tokens, and those of the class (written by wip/whole/gen66.py) -/
def en (c : Int → Bool) : Nat → Int → Int
  | 0, p => p
  | n + 1, p => if c p = true then en c n (p + 1) else p
def scn (c : Int → Bool) (p : Int) : Int := en c (151 - p).toNat p
theorem scn_go {c : Int → Bool} {p : Int} (hp : p ≤ 150) (h : c p = true) : scn c p = scn c (p + 1) := by
  unfold scn
  rw [show (151 - p).toNat = (151 - (p + 1)).toNat + 1 by omega]
  show (if c p = true then _ else _) = _
  rw [if_pos h]
theorem scn_stop {c : Int → Bool} {p : Int} (h : ¬ c p = true) : scn c p = p := by
  unfold scn
  cases (151 - p).toNat with
  | zero => rfl
  | succ n => show (if c p = true then _ else _) = _; rw [if_neg h]
theorem en_ge (c : Int → Bool) : ∀ n p, p ≤ en c n p
  | 0, _ => Int.le_refl _
  | n + 1, p => by
    show p ≤ (if c p = true then _ else _)
    split
    · have := en_ge c n (p + 1); omega
    · exact Int.le_refl _
theorem scn_ge (c : Int → Bool) (p : Int) : p ≤ scn c p := en_ge c _ p
theorem en_le {c : Int → Bool} {L : Int} (hc : ∀ j, L ≤ j → ¬ c j = true) : ∀ n p, p ≤ L → en c n p ≤ L
  | 0, _, h => h
  | n + 1, p, h => by
    show (if c p = true then _ else _) ≤ L
    split
    · rename_i q
      have : p < L := by
        rcases Int.lt_or_le p L with z | z
        · exact z
        · exact absurd q (hc p z)
      exact en_le hc n (p + 1) (by omega)
    · exact h
theorem scn_le {c : Int → Bool} {L : Int} (hc : ∀ j, L ≤ j → ¬ c j = true) {p : Int} (h : p ≤ L) : scn c p ≤ L := en_le hc _ p h
theorem en_end {c : Int → Bool} (hc : ∀ j, 150 ≤ j → ¬ c j = true) : ∀ (n : Nat) (p : Int), 151 - p ≤ (n : Int) → ¬ c (en c n p) = true
  | 0, p, h => hc p (by omega)
  | n + 1, p, h => by
    show ¬ c (if c p = true then _ else _) = true
    split
    · exact en_end hc n (p + 1) (by omega)
    · rename_i q; exact q
theorem scn_end {c : Int → Bool} (hc : ∀ j, 150 ≤ j → ¬ c j = true) (p : Int) : ¬ c (scn c p) = true := en_end hc _ p (by omega)
def cB (t : Int → Int) (j : Int) : Bool := decide (t j = 32)
def cL (t : Int → Int) (j : Int) : Bool := decide (97 ≤ t j ∧ t j ≤ 122)
def cF (t : Int → Int) (j : Int) : Bool := decide (48 ≤ t j ∧ t j ≤ 57)
def sk (t : Int → Int) (p : Int) : Int := scn (cB t) p
def we (t : Int → Int) (p : Int) : Int := scn (cL t) p
def fe (t : Int → Int) (p : Int) : Int := scn (cF t) p
/-- a text: beyond its end it is -1 -/
def TX (t : Int → Int) (n : Int) : Prop := (0 ≤ n ∧ n ≤ 150) ∧ (∀ j, n ≤ j → t j = -1) ∧ (∀ j, 0 ≤ j → j < n → 0 ≤ t j ∧ t j ≤ 127)
theorem TX_B {t : Int → Int} {n : Int} (h : TX t n) : ∀ j, n ≤ j → ¬ cB t j = true := fun j hj q => by have := h.2.1 j hj; have := of_decide_eq_true q; omega
theorem TX_L {t : Int → Int} {n : Int} (h : TX t n) : ∀ j, n ≤ j → ¬ cL t j = true := fun j hj q => by have := h.2.1 j hj; have := of_decide_eq_true q; omega
theorem TX_F {t : Int → Int} {n : Int} (h : TX t n) : ∀ j, n ≤ j → ¬ cF t j = true := fun j hj q => by have := h.2.1 j hj; have := of_decide_eq_true q; omega
theorem sk_rng {t : Int → Int} {n p : Int} (h : TX t n) (hp : p ≤ n) : p ≤ sk t p ∧ sk t p ≤ n := ⟨scn_ge _ _, scn_le (TX_B h) hp⟩
theorem we_rng {t : Int → Int} {n p : Int} (h : TX t n) (hp : p ≤ n) : p ≤ we t p ∧ we t p ≤ n := ⟨scn_ge _ _, scn_le (TX_L h) hp⟩
theorem fe_rng {t : Int → Int} {n p : Int} (h : TX t n) (hp : p ≤ n) : p ≤ fe t p ∧ fe t p ≤ n := ⟨scn_ge _ _, scn_le (TX_F h) hp⟩
theorem sk_go {t : Int → Int} {p : Int} (hp : p ≤ 150) (h : t p = 32) : sk t p = sk t (p + 1) := scn_go hp (decide_eq_true h)
theorem sk_stop {t : Int → Int} {p : Int} (h : ¬ t p = 32) : sk t p = p := scn_stop (fun q => h (of_decide_eq_true q))
theorem we_go {t : Int → Int} {p : Int} (hp : p ≤ 150) (h : 97 ≤ t p ∧ t p ≤ 122) : we t p = we t (p + 1) := scn_go hp (decide_eq_true h)
theorem we_stop {t : Int → Int} {p : Int} (h : ¬ (97 ≤ t p ∧ t p ≤ 122)) : we t p = p := scn_stop (fun q => h (of_decide_eq_true q))
theorem fe_go {t : Int → Int} {p : Int} (hp : p ≤ 150) (h : 48 ≤ t p ∧ t p ≤ 57) : fe t p = fe t (p + 1) := scn_go hp (decide_eq_true h)
theorem fe_stop {t : Int → Int} {p : Int} (h : ¬ (48 ≤ t p ∧ t p ≤ 57)) : fe t p = p := scn_stop (fun q => h (of_decide_eq_true q))
theorem sk_end {t : Int → Int} {n : Int} (h : TX t n) (p : Int) : ¬ t (sk t p) = 32 := fun q => scn_end (c := cB t) (fun j hj => TX_B h j (by have := h.1; omega)) p (decide_eq_true q)
theorem sk_idem {t : Int → Int} {n : Int} (h : TX t n) (p : Int) : sk t (sk t p) = sk t p := sk_stop (sk_end h p)
theorem fe_1 {t : Int → Int} {p : Int} (hp : p ≤ 150) : (48 ≤ t p ∧ t p ≤ 57) ↔ 1 ≤ fe t p - p := by
  constructor
  · intro h
    rw [fe_go hp h]
    have := scn_ge (cF t) (p + 1)
    unfold fe; omega
  · intro h
    by_cases q : 48 ≤ t p ∧ t p ≤ 57
    · exact q
    · rw [fe_stop q] at h; omega
/-- a number of one or two figures, from s to e -/
def nv (t : Int → Int) (s e : Int) : Int := if e - s = 1 then t s - 48 else (t s - 48) * 10 + (t (s + 1) - 48)
def TC (M : Mm) (t : Int → Int) : Prop := TX t (M 59 1) ∧ ∀ j, 0 ≤ j → j < M 59 1 → t j = M 60 j
theorem up4 {M : Mm} {v q v' q' : Int} : up (up (up (up M 59 5 v) 59 3 q) 59 5 v') 59 3 q' = up (up M 59 5 v') 59 3 q' := by
  funext a b
  simp only [up]
  split
  · rfl
  · split
    · rfl
    · rfl
set_option maxRecDepth 100000 in
theorem c_isLetter (p : Int) (M : Mm) (hp : 0 ≤ p ∧ p < 150) : Ct 56 [vr 59, vi p] M (fun q0 M' => ((97 ≤ M 60 p ∧ M 60 p ≤ 122) ∧ q0 = some (vi 1) ∧ M = M') ∨ (¬ (97 ≤ M 60 p ∧ M 60 p ≤ 122) ∧ q0 = some (vi 0) ∧ M = M')) := by
  refine Hx.run 3 (pc' := 5) (L' := [some (vr 59), some (vi p)]) (st' := [vi p, vr 60]) (M' := M) rfl ?_
  refine Hx.call (t := 121) (as := [vr 60, vi p]) (pc' := 8) (rest := []) rfl (c_at (r := 60) (n := 150) rfl (by decide) (i := p) (by omega) M) ?_
  rintro _ _ ⟨rfl, rfl⟩
  refine Hx.run 0 (pc' := 8) (L' := [some (vr 59), some (vi p)]) (st' := [vi (M 60 p)]) (M' := M) rfl ?_
  refine Hx.run 1 (pc' := 10) (L' := [some (vr 59), some (vi p)]) (st' := [vi 97, vi (M 60 p)]) (M' := M) rfl ?_
  refine Hx.br (c := (M 60 p) < 97) (t := 30) (f := 13) rfl (fun h1 => ?_) (fun h1 => ?_)
  · skip
    refine Hx.run 1 (pc' := 31) (L' := [some (vr 59), some (vi p)]) (st' := [vi 0]) (M' := M) rfl ?_
    refine Hx.ret rfl ?_
    first | exact Or.inl ⟨by omega, rfl, rfl⟩ | exact Or.inr ⟨by omega, rfl, rfl⟩
  · skip
    refine Hx.run 3 (pc' := 18) (L' := [some (vr 59), some (vi p)]) (st' := [vi p, vr 60]) (M' := M) rfl ?_
    refine Hx.call (t := 121) (as := [vr 60, vi p]) (pc' := 21) (rest := []) rfl (c_at (r := 60) (n := 150) rfl (by decide) (i := p) (by omega) M) ?_
    rintro _ _ ⟨rfl, rfl⟩
    refine Hx.run 0 (pc' := 21) (L' := [some (vr 59), some (vi p)]) (st' := [vi (M 60 p)]) (M' := M) rfl ?_
    refine Hx.run 1 (pc' := 23) (L' := [some (vr 59), some (vi p)]) (st' := [vi 122, vi (M 60 p)]) (M' := M) rfl ?_
    refine Hx.br (c := 122 < (M 60 p)) (t := 30) (f := 26) rfl (fun h2 => ?_) (fun h2 => ?_)
    · skip
      refine Hx.run 1 (pc' := 31) (L' := [some (vr 59), some (vi p)]) (st' := [vi 0]) (M' := M) rfl ?_
      refine Hx.ret rfl ?_
      first | exact Or.inl ⟨by omega, rfl, rfl⟩ | exact Or.inr ⟨by omega, rfl, rfl⟩
    · skip
      refine Hx.run 2 (pc' := 31) (L' := [some (vr 59), some (vi p)]) (st' := [vi 1]) (M' := M) rfl ?_
      refine Hx.ret rfl ?_
      first | exact Or.inl ⟨by omega, rfl, rfl⟩ | exact Or.inr ⟨by omega, rfl, rfl⟩
set_option maxRecDepth 100000 in
theorem c_isFigure (p : Int) (M : Mm) (hp : 0 ≤ p ∧ p < 150) : Ct 57 [vr 59, vi p] M (fun q0 M' => ((48 ≤ M 60 p ∧ M 60 p ≤ 57) ∧ q0 = some (vi 1) ∧ M = M') ∨ (¬ (48 ≤ M 60 p ∧ M 60 p ≤ 57) ∧ q0 = some (vi 0) ∧ M = M')) := by
  refine Hx.run 3 (pc' := 5) (L' := [some (vr 59), some (vi p)]) (st' := [vi p, vr 60]) (M' := M) rfl ?_
  refine Hx.call (t := 121) (as := [vr 60, vi p]) (pc' := 8) (rest := []) rfl (c_at (r := 60) (n := 150) rfl (by decide) (i := p) (by omega) M) ?_
  rintro _ _ ⟨rfl, rfl⟩
  refine Hx.run 0 (pc' := 8) (L' := [some (vr 59), some (vi p)]) (st' := [vi (M 60 p)]) (M' := M) rfl ?_
  refine Hx.run 1 (pc' := 10) (L' := [some (vr 59), some (vi p)]) (st' := [vi 48, vi (M 60 p)]) (M' := M) rfl ?_
  refine Hx.br (c := (M 60 p) < 48) (t := 30) (f := 13) rfl (fun h1 => ?_) (fun h1 => ?_)
  · skip
    refine Hx.run 1 (pc' := 31) (L' := [some (vr 59), some (vi p)]) (st' := [vi 0]) (M' := M) rfl ?_
    refine Hx.ret rfl ?_
    first | exact Or.inl ⟨by omega, rfl, rfl⟩ | exact Or.inr ⟨by omega, rfl, rfl⟩
  · skip
    refine Hx.run 3 (pc' := 18) (L' := [some (vr 59), some (vi p)]) (st' := [vi p, vr 60]) (M' := M) rfl ?_
    refine Hx.call (t := 121) (as := [vr 60, vi p]) (pc' := 21) (rest := []) rfl (c_at (r := 60) (n := 150) rfl (by decide) (i := p) (by omega) M) ?_
    rintro _ _ ⟨rfl, rfl⟩
    refine Hx.run 0 (pc' := 21) (L' := [some (vr 59), some (vi p)]) (st' := [vi (M 60 p)]) (M' := M) rfl ?_
    refine Hx.run 1 (pc' := 23) (L' := [some (vr 59), some (vi p)]) (st' := [vi 57, vi (M 60 p)]) (M' := M) rfl ?_
    refine Hx.br (c := 57 < (M 60 p)) (t := 30) (f := 26) rfl (fun h2 => ?_) (fun h2 => ?_)
    · skip
      refine Hx.run 1 (pc' := 31) (L' := [some (vr 59), some (vi p)]) (st' := [vi 0]) (M' := M) rfl ?_
      refine Hx.ret rfl ?_
      first | exact Or.inl ⟨by omega, rfl, rfl⟩ | exact Or.inr ⟨by omega, rfl, rfl⟩
    · skip
      refine Hx.run 2 (pc' := 31) (L' := [some (vr 59), some (vi p)]) (st' := [vi 1]) (M' := M) rfl ?_
      refine Hx.ret rfl ?_
      first | exact Or.inl ⟨by omega, rfl, rfl⟩ | exact Or.inr ⟨by omega, rfl, rfl⟩
set_option maxRecDepth 100000 in
theorem cl_takeWord (M : Mm) (t : Int → Int) (hT : TC M t) (e : Int) : ∀ (kk : Nat) (q : Int), 0 ≤ q ∧ q ≤ M 59 1 → we t q = e → M 59 1 - q < (kk : Int) → Hx 54 5 [some (vr 59)] [] (up (up M 59 4 1) 59 3 q) (fun q0 M' => q0 = none ∧ up (up M 59 4 1) 59 3 e = M') := by
  intro kk
  induction kk with
  | zero => intro q _ _ hkk; exact absurd hkk (by omega)
  | succ kk ih =>
    intro q hq hs hkk
    have tx := hT.1.1
    have tq : q < M 59 1 → t q = M 60 q := fun z => hT.2 q (by omega) z
    have tz : M 59 1 ≤ q → t q = -1 := fun z => hT.1.2.1 q z
    refine Hx.run 4 (pc' := 13) (L' := [some (vr 59)]) (st' := [vi (M 59 1), vi q]) (M' := (up (up M 59 4 1) 59 3 q)) rfl ?_
    refine Hx.br (c := q < (M 59 1)) (t := 16) (f := 40) rfl (fun h1 => ?_) (fun h1 => ?_)
    · skip
      refine Hx.run 3 (pc' := 21) (L' := [some (vr 59)]) (st' := [vi q, vr 59]) (M' := (up (up M 59 4 1) 59 3 q)) rfl ?_
      refine Hx.call (t := 56) (as := [vr 59, vi q]) (pc' := 24) (rest := []) rfl (c_isLetter q (up (up M 59 4 1) 59 3 q) (by omega)) ?_
      rintro _ _ (⟨q149, rfl, rfl⟩ | ⟨q149, rfl, rfl⟩)
      · skip
        have nq149 : (97 ≤ (M 60 q) ∧ (M 60 q) ≤ 122) := q149
        refine Hx.run 5 (pc' := 33) (L' := [some (vr 59)]) (st' := [vi 1, vi q, vr 59]) (M' := (up (up M 59 4 1) 59 3 q)) rfl ?_
        refine Hx.add rfl (by omega) ?_
        refine Hx.run 2 (pc' := 5) (L' := [some (vr 59)]) (st' := []) (M' := (up (up (up M 59 4 1) 59 3 q) 59 3 (q + 1))) rfl ?_
        rw [up_up]
        exact ih (q + 1) (by omega) (by rw [← we_go (by omega) (by omega)]; exact hs) (by omega)
      · skip
        have nq149 : ¬ (97 ≤ (M 60 q) ∧ (M 60 q) ≤ 122) := q149
        refine Hx.run 1 (pc' := 40) (L' := [some (vr 59)]) (st' := []) (M' := (up (up M 59 4 1) 59 3 q)) rfl ?_
        refine Hx.ret rfl ?_
        rw [we_stop (by omega)] at hs
        exact ⟨rfl, by rw [hs]⟩
    · skip
      refine Hx.ret rfl ?_
      rw [we_stop (by omega)] at hs
      exact ⟨rfl, by rw [hs]⟩
theorem upS43 {M : Mm} : up (up M 59 4 1) 59 3 (M 59 3) = up M 59 4 1 := by
  funext a b
  simp only [up]
  split
  · rename_i h
    rw [if_neg (by omega), h.1, h.2]
  · rfl
set_option maxRecDepth 100000 in
theorem c_takeWord (q : Int) (M : Mm) (t : Int → Int) (hT : TC M t) (hq : 0 ≤ q ∧ q ≤ M 59 1) (hb : M 59 3 = q) : Ct 54 [vr 59] M (fun q0 M' => q0 = none ∧ up (up M 59 4 1) 59 3 (we t q) = M') := by
  refine Hx.run 3 (pc' := 5) (L' := [some (vr 59)]) (st' := []) (M' := (up M 59 4 1)) rfl ?_
  have h0 := cl_takeWord M t hT (we t q) 200 q hq rfl (by have := hT.1.1; omega)
  rw [show up (up M 59 4 1) 59 3 q = up M 59 4 1 from by rw [← hb]; exact upS43] at h0
  exact h0
set_option maxRecDepth 100000 in
set_option maxHeartbeats 1000000 in
theorem cl_takeNumber (s : Int) (M : Mm) (t : Int → Int) (hT : TC M t) (hs0 : M 59 2 = s) (h0 : 0 ≤ s) (hf : s + 1 ≤ fe t s) : ∀ (kk : Nat) (q : Int) (v : Int), s ≤ q ∧ q ≤ M 59 1 → fe t q = fe t s → ((q = s → v = 0) ∧ (q = s + 1 → v = t s - 48) ∧ (q = s + 2 → v = (t s - 48) * 10 + (t (s + 1) - 48)) ∧ (s < q → 48 ≤ t s ∧ t s ≤ 57) ∧ (s + 1 < q → 48 ≤ t (s + 1) ∧ t (s + 1) ≤ 57)) → M 59 1 - q < (kk : Int) → Hx 55 5 [some (vr 59)] [] (up (up M 59 5 v) 59 3 q) (fun q0 M' => ∃ v k : Int, q0 = none ∧ ((fe t s - s ≤ 2 ∧ k = 2 ∧ v = nv t s (fe t s)) ∨ (2 < fe t s - s ∧ k = 4)) ∧ up (up (up M 59 5 v) 59 3 (fe t s)) 59 4 k = M') := by
  intro kk
  induction kk with
  | zero => intro q v _ _ _ hkk; exact absurd hkk (by omega)
  | succ kk ih =>
    intro q v hq hs hd hkk
    have tx := hT.1.1
    have tq : q < M 59 1 → t q = M 60 q := fun z => hT.2 q (by omega) z
    have tz : M 59 1 ≤ q → t q = -1 := fun z => hT.1.2.1 q z
    refine Hx.run 4 (pc' := 13) (L' := [some (vr 59)]) (st' := [vi (M 59 1), vi q]) (M' := (up (up M 59 5 v) 59 3 q)) rfl ?_
    refine Hx.br (c := q < (M 59 1)) (t := 16) (f := 66) rfl (fun h1 => ?_) (fun h1 => ?_)
    · skip
      refine Hx.run 3 (pc' := 21) (L' := [some (vr 59)]) (st' := [vi q, vr 59]) (M' := (up (up M 59 5 v) 59 3 q)) rfl ?_
      refine Hx.call (t := 57) (as := [vr 59, vi q]) (pc' := 24) (rest := []) rfl (c_isFigure q (up (up M 59 5 v) 59 3 q) (by omega)) ?_
      rintro _ _ (⟨q150, rfl, rfl⟩ | ⟨q150, rfl, rfl⟩)
      · skip
        have nq150 : (48 ≤ (M 60 q) ∧ (M 60 q) ≤ 57) := q150
        refine Hx.run 10 (pc' := 43) (L' := [some (vr 59)]) (st' := [vi q, vr 60, vi (i2 fmul v 10), vr 59]) (M' := (up (up M 59 5 v) 59 3 q)) rfl ?_
        refine Hx.call (t := 121) (as := [vr 60, vi q]) (pc' := 46) (rest := [vi (i2 fmul v 10), vr 59]) rfl (c_at (r := 60) (n := 150) rfl (by decide) (i := q) (by omega) (up (up M 59 5 v) 59 3 q)) ?_
        rintro _ _ ⟨rfl, rfl⟩
        refine Hx.run 0 (pc' := 46) (L' := [some (vr 59)]) (st' := [vi (M 60 q), vi (i2 fmul v 10), vr 59]) (M' := (up (up M 59 5 v) 59 3 q)) rfl ?_
        refine Hx.run 8 (pc' := 59) (L' := [some (vr 59)]) (st' := [vi 1, vi q, vr 59]) (M' := (up (up (up M 59 5 v) 59 3 q) 59 5 (i2 fsub (i2 fadd (i2 fmul v 10) (M 60 q)) 48))) rfl ?_
        refine Hx.add rfl (by omega) ?_
        refine Hx.run 2 (pc' := 5) (L' := [some (vr 59)]) (st' := []) (M' := (up (up (up (up M 59 5 v) 59 3 q) 59 5 (i2 fsub (i2 fadd (i2 fmul v 10) (M 60 q)) 48)) 59 3 (q + 1))) rfl ?_
        rw [up4]
        have hv2 : q ≤ s + 1 → (i2 fsub (i2 fadd (i2 fmul v 10) (M 60 q)) 48) = v * 10 + t q - 48 := by
          intro z
          have vr : 0 ≤ v ∧ v ≤ 9 := by omega
          rw [mul32 (by omega), add32 (by omega), sub32 (by omega)]
          omega
        refine ih (q + 1) (i2 fsub (i2 fadd (i2 fmul v 10) (M 60 q)) 48) (by omega) (by rw [← fe_go (by omega) (by omega)]; exact hs) ⟨fun z => by omega, fun z => ?_, fun z => ?_, fun z => ?_, fun z => ?_⟩ (by omega)
        · rw [hv2 (by omega)]; have e0 : q = s := by omega
          subst e0; omega
        · rw [hv2 (by omega)]; have e0 : q = s + 1 := by omega
          subst e0; have := hd.2.1 rfl; omega
        · by_cases e0 : q = s
          · subst e0; omega
          · exact hd.2.2.2.1 (by omega)
        · by_cases e0 : q = s + 1
          · subst e0; omega
          · exact hd.2.2.2.2 (by omega)
      · skip
        have nq150 : ¬ (48 ≤ (M 60 q) ∧ (M 60 q) ≤ 57) := q150
        refine Hx.run 6 (pc' := 75) (L' := [some (vr 59)]) (st' := [vi (M 59 2), vi q, vr 59]) (M' := (up (up M 59 5 v) 59 3 q)) rfl ?_
        refine Hx.sub rfl (by omega) ?_
        refine Hx.run 1 (pc' := 77) (L' := [some (vr 59)]) (st' := [vi 2, vi (q - (M 59 2)), vr 59]) (M' := (up (up M 59 5 v) 59 3 q)) rfl ?_
        refine Hx.br (c := 2 < (q - (M 59 2))) (t := 84) (f := 80) rfl (fun h2 => ?_) (fun h2 => ?_)
        · skip
          refine Hx.run 2 (pc' := 88) (L' := [some (vr 59)]) (st' := []) (M' := (up (up (up M 59 5 v) 59 3 q) 59 4 4)) rfl ?_
          refine Hx.ret rfl ?_
          rw [fe_stop (by omega)] at hs
          refine ⟨v, _, rfl, ?_, by rw [← hs]⟩
          rw [← hs]
          first
            | exact Or.inr ⟨by omega, rfl⟩
            | (refine Or.inl ⟨by omega, rfl, ?_⟩
               unfold nv
               by_cases e1 : q - s = 1
               · rw [if_pos e1]; exact hd.2.1 (by omega)
               · rw [if_neg e1]; exact hd.2.2.1 (by omega))
        · skip
          refine Hx.run 3 (pc' := 88) (L' := [some (vr 59)]) (st' := []) (M' := (up (up (up M 59 5 v) 59 3 q) 59 4 2)) rfl ?_
          refine Hx.ret rfl ?_
          rw [fe_stop (by omega)] at hs
          refine ⟨v, _, rfl, ?_, by rw [← hs]⟩
          rw [← hs]
          first
            | exact Or.inr ⟨by omega, rfl⟩
            | (refine Or.inl ⟨by omega, rfl, ?_⟩
               unfold nv
               by_cases e1 : q - s = 1
               · rw [if_pos e1]; exact hd.2.1 (by omega)
               · rw [if_neg e1]; exact hd.2.2.1 (by omega))
    · skip
      refine Hx.run 5 (pc' := 75) (L' := [some (vr 59)]) (st' := [vi (M 59 2), vi q, vr 59]) (M' := (up (up M 59 5 v) 59 3 q)) rfl ?_
      refine Hx.sub rfl (by omega) ?_
      refine Hx.run 1 (pc' := 77) (L' := [some (vr 59)]) (st' := [vi 2, vi (q - (M 59 2)), vr 59]) (M' := (up (up M 59 5 v) 59 3 q)) rfl ?_
      refine Hx.br (c := 2 < (q - (M 59 2))) (t := 84) (f := 80) rfl (fun h3 => ?_) (fun h3 => ?_)
      · skip
        refine Hx.run 2 (pc' := 88) (L' := [some (vr 59)]) (st' := []) (M' := (up (up (up M 59 5 v) 59 3 q) 59 4 4)) rfl ?_
        refine Hx.ret rfl ?_
        rw [fe_stop (by omega)] at hs
        refine ⟨v, _, rfl, ?_, by rw [← hs]⟩
        rw [← hs]
        first
          | exact Or.inr ⟨by omega, rfl⟩
          | (refine Or.inl ⟨by omega, rfl, ?_⟩
             unfold nv
             by_cases e1 : q - s = 1
             · rw [if_pos e1]; exact hd.2.1 (by omega)
             · rw [if_neg e1]; exact hd.2.2.1 (by omega))
      · skip
        refine Hx.run 3 (pc' := 88) (L' := [some (vr 59)]) (st' := []) (M' := (up (up (up M 59 5 v) 59 3 q) 59 4 2)) rfl ?_
        refine Hx.ret rfl ?_
        rw [fe_stop (by omega)] at hs
        refine ⟨v, _, rfl, ?_, by rw [← hs]⟩
        rw [← hs]
        first
          | exact Or.inr ⟨by omega, rfl⟩
          | (refine Or.inl ⟨by omega, rfl, ?_⟩
             unfold nv
             by_cases e1 : q - s = 1
             · rw [if_pos e1]; exact hd.2.1 (by omega)
             · rw [if_neg e1]; exact hd.2.2.1 (by omega))
theorem upS53 {M : Mm} : up (up M 59 5 0) 59 3 (M 59 3) = up M 59 5 0 := by
  funext a b
  simp only [up]
  split
  · rename_i h
    rw [if_neg (by omega), h.1, h.2]
  · rfl
set_option maxRecDepth 100000 in
theorem c_takeNumber (s : Int) (M : Mm) (t : Int → Int) (hT : TC M t) (hs0 : M 59 2 = s) (hb : M 59 3 = s) (h0 : 0 ≤ s ∧ s ≤ M 59 1) (hf : s + 1 ≤ fe t s) : Ct 55 [vr 59] M (fun q0 M' => ∃ v k : Int, q0 = none ∧ ((fe t s - s ≤ 2 ∧ k = 2 ∧ v = nv t s (fe t s)) ∨ (2 < fe t s - s ∧ k = 4)) ∧ up (up (up M 59 5 v) 59 3 (fe t s)) 59 4 k = M') := by
  refine Hx.run 3 (pc' := 5) (L' := [some (vr 59)]) (st' := []) (M' := (up M 59 5 0)) rfl ?_
  have h0 := cl_takeNumber s M t hT hs0 (by omega) (by omega) 200 s 0 (by omega) rfl ⟨fun _ => rfl, fun z => by omega, fun z => by omega, fun z => by omega, fun z => by omega⟩ (by have := hT.1.1; omega)
  rw [show up (up M 59 5 0) 59 3 s = up M 59 5 0 from by rw [← hb]; exact upS53] at h0
  exact h0
