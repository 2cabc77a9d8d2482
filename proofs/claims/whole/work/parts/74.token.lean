/-! reading: the tokens of the reference (written by wip/whole/gen74.py) -/
def TR (M : Mm) (t : Int → Int) : Prop := TX t (M 64 3) ∧ ∀ j, 0 ≤ j → j < M 64 3 → t j = M 67 j
def RR (M : Mm) (R : Int → Int) : Prop := ∀ j, j ≠ 7 → j ≠ 8 → j ≠ 9 → R j = M 64 j
def wdI (t : Int → Int) (s e : Int) : Int := if w1B t s e = true then 1 else if w2B t s e = true then 2 else if w3B t s e = true then 3 else if w4B t s e = true then 4 else if w5B t s e = true then 5 else if w6B t s e = true then 6 else 0
theorem RR_up {M : Mm} {q : Int} {R : Int → Int} (h : RR (up M 64 7 q) R) : RR M R := fun j h7 h8 h9 => by rw [h j h7 h8 h9, up_off h7]
theorem RR_sr {X : Mm} {R R2 : Int → Int} (h1 : RR X R) (h2 : RR (sr X 64 R) R2) : RR X R2 := fun j h7 h8 h9 => by rw [h2 j h7 h8 h9, sr_at]; exact h1 j h7 h8 h9
theorem TR_sr {X : Mm} {R : Int → Int} {t : Int → Int} (h : TR X t) (e : RR X R) : TR (sr X 64 R) t := by
  have h2 : R 3 = X 64 3 := e 3 (by decide) (by decide) (by decide)
  unfold TR at h ⊢
  rw [← h2] at h
  exact h
set_option maxRecDepth 100000 in
theorem r_byteAt (k : Int) (M : Mm) (t : Int → Int) (hT : TR M t) (hk : 0 ≤ k) : Ct 155 [vr 64, vi k] M (fun q0 M' => q0 = some (vi (t k)) ∧ M = M') := by
  refine Hx.run 3 (pc' := 5) (L' := [some (vr 64), some (vi k)]) (st' := [vi (M 64 3), vi k]) (M' := M) rfl ?_
  refine Hx.br (c := k < (M 64 3)) (t := 8) (f := 17) rfl (fun h1 => ?_) (fun h1 => ?_)
  · skip
    refine Hx.run 3 (pc' := 13) (L' := [some (vr 64), some (vi k)]) (st' := [vi k, vr 67]) (M' := M) rfl ?_
    refine Hx.aldI (n := 150) rfl rfl (by (have := hT.1.1; omega)) ?_
    refine Hx.run 1 (pc' := 18) (L' := [some (vr 64), some (vi k)]) (st' := [vi (M 67 k)]) (M' := M) rfl ?_
    refine Hx.ret rfl ?_
    first | exact ⟨some_vi (hT.2 k hk (by omega)).symm, rfl⟩ | exact ⟨some_vi (hT.1.2.1 k (by omega)).symm, rfl⟩
  · skip
    refine Hx.run 1 (pc' := 18) (L' := [some (vr 64), some (vi k)]) (st' := [vi (-1)]) (M' := M) rfl ?_
    refine Hx.ret rfl ?_
    first | exact ⟨some_vi (hT.2 k hk (by omega)).symm, rfl⟩ | exact ⟨some_vi (hT.1.2.1 k (by omega)).symm, rfl⟩
set_option maxRecDepth 100000 in
theorem rl_blanks (s : Int) (M : Mm) (t : Int → Int) (hT : TR M t) : ∀ (kk : Nat) (q : Int), 0 ≤ q ∧ q ≤ M 64 3 → sk t q = s → M 64 3 - q < (kk : Int) → Hx 156 0 [some (vr 64)] [] (up M 64 7 q) (fun q0 M' => q0 = none ∧ up (up M 64 7 s) 64 8 s = M') := by
  intro kk
  induction kk with
  | zero => intro q _ _ hkk; exact absurd hkk (by omega)
  | succ kk ih =>
    intro q hq hs hkk
    have tx := hT.1.1
    have tz : M 64 3 ≤ q → t q = -1 := fun z => hT.1.2.1 q z
    refine Hx.run 3 (pc' := 5) (L' := [some (vr 64)]) (st' := [vi q, vr 64]) (M' := (up M 64 7 q)) rfl ?_
    refine Hx.call (t := 155) (as := [vr 64, vi q]) (pc' := 8) (rest := []) rfl (r_byteAt q (up M 64 7 q) t (show TR (up M 64 7 q) t from hT) (by omega)) ?_
    rintro _ _ ⟨rfl, rfl⟩
    refine Hx.run 0 (pc' := 8) (L' := [some (vr 64)]) (st' := [vi (t q)]) (M' := (up M 64 7 q)) rfl ?_
    refine Hx.run 1 (pc' := 10) (L' := [some (vr 64)]) (st' := [vi 32, vi (t q)]) (M' := (up M 64 7 q)) rfl ?_
    refine Hx.br (c := (t q) = 32) (t := 13) (f := 26) rfl (fun h1 => ?_) (fun h1 => ?_)
    · skip
      refine Hx.run 4 (pc' := 19) (L' := [some (vr 64)]) (st' := [vi 1, vi q, vr 64]) (M' := (up M 64 7 q)) rfl ?_
      refine Hx.add rfl (by omega) ?_
      refine Hx.run 2 (pc' := 0) (L' := [some (vr 64)]) (st' := []) (M' := (up (up M 64 7 q) 64 7 (q + 1))) rfl ?_
      rw [up_up]
      exact ih (q + 1) (by omega) (by rw [← sk_go (by omega) (by omega)]; exact hs) (by omega)
    · skip
      refine Hx.run 4 (pc' := 34) (L' := [some (vr 64)]) (st' := []) (M' := (up (up M 64 7 q) 64 8 q)) rfl ?_
      refine Hx.ret rfl ?_
      rw [sk_stop (by omega)] at hs
      rw [hs]
      exact ⟨rfl, rfl⟩
theorem up_self {M : Mm} {r : Nat} {i : Int} : up M r i (M r i) = M := by
  funext a b
  simp only [up]
  split
  · rename_i h; rw [h.1, h.2]
  · rfl
theorem r_blanks0 (M : Mm) (t : Int → Int) (hT : TR M t) (hp : 0 ≤ M 64 7 ∧ M 64 7 ≤ M 64 3) : Ct 156 [vr 64] M (fun q0 M' => q0 = none ∧ up (up M 64 7 (sk t (M 64 7))) 64 8 (sk t (M 64 7)) = M') := by
  have h0 := rl_blanks (sk t (M 64 7)) M t hT 200 (M 64 7) hp rfl (by have := hT.1.1; omega)
  rw [up_self] at h0
  exact h0
theorem r_blanks (M : Mm) (t : Int → Int) (hT : TR M t) (hp : 0 ≤ M 64 7 ∧ M 64 7 ≤ M 64 3) : Ct 156 [vr 64] M (fun q0 M' => ∃ R : Int → Int, RR M R ∧ R 7 = (sk t (M 64 7)) ∧ R 8 = (sk t (M 64 7)) ∧ q0 = none ∧ sr M 64 R = M') := by
  refine Ct.imp (r_blanks0 M t hT hp) ?_
  rintro q0 M' ⟨h1, h2⟩
  refine ⟨up (up M 64 7 (sk t (M 64 7))) 64 8 (sk t (M 64 7)) 64, fun j h7 h8 h9 => by rw [up_off h8, up_off h7], rfl, rfl, h1, ?_⟩
  rw [← h2]
  exact row_of (fun a ha => by rw [up_ne ha, up_ne ha])
set_option maxRecDepth 100000 in
theorem rl_takesWord (e : Int) (M : Mm) (t : Int → Int) (hT : TR M t) : ∀ (kk : Nat) (q : Int), 0 ≤ q ∧ q ≤ M 64 3 → we t q = e → M 64 3 - q < (kk : Int) → Hx 157 4 [some (vr 64)] [] (up M 64 7 q) (fun q0 M' => q0 = none ∧ up M 64 7 e = M') := by
  intro kk
  induction kk with
  | zero => intro q _ _ hkk; exact absurd hkk (by omega)
  | succ kk ih =>
    intro q hq hs hkk
    have tx := hT.1.1
    have tz : M 64 3 ≤ q → t q = -1 := fun z => hT.1.2.1 q z
    refine Hx.run 3 (pc' := 9) (L' := [some (vr 64)]) (st' := [vi q, vr 64]) (M' := (up M 64 7 q)) rfl ?_
    refine Hx.call (t := 155) (as := [vr 64, vi q]) (pc' := 12) (rest := []) rfl (r_byteAt q (up M 64 7 q) t (show TR (up M 64 7 q) t from hT) (by omega)) ?_
    rintro _ _ ⟨rfl, rfl⟩
    refine Hx.run 0 (pc' := 12) (L' := [some (vr 64)]) (st' := [vi (t q)]) (M' := (up M 64 7 q)) rfl ?_
    refine Hx.run 3 (pc' := 19) (L' := [some (vr 64)]) (st' := [vl 122, vl 97, vl (t q)]) (M' := (up M 64 7 q)) rfl ?_
    refine Hx.call (t := 130) (as := [vl (t q), vl 97, vl 122]) (pc' := 22) (rest := []) rfl (r_in (t q) 97 122 (up M 64 7 q)) ?_
    rintro _ _ (⟨q156, rfl, rfl⟩ | ⟨q156, rfl, rfl⟩)
    · skip
      refine Hx.run 5 (pc' := 31) (L' := [some (vr 64)]) (st' := [vi 1, vi q, vr 64]) (M' := (up M 64 7 q)) rfl ?_
      refine Hx.add rfl (by omega) ?_
      refine Hx.run 2 (pc' := 4) (L' := [some (vr 64)]) (st' := []) (M' := (up (up M 64 7 q) 64 7 (q + 1))) rfl ?_
      rw [up_up]
      exact ih (q + 1) (by omega) (by rw [← we_go (by omega) (by omega)]; exact hs) (by omega)
    · skip
      refine Hx.run 1 (pc' := 38) (L' := [some (vr 64)]) (st' := []) (M' := (up M 64 7 q)) rfl ?_
      refine Hx.ret rfl ?_
      rw [we_stop (by omega)] at hs
      rw [hs]
      exact ⟨rfl, rfl⟩
set_option maxRecDepth 100000 in
theorem r_takesWord (M : Mm) (t : Int → Int) (hT : TR M t) (hp : 0 ≤ M 64 7 ∧ M 64 7 ≤ M 64 3) : Ct 157 [vr 64] M (fun q0 M' => ∃ R : Int → Int, RR M R ∧ R 7 = we t (sk t (M 64 7)) ∧ R 8 = (sk t (M 64 7)) ∧ q0 = none ∧ sr M 64 R = M') := by
  refine Hx.run 1 (pc' := 1) (L' := [some (vr 64)]) (st' := [vr 64]) (M' := M) rfl ?_
  refine Hx.call (t := 156) (as := [vr 64]) (pc' := 4) (rest := []) rfl (r_blanks M t hT hp) ?_
  rintro _ _ ⟨R0, c0, c7, c8, rfl, rfl⟩
  refine Hx.run 0 (pc' := 4) (L' := [some (vr 64)]) (st' := []) (M' := (sr M 64 R0)) rfl ?_
  have h3 : R0 3 = M 64 3 := c0 3 (by decide) (by decide) (by decide)
  have hsr := sk_rng hT.1 hp.2
  have h0 := rl_takesWord (we t (sk t (M 64 7))) (sr M 64 R0) t (TR_sr hT c0) 200 (sk t (M 64 7)) (by show 0 ≤ (sk t (M 64 7)) ∧ (sk t (M 64 7)) ≤ R0 3; omega) rfl (by show R0 3 - (sk t (M 64 7)) < _; have := hT.1.1; omega)
  rw [show up (sr M 64 R0) 64 7 (sk t (M 64 7)) = sr M 64 R0 from by rw [← c7]; exact up_self] at h0
  refine Hx.imp h0 ?_
  rintro q0 M' ⟨h1, h2⟩
  exact ⟨st1 R0 7 (we t (sk t (M 64 7))), fun j h7 h8 h9 => by rw [st1_ne h7]; exact c0 j h7 h8 h9, st1_at, by rw [st1_ne (by decide)]; exact c8, h1, by rw [← sr_up]; exact h2⟩
set_option maxRecDepth 100000 in
theorem r_takesEnd (M : Mm) (t : Int → Int) (hT : TR M t) (hp : 0 ≤ M 64 7 ∧ M 64 7 ≤ M 64 3) : Ct 162 [vr 64] M (fun q0 M' => (∃ R : Int → Int, RR M R ∧ R 7 = (sk t (M 64 7)) + 1 ∧ R 8 = (sk t (M 64 7)) ∧ t (sk t (M 64 7)) = 59 ∧ q0 = some (vi 1) ∧ sr M 64 R = M') ∨ (∃ R : Int → Int, RR M R ∧ R 8 = (sk t (M 64 7)) ∧ ¬ t (sk t (M 64 7)) = 59 ∧ q0 = some (vi 0) ∧ sr M 64 R = M')) := by
  refine Hx.run 1 (pc' := 1) (L' := [some (vr 64)]) (st' := [vr 64]) (M' := M) rfl ?_
  refine Hx.call (t := 156) (as := [vr 64]) (pc' := 4) (rest := []) rfl (r_blanks M t hT hp) ?_
  rintro _ _ ⟨R0, c0, c7, c8, rfl, rfl⟩
  refine Hx.run 0 (pc' := 4) (L' := [some (vr 64)]) (st' := []) (M' := (sr M 64 R0)) rfl ?_
  have hsr := sk_rng hT.1 hp.2
  have tx := hT.1.1
  refine Hx.run 4 (pc' := 10) (L' := [some (vr 64)]) (st' := [vi 1, vi (R0 7), vr 64]) (M' := (sr M 64 R0)) rfl ?_
  refine Hx.add rfl (by omega) ?_
  refine Hx.run 4 (pc' := 19) (L' := [some (vr 64)]) (st' := [vi (R0 8), vr 64]) (M' := (up (sr M 64 R0) 64 7 ((R0 7) + 1))) rfl ?_
  refine Hx.call (t := 155) (as := [vr 64, vi (R0 8)]) (pc' := 22) (rest := []) rfl (r_byteAt (R0 8) (up (sr M 64 R0) 64 7 ((R0 7) + 1)) t (show TR (up (sr M 64 R0) 64 7 ((R0 7) + 1)) t from (show TR (sr M 64 R0) t from TR_sr hT c0)) (by omega)) ?_
  rintro _ _ ⟨rfl, rfl⟩
  refine Hx.run 0 (pc' := 22) (L' := [some (vr 64)]) (st' := [vi (t (R0 8))]) (M' := (up (sr M 64 R0) 64 7 ((R0 7) + 1))) rfl ?_
  refine Hx.run 1 (pc' := 24) (L' := [some (vr 64)]) (st' := [vi 59, vi (t (R0 8))]) (M' := (up (sr M 64 R0) 64 7 ((R0 7) + 1))) rfl ?_
  refine Hx.br (c := (t (R0 8)) = 59) (t := 27) (f := 31) rfl (fun h1 => ?_) (fun h1 => ?_)
  · skip
    refine Hx.run 2 (pc' := 32) (L' := [some (vr 64)]) (st' := [vi 1]) (M' := (up (sr M 64 R0) 64 7 ((R0 7) + 1))) rfl ?_
    refine Hx.ret rfl ?_
    exact Or.inl ⟨(st1 R0 7 (R0 7 + 1)), fun j h7 h8 h9 => by rw [st1_ne h7]; exact c0 j h7 h8 h9, by rw [st1_at, c7], by rw [st1_ne (by decide)]; exact c8, by rw [← c8]; assumption, rfl, by rw [← sr_up]⟩
  · skip
    refine Hx.run 1 (pc' := 32) (L' := [some (vr 64)]) (st' := [vi 0]) (M' := (up (sr M 64 R0) 64 7 ((R0 7) + 1))) rfl ?_
    refine Hx.ret rfl ?_
    exact Or.inr ⟨(st1 R0 7 (R0 7 + 1)), fun j h7 h8 h9 => by rw [st1_ne h7]; exact c0 j h7 h8 h9,  by rw [st1_ne (by decide)]; exact c8, by rw [← c8]; assumption, rfl, by rw [← sr_up]⟩
set_option maxRecDepth 100000 in
theorem r_isLetter (k c l : Int) (M : Mm) (hk : 0 ≤ k ∧ k ≤ 7) (h8 : 0 ≤ M 64 8) (hl : k < l → M 64 8 + k < 150) : Ct 159 [vr 64, vi k, vi c, vi l] M (fun q0 M' => (((c = 0 ∧ l ≤ k) ∨ (¬ c = 0 ∧ k < l ∧ M 67 (M 64 8 + k) = c)) ∧ q0 = some (vi 1) ∧ M = M') ∨ (¬ ((c = 0 ∧ l ≤ k) ∨ (¬ c = 0 ∧ k < l ∧ M 67 (M 64 8 + k) = c)) ∧ q0 = some (vi 0) ∧ M = M')) := by
  refine Hx.run 1 (pc' := 1) (L' := [some (vr 64), some (vi k), some (vi c), some (vi l)]) (st' := [vi c]) (M' := M) rfl ?_
  refine Hx.br (c := c = 0) (t := 4) (f := 17) rfl (fun h1 => ?_) (fun h1 => ?_)
  · skip
    refine Hx.run 2 (pc' := 6) (L' := [some (vr 64), some (vi k), some (vi c), some (vi l)]) (st' := [vi k, vi l]) (M' := M) rfl ?_
    refine Hx.br (c := k < l) (t := 13) (f := 9) rfl (fun h2 => ?_) (fun h2 => ?_)
    · skip
      refine Hx.run 2 (pc' := 42) (L' := [some (vr 64), some (vi k), some (vi c), some (vi l)]) (st' := [vi 0]) (M' := M) rfl ?_
      refine Hx.ret rfl ?_
      first | exact Or.inl ⟨by omega, rfl, rfl⟩ | exact Or.inr ⟨by omega, rfl, rfl⟩
    · skip
      refine Hx.run 2 (pc' := 42) (L' := [some (vr 64), some (vi k), some (vi c), some (vi l)]) (st' := [vi 1]) (M' := M) rfl ?_
      refine Hx.ret rfl ?_
      first | exact Or.inl ⟨by omega, rfl, rfl⟩ | exact Or.inr ⟨by omega, rfl, rfl⟩
  · skip
    refine Hx.run 2 (pc' := 19) (L' := [some (vr 64), some (vi k), some (vi c), some (vi l)]) (st' := [vi k, vi l]) (M' := M) rfl ?_
    refine Hx.br (c := k < l) (t := 22) (f := 41) rfl (fun h3 => ?_) (fun h3 => ?_)
    · skip
      refine Hx.run 5 (pc' := 31) (L' := [some (vr 64), some (vi k), some (vi c), some (vi l)]) (st' := [vi k, vi (M 64 8), vr 67]) (M' := M) rfl ?_
      refine Hx.add rfl (by omega) ?_
      refine Hx.aldI (n := 150) rfl rfl (by omega) ?_
      refine Hx.run 1 (pc' := 34) (L' := [some (vr 64), some (vi k), some (vi c), some (vi l)]) (st' := [vi c, vi (M 67 ((M 64 8) + k))]) (M' := M) rfl ?_
      refine Hx.br (c := (M 67 ((M 64 8) + k)) = c) (t := 37) (f := 41) rfl (fun h4 => ?_) (fun h4 => ?_)
      · skip
        refine Hx.run 2 (pc' := 42) (L' := [some (vr 64), some (vi k), some (vi c), some (vi l)]) (st' := [vi 1]) (M' := M) rfl ?_
        refine Hx.ret rfl ?_
        first | exact Or.inl ⟨by omega, rfl, rfl⟩ | exact Or.inr ⟨by omega, rfl, rfl⟩
      · skip
        refine Hx.run 1 (pc' := 42) (L' := [some (vr 64), some (vi k), some (vi c), some (vi l)]) (st' := [vi 0]) (M' := M) rfl ?_
        refine Hx.ret rfl ?_
        first | exact Or.inl ⟨by omega, rfl, rfl⟩ | exact Or.inr ⟨by omega, rfl, rfl⟩
    · skip
      refine Hx.run 1 (pc' := 42) (L' := [some (vr 64), some (vi k), some (vi c), some (vi l)]) (st' := [vi 0]) (M' := M) rfl ?_
      refine Hx.ret rfl ?_
      first | exact Or.inl ⟨by omega, rfl, rfl⟩ | exact Or.inr ⟨by omega, rfl, rfl⟩
set_option maxRecDepth 100000 in
theorem r_isWord_1 (M : Mm) (t : Int → Int) (hT : TR M t) (h8 : 0 ≤ M 64 8) (h7 : M 64 8 ≤ M 64 7 ∧ M 64 7 ≤ M 64 3) : Ct 158 [vr 64, vi 116, vi 101, vi 110, vi 101, vi 109, vi 101, vi 110, vi 116] M (fun q0 M' => ((w1 t (M 64 8) (M 64 7)) ∧ q0 = some (vi 1) ∧ M = M') ∨ (¬ (w1 t (M 64 8) (M 64 7)) ∧ q0 = some (vi 0) ∧ M = M')) := by
  have tx := hT.1.1
  have t0 : M 64 7 - M 64 8 = 8 → t (M 64 8 + 0) = M 67 (M 64 8 + 0) := fun z => hT.2 _ (by omega) (by omega)
  have t1 : M 64 7 - M 64 8 = 8 → t (M 64 8 + 1) = M 67 (M 64 8 + 1) := fun z => hT.2 _ (by omega) (by omega)
  have t2 : M 64 7 - M 64 8 = 8 → t (M 64 8 + 2) = M 67 (M 64 8 + 2) := fun z => hT.2 _ (by omega) (by omega)
  have t3 : M 64 7 - M 64 8 = 8 → t (M 64 8 + 3) = M 67 (M 64 8 + 3) := fun z => hT.2 _ (by omega) (by omega)
  have t4 : M 64 7 - M 64 8 = 8 → t (M 64 8 + 4) = M 67 (M 64 8 + 4) := fun z => hT.2 _ (by omega) (by omega)
  have t5 : M 64 7 - M 64 8 = 8 → t (M 64 8 + 5) = M 67 (M 64 8 + 5) := fun z => hT.2 _ (by omega) (by omega)
  have t6 : M 64 7 - M 64 8 = 8 → t (M 64 8 + 6) = M 67 (M 64 8 + 6) := fun z => hT.2 _ (by omega) (by omega)
  have t7 : M 64 7 - M 64 8 = 8 → t (M 64 8 + 7) = M 67 (M 64 8 + 7) := fun z => hT.2 _ (by omega) (by omega)
  refine Hx.run 4 (pc' := 8) (L' := [some (vr 64), some (vi 116), some (vi 101), some (vi 110), some (vi 101), some (vi 109), some (vi 101), some (vi 110), some (vi 116), none]) (st' := [vi (M 64 8), vi (M 64 7)]) (M' := M) rfl ?_
  refine Hx.sub rfl (by omega) ?_
  refine Hx.run 5 (pc' := 16) (L' := [some (vr 64), some (vi 116), some (vi 101), some (vi 110), some (vi 101), some (vi 109), some (vi 101), some (vi 110), some (vi 116), some (vi ((M 64 7) - (M 64 8)))]) (st' := [vi ((M 64 7) - (M 64 8)), vi 116, vi 0, vr 64]) (M' := M) rfl ?_
  refine Hx.call (t := 159) (as := [vr 64, vi 0, vi 116, vi ((M 64 7) - (M 64 8))]) (pc' := 19) (rest := []) rfl (r_isLetter 0 116 ((M 64 7) - (M 64 8)) M (by omega) (by omega) (by omega)) ?_
  rintro _ _ (⟨q157, rfl, rfl⟩ | ⟨q157, rfl, rfl⟩)
  · skip
    refine Hx.run 5 (pc' := 27) (L' := [some (vr 64), some (vi 116), some (vi 101), some (vi 110), some (vi 101), some (vi 109), some (vi 101), some (vi 110), some (vi 116), some (vi ((M 64 7) - (M 64 8)))]) (st' := [vi ((M 64 7) - (M 64 8)), vi 101, vi 1, vr 64]) (M' := M) rfl ?_
    refine Hx.call (t := 159) (as := [vr 64, vi 1, vi 101, vi ((M 64 7) - (M 64 8))]) (pc' := 30) (rest := []) rfl (r_isLetter 1 101 ((M 64 7) - (M 64 8)) M (by omega) (by omega) (by omega)) ?_
    rintro _ _ (⟨q158, rfl, rfl⟩ | ⟨q158, rfl, rfl⟩)
    · skip
      refine Hx.run 5 (pc' := 38) (L' := [some (vr 64), some (vi 116), some (vi 101), some (vi 110), some (vi 101), some (vi 109), some (vi 101), some (vi 110), some (vi 116), some (vi ((M 64 7) - (M 64 8)))]) (st' := [vi ((M 64 7) - (M 64 8)), vi 110, vi 2, vr 64]) (M' := M) rfl ?_
      refine Hx.call (t := 159) (as := [vr 64, vi 2, vi 110, vi ((M 64 7) - (M 64 8))]) (pc' := 41) (rest := []) rfl (r_isLetter 2 110 ((M 64 7) - (M 64 8)) M (by omega) (by omega) (by omega)) ?_
      rintro _ _ (⟨q159, rfl, rfl⟩ | ⟨q159, rfl, rfl⟩)
      · skip
        refine Hx.run 5 (pc' := 50) (L' := [some (vr 64), some (vi 116), some (vi 101), some (vi 110), some (vi 101), some (vi 109), some (vi 101), some (vi 110), some (vi 116), some (vi ((M 64 7) - (M 64 8)))]) (st' := [vi ((M 64 7) - (M 64 8)), vi 101, vi 3, vr 64]) (M' := M) rfl ?_
        refine Hx.call (t := 159) (as := [vr 64, vi 3, vi 101, vi ((M 64 7) - (M 64 8))]) (pc' := 53) (rest := []) rfl (r_isLetter 3 101 ((M 64 7) - (M 64 8)) M (by omega) (by omega) (by omega)) ?_
        rintro _ _ (⟨q160, rfl, rfl⟩ | ⟨q160, rfl, rfl⟩)
        · skip
          refine Hx.run 5 (pc' := 62) (L' := [some (vr 64), some (vi 116), some (vi 101), some (vi 110), some (vi 101), some (vi 109), some (vi 101), some (vi 110), some (vi 116), some (vi ((M 64 7) - (M 64 8)))]) (st' := [vi ((M 64 7) - (M 64 8)), vi 109, vi 4, vr 64]) (M' := M) rfl ?_
          refine Hx.call (t := 159) (as := [vr 64, vi 4, vi 109, vi ((M 64 7) - (M 64 8))]) (pc' := 65) (rest := []) rfl (r_isLetter 4 109 ((M 64 7) - (M 64 8)) M (by omega) (by omega) (by omega)) ?_
          rintro _ _ (⟨q161, rfl, rfl⟩ | ⟨q161, rfl, rfl⟩)
          · skip
            refine Hx.run 5 (pc' := 74) (L' := [some (vr 64), some (vi 116), some (vi 101), some (vi 110), some (vi 101), some (vi 109), some (vi 101), some (vi 110), some (vi 116), some (vi ((M 64 7) - (M 64 8)))]) (st' := [vi ((M 64 7) - (M 64 8)), vi 101, vi 5, vr 64]) (M' := M) rfl ?_
            refine Hx.call (t := 159) (as := [vr 64, vi 5, vi 101, vi ((M 64 7) - (M 64 8))]) (pc' := 77) (rest := []) rfl (r_isLetter 5 101 ((M 64 7) - (M 64 8)) M (by omega) (by omega) (by omega)) ?_
            rintro _ _ (⟨q162, rfl, rfl⟩ | ⟨q162, rfl, rfl⟩)
            · skip
              refine Hx.run 5 (pc' := 87) (L' := [some (vr 64), some (vi 116), some (vi 101), some (vi 110), some (vi 101), some (vi 109), some (vi 101), some (vi 110), some (vi 116), some (vi ((M 64 7) - (M 64 8)))]) (st' := [vi ((M 64 7) - (M 64 8)), vi 110, vi 6, vr 64]) (M' := M) rfl ?_
              refine Hx.call (t := 159) (as := [vr 64, vi 6, vi 110, vi ((M 64 7) - (M 64 8))]) (pc' := 90) (rest := []) rfl (r_isLetter 6 110 ((M 64 7) - (M 64 8)) M (by omega) (by omega) (by omega)) ?_
              rintro _ _ (⟨q163, rfl, rfl⟩ | ⟨q163, rfl, rfl⟩)
              · skip
                refine Hx.run 5 (pc' := 100) (L' := [some (vr 64), some (vi 116), some (vi 101), some (vi 110), some (vi 101), some (vi 109), some (vi 101), some (vi 110), some (vi 116), some (vi ((M 64 7) - (M 64 8)))]) (st' := [vi ((M 64 7) - (M 64 8)), vi 116, vi 7, vr 64]) (M' := M) rfl ?_
                refine Hx.call (t := 159) (as := [vr 64, vi 7, vi 116, vi ((M 64 7) - (M 64 8))]) (pc' := 103) (rest := []) rfl (r_isLetter 7 116 ((M 64 7) - (M 64 8)) M (by omega) (by omega) (by omega)) ?_
                rintro _ _ (⟨q164, rfl, rfl⟩ | ⟨q164, rfl, rfl⟩)
                · skip
                  refine Hx.run 3 (pc' := 110) (L' := [some (vr 64), some (vi 116), some (vi 101), some (vi 110), some (vi 101), some (vi 109), some (vi 101), some (vi 110), some (vi 116), some (vi ((M 64 7) - (M 64 8)))]) (st' := [vi 9, vi ((M 64 7) - (M 64 8))]) (M' := M) rfl ?_
                  refine Hx.br (c := ((M 64 7) - (M 64 8)) < 9) (t := 113) (f := 117) rfl (fun h1 => ?_) (fun h1 => ?_)
                  · skip
                    refine Hx.run 2 (pc' := 118) (L' := [some (vr 64), some (vi 116), some (vi 101), some (vi 110), some (vi 101), some (vi 109), some (vi 101), some (vi 110), some (vi 116), some (vi ((M 64 7) - (M 64 8)))]) (st' := [vi 1]) (M' := M) rfl ?_
                    refine Hx.ret rfl ?_
                    first | exact Or.inl ⟨by unfold w1; omega, rfl, rfl⟩ | exact Or.inr ⟨by unfold w1; omega, rfl, rfl⟩
                  · skip
                    refine Hx.run 1 (pc' := 118) (L' := [some (vr 64), some (vi 116), some (vi 101), some (vi 110), some (vi 101), some (vi 109), some (vi 101), some (vi 110), some (vi 116), some (vi ((M 64 7) - (M 64 8)))]) (st' := [vi 0]) (M' := M) rfl ?_
                    refine Hx.ret rfl ?_
                    first | exact Or.inl ⟨by unfold w1; omega, rfl, rfl⟩ | exact Or.inr ⟨by unfold w1; omega, rfl, rfl⟩
                · skip
                  refine Hx.run 2 (pc' := 118) (L' := [some (vr 64), some (vi 116), some (vi 101), some (vi 110), some (vi 101), some (vi 109), some (vi 101), some (vi 110), some (vi 116), some (vi ((M 64 7) - (M 64 8)))]) (st' := [vi 0]) (M' := M) rfl ?_
                  refine Hx.ret rfl ?_
                  first | exact Or.inl ⟨by unfold w1; omega, rfl, rfl⟩ | exact Or.inr ⟨by unfold w1; omega, rfl, rfl⟩
              · skip
                refine Hx.run 2 (pc' := 118) (L' := [some (vr 64), some (vi 116), some (vi 101), some (vi 110), some (vi 101), some (vi 109), some (vi 101), some (vi 110), some (vi 116), some (vi ((M 64 7) - (M 64 8)))]) (st' := [vi 0]) (M' := M) rfl ?_
                refine Hx.ret rfl ?_
                first | exact Or.inl ⟨by unfold w1; omega, rfl, rfl⟩ | exact Or.inr ⟨by unfold w1; omega, rfl, rfl⟩
            · skip
              refine Hx.run 2 (pc' := 118) (L' := [some (vr 64), some (vi 116), some (vi 101), some (vi 110), some (vi 101), some (vi 109), some (vi 101), some (vi 110), some (vi 116), some (vi ((M 64 7) - (M 64 8)))]) (st' := [vi 0]) (M' := M) rfl ?_
              refine Hx.ret rfl ?_
              first | exact Or.inl ⟨by unfold w1; omega, rfl, rfl⟩ | exact Or.inr ⟨by unfold w1; omega, rfl, rfl⟩
          · skip
            refine Hx.run 2 (pc' := 118) (L' := [some (vr 64), some (vi 116), some (vi 101), some (vi 110), some (vi 101), some (vi 109), some (vi 101), some (vi 110), some (vi 116), some (vi ((M 64 7) - (M 64 8)))]) (st' := [vi 0]) (M' := M) rfl ?_
            refine Hx.ret rfl ?_
            first | exact Or.inl ⟨by unfold w1; omega, rfl, rfl⟩ | exact Or.inr ⟨by unfold w1; omega, rfl, rfl⟩
        · skip
          refine Hx.run 2 (pc' := 118) (L' := [some (vr 64), some (vi 116), some (vi 101), some (vi 110), some (vi 101), some (vi 109), some (vi 101), some (vi 110), some (vi 116), some (vi ((M 64 7) - (M 64 8)))]) (st' := [vi 0]) (M' := M) rfl ?_
          refine Hx.ret rfl ?_
          first | exact Or.inl ⟨by unfold w1; omega, rfl, rfl⟩ | exact Or.inr ⟨by unfold w1; omega, rfl, rfl⟩
      · skip
        refine Hx.run 2 (pc' := 118) (L' := [some (vr 64), some (vi 116), some (vi 101), some (vi 110), some (vi 101), some (vi 109), some (vi 101), some (vi 110), some (vi 116), some (vi ((M 64 7) - (M 64 8)))]) (st' := [vi 0]) (M' := M) rfl ?_
        refine Hx.ret rfl ?_
        first | exact Or.inl ⟨by unfold w1; omega, rfl, rfl⟩ | exact Or.inr ⟨by unfold w1; omega, rfl, rfl⟩
    · skip
      refine Hx.run 2 (pc' := 118) (L' := [some (vr 64), some (vi 116), some (vi 101), some (vi 110), some (vi 101), some (vi 109), some (vi 101), some (vi 110), some (vi 116), some (vi ((M 64 7) - (M 64 8)))]) (st' := [vi 0]) (M' := M) rfl ?_
      refine Hx.ret rfl ?_
      first | exact Or.inl ⟨by unfold w1; omega, rfl, rfl⟩ | exact Or.inr ⟨by unfold w1; omega, rfl, rfl⟩
  · skip
    refine Hx.run 2 (pc' := 118) (L' := [some (vr 64), some (vi 116), some (vi 101), some (vi 110), some (vi 101), some (vi 109), some (vi 101), some (vi 110), some (vi 116), some (vi ((M 64 7) - (M 64 8)))]) (st' := [vi 0]) (M' := M) rfl ?_
    refine Hx.ret rfl ?_
    first | exact Or.inl ⟨by unfold w1; omega, rfl, rfl⟩ | exact Or.inr ⟨by unfold w1; omega, rfl, rfl⟩
set_option maxRecDepth 100000 in
theorem r_isWord_2 (M : Mm) (t : Int → Int) (hT : TR M t) (h8 : 0 ≤ M 64 8) (h7 : M 64 8 ≤ M 64 7 ∧ M 64 7 ≤ M 64 3) : Ct 158 [vr 64, vi 102, vi 108, vi 105, vi 103, vi 104, vi 116, vi 0, vi 0] M (fun q0 M' => ((w2 t (M 64 8) (M 64 7)) ∧ q0 = some (vi 1) ∧ M = M') ∨ (¬ (w2 t (M 64 8) (M 64 7)) ∧ q0 = some (vi 0) ∧ M = M')) := by
  have tx := hT.1.1
  have t0 : M 64 7 - M 64 8 = 6 → t (M 64 8 + 0) = M 67 (M 64 8 + 0) := fun z => hT.2 _ (by omega) (by omega)
  have t1 : M 64 7 - M 64 8 = 6 → t (M 64 8 + 1) = M 67 (M 64 8 + 1) := fun z => hT.2 _ (by omega) (by omega)
  have t2 : M 64 7 - M 64 8 = 6 → t (M 64 8 + 2) = M 67 (M 64 8 + 2) := fun z => hT.2 _ (by omega) (by omega)
  have t3 : M 64 7 - M 64 8 = 6 → t (M 64 8 + 3) = M 67 (M 64 8 + 3) := fun z => hT.2 _ (by omega) (by omega)
  have t4 : M 64 7 - M 64 8 = 6 → t (M 64 8 + 4) = M 67 (M 64 8 + 4) := fun z => hT.2 _ (by omega) (by omega)
  have t5 : M 64 7 - M 64 8 = 6 → t (M 64 8 + 5) = M 67 (M 64 8 + 5) := fun z => hT.2 _ (by omega) (by omega)
  refine Hx.run 4 (pc' := 8) (L' := [some (vr 64), some (vi 102), some (vi 108), some (vi 105), some (vi 103), some (vi 104), some (vi 116), some (vi 0), some (vi 0), none]) (st' := [vi (M 64 8), vi (M 64 7)]) (M' := M) rfl ?_
  refine Hx.sub rfl (by omega) ?_
  refine Hx.run 5 (pc' := 16) (L' := [some (vr 64), some (vi 102), some (vi 108), some (vi 105), some (vi 103), some (vi 104), some (vi 116), some (vi 0), some (vi 0), some (vi ((M 64 7) - (M 64 8)))]) (st' := [vi ((M 64 7) - (M 64 8)), vi 102, vi 0, vr 64]) (M' := M) rfl ?_
  refine Hx.call (t := 159) (as := [vr 64, vi 0, vi 102, vi ((M 64 7) - (M 64 8))]) (pc' := 19) (rest := []) rfl (r_isLetter 0 102 ((M 64 7) - (M 64 8)) M (by omega) (by omega) (by omega)) ?_
  rintro _ _ (⟨q165, rfl, rfl⟩ | ⟨q165, rfl, rfl⟩)
  · skip
    refine Hx.run 5 (pc' := 27) (L' := [some (vr 64), some (vi 102), some (vi 108), some (vi 105), some (vi 103), some (vi 104), some (vi 116), some (vi 0), some (vi 0), some (vi ((M 64 7) - (M 64 8)))]) (st' := [vi ((M 64 7) - (M 64 8)), vi 108, vi 1, vr 64]) (M' := M) rfl ?_
    refine Hx.call (t := 159) (as := [vr 64, vi 1, vi 108, vi ((M 64 7) - (M 64 8))]) (pc' := 30) (rest := []) rfl (r_isLetter 1 108 ((M 64 7) - (M 64 8)) M (by omega) (by omega) (by omega)) ?_
    rintro _ _ (⟨q166, rfl, rfl⟩ | ⟨q166, rfl, rfl⟩)
    · skip
      refine Hx.run 5 (pc' := 38) (L' := [some (vr 64), some (vi 102), some (vi 108), some (vi 105), some (vi 103), some (vi 104), some (vi 116), some (vi 0), some (vi 0), some (vi ((M 64 7) - (M 64 8)))]) (st' := [vi ((M 64 7) - (M 64 8)), vi 105, vi 2, vr 64]) (M' := M) rfl ?_
      refine Hx.call (t := 159) (as := [vr 64, vi 2, vi 105, vi ((M 64 7) - (M 64 8))]) (pc' := 41) (rest := []) rfl (r_isLetter 2 105 ((M 64 7) - (M 64 8)) M (by omega) (by omega) (by omega)) ?_
      rintro _ _ (⟨q167, rfl, rfl⟩ | ⟨q167, rfl, rfl⟩)
      · skip
        refine Hx.run 5 (pc' := 50) (L' := [some (vr 64), some (vi 102), some (vi 108), some (vi 105), some (vi 103), some (vi 104), some (vi 116), some (vi 0), some (vi 0), some (vi ((M 64 7) - (M 64 8)))]) (st' := [vi ((M 64 7) - (M 64 8)), vi 103, vi 3, vr 64]) (M' := M) rfl ?_
        refine Hx.call (t := 159) (as := [vr 64, vi 3, vi 103, vi ((M 64 7) - (M 64 8))]) (pc' := 53) (rest := []) rfl (r_isLetter 3 103 ((M 64 7) - (M 64 8)) M (by omega) (by omega) (by omega)) ?_
        rintro _ _ (⟨q168, rfl, rfl⟩ | ⟨q168, rfl, rfl⟩)
        · skip
          refine Hx.run 5 (pc' := 62) (L' := [some (vr 64), some (vi 102), some (vi 108), some (vi 105), some (vi 103), some (vi 104), some (vi 116), some (vi 0), some (vi 0), some (vi ((M 64 7) - (M 64 8)))]) (st' := [vi ((M 64 7) - (M 64 8)), vi 104, vi 4, vr 64]) (M' := M) rfl ?_
          refine Hx.call (t := 159) (as := [vr 64, vi 4, vi 104, vi ((M 64 7) - (M 64 8))]) (pc' := 65) (rest := []) rfl (r_isLetter 4 104 ((M 64 7) - (M 64 8)) M (by omega) (by omega) (by omega)) ?_
          rintro _ _ (⟨q169, rfl, rfl⟩ | ⟨q169, rfl, rfl⟩)
          · skip
            refine Hx.run 5 (pc' := 74) (L' := [some (vr 64), some (vi 102), some (vi 108), some (vi 105), some (vi 103), some (vi 104), some (vi 116), some (vi 0), some (vi 0), some (vi ((M 64 7) - (M 64 8)))]) (st' := [vi ((M 64 7) - (M 64 8)), vi 116, vi 5, vr 64]) (M' := M) rfl ?_
            refine Hx.call (t := 159) (as := [vr 64, vi 5, vi 116, vi ((M 64 7) - (M 64 8))]) (pc' := 77) (rest := []) rfl (r_isLetter 5 116 ((M 64 7) - (M 64 8)) M (by omega) (by omega) (by omega)) ?_
            rintro _ _ (⟨q170, rfl, rfl⟩ | ⟨q170, rfl, rfl⟩)
            · skip
              refine Hx.run 5 (pc' := 87) (L' := [some (vr 64), some (vi 102), some (vi 108), some (vi 105), some (vi 103), some (vi 104), some (vi 116), some (vi 0), some (vi 0), some (vi ((M 64 7) - (M 64 8)))]) (st' := [vi ((M 64 7) - (M 64 8)), vi 0, vi 6, vr 64]) (M' := M) rfl ?_
              refine Hx.call (t := 159) (as := [vr 64, vi 6, vi 0, vi ((M 64 7) - (M 64 8))]) (pc' := 90) (rest := []) rfl (r_isLetter 6 0 ((M 64 7) - (M 64 8)) M (by omega) (by omega) (by omega)) ?_
              rintro _ _ (⟨q171, rfl, rfl⟩ | ⟨q171, rfl, rfl⟩)
              · skip
                refine Hx.run 5 (pc' := 100) (L' := [some (vr 64), some (vi 102), some (vi 108), some (vi 105), some (vi 103), some (vi 104), some (vi 116), some (vi 0), some (vi 0), some (vi ((M 64 7) - (M 64 8)))]) (st' := [vi ((M 64 7) - (M 64 8)), vi 0, vi 7, vr 64]) (M' := M) rfl ?_
                refine Hx.call (t := 159) (as := [vr 64, vi 7, vi 0, vi ((M 64 7) - (M 64 8))]) (pc' := 103) (rest := []) rfl (r_isLetter 7 0 ((M 64 7) - (M 64 8)) M (by omega) (by omega) (by omega)) ?_
                rintro _ _ (⟨q172, rfl, rfl⟩ | ⟨q172, rfl, rfl⟩)
                · skip
                  refine Hx.run 3 (pc' := 110) (L' := [some (vr 64), some (vi 102), some (vi 108), some (vi 105), some (vi 103), some (vi 104), some (vi 116), some (vi 0), some (vi 0), some (vi ((M 64 7) - (M 64 8)))]) (st' := [vi 9, vi ((M 64 7) - (M 64 8))]) (M' := M) rfl ?_
                  refine Hx.br (c := ((M 64 7) - (M 64 8)) < 9) (t := 113) (f := 117) rfl (fun h1 => ?_) (fun h1 => ?_)
                  · skip
                    refine Hx.run 2 (pc' := 118) (L' := [some (vr 64), some (vi 102), some (vi 108), some (vi 105), some (vi 103), some (vi 104), some (vi 116), some (vi 0), some (vi 0), some (vi ((M 64 7) - (M 64 8)))]) (st' := [vi 1]) (M' := M) rfl ?_
                    refine Hx.ret rfl ?_
                    first | exact Or.inl ⟨by unfold w2; omega, rfl, rfl⟩ | exact Or.inr ⟨by unfold w2; omega, rfl, rfl⟩
                  · skip
                    refine Hx.run 1 (pc' := 118) (L' := [some (vr 64), some (vi 102), some (vi 108), some (vi 105), some (vi 103), some (vi 104), some (vi 116), some (vi 0), some (vi 0), some (vi ((M 64 7) - (M 64 8)))]) (st' := [vi 0]) (M' := M) rfl ?_
                    refine Hx.ret rfl ?_
                    first | exact Or.inl ⟨by unfold w2; omega, rfl, rfl⟩ | exact Or.inr ⟨by unfold w2; omega, rfl, rfl⟩
                · skip
                  refine Hx.run 2 (pc' := 118) (L' := [some (vr 64), some (vi 102), some (vi 108), some (vi 105), some (vi 103), some (vi 104), some (vi 116), some (vi 0), some (vi 0), some (vi ((M 64 7) - (M 64 8)))]) (st' := [vi 0]) (M' := M) rfl ?_
                  refine Hx.ret rfl ?_
                  first | exact Or.inl ⟨by unfold w2; omega, rfl, rfl⟩ | exact Or.inr ⟨by unfold w2; omega, rfl, rfl⟩
              · skip
                refine Hx.run 2 (pc' := 118) (L' := [some (vr 64), some (vi 102), some (vi 108), some (vi 105), some (vi 103), some (vi 104), some (vi 116), some (vi 0), some (vi 0), some (vi ((M 64 7) - (M 64 8)))]) (st' := [vi 0]) (M' := M) rfl ?_
                refine Hx.ret rfl ?_
                first | exact Or.inl ⟨by unfold w2; omega, rfl, rfl⟩ | exact Or.inr ⟨by unfold w2; omega, rfl, rfl⟩
            · skip
              refine Hx.run 2 (pc' := 118) (L' := [some (vr 64), some (vi 102), some (vi 108), some (vi 105), some (vi 103), some (vi 104), some (vi 116), some (vi 0), some (vi 0), some (vi ((M 64 7) - (M 64 8)))]) (st' := [vi 0]) (M' := M) rfl ?_
              refine Hx.ret rfl ?_
              first | exact Or.inl ⟨by unfold w2; omega, rfl, rfl⟩ | exact Or.inr ⟨by unfold w2; omega, rfl, rfl⟩
          · skip
            refine Hx.run 2 (pc' := 118) (L' := [some (vr 64), some (vi 102), some (vi 108), some (vi 105), some (vi 103), some (vi 104), some (vi 116), some (vi 0), some (vi 0), some (vi ((M 64 7) - (M 64 8)))]) (st' := [vi 0]) (M' := M) rfl ?_
            refine Hx.ret rfl ?_
            first | exact Or.inl ⟨by unfold w2; omega, rfl, rfl⟩ | exact Or.inr ⟨by unfold w2; omega, rfl, rfl⟩
        · skip
          refine Hx.run 2 (pc' := 118) (L' := [some (vr 64), some (vi 102), some (vi 108), some (vi 105), some (vi 103), some (vi 104), some (vi 116), some (vi 0), some (vi 0), some (vi ((M 64 7) - (M 64 8)))]) (st' := [vi 0]) (M' := M) rfl ?_
          refine Hx.ret rfl ?_
          first | exact Or.inl ⟨by unfold w2; omega, rfl, rfl⟩ | exact Or.inr ⟨by unfold w2; omega, rfl, rfl⟩
      · skip
        refine Hx.run 2 (pc' := 118) (L' := [some (vr 64), some (vi 102), some (vi 108), some (vi 105), some (vi 103), some (vi 104), some (vi 116), some (vi 0), some (vi 0), some (vi ((M 64 7) - (M 64 8)))]) (st' := [vi 0]) (M' := M) rfl ?_
        refine Hx.ret rfl ?_
        first | exact Or.inl ⟨by unfold w2; omega, rfl, rfl⟩ | exact Or.inr ⟨by unfold w2; omega, rfl, rfl⟩
    · skip
      refine Hx.run 2 (pc' := 118) (L' := [some (vr 64), some (vi 102), some (vi 108), some (vi 105), some (vi 103), some (vi 104), some (vi 116), some (vi 0), some (vi 0), some (vi ((M 64 7) - (M 64 8)))]) (st' := [vi 0]) (M' := M) rfl ?_
      refine Hx.ret rfl ?_
      first | exact Or.inl ⟨by unfold w2; omega, rfl, rfl⟩ | exact Or.inr ⟨by unfold w2; omega, rfl, rfl⟩
  · skip
    refine Hx.run 2 (pc' := 118) (L' := [some (vr 64), some (vi 102), some (vi 108), some (vi 105), some (vi 103), some (vi 104), some (vi 116), some (vi 0), some (vi 0), some (vi ((M 64 7) - (M 64 8)))]) (st' := [vi 0]) (M' := M) rfl ?_
    refine Hx.ret rfl ?_
    first | exact Or.inl ⟨by unfold w2; omega, rfl, rfl⟩ | exact Or.inr ⟨by unfold w2; omega, rfl, rfl⟩
set_option maxRecDepth 100000 in
theorem r_isWord_3 (M : Mm) (t : Int → Int) (hT : TR M t) (h8 : 0 ≤ M 64 8) (h7 : M 64 8 ≤ M 64 7 ∧ M 64 7 ≤ M 64 3) : Ct 158 [vr 64, vi 103, vi 111, vi 101, vi 114, vi 0, vi 0, vi 0, vi 0] M (fun q0 M' => ((w3 t (M 64 8) (M 64 7)) ∧ q0 = some (vi 1) ∧ M = M') ∨ (¬ (w3 t (M 64 8) (M 64 7)) ∧ q0 = some (vi 0) ∧ M = M')) := by
  have tx := hT.1.1
  have t0 : M 64 7 - M 64 8 = 4 → t (M 64 8 + 0) = M 67 (M 64 8 + 0) := fun z => hT.2 _ (by omega) (by omega)
  have t1 : M 64 7 - M 64 8 = 4 → t (M 64 8 + 1) = M 67 (M 64 8 + 1) := fun z => hT.2 _ (by omega) (by omega)
  have t2 : M 64 7 - M 64 8 = 4 → t (M 64 8 + 2) = M 67 (M 64 8 + 2) := fun z => hT.2 _ (by omega) (by omega)
  have t3 : M 64 7 - M 64 8 = 4 → t (M 64 8 + 3) = M 67 (M 64 8 + 3) := fun z => hT.2 _ (by omega) (by omega)
  refine Hx.run 4 (pc' := 8) (L' := [some (vr 64), some (vi 103), some (vi 111), some (vi 101), some (vi 114), some (vi 0), some (vi 0), some (vi 0), some (vi 0), none]) (st' := [vi (M 64 8), vi (M 64 7)]) (M' := M) rfl ?_
  refine Hx.sub rfl (by omega) ?_
  refine Hx.run 5 (pc' := 16) (L' := [some (vr 64), some (vi 103), some (vi 111), some (vi 101), some (vi 114), some (vi 0), some (vi 0), some (vi 0), some (vi 0), some (vi ((M 64 7) - (M 64 8)))]) (st' := [vi ((M 64 7) - (M 64 8)), vi 103, vi 0, vr 64]) (M' := M) rfl ?_
  refine Hx.call (t := 159) (as := [vr 64, vi 0, vi 103, vi ((M 64 7) - (M 64 8))]) (pc' := 19) (rest := []) rfl (r_isLetter 0 103 ((M 64 7) - (M 64 8)) M (by omega) (by omega) (by omega)) ?_
  rintro _ _ (⟨q173, rfl, rfl⟩ | ⟨q173, rfl, rfl⟩)
  · skip
    refine Hx.run 5 (pc' := 27) (L' := [some (vr 64), some (vi 103), some (vi 111), some (vi 101), some (vi 114), some (vi 0), some (vi 0), some (vi 0), some (vi 0), some (vi ((M 64 7) - (M 64 8)))]) (st' := [vi ((M 64 7) - (M 64 8)), vi 111, vi 1, vr 64]) (M' := M) rfl ?_
    refine Hx.call (t := 159) (as := [vr 64, vi 1, vi 111, vi ((M 64 7) - (M 64 8))]) (pc' := 30) (rest := []) rfl (r_isLetter 1 111 ((M 64 7) - (M 64 8)) M (by omega) (by omega) (by omega)) ?_
    rintro _ _ (⟨q174, rfl, rfl⟩ | ⟨q174, rfl, rfl⟩)
    · skip
      refine Hx.run 5 (pc' := 38) (L' := [some (vr 64), some (vi 103), some (vi 111), some (vi 101), some (vi 114), some (vi 0), some (vi 0), some (vi 0), some (vi 0), some (vi ((M 64 7) - (M 64 8)))]) (st' := [vi ((M 64 7) - (M 64 8)), vi 101, vi 2, vr 64]) (M' := M) rfl ?_
      refine Hx.call (t := 159) (as := [vr 64, vi 2, vi 101, vi ((M 64 7) - (M 64 8))]) (pc' := 41) (rest := []) rfl (r_isLetter 2 101 ((M 64 7) - (M 64 8)) M (by omega) (by omega) (by omega)) ?_
      rintro _ _ (⟨q175, rfl, rfl⟩ | ⟨q175, rfl, rfl⟩)
      · skip
        refine Hx.run 5 (pc' := 50) (L' := [some (vr 64), some (vi 103), some (vi 111), some (vi 101), some (vi 114), some (vi 0), some (vi 0), some (vi 0), some (vi 0), some (vi ((M 64 7) - (M 64 8)))]) (st' := [vi ((M 64 7) - (M 64 8)), vi 114, vi 3, vr 64]) (M' := M) rfl ?_
        refine Hx.call (t := 159) (as := [vr 64, vi 3, vi 114, vi ((M 64 7) - (M 64 8))]) (pc' := 53) (rest := []) rfl (r_isLetter 3 114 ((M 64 7) - (M 64 8)) M (by omega) (by omega) (by omega)) ?_
        rintro _ _ (⟨q176, rfl, rfl⟩ | ⟨q176, rfl, rfl⟩)
        · skip
          refine Hx.run 5 (pc' := 62) (L' := [some (vr 64), some (vi 103), some (vi 111), some (vi 101), some (vi 114), some (vi 0), some (vi 0), some (vi 0), some (vi 0), some (vi ((M 64 7) - (M 64 8)))]) (st' := [vi ((M 64 7) - (M 64 8)), vi 0, vi 4, vr 64]) (M' := M) rfl ?_
          refine Hx.call (t := 159) (as := [vr 64, vi 4, vi 0, vi ((M 64 7) - (M 64 8))]) (pc' := 65) (rest := []) rfl (r_isLetter 4 0 ((M 64 7) - (M 64 8)) M (by omega) (by omega) (by omega)) ?_
          rintro _ _ (⟨q177, rfl, rfl⟩ | ⟨q177, rfl, rfl⟩)
          · skip
            refine Hx.run 5 (pc' := 74) (L' := [some (vr 64), some (vi 103), some (vi 111), some (vi 101), some (vi 114), some (vi 0), some (vi 0), some (vi 0), some (vi 0), some (vi ((M 64 7) - (M 64 8)))]) (st' := [vi ((M 64 7) - (M 64 8)), vi 0, vi 5, vr 64]) (M' := M) rfl ?_
            refine Hx.call (t := 159) (as := [vr 64, vi 5, vi 0, vi ((M 64 7) - (M 64 8))]) (pc' := 77) (rest := []) rfl (r_isLetter 5 0 ((M 64 7) - (M 64 8)) M (by omega) (by omega) (by omega)) ?_
            rintro _ _ (⟨q178, rfl, rfl⟩ | ⟨q178, rfl, rfl⟩)
            · skip
              refine Hx.run 5 (pc' := 87) (L' := [some (vr 64), some (vi 103), some (vi 111), some (vi 101), some (vi 114), some (vi 0), some (vi 0), some (vi 0), some (vi 0), some (vi ((M 64 7) - (M 64 8)))]) (st' := [vi ((M 64 7) - (M 64 8)), vi 0, vi 6, vr 64]) (M' := M) rfl ?_
              refine Hx.call (t := 159) (as := [vr 64, vi 6, vi 0, vi ((M 64 7) - (M 64 8))]) (pc' := 90) (rest := []) rfl (r_isLetter 6 0 ((M 64 7) - (M 64 8)) M (by omega) (by omega) (by omega)) ?_
              rintro _ _ (⟨q179, rfl, rfl⟩ | ⟨q179, rfl, rfl⟩)
              · skip
                refine Hx.run 5 (pc' := 100) (L' := [some (vr 64), some (vi 103), some (vi 111), some (vi 101), some (vi 114), some (vi 0), some (vi 0), some (vi 0), some (vi 0), some (vi ((M 64 7) - (M 64 8)))]) (st' := [vi ((M 64 7) - (M 64 8)), vi 0, vi 7, vr 64]) (M' := M) rfl ?_
                refine Hx.call (t := 159) (as := [vr 64, vi 7, vi 0, vi ((M 64 7) - (M 64 8))]) (pc' := 103) (rest := []) rfl (r_isLetter 7 0 ((M 64 7) - (M 64 8)) M (by omega) (by omega) (by omega)) ?_
                rintro _ _ (⟨q180, rfl, rfl⟩ | ⟨q180, rfl, rfl⟩)
                · skip
                  refine Hx.run 3 (pc' := 110) (L' := [some (vr 64), some (vi 103), some (vi 111), some (vi 101), some (vi 114), some (vi 0), some (vi 0), some (vi 0), some (vi 0), some (vi ((M 64 7) - (M 64 8)))]) (st' := [vi 9, vi ((M 64 7) - (M 64 8))]) (M' := M) rfl ?_
                  refine Hx.br (c := ((M 64 7) - (M 64 8)) < 9) (t := 113) (f := 117) rfl (fun h1 => ?_) (fun h1 => ?_)
                  · skip
                    refine Hx.run 2 (pc' := 118) (L' := [some (vr 64), some (vi 103), some (vi 111), some (vi 101), some (vi 114), some (vi 0), some (vi 0), some (vi 0), some (vi 0), some (vi ((M 64 7) - (M 64 8)))]) (st' := [vi 1]) (M' := M) rfl ?_
                    refine Hx.ret rfl ?_
                    first | exact Or.inl ⟨by unfold w3; omega, rfl, rfl⟩ | exact Or.inr ⟨by unfold w3; omega, rfl, rfl⟩
                  · skip
                    refine Hx.run 1 (pc' := 118) (L' := [some (vr 64), some (vi 103), some (vi 111), some (vi 101), some (vi 114), some (vi 0), some (vi 0), some (vi 0), some (vi 0), some (vi ((M 64 7) - (M 64 8)))]) (st' := [vi 0]) (M' := M) rfl ?_
                    refine Hx.ret rfl ?_
                    first | exact Or.inl ⟨by unfold w3; omega, rfl, rfl⟩ | exact Or.inr ⟨by unfold w3; omega, rfl, rfl⟩
                · skip
                  refine Hx.run 2 (pc' := 118) (L' := [some (vr 64), some (vi 103), some (vi 111), some (vi 101), some (vi 114), some (vi 0), some (vi 0), some (vi 0), some (vi 0), some (vi ((M 64 7) - (M 64 8)))]) (st' := [vi 0]) (M' := M) rfl ?_
                  refine Hx.ret rfl ?_
                  first | exact Or.inl ⟨by unfold w3; omega, rfl, rfl⟩ | exact Or.inr ⟨by unfold w3; omega, rfl, rfl⟩
              · skip
                refine Hx.run 2 (pc' := 118) (L' := [some (vr 64), some (vi 103), some (vi 111), some (vi 101), some (vi 114), some (vi 0), some (vi 0), some (vi 0), some (vi 0), some (vi ((M 64 7) - (M 64 8)))]) (st' := [vi 0]) (M' := M) rfl ?_
                refine Hx.ret rfl ?_
                first | exact Or.inl ⟨by unfold w3; omega, rfl, rfl⟩ | exact Or.inr ⟨by unfold w3; omega, rfl, rfl⟩
            · skip
              refine Hx.run 2 (pc' := 118) (L' := [some (vr 64), some (vi 103), some (vi 111), some (vi 101), some (vi 114), some (vi 0), some (vi 0), some (vi 0), some (vi 0), some (vi ((M 64 7) - (M 64 8)))]) (st' := [vi 0]) (M' := M) rfl ?_
              refine Hx.ret rfl ?_
              first | exact Or.inl ⟨by unfold w3; omega, rfl, rfl⟩ | exact Or.inr ⟨by unfold w3; omega, rfl, rfl⟩
          · skip
            refine Hx.run 2 (pc' := 118) (L' := [some (vr 64), some (vi 103), some (vi 111), some (vi 101), some (vi 114), some (vi 0), some (vi 0), some (vi 0), some (vi 0), some (vi ((M 64 7) - (M 64 8)))]) (st' := [vi 0]) (M' := M) rfl ?_
            refine Hx.ret rfl ?_
            first | exact Or.inl ⟨by unfold w3; omega, rfl, rfl⟩ | exact Or.inr ⟨by unfold w3; omega, rfl, rfl⟩
        · skip
          refine Hx.run 2 (pc' := 118) (L' := [some (vr 64), some (vi 103), some (vi 111), some (vi 101), some (vi 114), some (vi 0), some (vi 0), some (vi 0), some (vi 0), some (vi ((M 64 7) - (M 64 8)))]) (st' := [vi 0]) (M' := M) rfl ?_
          refine Hx.ret rfl ?_
          first | exact Or.inl ⟨by unfold w3; omega, rfl, rfl⟩ | exact Or.inr ⟨by unfold w3; omega, rfl, rfl⟩
      · skip
        refine Hx.run 2 (pc' := 118) (L' := [some (vr 64), some (vi 103), some (vi 111), some (vi 101), some (vi 114), some (vi 0), some (vi 0), some (vi 0), some (vi 0), some (vi ((M 64 7) - (M 64 8)))]) (st' := [vi 0]) (M' := M) rfl ?_
        refine Hx.ret rfl ?_
        first | exact Or.inl ⟨by unfold w3; omega, rfl, rfl⟩ | exact Or.inr ⟨by unfold w3; omega, rfl, rfl⟩
    · skip
      refine Hx.run 2 (pc' := 118) (L' := [some (vr 64), some (vi 103), some (vi 111), some (vi 101), some (vi 114), some (vi 0), some (vi 0), some (vi 0), some (vi 0), some (vi ((M 64 7) - (M 64 8)))]) (st' := [vi 0]) (M' := M) rfl ?_
      refine Hx.ret rfl ?_
      first | exact Or.inl ⟨by unfold w3; omega, rfl, rfl⟩ | exact Or.inr ⟨by unfold w3; omega, rfl, rfl⟩
  · skip
    refine Hx.run 2 (pc' := 118) (L' := [some (vr 64), some (vi 103), some (vi 111), some (vi 101), some (vi 114), some (vi 0), some (vi 0), some (vi 0), some (vi 0), some (vi ((M 64 7) - (M 64 8)))]) (st' := [vi 0]) (M' := M) rfl ?_
    refine Hx.ret rfl ?_
    first | exact Or.inl ⟨by unfold w3; omega, rfl, rfl⟩ | exact Or.inr ⟨by unfold w3; omega, rfl, rfl⟩
set_option maxRecDepth 100000 in
theorem r_isWord_4 (M : Mm) (t : Int → Int) (hT : TR M t) (h8 : 0 ≤ M 64 8) (h7 : M 64 8 ≤ M 64 7 ∧ M 64 7 ≤ M 64 3) : Ct 158 [vr 64, vi 108, vi 111, vi 97, vi 100, vi 0, vi 0, vi 0, vi 0] M (fun q0 M' => ((w4 t (M 64 8) (M 64 7)) ∧ q0 = some (vi 1) ∧ M = M') ∨ (¬ (w4 t (M 64 8) (M 64 7)) ∧ q0 = some (vi 0) ∧ M = M')) := by
  have tx := hT.1.1
  have t0 : M 64 7 - M 64 8 = 4 → t (M 64 8 + 0) = M 67 (M 64 8 + 0) := fun z => hT.2 _ (by omega) (by omega)
  have t1 : M 64 7 - M 64 8 = 4 → t (M 64 8 + 1) = M 67 (M 64 8 + 1) := fun z => hT.2 _ (by omega) (by omega)
  have t2 : M 64 7 - M 64 8 = 4 → t (M 64 8 + 2) = M 67 (M 64 8 + 2) := fun z => hT.2 _ (by omega) (by omega)
  have t3 : M 64 7 - M 64 8 = 4 → t (M 64 8 + 3) = M 67 (M 64 8 + 3) := fun z => hT.2 _ (by omega) (by omega)
  refine Hx.run 4 (pc' := 8) (L' := [some (vr 64), some (vi 108), some (vi 111), some (vi 97), some (vi 100), some (vi 0), some (vi 0), some (vi 0), some (vi 0), none]) (st' := [vi (M 64 8), vi (M 64 7)]) (M' := M) rfl ?_
  refine Hx.sub rfl (by omega) ?_
  refine Hx.run 5 (pc' := 16) (L' := [some (vr 64), some (vi 108), some (vi 111), some (vi 97), some (vi 100), some (vi 0), some (vi 0), some (vi 0), some (vi 0), some (vi ((M 64 7) - (M 64 8)))]) (st' := [vi ((M 64 7) - (M 64 8)), vi 108, vi 0, vr 64]) (M' := M) rfl ?_
  refine Hx.call (t := 159) (as := [vr 64, vi 0, vi 108, vi ((M 64 7) - (M 64 8))]) (pc' := 19) (rest := []) rfl (r_isLetter 0 108 ((M 64 7) - (M 64 8)) M (by omega) (by omega) (by omega)) ?_
  rintro _ _ (⟨q181, rfl, rfl⟩ | ⟨q181, rfl, rfl⟩)
  · skip
    refine Hx.run 5 (pc' := 27) (L' := [some (vr 64), some (vi 108), some (vi 111), some (vi 97), some (vi 100), some (vi 0), some (vi 0), some (vi 0), some (vi 0), some (vi ((M 64 7) - (M 64 8)))]) (st' := [vi ((M 64 7) - (M 64 8)), vi 111, vi 1, vr 64]) (M' := M) rfl ?_
    refine Hx.call (t := 159) (as := [vr 64, vi 1, vi 111, vi ((M 64 7) - (M 64 8))]) (pc' := 30) (rest := []) rfl (r_isLetter 1 111 ((M 64 7) - (M 64 8)) M (by omega) (by omega) (by omega)) ?_
    rintro _ _ (⟨q182, rfl, rfl⟩ | ⟨q182, rfl, rfl⟩)
    · skip
      refine Hx.run 5 (pc' := 38) (L' := [some (vr 64), some (vi 108), some (vi 111), some (vi 97), some (vi 100), some (vi 0), some (vi 0), some (vi 0), some (vi 0), some (vi ((M 64 7) - (M 64 8)))]) (st' := [vi ((M 64 7) - (M 64 8)), vi 97, vi 2, vr 64]) (M' := M) rfl ?_
      refine Hx.call (t := 159) (as := [vr 64, vi 2, vi 97, vi ((M 64 7) - (M 64 8))]) (pc' := 41) (rest := []) rfl (r_isLetter 2 97 ((M 64 7) - (M 64 8)) M (by omega) (by omega) (by omega)) ?_
      rintro _ _ (⟨q183, rfl, rfl⟩ | ⟨q183, rfl, rfl⟩)
      · skip
        refine Hx.run 5 (pc' := 50) (L' := [some (vr 64), some (vi 108), some (vi 111), some (vi 97), some (vi 100), some (vi 0), some (vi 0), some (vi 0), some (vi 0), some (vi ((M 64 7) - (M 64 8)))]) (st' := [vi ((M 64 7) - (M 64 8)), vi 100, vi 3, vr 64]) (M' := M) rfl ?_
        refine Hx.call (t := 159) (as := [vr 64, vi 3, vi 100, vi ((M 64 7) - (M 64 8))]) (pc' := 53) (rest := []) rfl (r_isLetter 3 100 ((M 64 7) - (M 64 8)) M (by omega) (by omega) (by omega)) ?_
        rintro _ _ (⟨q184, rfl, rfl⟩ | ⟨q184, rfl, rfl⟩)
        · skip
          refine Hx.run 5 (pc' := 62) (L' := [some (vr 64), some (vi 108), some (vi 111), some (vi 97), some (vi 100), some (vi 0), some (vi 0), some (vi 0), some (vi 0), some (vi ((M 64 7) - (M 64 8)))]) (st' := [vi ((M 64 7) - (M 64 8)), vi 0, vi 4, vr 64]) (M' := M) rfl ?_
          refine Hx.call (t := 159) (as := [vr 64, vi 4, vi 0, vi ((M 64 7) - (M 64 8))]) (pc' := 65) (rest := []) rfl (r_isLetter 4 0 ((M 64 7) - (M 64 8)) M (by omega) (by omega) (by omega)) ?_
          rintro _ _ (⟨q185, rfl, rfl⟩ | ⟨q185, rfl, rfl⟩)
          · skip
            refine Hx.run 5 (pc' := 74) (L' := [some (vr 64), some (vi 108), some (vi 111), some (vi 97), some (vi 100), some (vi 0), some (vi 0), some (vi 0), some (vi 0), some (vi ((M 64 7) - (M 64 8)))]) (st' := [vi ((M 64 7) - (M 64 8)), vi 0, vi 5, vr 64]) (M' := M) rfl ?_
            refine Hx.call (t := 159) (as := [vr 64, vi 5, vi 0, vi ((M 64 7) - (M 64 8))]) (pc' := 77) (rest := []) rfl (r_isLetter 5 0 ((M 64 7) - (M 64 8)) M (by omega) (by omega) (by omega)) ?_
            rintro _ _ (⟨q186, rfl, rfl⟩ | ⟨q186, rfl, rfl⟩)
            · skip
              refine Hx.run 5 (pc' := 87) (L' := [some (vr 64), some (vi 108), some (vi 111), some (vi 97), some (vi 100), some (vi 0), some (vi 0), some (vi 0), some (vi 0), some (vi ((M 64 7) - (M 64 8)))]) (st' := [vi ((M 64 7) - (M 64 8)), vi 0, vi 6, vr 64]) (M' := M) rfl ?_
              refine Hx.call (t := 159) (as := [vr 64, vi 6, vi 0, vi ((M 64 7) - (M 64 8))]) (pc' := 90) (rest := []) rfl (r_isLetter 6 0 ((M 64 7) - (M 64 8)) M (by omega) (by omega) (by omega)) ?_
              rintro _ _ (⟨q187, rfl, rfl⟩ | ⟨q187, rfl, rfl⟩)
              · skip
                refine Hx.run 5 (pc' := 100) (L' := [some (vr 64), some (vi 108), some (vi 111), some (vi 97), some (vi 100), some (vi 0), some (vi 0), some (vi 0), some (vi 0), some (vi ((M 64 7) - (M 64 8)))]) (st' := [vi ((M 64 7) - (M 64 8)), vi 0, vi 7, vr 64]) (M' := M) rfl ?_
                refine Hx.call (t := 159) (as := [vr 64, vi 7, vi 0, vi ((M 64 7) - (M 64 8))]) (pc' := 103) (rest := []) rfl (r_isLetter 7 0 ((M 64 7) - (M 64 8)) M (by omega) (by omega) (by omega)) ?_
                rintro _ _ (⟨q188, rfl, rfl⟩ | ⟨q188, rfl, rfl⟩)
                · skip
                  refine Hx.run 3 (pc' := 110) (L' := [some (vr 64), some (vi 108), some (vi 111), some (vi 97), some (vi 100), some (vi 0), some (vi 0), some (vi 0), some (vi 0), some (vi ((M 64 7) - (M 64 8)))]) (st' := [vi 9, vi ((M 64 7) - (M 64 8))]) (M' := M) rfl ?_
                  refine Hx.br (c := ((M 64 7) - (M 64 8)) < 9) (t := 113) (f := 117) rfl (fun h1 => ?_) (fun h1 => ?_)
                  · skip
                    refine Hx.run 2 (pc' := 118) (L' := [some (vr 64), some (vi 108), some (vi 111), some (vi 97), some (vi 100), some (vi 0), some (vi 0), some (vi 0), some (vi 0), some (vi ((M 64 7) - (M 64 8)))]) (st' := [vi 1]) (M' := M) rfl ?_
                    refine Hx.ret rfl ?_
                    first | exact Or.inl ⟨by unfold w4; omega, rfl, rfl⟩ | exact Or.inr ⟨by unfold w4; omega, rfl, rfl⟩
                  · skip
                    refine Hx.run 1 (pc' := 118) (L' := [some (vr 64), some (vi 108), some (vi 111), some (vi 97), some (vi 100), some (vi 0), some (vi 0), some (vi 0), some (vi 0), some (vi ((M 64 7) - (M 64 8)))]) (st' := [vi 0]) (M' := M) rfl ?_
                    refine Hx.ret rfl ?_
                    first | exact Or.inl ⟨by unfold w4; omega, rfl, rfl⟩ | exact Or.inr ⟨by unfold w4; omega, rfl, rfl⟩
                · skip
                  refine Hx.run 2 (pc' := 118) (L' := [some (vr 64), some (vi 108), some (vi 111), some (vi 97), some (vi 100), some (vi 0), some (vi 0), some (vi 0), some (vi 0), some (vi ((M 64 7) - (M 64 8)))]) (st' := [vi 0]) (M' := M) rfl ?_
                  refine Hx.ret rfl ?_
                  first | exact Or.inl ⟨by unfold w4; omega, rfl, rfl⟩ | exact Or.inr ⟨by unfold w4; omega, rfl, rfl⟩
              · skip
                refine Hx.run 2 (pc' := 118) (L' := [some (vr 64), some (vi 108), some (vi 111), some (vi 97), some (vi 100), some (vi 0), some (vi 0), some (vi 0), some (vi 0), some (vi ((M 64 7) - (M 64 8)))]) (st' := [vi 0]) (M' := M) rfl ?_
                refine Hx.ret rfl ?_
                first | exact Or.inl ⟨by unfold w4; omega, rfl, rfl⟩ | exact Or.inr ⟨by unfold w4; omega, rfl, rfl⟩
            · skip
              refine Hx.run 2 (pc' := 118) (L' := [some (vr 64), some (vi 108), some (vi 111), some (vi 97), some (vi 100), some (vi 0), some (vi 0), some (vi 0), some (vi 0), some (vi ((M 64 7) - (M 64 8)))]) (st' := [vi 0]) (M' := M) rfl ?_
              refine Hx.ret rfl ?_
              first | exact Or.inl ⟨by unfold w4; omega, rfl, rfl⟩ | exact Or.inr ⟨by unfold w4; omega, rfl, rfl⟩
          · skip
            refine Hx.run 2 (pc' := 118) (L' := [some (vr 64), some (vi 108), some (vi 111), some (vi 97), some (vi 100), some (vi 0), some (vi 0), some (vi 0), some (vi 0), some (vi ((M 64 7) - (M 64 8)))]) (st' := [vi 0]) (M' := M) rfl ?_
            refine Hx.ret rfl ?_
            first | exact Or.inl ⟨by unfold w4; omega, rfl, rfl⟩ | exact Or.inr ⟨by unfold w4; omega, rfl, rfl⟩
        · skip
          refine Hx.run 2 (pc' := 118) (L' := [some (vr 64), some (vi 108), some (vi 111), some (vi 97), some (vi 100), some (vi 0), some (vi 0), some (vi 0), some (vi 0), some (vi ((M 64 7) - (M 64 8)))]) (st' := [vi 0]) (M' := M) rfl ?_
          refine Hx.ret rfl ?_
          first | exact Or.inl ⟨by unfold w4; omega, rfl, rfl⟩ | exact Or.inr ⟨by unfold w4; omega, rfl, rfl⟩
      · skip
        refine Hx.run 2 (pc' := 118) (L' := [some (vr 64), some (vi 108), some (vi 111), some (vi 97), some (vi 100), some (vi 0), some (vi 0), some (vi 0), some (vi 0), some (vi ((M 64 7) - (M 64 8)))]) (st' := [vi 0]) (M' := M) rfl ?_
        refine Hx.ret rfl ?_
        first | exact Or.inl ⟨by unfold w4; omega, rfl, rfl⟩ | exact Or.inr ⟨by unfold w4; omega, rfl, rfl⟩
    · skip
      refine Hx.run 2 (pc' := 118) (L' := [some (vr 64), some (vi 108), some (vi 111), some (vi 97), some (vi 100), some (vi 0), some (vi 0), some (vi 0), some (vi 0), some (vi ((M 64 7) - (M 64 8)))]) (st' := [vi 0]) (M' := M) rfl ?_
      refine Hx.ret rfl ?_
      first | exact Or.inl ⟨by unfold w4; omega, rfl, rfl⟩ | exact Or.inr ⟨by unfold w4; omega, rfl, rfl⟩
  · skip
    refine Hx.run 2 (pc' := 118) (L' := [some (vr 64), some (vi 108), some (vi 111), some (vi 97), some (vi 100), some (vi 0), some (vi 0), some (vi 0), some (vi 0), some (vi ((M 64 7) - (M 64 8)))]) (st' := [vi 0]) (M' := M) rfl ?_
    refine Hx.ret rfl ?_
    first | exact Or.inl ⟨by unfold w4; omega, rfl, rfl⟩ | exact Or.inr ⟨by unfold w4; omega, rfl, rfl⟩
set_option maxRecDepth 100000 in
theorem r_isWord_5 (M : Mm) (t : Int → Int) (hT : TR M t) (h8 : 0 ≤ M 64 8) (h7 : M 64 8 ≤ M 64 7 ∧ M 64 7 ≤ M 64 3) : Ct 158 [vr 64, vi 115, vi 116, vi 114, vi 105, vi 100, vi 101, vi 0, vi 0] M (fun q0 M' => ((w5 t (M 64 8) (M 64 7)) ∧ q0 = some (vi 1) ∧ M = M') ∨ (¬ (w5 t (M 64 8) (M 64 7)) ∧ q0 = some (vi 0) ∧ M = M')) := by
  have tx := hT.1.1
  have t0 : M 64 7 - M 64 8 = 6 → t (M 64 8 + 0) = M 67 (M 64 8 + 0) := fun z => hT.2 _ (by omega) (by omega)
  have t1 : M 64 7 - M 64 8 = 6 → t (M 64 8 + 1) = M 67 (M 64 8 + 1) := fun z => hT.2 _ (by omega) (by omega)
  have t2 : M 64 7 - M 64 8 = 6 → t (M 64 8 + 2) = M 67 (M 64 8 + 2) := fun z => hT.2 _ (by omega) (by omega)
  have t3 : M 64 7 - M 64 8 = 6 → t (M 64 8 + 3) = M 67 (M 64 8 + 3) := fun z => hT.2 _ (by omega) (by omega)
  have t4 : M 64 7 - M 64 8 = 6 → t (M 64 8 + 4) = M 67 (M 64 8 + 4) := fun z => hT.2 _ (by omega) (by omega)
  have t5 : M 64 7 - M 64 8 = 6 → t (M 64 8 + 5) = M 67 (M 64 8 + 5) := fun z => hT.2 _ (by omega) (by omega)
  refine Hx.run 4 (pc' := 8) (L' := [some (vr 64), some (vi 115), some (vi 116), some (vi 114), some (vi 105), some (vi 100), some (vi 101), some (vi 0), some (vi 0), none]) (st' := [vi (M 64 8), vi (M 64 7)]) (M' := M) rfl ?_
  refine Hx.sub rfl (by omega) ?_
  refine Hx.run 5 (pc' := 16) (L' := [some (vr 64), some (vi 115), some (vi 116), some (vi 114), some (vi 105), some (vi 100), some (vi 101), some (vi 0), some (vi 0), some (vi ((M 64 7) - (M 64 8)))]) (st' := [vi ((M 64 7) - (M 64 8)), vi 115, vi 0, vr 64]) (M' := M) rfl ?_
  refine Hx.call (t := 159) (as := [vr 64, vi 0, vi 115, vi ((M 64 7) - (M 64 8))]) (pc' := 19) (rest := []) rfl (r_isLetter 0 115 ((M 64 7) - (M 64 8)) M (by omega) (by omega) (by omega)) ?_
  rintro _ _ (⟨q189, rfl, rfl⟩ | ⟨q189, rfl, rfl⟩)
  · skip
    refine Hx.run 5 (pc' := 27) (L' := [some (vr 64), some (vi 115), some (vi 116), some (vi 114), some (vi 105), some (vi 100), some (vi 101), some (vi 0), some (vi 0), some (vi ((M 64 7) - (M 64 8)))]) (st' := [vi ((M 64 7) - (M 64 8)), vi 116, vi 1, vr 64]) (M' := M) rfl ?_
    refine Hx.call (t := 159) (as := [vr 64, vi 1, vi 116, vi ((M 64 7) - (M 64 8))]) (pc' := 30) (rest := []) rfl (r_isLetter 1 116 ((M 64 7) - (M 64 8)) M (by omega) (by omega) (by omega)) ?_
    rintro _ _ (⟨q190, rfl, rfl⟩ | ⟨q190, rfl, rfl⟩)
    · skip
      refine Hx.run 5 (pc' := 38) (L' := [some (vr 64), some (vi 115), some (vi 116), some (vi 114), some (vi 105), some (vi 100), some (vi 101), some (vi 0), some (vi 0), some (vi ((M 64 7) - (M 64 8)))]) (st' := [vi ((M 64 7) - (M 64 8)), vi 114, vi 2, vr 64]) (M' := M) rfl ?_
      refine Hx.call (t := 159) (as := [vr 64, vi 2, vi 114, vi ((M 64 7) - (M 64 8))]) (pc' := 41) (rest := []) rfl (r_isLetter 2 114 ((M 64 7) - (M 64 8)) M (by omega) (by omega) (by omega)) ?_
      rintro _ _ (⟨q191, rfl, rfl⟩ | ⟨q191, rfl, rfl⟩)
      · skip
        refine Hx.run 5 (pc' := 50) (L' := [some (vr 64), some (vi 115), some (vi 116), some (vi 114), some (vi 105), some (vi 100), some (vi 101), some (vi 0), some (vi 0), some (vi ((M 64 7) - (M 64 8)))]) (st' := [vi ((M 64 7) - (M 64 8)), vi 105, vi 3, vr 64]) (M' := M) rfl ?_
        refine Hx.call (t := 159) (as := [vr 64, vi 3, vi 105, vi ((M 64 7) - (M 64 8))]) (pc' := 53) (rest := []) rfl (r_isLetter 3 105 ((M 64 7) - (M 64 8)) M (by omega) (by omega) (by omega)) ?_
        rintro _ _ (⟨q192, rfl, rfl⟩ | ⟨q192, rfl, rfl⟩)
        · skip
          refine Hx.run 5 (pc' := 62) (L' := [some (vr 64), some (vi 115), some (vi 116), some (vi 114), some (vi 105), some (vi 100), some (vi 101), some (vi 0), some (vi 0), some (vi ((M 64 7) - (M 64 8)))]) (st' := [vi ((M 64 7) - (M 64 8)), vi 100, vi 4, vr 64]) (M' := M) rfl ?_
          refine Hx.call (t := 159) (as := [vr 64, vi 4, vi 100, vi ((M 64 7) - (M 64 8))]) (pc' := 65) (rest := []) rfl (r_isLetter 4 100 ((M 64 7) - (M 64 8)) M (by omega) (by omega) (by omega)) ?_
          rintro _ _ (⟨q193, rfl, rfl⟩ | ⟨q193, rfl, rfl⟩)
          · skip
            refine Hx.run 5 (pc' := 74) (L' := [some (vr 64), some (vi 115), some (vi 116), some (vi 114), some (vi 105), some (vi 100), some (vi 101), some (vi 0), some (vi 0), some (vi ((M 64 7) - (M 64 8)))]) (st' := [vi ((M 64 7) - (M 64 8)), vi 101, vi 5, vr 64]) (M' := M) rfl ?_
            refine Hx.call (t := 159) (as := [vr 64, vi 5, vi 101, vi ((M 64 7) - (M 64 8))]) (pc' := 77) (rest := []) rfl (r_isLetter 5 101 ((M 64 7) - (M 64 8)) M (by omega) (by omega) (by omega)) ?_
            rintro _ _ (⟨q194, rfl, rfl⟩ | ⟨q194, rfl, rfl⟩)
            · skip
              refine Hx.run 5 (pc' := 87) (L' := [some (vr 64), some (vi 115), some (vi 116), some (vi 114), some (vi 105), some (vi 100), some (vi 101), some (vi 0), some (vi 0), some (vi ((M 64 7) - (M 64 8)))]) (st' := [vi ((M 64 7) - (M 64 8)), vi 0, vi 6, vr 64]) (M' := M) rfl ?_
              refine Hx.call (t := 159) (as := [vr 64, vi 6, vi 0, vi ((M 64 7) - (M 64 8))]) (pc' := 90) (rest := []) rfl (r_isLetter 6 0 ((M 64 7) - (M 64 8)) M (by omega) (by omega) (by omega)) ?_
              rintro _ _ (⟨q195, rfl, rfl⟩ | ⟨q195, rfl, rfl⟩)
              · skip
                refine Hx.run 5 (pc' := 100) (L' := [some (vr 64), some (vi 115), some (vi 116), some (vi 114), some (vi 105), some (vi 100), some (vi 101), some (vi 0), some (vi 0), some (vi ((M 64 7) - (M 64 8)))]) (st' := [vi ((M 64 7) - (M 64 8)), vi 0, vi 7, vr 64]) (M' := M) rfl ?_
                refine Hx.call (t := 159) (as := [vr 64, vi 7, vi 0, vi ((M 64 7) - (M 64 8))]) (pc' := 103) (rest := []) rfl (r_isLetter 7 0 ((M 64 7) - (M 64 8)) M (by omega) (by omega) (by omega)) ?_
                rintro _ _ (⟨q196, rfl, rfl⟩ | ⟨q196, rfl, rfl⟩)
                · skip
                  refine Hx.run 3 (pc' := 110) (L' := [some (vr 64), some (vi 115), some (vi 116), some (vi 114), some (vi 105), some (vi 100), some (vi 101), some (vi 0), some (vi 0), some (vi ((M 64 7) - (M 64 8)))]) (st' := [vi 9, vi ((M 64 7) - (M 64 8))]) (M' := M) rfl ?_
                  refine Hx.br (c := ((M 64 7) - (M 64 8)) < 9) (t := 113) (f := 117) rfl (fun h1 => ?_) (fun h1 => ?_)
                  · skip
                    refine Hx.run 2 (pc' := 118) (L' := [some (vr 64), some (vi 115), some (vi 116), some (vi 114), some (vi 105), some (vi 100), some (vi 101), some (vi 0), some (vi 0), some (vi ((M 64 7) - (M 64 8)))]) (st' := [vi 1]) (M' := M) rfl ?_
                    refine Hx.ret rfl ?_
                    first | exact Or.inl ⟨by unfold w5; omega, rfl, rfl⟩ | exact Or.inr ⟨by unfold w5; omega, rfl, rfl⟩
                  · skip
                    refine Hx.run 1 (pc' := 118) (L' := [some (vr 64), some (vi 115), some (vi 116), some (vi 114), some (vi 105), some (vi 100), some (vi 101), some (vi 0), some (vi 0), some (vi ((M 64 7) - (M 64 8)))]) (st' := [vi 0]) (M' := M) rfl ?_
                    refine Hx.ret rfl ?_
                    first | exact Or.inl ⟨by unfold w5; omega, rfl, rfl⟩ | exact Or.inr ⟨by unfold w5; omega, rfl, rfl⟩
                · skip
                  refine Hx.run 2 (pc' := 118) (L' := [some (vr 64), some (vi 115), some (vi 116), some (vi 114), some (vi 105), some (vi 100), some (vi 101), some (vi 0), some (vi 0), some (vi ((M 64 7) - (M 64 8)))]) (st' := [vi 0]) (M' := M) rfl ?_
                  refine Hx.ret rfl ?_
                  first | exact Or.inl ⟨by unfold w5; omega, rfl, rfl⟩ | exact Or.inr ⟨by unfold w5; omega, rfl, rfl⟩
              · skip
                refine Hx.run 2 (pc' := 118) (L' := [some (vr 64), some (vi 115), some (vi 116), some (vi 114), some (vi 105), some (vi 100), some (vi 101), some (vi 0), some (vi 0), some (vi ((M 64 7) - (M 64 8)))]) (st' := [vi 0]) (M' := M) rfl ?_
                refine Hx.ret rfl ?_
                first | exact Or.inl ⟨by unfold w5; omega, rfl, rfl⟩ | exact Or.inr ⟨by unfold w5; omega, rfl, rfl⟩
            · skip
              refine Hx.run 2 (pc' := 118) (L' := [some (vr 64), some (vi 115), some (vi 116), some (vi 114), some (vi 105), some (vi 100), some (vi 101), some (vi 0), some (vi 0), some (vi ((M 64 7) - (M 64 8)))]) (st' := [vi 0]) (M' := M) rfl ?_
              refine Hx.ret rfl ?_
              first | exact Or.inl ⟨by unfold w5; omega, rfl, rfl⟩ | exact Or.inr ⟨by unfold w5; omega, rfl, rfl⟩
          · skip
            refine Hx.run 2 (pc' := 118) (L' := [some (vr 64), some (vi 115), some (vi 116), some (vi 114), some (vi 105), some (vi 100), some (vi 101), some (vi 0), some (vi 0), some (vi ((M 64 7) - (M 64 8)))]) (st' := [vi 0]) (M' := M) rfl ?_
            refine Hx.ret rfl ?_
            first | exact Or.inl ⟨by unfold w5; omega, rfl, rfl⟩ | exact Or.inr ⟨by unfold w5; omega, rfl, rfl⟩
        · skip
          refine Hx.run 2 (pc' := 118) (L' := [some (vr 64), some (vi 115), some (vi 116), some (vi 114), some (vi 105), some (vi 100), some (vi 101), some (vi 0), some (vi 0), some (vi ((M 64 7) - (M 64 8)))]) (st' := [vi 0]) (M' := M) rfl ?_
          refine Hx.ret rfl ?_
          first | exact Or.inl ⟨by unfold w5; omega, rfl, rfl⟩ | exact Or.inr ⟨by unfold w5; omega, rfl, rfl⟩
      · skip
        refine Hx.run 2 (pc' := 118) (L' := [some (vr 64), some (vi 115), some (vi 116), some (vi 114), some (vi 105), some (vi 100), some (vi 101), some (vi 0), some (vi 0), some (vi ((M 64 7) - (M 64 8)))]) (st' := [vi 0]) (M' := M) rfl ?_
        refine Hx.ret rfl ?_
        first | exact Or.inl ⟨by unfold w5; omega, rfl, rfl⟩ | exact Or.inr ⟨by unfold w5; omega, rfl, rfl⟩
    · skip
      refine Hx.run 2 (pc' := 118) (L' := [some (vr 64), some (vi 115), some (vi 116), some (vi 114), some (vi 105), some (vi 100), some (vi 101), some (vi 0), some (vi 0), some (vi ((M 64 7) - (M 64 8)))]) (st' := [vi 0]) (M' := M) rfl ?_
      refine Hx.ret rfl ?_
      first | exact Or.inl ⟨by unfold w5; omega, rfl, rfl⟩ | exact Or.inr ⟨by unfold w5; omega, rfl, rfl⟩
  · skip
    refine Hx.run 2 (pc' := 118) (L' := [some (vr 64), some (vi 115), some (vi 116), some (vi 114), some (vi 105), some (vi 100), some (vi 101), some (vi 0), some (vi 0), some (vi ((M 64 7) - (M 64 8)))]) (st' := [vi 0]) (M' := M) rfl ?_
    refine Hx.ret rfl ?_
    first | exact Or.inl ⟨by unfold w5; omega, rfl, rfl⟩ | exact Or.inr ⟨by unfold w5; omega, rfl, rfl⟩
set_option maxRecDepth 100000 in
theorem r_isWord_6 (M : Mm) (t : Int → Int) (hT : TR M t) (h8 : 0 ≤ M 64 8) (h7 : M 64 8 ≤ M 64 7 ∧ M 64 7 ≤ M 64 3) : Ct 158 [vr 64, vi 104, vi 111, vi 117, vi 114, vi 115, vi 0, vi 0, vi 0] M (fun q0 M' => ((w6 t (M 64 8) (M 64 7)) ∧ q0 = some (vi 1) ∧ M = M') ∨ (¬ (w6 t (M 64 8) (M 64 7)) ∧ q0 = some (vi 0) ∧ M = M')) := by
  have tx := hT.1.1
  have t0 : M 64 7 - M 64 8 = 5 → t (M 64 8 + 0) = M 67 (M 64 8 + 0) := fun z => hT.2 _ (by omega) (by omega)
  have t1 : M 64 7 - M 64 8 = 5 → t (M 64 8 + 1) = M 67 (M 64 8 + 1) := fun z => hT.2 _ (by omega) (by omega)
  have t2 : M 64 7 - M 64 8 = 5 → t (M 64 8 + 2) = M 67 (M 64 8 + 2) := fun z => hT.2 _ (by omega) (by omega)
  have t3 : M 64 7 - M 64 8 = 5 → t (M 64 8 + 3) = M 67 (M 64 8 + 3) := fun z => hT.2 _ (by omega) (by omega)
  have t4 : M 64 7 - M 64 8 = 5 → t (M 64 8 + 4) = M 67 (M 64 8 + 4) := fun z => hT.2 _ (by omega) (by omega)
  refine Hx.run 4 (pc' := 8) (L' := [some (vr 64), some (vi 104), some (vi 111), some (vi 117), some (vi 114), some (vi 115), some (vi 0), some (vi 0), some (vi 0), none]) (st' := [vi (M 64 8), vi (M 64 7)]) (M' := M) rfl ?_
  refine Hx.sub rfl (by omega) ?_
  refine Hx.run 5 (pc' := 16) (L' := [some (vr 64), some (vi 104), some (vi 111), some (vi 117), some (vi 114), some (vi 115), some (vi 0), some (vi 0), some (vi 0), some (vi ((M 64 7) - (M 64 8)))]) (st' := [vi ((M 64 7) - (M 64 8)), vi 104, vi 0, vr 64]) (M' := M) rfl ?_
  refine Hx.call (t := 159) (as := [vr 64, vi 0, vi 104, vi ((M 64 7) - (M 64 8))]) (pc' := 19) (rest := []) rfl (r_isLetter 0 104 ((M 64 7) - (M 64 8)) M (by omega) (by omega) (by omega)) ?_
  rintro _ _ (⟨q197, rfl, rfl⟩ | ⟨q197, rfl, rfl⟩)
  · skip
    refine Hx.run 5 (pc' := 27) (L' := [some (vr 64), some (vi 104), some (vi 111), some (vi 117), some (vi 114), some (vi 115), some (vi 0), some (vi 0), some (vi 0), some (vi ((M 64 7) - (M 64 8)))]) (st' := [vi ((M 64 7) - (M 64 8)), vi 111, vi 1, vr 64]) (M' := M) rfl ?_
    refine Hx.call (t := 159) (as := [vr 64, vi 1, vi 111, vi ((M 64 7) - (M 64 8))]) (pc' := 30) (rest := []) rfl (r_isLetter 1 111 ((M 64 7) - (M 64 8)) M (by omega) (by omega) (by omega)) ?_
    rintro _ _ (⟨q198, rfl, rfl⟩ | ⟨q198, rfl, rfl⟩)
    · skip
      refine Hx.run 5 (pc' := 38) (L' := [some (vr 64), some (vi 104), some (vi 111), some (vi 117), some (vi 114), some (vi 115), some (vi 0), some (vi 0), some (vi 0), some (vi ((M 64 7) - (M 64 8)))]) (st' := [vi ((M 64 7) - (M 64 8)), vi 117, vi 2, vr 64]) (M' := M) rfl ?_
      refine Hx.call (t := 159) (as := [vr 64, vi 2, vi 117, vi ((M 64 7) - (M 64 8))]) (pc' := 41) (rest := []) rfl (r_isLetter 2 117 ((M 64 7) - (M 64 8)) M (by omega) (by omega) (by omega)) ?_
      rintro _ _ (⟨q199, rfl, rfl⟩ | ⟨q199, rfl, rfl⟩)
      · skip
        refine Hx.run 5 (pc' := 50) (L' := [some (vr 64), some (vi 104), some (vi 111), some (vi 117), some (vi 114), some (vi 115), some (vi 0), some (vi 0), some (vi 0), some (vi ((M 64 7) - (M 64 8)))]) (st' := [vi ((M 64 7) - (M 64 8)), vi 114, vi 3, vr 64]) (M' := M) rfl ?_
        refine Hx.call (t := 159) (as := [vr 64, vi 3, vi 114, vi ((M 64 7) - (M 64 8))]) (pc' := 53) (rest := []) rfl (r_isLetter 3 114 ((M 64 7) - (M 64 8)) M (by omega) (by omega) (by omega)) ?_
        rintro _ _ (⟨q200, rfl, rfl⟩ | ⟨q200, rfl, rfl⟩)
        · skip
          refine Hx.run 5 (pc' := 62) (L' := [some (vr 64), some (vi 104), some (vi 111), some (vi 117), some (vi 114), some (vi 115), some (vi 0), some (vi 0), some (vi 0), some (vi ((M 64 7) - (M 64 8)))]) (st' := [vi ((M 64 7) - (M 64 8)), vi 115, vi 4, vr 64]) (M' := M) rfl ?_
          refine Hx.call (t := 159) (as := [vr 64, vi 4, vi 115, vi ((M 64 7) - (M 64 8))]) (pc' := 65) (rest := []) rfl (r_isLetter 4 115 ((M 64 7) - (M 64 8)) M (by omega) (by omega) (by omega)) ?_
          rintro _ _ (⟨q201, rfl, rfl⟩ | ⟨q201, rfl, rfl⟩)
          · skip
            refine Hx.run 5 (pc' := 74) (L' := [some (vr 64), some (vi 104), some (vi 111), some (vi 117), some (vi 114), some (vi 115), some (vi 0), some (vi 0), some (vi 0), some (vi ((M 64 7) - (M 64 8)))]) (st' := [vi ((M 64 7) - (M 64 8)), vi 0, vi 5, vr 64]) (M' := M) rfl ?_
            refine Hx.call (t := 159) (as := [vr 64, vi 5, vi 0, vi ((M 64 7) - (M 64 8))]) (pc' := 77) (rest := []) rfl (r_isLetter 5 0 ((M 64 7) - (M 64 8)) M (by omega) (by omega) (by omega)) ?_
            rintro _ _ (⟨q202, rfl, rfl⟩ | ⟨q202, rfl, rfl⟩)
            · skip
              refine Hx.run 5 (pc' := 87) (L' := [some (vr 64), some (vi 104), some (vi 111), some (vi 117), some (vi 114), some (vi 115), some (vi 0), some (vi 0), some (vi 0), some (vi ((M 64 7) - (M 64 8)))]) (st' := [vi ((M 64 7) - (M 64 8)), vi 0, vi 6, vr 64]) (M' := M) rfl ?_
              refine Hx.call (t := 159) (as := [vr 64, vi 6, vi 0, vi ((M 64 7) - (M 64 8))]) (pc' := 90) (rest := []) rfl (r_isLetter 6 0 ((M 64 7) - (M 64 8)) M (by omega) (by omega) (by omega)) ?_
              rintro _ _ (⟨q203, rfl, rfl⟩ | ⟨q203, rfl, rfl⟩)
              · skip
                refine Hx.run 5 (pc' := 100) (L' := [some (vr 64), some (vi 104), some (vi 111), some (vi 117), some (vi 114), some (vi 115), some (vi 0), some (vi 0), some (vi 0), some (vi ((M 64 7) - (M 64 8)))]) (st' := [vi ((M 64 7) - (M 64 8)), vi 0, vi 7, vr 64]) (M' := M) rfl ?_
                refine Hx.call (t := 159) (as := [vr 64, vi 7, vi 0, vi ((M 64 7) - (M 64 8))]) (pc' := 103) (rest := []) rfl (r_isLetter 7 0 ((M 64 7) - (M 64 8)) M (by omega) (by omega) (by omega)) ?_
                rintro _ _ (⟨q204, rfl, rfl⟩ | ⟨q204, rfl, rfl⟩)
                · skip
                  refine Hx.run 3 (pc' := 110) (L' := [some (vr 64), some (vi 104), some (vi 111), some (vi 117), some (vi 114), some (vi 115), some (vi 0), some (vi 0), some (vi 0), some (vi ((M 64 7) - (M 64 8)))]) (st' := [vi 9, vi ((M 64 7) - (M 64 8))]) (M' := M) rfl ?_
                  refine Hx.br (c := ((M 64 7) - (M 64 8)) < 9) (t := 113) (f := 117) rfl (fun h1 => ?_) (fun h1 => ?_)
                  · skip
                    refine Hx.run 2 (pc' := 118) (L' := [some (vr 64), some (vi 104), some (vi 111), some (vi 117), some (vi 114), some (vi 115), some (vi 0), some (vi 0), some (vi 0), some (vi ((M 64 7) - (M 64 8)))]) (st' := [vi 1]) (M' := M) rfl ?_
                    refine Hx.ret rfl ?_
                    first | exact Or.inl ⟨by unfold w6; omega, rfl, rfl⟩ | exact Or.inr ⟨by unfold w6; omega, rfl, rfl⟩
                  · skip
                    refine Hx.run 1 (pc' := 118) (L' := [some (vr 64), some (vi 104), some (vi 111), some (vi 117), some (vi 114), some (vi 115), some (vi 0), some (vi 0), some (vi 0), some (vi ((M 64 7) - (M 64 8)))]) (st' := [vi 0]) (M' := M) rfl ?_
                    refine Hx.ret rfl ?_
                    first | exact Or.inl ⟨by unfold w6; omega, rfl, rfl⟩ | exact Or.inr ⟨by unfold w6; omega, rfl, rfl⟩
                · skip
                  refine Hx.run 2 (pc' := 118) (L' := [some (vr 64), some (vi 104), some (vi 111), some (vi 117), some (vi 114), some (vi 115), some (vi 0), some (vi 0), some (vi 0), some (vi ((M 64 7) - (M 64 8)))]) (st' := [vi 0]) (M' := M) rfl ?_
                  refine Hx.ret rfl ?_
                  first | exact Or.inl ⟨by unfold w6; omega, rfl, rfl⟩ | exact Or.inr ⟨by unfold w6; omega, rfl, rfl⟩
              · skip
                refine Hx.run 2 (pc' := 118) (L' := [some (vr 64), some (vi 104), some (vi 111), some (vi 117), some (vi 114), some (vi 115), some (vi 0), some (vi 0), some (vi 0), some (vi ((M 64 7) - (M 64 8)))]) (st' := [vi 0]) (M' := M) rfl ?_
                refine Hx.ret rfl ?_
                first | exact Or.inl ⟨by unfold w6; omega, rfl, rfl⟩ | exact Or.inr ⟨by unfold w6; omega, rfl, rfl⟩
            · skip
              refine Hx.run 2 (pc' := 118) (L' := [some (vr 64), some (vi 104), some (vi 111), some (vi 117), some (vi 114), some (vi 115), some (vi 0), some (vi 0), some (vi 0), some (vi ((M 64 7) - (M 64 8)))]) (st' := [vi 0]) (M' := M) rfl ?_
              refine Hx.ret rfl ?_
              first | exact Or.inl ⟨by unfold w6; omega, rfl, rfl⟩ | exact Or.inr ⟨by unfold w6; omega, rfl, rfl⟩
          · skip
            refine Hx.run 2 (pc' := 118) (L' := [some (vr 64), some (vi 104), some (vi 111), some (vi 117), some (vi 114), some (vi 115), some (vi 0), some (vi 0), some (vi 0), some (vi ((M 64 7) - (M 64 8)))]) (st' := [vi 0]) (M' := M) rfl ?_
            refine Hx.ret rfl ?_
            first | exact Or.inl ⟨by unfold w6; omega, rfl, rfl⟩ | exact Or.inr ⟨by unfold w6; omega, rfl, rfl⟩
        · skip
          refine Hx.run 2 (pc' := 118) (L' := [some (vr 64), some (vi 104), some (vi 111), some (vi 117), some (vi 114), some (vi 115), some (vi 0), some (vi 0), some (vi 0), some (vi ((M 64 7) - (M 64 8)))]) (st' := [vi 0]) (M' := M) rfl ?_
          refine Hx.ret rfl ?_
          first | exact Or.inl ⟨by unfold w6; omega, rfl, rfl⟩ | exact Or.inr ⟨by unfold w6; omega, rfl, rfl⟩
      · skip
        refine Hx.run 2 (pc' := 118) (L' := [some (vr 64), some (vi 104), some (vi 111), some (vi 117), some (vi 114), some (vi 115), some (vi 0), some (vi 0), some (vi 0), some (vi ((M 64 7) - (M 64 8)))]) (st' := [vi 0]) (M' := M) rfl ?_
        refine Hx.ret rfl ?_
        first | exact Or.inl ⟨by unfold w6; omega, rfl, rfl⟩ | exact Or.inr ⟨by unfold w6; omega, rfl, rfl⟩
    · skip
      refine Hx.run 2 (pc' := 118) (L' := [some (vr 64), some (vi 104), some (vi 111), some (vi 117), some (vi 114), some (vi 115), some (vi 0), some (vi 0), some (vi 0), some (vi ((M 64 7) - (M 64 8)))]) (st' := [vi 0]) (M' := M) rfl ?_
      refine Hx.ret rfl ?_
      first | exact Or.inl ⟨by unfold w6; omega, rfl, rfl⟩ | exact Or.inr ⟨by unfold w6; omega, rfl, rfl⟩
  · skip
    refine Hx.run 2 (pc' := 118) (L' := [some (vr 64), some (vi 104), some (vi 111), some (vi 117), some (vi 114), some (vi 115), some (vi 0), some (vi 0), some (vi 0), some (vi ((M 64 7) - (M 64 8)))]) (st' := [vi 0]) (M' := M) rfl ?_
    refine Hx.ret rfl ?_
    first | exact Or.inl ⟨by unfold w6; omega, rfl, rfl⟩ | exact Or.inr ⟨by unfold w6; omega, rfl, rfl⟩
set_option maxRecDepth 100000 in
theorem r_wordOf (M : Mm) (t : Int → Int) (hT : TR M t) (h8 : 0 ≤ M 64 8) (h7 : M 64 8 ≤ M 64 7 ∧ M 64 7 ≤ M 64 3) : Ct 160 [vr 64] M (fun q0 M' => q0 = some (vi (wdI t (M 64 8) (M 64 7))) ∧ M = M') := by
  refine Hx.run 9 (pc' := 17) (L' := [some (vr 64)]) (st' := [vi 116, vi 110, vi 101, vi 109, vi 101, vi 110, vi 101, vi 116, vr 64]) (M' := M) rfl ?_
  refine Hx.call (t := 158) (as := [vr 64, vi 116, vi 101, vi 110, vi 101, vi 109, vi 101, vi 110, vi 116]) (pc' := 20) (rest := []) rfl (r_isWord_1 M t hT h8 h7) ?_
  rintro _ _ (⟨k1, rfl, rfl⟩ | ⟨k1, rfl, rfl⟩)
  · skip
    refine Hx.run 3 (pc' := 149) (L' := [some (vr 64)]) (st' := [vi 1]) (M' := M) rfl ?_
    refine Hx.ret rfl ?_
    exact ⟨some_vi (by unfold wdI; rw [if_pos (w1B_1 k1)]), rfl⟩
  · skip
    refine Hx.run 10 (pc' := 42) (L' := [some (vr 64)]) (st' := [vi 0, vi 0, vi 116, vi 104, vi 103, vi 105, vi 108, vi 102, vr 64]) (M' := M) rfl ?_
    refine Hx.call (t := 158) (as := [vr 64, vi 102, vi 108, vi 105, vi 103, vi 104, vi 116, vi 0, vi 0]) (pc' := 45) (rest := []) rfl (r_isWord_2 M t hT h8 h7) ?_
    rintro _ _ (⟨k2, rfl, rfl⟩ | ⟨k2, rfl, rfl⟩)
    · skip
      refine Hx.run 3 (pc' := 149) (L' := [some (vr 64)]) (st' := [vi 2]) (M' := M) rfl ?_
      refine Hx.ret rfl ?_
      exact ⟨some_vi (by unfold wdI; rw [if_neg (w1B_0 k1), if_pos (w2B_1 k2)]), rfl⟩
    · skip
      refine Hx.run 10 (pc' := 65) (L' := [some (vr 64)]) (st' := [vi 0, vi 0, vi 0, vi 0, vi 114, vi 101, vi 111, vi 103, vr 64]) (M' := M) rfl ?_
      refine Hx.call (t := 158) (as := [vr 64, vi 103, vi 111, vi 101, vi 114, vi 0, vi 0, vi 0, vi 0]) (pc' := 68) (rest := []) rfl (r_isWord_3 M t hT h8 h7) ?_
      rintro _ _ (⟨k3, rfl, rfl⟩ | ⟨k3, rfl, rfl⟩)
      · skip
        refine Hx.run 3 (pc' := 149) (L' := [some (vr 64)]) (st' := [vi 3]) (M' := M) rfl ?_
        refine Hx.ret rfl ?_
        exact ⟨some_vi (by unfold wdI; rw [if_neg (w1B_0 k1), if_neg (w2B_0 k2), if_pos (w3B_1 k3)]), rfl⟩
      · skip
        refine Hx.run 10 (pc' := 88) (L' := [some (vr 64)]) (st' := [vi 0, vi 0, vi 0, vi 0, vi 100, vi 97, vi 111, vi 108, vr 64]) (M' := M) rfl ?_
        refine Hx.call (t := 158) (as := [vr 64, vi 108, vi 111, vi 97, vi 100, vi 0, vi 0, vi 0, vi 0]) (pc' := 91) (rest := []) rfl (r_isWord_4 M t hT h8 h7) ?_
        rintro _ _ (⟨k4, rfl, rfl⟩ | ⟨k4, rfl, rfl⟩)
        · skip
          refine Hx.run 3 (pc' := 149) (L' := [some (vr 64)]) (st' := [vi 4]) (M' := M) rfl ?_
          refine Hx.ret rfl ?_
          exact ⟨some_vi (by unfold wdI; rw [if_neg (w1B_0 k1), if_neg (w2B_0 k2), if_neg (w3B_0 k3), if_pos (w4B_1 k4)]), rfl⟩
        · skip
          refine Hx.run 10 (pc' := 113) (L' := [some (vr 64)]) (st' := [vi 0, vi 0, vi 101, vi 100, vi 105, vi 114, vi 116, vi 115, vr 64]) (M' := M) rfl ?_
          refine Hx.call (t := 158) (as := [vr 64, vi 115, vi 116, vi 114, vi 105, vi 100, vi 101, vi 0, vi 0]) (pc' := 116) (rest := []) rfl (r_isWord_5 M t hT h8 h7) ?_
          rintro _ _ (⟨k5, rfl, rfl⟩ | ⟨k5, rfl, rfl⟩)
          · skip
            refine Hx.run 3 (pc' := 149) (L' := [some (vr 64)]) (st' := [vi 5]) (M' := M) rfl ?_
            refine Hx.ret rfl ?_
            exact ⟨some_vi (by unfold wdI; rw [if_neg (w1B_0 k1), if_neg (w2B_0 k2), if_neg (w3B_0 k3), if_neg (w4B_0 k4), if_pos (w5B_1 k5)]), rfl⟩
          · skip
            refine Hx.run 10 (pc' := 137) (L' := [some (vr 64)]) (st' := [vi 0, vi 0, vi 0, vi 115, vi 114, vi 117, vi 111, vi 104, vr 64]) (M' := M) rfl ?_
            refine Hx.call (t := 158) (as := [vr 64, vi 104, vi 111, vi 117, vi 114, vi 115, vi 0, vi 0, vi 0]) (pc' := 140) (rest := []) rfl (r_isWord_6 M t hT h8 h7) ?_
            rintro _ _ (⟨k6, rfl, rfl⟩ | ⟨k6, rfl, rfl⟩)
            · skip
              refine Hx.run 3 (pc' := 149) (L' := [some (vr 64)]) (st' := [vi 6]) (M' := M) rfl ?_
              refine Hx.ret rfl ?_
              exact ⟨some_vi (by unfold wdI; rw [if_neg (w1B_0 k1), if_neg (w2B_0 k2), if_neg (w3B_0 k3), if_neg (w4B_0 k4), if_neg (w5B_0 k5), if_pos (w6B_1 k6)]), rfl⟩
            · skip
              refine Hx.run 2 (pc' := 149) (L' := [some (vr 64)]) (st' := [vi 0]) (M' := M) rfl ?_
              refine Hx.ret rfl ?_
              exact ⟨some_vi (by unfold wdI; rw [if_neg (w1B_0 k1), if_neg (w2B_0 k2), if_neg (w3B_0 k3), if_neg (w4B_0 k4), if_neg (w5B_0 k5), if_neg (w6B_0 k6)]), rfl⟩
