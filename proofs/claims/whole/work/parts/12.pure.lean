/-! PURE CONTRACTS: from a configuration it ends, with an answer and a memory as P says -/
abbrev vi (z : Int) : PV := Sum.inl z
abbrev vl (z : Int) : PV := Sum.inr (Sum.inl z)
abbrev vr (k : Nat) : PV := Sum.inr (Sum.inr k)
def Hx (y pc : Nat) (L : Lc) (st : List PV) (M : Mm) (P : Option PV → Mm → Prop) : Prop := ∃ (r : Option PV) (M' : Mm), den y pc L st M = some (r, M') ∧ P r M'
def Ct (t : Nat) (as : List PV) (M : Mm) (P : Option PV → Mm → Prop) : Prop := Hx t 0 (ent (mL t) as) [] M P
def stepN : Nat → Nat → Cf → Option Cf
  | 0, _, c => some c
  | n + 1, y, (pc, L, st, M) => match step y pc L st M with
    | some (.inl c) => stepN n y c
    | _ => none
theorem Hx.go {y pc pc' : Nat} {L L' : Lc} {st st' : List PV} {M M' : Mm} {P : Option PV → Mm → Prop} (h : step y pc L st M = some (.inl (pc', L', st', M'))) (k : Hx y pc' L' st' M' P) : Hx y pc L st M P := by
  obtain ⟨r, M1, h1, h2⟩ := k
  exact ⟨r, M1, (den_go h).trans h1, h2⟩
theorem Hx.run (n : Nat) {y pc pc' : Nat} {L L' : Lc} {st st' : List PV} {M M' : Mm} {P : Option PV → Mm → Prop} (h : stepN n y (pc, L, st, M) = some (pc', L', st', M')) (k : Hx y pc' L' st' M' P) : Hx y pc L st M P := by
  induction n generalizing pc L st M with
  | zero => cases h; exact k
  | succ n ih =>
    unfold stepN at h
    split at h
    · rename_i cf hs
      obtain ⟨pc1, L1, st1, M1⟩ := cf
      exact Hx.go hs (ih h)
    · cases h
theorem Hx.ret {y pc : Nat} {L : Lc} {st : List PV} {M : Mm} {P : Option PV → Mm → Prop} {r : Option PV} (h : step y pc L st M = some (.inr (.inr r))) (k : P r M) : Hx y pc L st M P := ⟨r, M, den_ret h, k⟩
theorem Hx.br {y pc t f : Nat} {L L' : Lc} {st st' : List PV} {M M' : Mm} {P : Option PV → Mm → Prop} {c : Prop} [dc : Decidable c] (h : step y pc L st M = some (.inl (if c then t else f, L', st', M'))) (kt : c → Hx y t L' st' M' P) (kf : ¬ c → Hx y f L' st' M' P) : Hx y pc L st M P := by
  refine Hx.go h ?_
  by_cases hc : c
  · rw [if_pos hc]; exact kt hc
  · rw [if_neg hc]; exact kf hc
theorem Hx.call {y pc pc' t : Nat} {as : List PV} {L : Lc} {st rest : List PV} {M : Mm} {P P1 : Option PV → Mm → Prop} (h : step y pc L st M = some (.inr (.inl (t, as, pc', rest)))) (hc : Ct t as M P1) (k : ∀ (r : Option PV) (M' : Mm), P1 r M' → Hx y pc' L (r.toList ++ rest) M' P) : Hx y pc L st M P := by
  obtain ⟨r, M1, h1, h2⟩ := hc
  obtain ⟨r2, M2, h3, h4⟩ := k r M1 h2
  exact ⟨r2, M2, (den_call h h1).trans h3, h4⟩
theorem Hx.imp {y pc : Nat} {L : Lc} {st : List PV} {M : Mm} {P P1 : Option PV → Mm → Prop} (h : Hx y pc L st M P1) (k : ∀ r M', P1 r M' → P r M') : Hx y pc L st M P := by
  obtain ⟨r, M1, h1, h2⟩ := h
  exact ⟨r, M1, h1, k _ _ h2⟩
theorem Ct.imp {t : Nat} {as : List PV} {M : Mm} {P P1 : Option PV → Mm → Prop} (h : Ct t as M P1) (k : ∀ r M', P1 r M' → P r M') : Ct t as M P := Hx.imp h k
theorem Hx.eq {y pc : Nat} {L : Lc} {st st' : List PV} {M M' : Mm} {P : Option PV → Mm → Prop} (e : st = st') (e2 : M = M') (h : Hx y pc L st' M' P) : Hx y pc L st M P := by subst e; subst e2; exact h
theorem add32 {a b : Int} (h : -2147483648 ≤ a + b ∧ a + b < 2147483648) : i2 fadd a b = a + b := by
  unfold i2 fadd
  rw [← Int32.ofInt_add]
  exact of32 h
theorem sub32 {a b : Int} (h : -2147483648 ≤ a - b ∧ a - b < 2147483648) : i2 fsub a b = a - b := by
  unfold i2 fsub
  rw [← Int32.ofInt_sub]
  exact of32 h
theorem mul32 {a b : Int} (h : -2147483648 ≤ a * b ∧ a * b < 2147483648) : i2 fmul a b = a * b := by
  unfold i2 fmul
  rw [← Int32.ofInt_mul]
  exact of32 h
theorem neg32 {a : Int} (h : -2147483648 ≤ -a ∧ -a < 2147483648) : i1 fneg a = -a := by
  unfold i1 fneg
  rw [← Int32.ofInt_neg]
  exact of32 h
theorem add64 {a b : Int} (h : -9223372036854775808 ≤ a + b ∧ a + b < 9223372036854775808) : l2 gadd a b = a + b := by
  unfold l2 gadd
  rw [← Int64.ofInt_add]
  exact of64 h
theorem mul64 {a b : Int} (h : -9223372036854775808 ≤ a * b ∧ a * b < 9223372036854775808) : l2 gmul a b = a * b := by
  unfold l2 gmul
  rw [← Int64.ofInt_mul]
  exact of64 h
theorem div32 {a b : Int} (ha : 0 ≤ a) (ha2 : a < 2147483648) (hb : 0 < b) (hb2 : b < 2147483648) : i2 fdiv a b = a / b := by
  unfold i2 fdiv
  obtain ⟨n, rfl⟩ : ∃ n : Nat, a = n := ⟨a.toNat, by omega⟩
  obtain ⟨d, rfl⟩ : ∃ d : Nat, b = d := ⟨b.toNat, by omega⟩
  have h := pk_div (a := n) (d := d) (by omega) (by omega) (by omega)
  unfold nI at h
  have hq : n / d ≤ n := Nat.div_le_self n d
  have e : (n : Int) / (d : Int) = ((n / d : Nat) : Int) := rfl
  rw [e]
  generalize n / d = q at hq h
  rw [Int32.ofInt_eq_ofNat, Int32.ofInt_eq_ofNat, h, ← Int32.ofInt_eq_ofNat]
  exact of32 ⟨by omega, by omega⟩
theorem rem32 {a b : Int} (ha : 0 ≤ a) (ha2 : a < 2147483648) (hb : 0 < b) (hb2 : b < 2147483648) : i2 frem a b = a % b := by
  unfold i2 frem
  obtain ⟨n, rfl⟩ : ∃ n : Nat, a = n := ⟨a.toNat, by omega⟩
  obtain ⟨d, rfl⟩ : ∃ d : Nat, b = d := ⟨b.toNat, by omega⟩
  have h := pk_rem (a := n) (d := d) (by omega) (by omega) (by omega)
  unfold nI at h
  have hq : n % d ≤ n := Nat.mod_le n d
  have e : (n : Int) % (d : Int) = ((n % d : Nat) : Int) := rfl
  rw [e]
  generalize n % d = q at hq h
  rw [Int32.ofInt_eq_ofNat, Int32.ofInt_eq_ofNat, h, ← Int32.ofInt_eq_ofNat]
  exact of32 ⟨by omega, by omega⟩
theorem div64 {a b : Int} (ha : 0 ≤ a) (ha2 : a < 9223372036854775808) (hb : 0 < b) (hb2 : b < 9223372036854775808) : l2 gdiv a b = a / b := by
  unfold l2 gdiv
  obtain ⟨n, rfl⟩ : ∃ n : Nat, a = n := ⟨a.toNat, by omega⟩
  obtain ⟨d, rfl⟩ : ∃ d : Nat, b = d := ⟨b.toNat, by omega⟩
  have h := pk_lDiv (a := n) (b := d) (by omega) (by omega) (by omega)
  unfold lN at h
  have hq : n / d ≤ n := Nat.div_le_self n d
  have e : (n : Int) / (d : Int) = ((n / d : Nat) : Int) := rfl
  rw [e]
  generalize n / d = q at hq h
  rw [Int64.ofInt_eq_ofNat, Int64.ofInt_eq_ofNat, h, ← Int64.ofInt_eq_ofNat]
  exact of64 ⟨by omega, by omega⟩
theorem rem64 {a b : Int} (ha : 0 ≤ a) (ha2 : a < 9223372036854775808) (hb : 0 < b) (hb2 : b < 9223372036854775808) : l2 grem a b = a % b := by
  unfold l2 grem
  obtain ⟨n, rfl⟩ : ∃ n : Nat, a = n := ⟨a.toNat, by omega⟩
  obtain ⟨d, rfl⟩ : ∃ d : Nat, b = d := ⟨b.toNat, by omega⟩
  have h := pk_lRem (a := n) (b := d) (by omega) (by omega) (by omega)
  unfold lN at h
  have hq : n % d ≤ n := Nat.mod_le n d
  have e : (n : Int) % (d : Int) = ((n % d : Nat) : Int) := rfl
  rw [e]
  generalize n % d = q at hq h
  rw [Int64.ofInt_eq_ofNat, Int64.ofInt_eq_ofNat, h, ← Int64.ofInt_eq_ofNat]
  exact of64 ⟨by omega, by omega⟩
section RUN
variable {y pc : Nat} {L : Lc} {st : List PV} {M : Mm} {P : Option PV → Mm → Prop}
theorem Hx.add {a b : Int} (hf : fetch y pc = some (.iadd, 1)) (h : -2147483648 ≤ a + b ∧ a + b < 2147483648) (k : Hx y (pc + 1) L (vi (a + b) :: st) M P) : Hx y pc L (vi b :: vi a :: st) M P := by
  refine Hx.go (pc' := pc + 1) (L' := L) (st' := vi (i2 fadd a b) :: st) (M' := M) (by unfold step; rw [hf]; rfl) ?_
  rw [add32 h]; exact k
theorem Hx.sub {a b : Int} (hf : fetch y pc = some (.isub, 1)) (h : -2147483648 ≤ a - b ∧ a - b < 2147483648) (k : Hx y (pc + 1) L (vi (a - b) :: st) M P) : Hx y pc L (vi b :: vi a :: st) M P := by
  refine Hx.go (pc' := pc + 1) (L' := L) (st' := vi (i2 fsub a b) :: st) (M' := M) (by unfold step; rw [hf]; rfl) ?_
  rw [sub32 h]; exact k
theorem Hx.mul {a b : Int} (hf : fetch y pc = some (.imul, 1)) (h : -2147483648 ≤ a * b ∧ a * b < 2147483648) (k : Hx y (pc + 1) L (vi (a * b) :: st) M P) : Hx y pc L (vi b :: vi a :: st) M P := by
  refine Hx.go (pc' := pc + 1) (L' := L) (st' := vi (i2 fmul a b) :: st) (M' := M) (by unfold step; rw [hf]; rfl) ?_
  rw [mul32 h]; exact k
theorem Hx.neg {a : Int} (hf : fetch y pc = some (.ineg, 1)) (h : -2147483648 ≤ -a ∧ -a < 2147483648) (k : Hx y (pc + 1) L (vi (-a) :: st) M P) : Hx y pc L (vi a :: st) M P := by
  refine Hx.go (pc' := pc + 1) (L' := L) (st' := vi (i1 fneg a) :: st) (M' := M) (by unfold step; rw [hf]; rfl) ?_
  rw [neg32 h]; exact k
theorem Hx.div {a b : Int} (hf : fetch y pc = some (.idiv, 1)) (h : (0 ≤ a ∧ a < 2147483648) ∧ 0 < b ∧ b < 2147483648) (k : Hx y (pc + 1) L (vi (a / b) :: st) M P) : Hx y pc L (vi b :: vi a :: st) M P := by
  refine Hx.go (pc' := pc + 1) (L' := L) (st' := vi (i2 fdiv a b) :: st) (M' := M) (by unfold step; rw [hf]; show (if b = 0 then none else _) = _; rw [if_neg (by omega)]; rfl) ?_
  rw [div32 h.1.1 h.1.2 h.2.1 h.2.2]; exact k
theorem Hx.rem {a b : Int} (hf : fetch y pc = some (.irem, 1)) (h : (0 ≤ a ∧ a < 2147483648) ∧ 0 < b ∧ b < 2147483648) (k : Hx y (pc + 1) L (vi (a % b) :: st) M P) : Hx y pc L (vi b :: vi a :: st) M P := by
  refine Hx.go (pc' := pc + 1) (L' := L) (st' := vi (i2 frem a b) :: st) (M' := M) (by unfold step; rw [hf]; show (if b = 0 then none else _) = _; rw [if_neg (by omega)]; rfl) ?_
  rw [rem32 h.1.1 h.1.2 h.2.1 h.2.2]; exact k
theorem Hx.ladd {a b : Int} (hf : fetch y pc = some (.ladd, 1)) (h : -9223372036854775808 ≤ a + b ∧ a + b < 9223372036854775808) (k : Hx y (pc + 1) L (vl (a + b) :: st) M P) : Hx y pc L (vl b :: vl a :: st) M P := by
  refine Hx.go (pc' := pc + 1) (L' := L) (st' := vl (l2 gadd a b) :: st) (M' := M) (by unfold step; rw [hf]; rfl) ?_
  rw [add64 h]; exact k
theorem Hx.lmul {a b : Int} (hf : fetch y pc = some (.lmul, 1)) (h : -9223372036854775808 ≤ a * b ∧ a * b < 9223372036854775808) (k : Hx y (pc + 1) L (vl (a * b) :: st) M P) : Hx y pc L (vl b :: vl a :: st) M P := by
  refine Hx.go (pc' := pc + 1) (L' := L) (st' := vl (l2 gmul a b) :: st) (M' := M) (by unfold step; rw [hf]; rfl) ?_
  rw [mul64 h]; exact k
theorem Hx.ldiv {a b : Int} (hf : fetch y pc = some (.ldiv, 1)) (h : (0 ≤ a ∧ a < 9223372036854775808) ∧ 0 < b ∧ b < 9223372036854775808) (k : Hx y (pc + 1) L (vl (a / b) :: st) M P) : Hx y pc L (vl b :: vl a :: st) M P := by
  refine Hx.go (pc' := pc + 1) (L' := L) (st' := vl (l2 gdiv a b) :: st) (M' := M) (by unfold step; rw [hf]; show (if b = 0 then none else _) = _; rw [if_neg (by omega)]; rfl) ?_
  rw [div64 h.1.1 h.1.2 h.2.1 h.2.2]; exact k
theorem Hx.lrem {a b : Int} (hf : fetch y pc = some (.lrem, 1)) (h : (0 ≤ a ∧ a < 9223372036854775808) ∧ 0 < b ∧ b < 9223372036854775808) (k : Hx y (pc + 1) L (vl (a % b) :: st) M P) : Hx y pc L (vl b :: vl a :: st) M P := by
  refine Hx.go (pc' := pc + 1) (L' := L) (st' := vl (l2 grem a b) :: st) (M' := M) (by unfold step; rw [hf]; show (if b = 0 then none else _) = _; rw [if_neg (by omega)]; rfl) ?_
  rw [rem64 h.1.1 h.1.2 h.2.1 h.2.2]; exact k
theorem Hx.inc {z n : Int} {k0 : Nat} (hf : fetch y pc = some (.iinc k0 n, 3)) (hz : gl L k0 = some (vi z)) (h : -2147483648 ≤ z + n ∧ z + n < 2147483648) (k : Hx y (pc + 3) (sl L k0 (some (vi (z + n)))) st M P) : Hx y pc L st M P := by
  refine Hx.go (pc' := pc + 3) (L' := sl L k0 (some (vi (i2 fadd z n)))) (st' := st) (M' := M) (by unfold step; rw [hf]; simp only [stepI]; rw [hz]; rfl) ?_
  rw [add32 h]; exact k
theorem Hx.aldI {i : Int} {r n : Nat} (hf : fetch y pc = some (.iaload, 1)) (hs : shp r = .inl (n, false)) (h : 0 ≤ i ∧ i < (n : Int)) (k : Hx y (pc + 1) L (vi (M r i) :: st) M P) : Hx y pc L (vi i :: vr r :: st) M P := by
  refine Hx.go (pc' := pc + 1) (L' := L) (st' := vi (M r i) :: st) (M' := M) ?_ k
  unfold step
  rw [hf]
  simp only [stepI, ald]
  rw [hs]
  simp only [beq_self_eq_true, cond_true]
  rw [if_pos h]; rfl
theorem Hx.astI {v i : Int} {r n : Nat} (hf : fetch y pc = some (.iastore, 1)) (hs : shp r = .inl (n, false)) (h : 0 ≤ i ∧ i < (n : Int)) (k : Hx y (pc + 1) L st (up M r i v) P) : Hx y pc L (vi v :: vi i :: vr r :: st) M P := by
  refine Hx.go (pc' := pc + 1) (L' := L) (st' := st) (M' := up M r i v) ?_ k
  unfold step
  rw [hf]
  simp only [stepI, ast]
  rw [hs]
  simp only [beq_self_eq_true, cond_true]
  rw [if_pos ⟨h, fun q => by cases q⟩]; rfl
theorem lc_lt {a b : Int} : lc a b < 0 ↔ a < b := by
  unfold lc; split
  · omega
  · split <;> omega
theorem lc_gt {a b : Int} : 0 < lc a b ↔ b < a := by
  unfold lc; split
  · omega
  · split <;> omega
theorem lc_eq {a b : Int} : lc a b = 0 ↔ a = b := by
  unfold lc; split
  · omega
  · split <;> omega
theorem Hx.tab {a d lo hi : Int} {offs : Array Int} {len tgt : Nat} (v : Int) (hf : fetch y pc = some (.tableswitch d lo hi offs, len)) (hv : a = v) (ht : ((pc : Int) + (if v < lo ∨ hi < v then d else nth offs.toList (v - lo).toNat d)).toNat = tgt) (k : Hx y tgt L st M P) : Hx y pc L (vi a :: st) M P := by
  subst hv
  refine Hx.go (pc' := tgt) (L' := L) (st' := st) (M' := M) ?_ k
  unfold step
  rw [hf]
  simp only [stepI]
  rw [ht]; rfl
theorem Hx.tabD {a d lo hi : Int} {offs : Array Int} {len tgt : Nat} (hf : fetch y pc = some (.tableswitch d lo hi offs, len)) (hv : a < lo ∨ hi < a) (ht : ((pc : Int) + d).toNat = tgt) (k : Hx y tgt L st M P) : Hx y pc L (vi a :: st) M P := by
  refine Hx.go (pc' := tgt) (L' := L) (st' := st) (M' := M) ?_ k
  unfold step
  rw [hf]
  simp only [stepI]
  rw [if_pos hv, ht]; rfl
end RUN
theorem up_ne {M : Mm} {r : Nat} {i v : Int} {a : Nat} (h : a ≠ r) : up M r i v a = M a := by
  funext j; simp [up, h]
theorem up_at {M : Mm} {r : Nat} {i v : Int} : up M r i v r i = v := by simp [up]
theorem up_off {M : Mm} {r : Nat} {i v j : Int} (h : j ≠ i) : up M r i v r j = M r j := by simp [up, h]
theorem cp_ne {M : Mm} {rs rd a : Nat} {sp dp n : Int} (h : a ≠ rd) : cp M rs sp rd dp n a = M a := by
  funext j; simp [cp, h]
