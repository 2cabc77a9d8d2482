/-! THE PURE MACHINE: a value is an int, a long or a reference to a numbered cell; a memory holds the numbers of the cells -/
abbrev PV : Type := Int ⊕ (Int ⊕ Nat)
abbrev Lc : Type := List (Option PV)
abbrev Mm : Type := Nat → Int → Int
/-- pc, locals, stack, memory -/
abbrev Cf : Type := Nat × Lc × List PV × Mm
/-- the next configuration; or a call: method, arguments, pc behind it, stack behind it; or the end with its answer -/
abbrev StT : Type := Cf ⊕ ((Nat × List PV × Nat × List PV) ⊕ Option PV)
def gl : Lc → Nat → Option PV
  | [], _ => none
  | a :: _, 0 => a
  | _ :: l, n + 1 => gl l n
def sl : Lc → Nat → Option PV → Lc
  | [], _, _ => []
  | _ :: l, 0, v => v :: l
  | a :: l, n + 1, v => a :: sl l n v
def up (M : Mm) (r : Nat) (i v : Int) : Mm := fun a b => if a = r ∧ b = i then v else M a b
def cp (M : Mm) (rs : Nat) (sp : Int) (rd : Nat) (dp n : Int) : Mm := fun a b => if a = rd ∧ dp ≤ b ∧ b < dp + n then M rs (sp + (b - dp)) else M a b
def i1 (f : Int32 → Int32) (a : Int) : Int := (f (Int32.ofInt a)).toInt
def i2 (f : Int32 → Int32 → Int32) (a b : Int) : Int := (f (Int32.ofInt a) (Int32.ofInt b)).toInt
def l2 (f : Int64 → Int64 → Int64) (a b : Int) : Int := (f (Int64.ofInt a) (Int64.ofInt b)).toInt
def fadd (x y : Int32) : Int32 := x + y
def fsub (x y : Int32) : Int32 := x - y
def fmul (x y : Int32) : Int32 := x * y
def fneg (x : Int32) : Int32 := -x
def fdiv (x y : Int32) : Int32 := x / y
def frem (x y : Int32) : Int32 := x - x / y * y
def fand (x y : Int32) : Int32 := x &&& y
def fior (x y : Int32) : Int32 := x ||| y
def fxor (x y : Int32) : Int32 := x ^^^ y
def fshl (x y : Int32) : Int32 := x <<< (y &&& 31)
def fshr (x y : Int32) : Int32 := x >>> (y &&& 31)
def fushr (x y : Int32) : Int32 := (x.toUInt32 >>> (y.toUInt32 &&& Int32.toUInt32 31)).toInt32
def gadd (x y : Int64) : Int64 := x + y
def gmul (x y : Int64) : Int64 := x * y
def gdiv (x y : Int64) : Int64 := x / y
def grem (x y : Int64) : Int64 := x - x / y * y
def nx (pc : Nat) (L : Lc) (st : List PV) (M : Mm) : Option StT := some (.inl (pc, L, st, M))
def pI (pc : Nat) (L : Lc) (M : Mm) (f : Int32 → Int32 → Int32) : List PV → Option StT
  | .inl b :: .inl a :: st => nx pc L (.inl (i2 f a b) :: st) M
  | _ => none
/-- division, remainder: not by 0 -/
def pD (pc : Nat) (L : Lc) (M : Mm) (f : Int32 → Int32 → Int32) : List PV → Option StT
  | .inl b :: .inl a :: st => if b = 0 then none else nx pc L (.inl (i2 f a b) :: st) M
  | _ => none
def qI (pc : Nat) (L : Lc) (M : Mm) (f : Int64 → Int64 → Int64) : List PV → Option StT
  | .inr (.inl b) :: .inr (.inl a) :: st => nx pc L (.inr (.inl (l2 f a b)) :: st) M
  | _ => none
def qD (pc : Nat) (L : Lc) (M : Mm) (f : Int64 → Int64 → Int64) : List PV → Option StT
  | .inr (.inl b) :: .inr (.inl a) :: st => if b = 0 then none else nx pc L (.inr (.inl (l2 f a b)) :: st) M
  | _ => none
def br (c : Jvm.ClassFile.Cond) (a b : Int) (t f : Nat) : Nat := match c with
  | .eq => if a = b then t else f
  | .ne => if a = b then f else t
  | .lt => if a < b then t else f
  | .ge => if a < b then f else t
  | .gt => if b < a then t else f
  | .le => if b < a then f else t
/-- lcmp -/
def lc (a b : Int) : Int := if b < a then 1 else if a = b then 0 else -1
def ld (pc : Nat) (L : Lc) (st : List PV) (M : Mm) (k : Nat) (i : Nat) : Option StT := match k, gl L i with
  | 0, some (.inl z) => nx pc L (.inl z :: st) M
  | 1, some (.inr (.inl z)) => nx pc L (.inr (.inl z) :: st) M
  | 2, some (.inr (.inr r)) => nx pc L (.inr (.inr r) :: st) M
  | _, _ => none
def sto (pc : Nat) (L : Lc) (st : List PV) (M : Mm) (k : Nat) (i : Nat) : Option StT := match k, st with
  | 0, .inl z :: st => nx pc (sl L i (some (.inl z))) st M
  | 1, .inr (.inl z) :: st => nx pc (sl (sl L (i + 1) none) i (some (.inr (.inl z)))) st M
  | 2, .inr (.inr r) :: st => nx pc (sl L i (some (.inr (.inr r)))) st M
  | _, _ => none
def gf (M : Mm) (r f : Nat) : Nat → PV
  | 0 => .inl (M r f)
  | 1 => .inr (.inl (M r f))
  | 2 => .inl (M r f)
  | k + 3 => .inr (.inr k)
def shp (r : Nat) : Shp := nth SH r (.inl (0, false))
def fkind (r ci f : Nat) : Nat := match shp r with
  | .inr (c, ks) => bif Nat.beq c ci then nth ks f 99999 else 99999
  | _ => 99999
def look4 {α : Type} : List (Nat × α) → Nat → Option α
  | [], _ => none
  | (k, v) :: t, i => bif Nat.beq k i then some v else look4 t i
def fetch (y pc : Nat) : Option (Instr × Nat) := look4 (tab y) pc
def gfield (pc : Nat) (L : Lc) (st : List PV) (M : Mm) (q : Option (Nat × Nat × Nat)) : Option StT := match q, st with
  | some (ci, f, _), .inr (.inr r) :: st => (match fkind r ci f with
    | 99999 => none
    | k => nx (pc + 3) L (gf M r f k :: st) M)
  | _, _ => none
def pfield (pc : Nat) (L : Lc) (st : List PV) (M : Mm) (q : Option (Nat × Nat × Nat)) : Option StT := match q, st with
  | some (ci, f, _), .inl z :: .inr (.inr r) :: st => (match fkind r ci f with
    | 0 => nx (pc + 3) L st (up M r f z)
    | 2 => if z = 0 ∨ z = 1 then nx (pc + 3) L st (up M r f z) else none
    | _ => none)
  | some (ci, f, _), .inr (.inl z) :: .inr (.inr r) :: st => (match fkind r ci f with
    | 1 => nx (pc + 3) L st (up M r f z)
    | _ => none)
  | _, _ => none
def ald (pc : Nat) (L : Lc) (st : List PV) (M : Mm) (bo : Bool) : Option StT := match st with
  | .inl i :: .inr (.inr r) :: st => (match shp r with
    | .inl (n, b) => bif (b == bo) then (if 0 ≤ i ∧ i < n then nx (pc + 1) L (.inl (M r i) :: st) M else none) else none
    | _ => none)
  | _ => none
def ast (pc : Nat) (L : Lc) (st : List PV) (M : Mm) (bo : Bool) : Option StT := match st with
  | .inl v :: .inl i :: .inr (.inr r) :: st => (match shp r with
    | .inl (n, b) => bif (b == bo) then (if (0 ≤ i ∧ i < n) ∧ (bo = true → v = 0 ∨ v = 1) then nx (pc + 1) L st (up M r i v) else none) else none
    | _ => none)
  | _ => none
def alen (pc : Nat) (L : Lc) (st : List PV) (M : Mm) : Option StT := match st with
  | .inr (.inr r) :: st => (match shp r with
    | .inl (n, _) => bif Nat.blt r 73 then nx (pc + 1) L (.inl (n : Int) :: st) M else none
    | _ => none)
  | _ => none
/-- n values off the stack, the deepest first -/
def spl : Nat → List PV → List PV → Option (List PV × List PV)
  | 0, acc, st => some (acc, st)
  | n + 1, acc, v :: st => spl n (v :: acc) st
  | _ + 1, _, [] => none
/-- words of a list of values -/
def cs : List PV → Nat
  | [] => 0
  | .inr (.inl _) :: st => cs st + 2
  | _ :: st => cs st + 1
def ent : Nat → List PV → Lc
  | n, [] => List.replicate n none
  | n, .inr (.inl z) :: as => some (.inr (.inl z)) :: none :: ent (n - 2) as
  | n, .inr (.inr r) :: as => some (.inr (.inr r)) :: ent (n - 1) as
  | n, .inl z :: as => some (.inl z) :: ent (n - 1) as
/-- the longs among the arguments stand where the method has long slots -/
def lok (g : List Nat) : Nat → List PV → Bool
  | _, [] => true
  | i, .inr (.inl _) :: as => g.contains i && lok g (i + 2) as
  | i, .inr (.inr _) :: as => lok g (i + 1) as
  | i, .inl _ :: as => lok g (i + 1) as
def acopy (pc : Nat) (L : Lc) (st : List PV) (M : Mm) : Option StT := match st with
  | .inl n :: .inl dp :: .inr (.inr rd) :: .inl sp :: .inr (.inr rs) :: st => (match shp rs, shp rd with
    | .inl (n0, false), .inl (n1, false) => if ((0 ≤ sp ∧ 0 ≤ dp ∧ 0 ≤ n) ∧ sp + n ≤ n0 ∧ dp + n ≤ n1) ∧ (rs < 73 ∧ rd < 73) ∧ cs st ≤ 8 then nx (pc + 3) L st (cp M rs sp rd dp n) else none
    | _, _ => none)
  | _ => none
def calS (pc t np : Nat) (st : List PV) : Option StT := match spl np [] st with
  | some (as, rest) => bif (Nat.ble (cs rest) 8 && (Nat.ble (cs as) (mL t) && (mS t && lok (mG t) 0 as))) then some (.inr (.inl (t, as, pc + 3, rest))) else none
  | none => none
def calV (pc t np : Nat) (st : List PV) : Option StT := match spl (np + 1) [] st with
  | some (.inr (.inr r) :: as, rest) => (match shp r with
    | .inr (ci, _) => bif (Nat.ble (cs rest) 8 && (Nat.ble (cs as + 1) (mL t) && (!(mS t) && (Nat.beq ci (mK t) && lok (mG t) 1 as)))) then some (.inr (.inl (t, .inr (.inr r) :: as, pc + 3, rest))) else none
    | _ => none)
  | _ => none
def stlen (pc : Nat) (L : Lc) (st : List PV) (M : Mm) : Option StT := match st with
  | .inr (.inr q) :: st => if (500 ≤ q ∧ q < 506) ∧ cs st ≤ 8 then nx (pc + 3) L (.inl ((nth strB (q - 500) []).length : Int) :: st) M else none
  | _ => none
def stchr (pc : Nat) (L : Lc) (st : List PV) (M : Mm) : Option StT := match st with
  | .inl j :: .inr (.inr q) :: st => if ((500 ≤ q ∧ q < 506) ∧ 0 ≤ j ∧ j < (nth strB (q - 500) []).length) ∧ cs st ≤ 8 then nx (pc + 3) L (.inl (nth (nth strB (q - 500) []) j.toNat 0) :: st) M else none
  | _ => none
def stepI (y pc : Nat) (i : Instr) (len : Nat) (L : Lc) (st : List PV) (M : Mm) : Option StT := match i with
  | .iconst v => nx (pc + len) L (.inl v :: st) M
  | .bipush v => nx (pc + len) L (.inl v :: st) M
  | .sipush v => nx (pc + len) L (.inl v :: st) M
  | .lconst b => nx (pc + len) L (.inr (.inl (b.val : Int)) :: st) M
  | .ldc k => (match look4 (nth cstT (mK y) []) k with
    | some (v, _) => nx (pc + len) L (.inl v :: st) M
    | none => (match look4 (nth strT (mK y) []) k with
      | some (j, _) => nx (pc + len) L (.inr (.inr (500 + j)) :: st) M
      | none => none))
  | .ldc_w k => (match look4 (nth cstT (mK y) []) k with
    | some (v, _) => nx (pc + len) L (.inl v :: st) M
    | none => none)
  | .ldc2_w k => (match look4 (nth lngT (mK y) []) k with
    | some (v, _) => nx (pc + len) L (.inr (.inl v) :: st) M
    | none => none)
  | .iload k => ld (pc + len) L st M 0 k
  | .iload_n k => ld (pc + len) L st M 0 k.val
  | .lload k => ld (pc + len) L st M 1 k
  | .lload_n k => ld (pc + len) L st M 1 k.val
  | .aload k => ld (pc + len) L st M 2 k
  | .aload_n k => ld (pc + len) L st M 2 k.val
  | .istore k => sto (pc + len) L st M 0 k
  | .istore_n k => sto (pc + len) L st M 0 k.val
  | .lstore k => sto (pc + len) L st M 1 k
  | .lstore_n k => sto (pc + len) L st M 1 k.val
  | .astore k => sto (pc + len) L st M 2 k
  | .astore_n k => sto (pc + len) L st M 2 k.val
  | .iinc k n => (match gl L k with
    | some (.inl z) => nx (pc + len) (sl L k (some (.inl (i2 fadd z n)))) st M
    | _ => none)
  | .iadd => pI (pc + len) L M fadd st
  | .isub => pI (pc + len) L M fsub st
  | .imul => pI (pc + len) L M fmul st
  | .iand => pI (pc + len) L M fand st
  | .ior => pI (pc + len) L M fior st
  | .ixor => pI (pc + len) L M fxor st
  | .ishl => pI (pc + len) L M fshl st
  | .ishr => pI (pc + len) L M fshr st
  | .iushr => pI (pc + len) L M fushr st
  | .idiv => pD (pc + len) L M fdiv st
  | .irem => pD (pc + len) L M frem st
  | .ineg => (match st with
    | .inl a :: st => nx (pc + len) L (.inl (i1 fneg a) :: st) M
    | _ => none)
  | .ladd => qI (pc + len) L M gadd st
  | .lmul => qI (pc + len) L M gmul st
  | .ldiv => qD (pc + len) L M gdiv st
  | .lrem => qD (pc + len) L M grem st
  | .i2l => (match st with
    | .inl a :: st => nx (pc + len) L (.inr (.inl a) :: st) M
    | _ => none)
  | .l2i => (match st with
    | .inr (.inl a) :: st => nx (pc + len) L (.inl (Int64.ofInt a).toInt32.toInt :: st) M
    | _ => none)
  | .lcmp => (match st with
    | .inr (.inl b) :: .inr (.inl a) :: st => nx (pc + len) L (.inl (lc a b) :: st) M
    | _ => none)
  | .dup => (match st with
    | .inl a :: st => nx (pc + len) L (.inl a :: .inl a :: st) M
    | .inr (.inr a) :: st => nx (pc + len) L (.inr (.inr a) :: .inr (.inr a) :: st) M
    | _ => none)
  | .dup2 => (match st with
    | .inl a :: .inr (.inr b) :: st => nx (pc + len) L (.inl a :: .inr (.inr b) :: .inl a :: .inr (.inr b) :: st) M
    | _ => none)
  | .pop => (match st with
    | .inl _ :: st => nx (pc + len) L st M
    | .inr (.inr _) :: st => nx (pc + len) L st M
    | _ => none)
  | .goto off => nx ((pc : Int) + off).toNat L st M
  | .ifCond c off => (match st with
    | .inl a :: st => nx (br c a 0 ((pc : Int) + off).toNat (pc + 3)) L st M
    | _ => none)
  | .if_icmp c off => (match st with
    | .inl b :: .inl a :: st => nx (br c a b ((pc : Int) + off).toNat (pc + 3)) L st M
    | _ => none)
  | .tableswitch d lo hi offs => (match st with
    | .inl a :: st => nx ((pc : Int) + (if a < lo ∨ hi < a then d else nth offs.toList (a - lo).toNat d)).toNat L st M
    | _ => none)
  | .getfield k => gfield pc L st M (look4 (nth fldT (mK y) []) k)
  | .putfield k => pfield pc L st M (look4 (nth fldT (mK y) []) k)
  | .iaload => ald pc L st M false
  | .baload => ald pc L st M true
  | .iastore => ast pc L st M false
  | .bastore => ast pc L st M true
  | .arraylength => alen pc L st M
  | .invokestatic k => (match look4 (nth mthT (mK y) []) k with
    | some (t, np, _, _) => bif Nat.beq t 1002 then acopy pc L st M else calS pc t np st
    | none => none)
  | .invokevirtual k => (match look4 (nth mthT (mK y) []) k with
    | some (t, np, _, _) => bif Nat.beq t 1003 then stlen pc L st M else bif Nat.beq t 1004 then stchr pc L st M else calV pc t np st
    | none => none)
  | .ireturn => (match st with
    | [.inl z] => (match mR y with
      | some .int => some (.inr (.inr (some (.inl z))))
      | some .boolean => if z = 0 ∨ z = 1 then some (.inr (.inr (some (.inl z)))) else none
      | _ => none)
    | _ => none)
  | .lreturn => (match st with
    | [.inr (.inl z)] => (match mR y with
      | some .long => some (.inr (.inr (some (.inr (.inl z)))))
      | _ => none)
    | _ => none)
  | .return_ => (match st with
    | [] => (match mR y with
      | none => some (.inr (.inr none))
      | _ => none)
    | _ => none)
  | _ => none
def step (y pc : Nat) (L : Lc) (st : List PV) (M : Mm) : Option StT := match fetch y pc with
  | some (i, len) => stepI y pc i len L st M
  | none => none
def exec : Nat → Nat → Nat → Lc → List PV → Mm → Option (Option PV × Mm)
  | 0, _, _, _, _, _ => none
  | n + 1, y, pc, L, st, M => match step y pc L st M with
    | none => none
    | some (.inl (pc', L', st', M')) => exec n y pc' L' st' M'
    | some (.inr (.inl (t, as, pc', rest))) => (match exec n t 0 (ent (mL t) as) [] M with
      | none => none
      | some (r, M') => exec n y pc' L (r.toList ++ rest) M')
    | some (.inr (.inr r)) => some (r, M)
theorem exec_mono : ∀ (n : Nat) (y pc : Nat) (L : Lc) (st : List PV) (M : Mm) (x : Option PV × Mm), exec n y pc L st M = some x → exec (n + 1) y pc L st M = some x
  | 0, _, _, _, _, _, _, h => by simp [exec] at h
  | n + 1, y, pc, L, st, M, x, h => by
    rw [exec] at h ⊢
    cases hs : step y pc L st M with
    | none => rw [hs] at h; cases h
    | some s =>
      rw [hs] at h
      rcases s with ⟨pc', L', st', M'⟩ | ⟨⟨t, as, pc', rest⟩ | r⟩
      · exact exec_mono n _ _ _ _ _ _ h
      · cases hc : exec n t 0 (ent (mL t) as) [] M with
        | none => simp only [hc] at h; cases h
        | some q =>
          simp only [hc] at h
          simp only [exec_mono n _ _ _ _ _ _ hc]
          exact exec_mono n _ _ _ _ _ _ h
      · exact h
theorem exec_le {n m : Nat} (hnm : n ≤ m) {y pc : Nat} {L : Lc} {st : List PV} {M : Mm} {x : Option PV × Mm} (h : exec n y pc L st M = some x) : exec m y pc L st M = some x := by
  induction hnm with
  | refl => exact h
  | step _ ih => exact exec_mono _ _ _ _ _ _ _ ih
/-- what a configuration comes to -/
noncomputable def den (y pc : Nat) (L : Lc) (st : List PV) (M : Mm) : Option (Option PV × Mm) :=
  @dite _ (∃ (n : Nat) (x : Option PV × Mm), exec n y pc L st M = some x) (Classical.propDecidable _) (fun h => some (Classical.choose (Classical.choose_spec h))) (fun _ => none)
theorem den_iff {y pc : Nat} {L : Lc} {st : List PV} {M : Mm} {x : Option PV × Mm} : den y pc L st M = some x ↔ ∃ n, exec n y pc L st M = some x := by
  unfold den
  constructor
  · intro h
    by_cases hq : ∃ (n : Nat) (x : Option PV × Mm), exec n y pc L st M = some x
    · rw [dif_pos hq] at h
      refine ⟨Classical.choose hq, ?_⟩
      rw [← Option.some.inj h]
      exact Classical.choose_spec (Classical.choose_spec hq)
    · rw [dif_neg hq] at h
      cases h
  · rintro ⟨n, hn⟩
    have hq : ∃ (n : Nat) (x : Option PV × Mm), exec n y pc L st M = some x := ⟨n, x, hn⟩
    rw [dif_pos hq]
    have h2 := Classical.choose_spec (Classical.choose_spec hq)
    have h3 := exec_le (Nat.le_max_left n (Classical.choose hq)) hn
    have h4 := exec_le (Nat.le_max_right n (Classical.choose hq)) h2
    exact h4.symm.trans h3
theorem den_ext {y pc y' pc' : Nat} {L L' : Lc} {st st' : List PV} {M M' : Mm} (h : ∀ x, den y pc L st M = some x ↔ den y' pc' L' st' M' = some x) : den y pc L st M = den y' pc' L' st' M' := by
  cases h1 : den y pc L st M with
  | some x => exact ((h x).mp h1).symm
  | none =>
    cases h2 : den y' pc' L' st' M' with
    | none => rfl
    | some x => exact absurd ((h x).mpr h2) (by rw [h1]; exact fun q => by cases q)
theorem den_go {y pc pc' : Nat} {L L' : Lc} {st st' : List PV} {M M' : Mm} (h : step y pc L st M = some (.inl (pc', L', st', M'))) : den y pc L st M = den y pc' L' st' M' := by
  refine den_ext fun x => ?_
  rw [den_iff, den_iff]
  constructor
  · rintro ⟨n, hn⟩
    cases n with
    | zero => simp [exec] at hn
    | succ n => rw [exec, h] at hn; exact ⟨n, hn⟩
  · rintro ⟨n, hn⟩
    exact ⟨n + 1, by rw [exec, h]; exact hn⟩
theorem den_ret {y pc : Nat} {L : Lc} {st : List PV} {M : Mm} {r : Option PV} (h : step y pc L st M = some (.inr (.inr r))) : den y pc L st M = some (r, M) := by
  rw [den_iff]
  exact ⟨1, by rw [exec, h]⟩
/-- a method's answer -/
noncomputable def cal (t : Nat) (as : List PV) (M : Mm) : Option (Option PV × Mm) := den t 0 (ent (mL t) as) [] M
theorem den_call {y pc pc' t : Nat} {as : List PV} {L : Lc} {st rest : List PV} {M M' : Mm} {r : Option PV} (h : step y pc L st M = some (.inr (.inl (t, as, pc', rest)))) (hc : cal t as M = some (r, M')) : den y pc L st M = den y pc' L (r.toList ++ rest) M' := by
  obtain ⟨k, hk⟩ := den_iff.mp hc
  refine den_ext fun x => ?_
  rw [den_iff, den_iff]
  constructor
  · rintro ⟨n, hn⟩
    cases n with
    | zero => simp [exec] at hn
    | succ n =>
      rw [exec, h] at hn
      dsimp only at hn
      cases hq : exec n t 0 (ent (mL t) as) [] M with
      | none => rw [hq] at hn; cases hn
      | some q =>
        rw [hq] at hn
        have e := (exec_le (Nat.le_max_left n k) hq).symm.trans (exec_le (Nat.le_max_right n k) hk)
        cases e
        exact ⟨n, hn⟩
  · rintro ⟨n, hn⟩
    refine ⟨max n k + 1, ?_⟩
    rw [exec, h]
    dsimp only
    rw [exec_le (Nat.le_max_right n k) hk]
    exact exec_le (Nat.le_max_left n k) hn
