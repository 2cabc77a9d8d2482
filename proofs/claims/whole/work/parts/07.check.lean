/-! the tables are as the Statement has them (written by wip/whole/gen7.py) -/
def dok (v : Int) : Bool := decide (-2147483648 ≤ v) && decide (v < 2147483648)
theorem dok_ok {v : Int} (h : dok v = true) : ok32 v := by
  simp only [dok, Bool.and_eq_true, decide_eq_true_eq] at h; exact h
def dokL (v : Int) : Bool := decide (-9223372036854775808 ≤ v) && decide (v < 9223372036854775808)
theorem dokL_ok {v : Int} (h : dokL v = true) : ok64 v := by
  simp only [dokL, Bool.and_eq_true, decide_eq_true_eq] at h; exact h
def brOk (pc : Nat) (off : Int) : Bool := decide (0 ≤ (pc : Int) + off)
def stOk (y i : Nat) : Bool := Nat.blt i (mL y) && (match i with
  | 0 => true
  | j + 1 => !(mG y).contains j)
theorem stOk_ok {y i : Nat} (h : stOk y i = true) : i < mL y ∧ ∀ j, j + 1 = i → j ∉ mG y := by
  simp only [stOk, Bool.and_eq_true] at h
  refine ⟨Nat.le_of_ble_eq_true h.1, fun j hj => ?_⟩
  subst hj
  have h2 := h.2
  simpa using h2
def insOK (y pc : Nat) (i : Instr) (len : Nat) : Bool := match i with
  | .iconst v => Nat.beq len 1 && dok v
  | .bipush v => Nat.beq len 2 && (decide ((Int8.ofInt v).toInt32 = Int32.ofInt v) && dok v)
  | .sipush v => Nat.beq len 3 && (decide ((Int16.ofInt v).toInt32 = Int32.ofInt v) && dok v)
  | .lconst _ => Nat.beq len 1
  | .ldc _ => Nat.beq len 2
  | .ldc_w _ => Nat.beq len 3
  | .ldc2_w _ => Nat.beq len 3
  | .iload _ => Nat.beq len 2
  | .lload _ => Nat.beq len 2
  | .aload _ => Nat.beq len 2
  | .iload_n _ => Nat.beq len 1
  | .lload_n _ => Nat.beq len 1
  | .aload_n _ => Nat.beq len 1
  | .istore k => Nat.beq len 2 && stOk y k
  | .astore k => Nat.beq len 2 && stOk y k
  | .istore_n k => Nat.beq len 1 && stOk y k.val
  | .astore_n k => Nat.beq len 1 && stOk y k.val
  | .lstore k => Nat.beq len 2 && (stOk y k && (Nat.blt (k + 1) (mL y) && (mG y).contains k))
  | .lstore_n k => Nat.beq len 1 && (stOk y k.val && (Nat.blt (k.val + 1) (mL y) && (mG y).contains k.val))
  | .iinc k _ => Nat.beq len 3 && stOk y k
  | .iadd => Nat.beq len 1
  | .isub => Nat.beq len 1
  | .imul => Nat.beq len 1
  | .iand => Nat.beq len 1
  | .ior => Nat.beq len 1
  | .ixor => Nat.beq len 1
  | .ishl => Nat.beq len 1
  | .ishr => Nat.beq len 1
  | .iushr => Nat.beq len 1
  | .idiv => Nat.beq len 1
  | .irem => Nat.beq len 1
  | .ineg => Nat.beq len 1
  | .ladd => Nat.beq len 1
  | .lmul => Nat.beq len 1
  | .ldiv => Nat.beq len 1
  | .lrem => Nat.beq len 1
  | .i2l => Nat.beq len 1
  | .l2i => Nat.beq len 1
  | .lcmp => Nat.beq len 1
  | .dup => Nat.beq len 1
  | .dup2 => Nat.beq len 1
  | .pop => Nat.beq len 1
  | .iaload => Nat.beq len 1
  | .baload => Nat.beq len 1
  | .iastore => Nat.beq len 1
  | .bastore => Nat.beq len 1
  | .arraylength => Nat.beq len 1
  | .ireturn => Nat.beq len 1
  | .lreturn => Nat.beq len 1
  | .return_ => Nat.beq len 1
  | .goto off => Nat.beq len 3 && brOk pc off
  | .ifCond _ off => Nat.beq len 3 && brOk pc off
  | .if_icmp _ off => Nat.beq len 3 && brOk pc off
  | .tableswitch d lo hi offs => decide (hi - lo < offs.size) && (brOk pc d && offs.toList.all (brOk pc))
  | .getfield _ => Nat.beq len 3
  | .putfield k => Nat.beq len 3 && (match look4 (nth fldT (mK y) []) k with
    | some (ci, f, _) => !((clT ci) f).2.2.2
    | none => true)
  | .invokestatic k => Nat.beq len 3 && (match look4 (nth mthT (mK y) []) k with
    | some (t, _, _, _) => if t = 1002 then Nat.blt 0 (mD y) else Nat.blt t 227 && Nat.blt (mD t) (mD y)
    | none => true)
  | .invokevirtual k => Nat.beq len 3 && (match look4 (nth mthT (mK y) []) k with
    | some (t, _, _, _) => if t = 1003 then Nat.blt 2 (mD y) else if t = 1004 then Nat.blt 4 (mD y) else Nat.blt t 227 && Nat.blt (mD t) (mD y)
    | none => true)
  | _ => false
def chk (y : Nat) : Bool := (tab y).all (fun q => decide (decode (mC y) q.1 = .ok (q.2.1, q.2.2)) && insOK y q.1 q.2.1 q.2.2)
set_option maxRecDepth 20000 in
theorem ck0 : chk 0 = true := by decide +kernel
set_option maxRecDepth 20000 in
theorem ck1 : chk 1 = true := by decide +kernel
set_option maxRecDepth 20000 in
theorem ck2 : chk 2 = true := by decide +kernel
set_option maxRecDepth 20000 in
theorem ck3 : chk 3 = true := by decide +kernel
set_option maxRecDepth 20000 in
theorem ck4 : chk 4 = true := by decide +kernel
set_option maxRecDepth 20000 in
theorem ck5 : chk 5 = true := by decide +kernel
set_option maxRecDepth 20000 in
theorem ck6 : chk 6 = true := by decide +kernel
set_option maxRecDepth 20000 in
theorem ck7 : chk 7 = true := by decide +kernel
set_option maxRecDepth 20000 in
theorem ck8 : chk 8 = true := by decide +kernel
set_option maxRecDepth 20000 in
theorem ck9 : chk 9 = true := by decide +kernel
set_option maxRecDepth 20000 in
theorem ck10 : chk 10 = true := by decide +kernel
set_option maxRecDepth 20000 in
theorem ck11 : chk 11 = true := by decide +kernel
set_option maxRecDepth 20000 in
theorem ck12 : chk 12 = true := by decide +kernel
set_option maxRecDepth 20000 in
theorem ck13 : chk 13 = true := by decide +kernel
set_option maxRecDepth 20000 in
theorem ck14 : chk 14 = true := by decide +kernel
set_option maxRecDepth 20000 in
theorem ck15 : chk 15 = true := by decide +kernel
set_option maxRecDepth 20000 in
theorem ck16 : chk 16 = true := by decide +kernel
set_option maxRecDepth 20000 in
theorem ck17 : chk 17 = true := by decide +kernel
set_option maxRecDepth 20000 in
theorem ck18 : chk 18 = true := by decide +kernel
set_option maxRecDepth 20000 in
theorem ck19 : chk 19 = true := by decide +kernel
set_option maxRecDepth 20000 in
theorem ck20 : chk 20 = true := by decide +kernel
set_option maxRecDepth 20000 in
theorem ck21 : chk 21 = true := by decide +kernel
set_option maxRecDepth 20000 in
theorem ck22 : chk 22 = true := by decide +kernel
set_option maxRecDepth 20000 in
theorem ck23 : chk 23 = true := by decide +kernel
set_option maxRecDepth 20000 in
theorem ck24 : chk 24 = true := by decide +kernel
set_option maxRecDepth 20000 in
theorem ck25 : chk 25 = true := by decide +kernel
set_option maxRecDepth 20000 in
theorem ck26 : chk 26 = true := by decide +kernel
set_option maxRecDepth 20000 in
theorem ck27 : chk 27 = true := by decide +kernel
set_option maxRecDepth 20000 in
theorem ck28 : chk 28 = true := by decide +kernel
set_option maxRecDepth 20000 in
theorem ck29 : chk 29 = true := by decide +kernel
set_option maxRecDepth 20000 in
theorem ck30 : chk 30 = true := by decide +kernel
set_option maxRecDepth 20000 in
theorem ck31 : chk 31 = true := by decide +kernel
set_option maxRecDepth 20000 in
theorem ck32 : chk 32 = true := by decide +kernel
set_option maxRecDepth 20000 in
theorem ck33 : chk 33 = true := by decide +kernel
set_option maxRecDepth 20000 in
theorem ck34 : chk 34 = true := by decide +kernel
set_option maxRecDepth 20000 in
theorem ck35 : chk 35 = true := by decide +kernel
set_option maxRecDepth 20000 in
theorem ck36 : chk 36 = true := by decide +kernel
set_option maxRecDepth 20000 in
theorem ck37 : chk 37 = true := by decide +kernel
set_option maxRecDepth 20000 in
theorem ck38 : chk 38 = true := by decide +kernel
set_option maxRecDepth 20000 in
theorem ck39 : chk 39 = true := by decide +kernel
set_option maxRecDepth 20000 in
theorem ck40 : chk 40 = true := by decide +kernel
set_option maxRecDepth 20000 in
theorem ck41 : chk 41 = true := by decide +kernel
set_option maxRecDepth 20000 in
theorem ck42 : chk 42 = true := by decide +kernel
set_option maxRecDepth 20000 in
theorem ck43 : chk 43 = true := by decide +kernel
set_option maxRecDepth 20000 in
theorem ck44 : chk 44 = true := by decide +kernel
set_option maxRecDepth 20000 in
theorem ck45 : chk 45 = true := by decide +kernel
set_option maxRecDepth 20000 in
theorem ck46 : chk 46 = true := by decide +kernel
set_option maxRecDepth 20000 in
theorem ck47 : chk 47 = true := by decide +kernel
set_option maxRecDepth 20000 in
theorem ck48 : chk 48 = true := by decide +kernel
set_option maxRecDepth 20000 in
theorem ck49 : chk 49 = true := by decide +kernel
set_option maxRecDepth 20000 in
theorem ck50 : chk 50 = true := by decide +kernel
set_option maxRecDepth 20000 in
theorem ck51 : chk 51 = true := by decide +kernel
set_option maxRecDepth 20000 in
theorem ck52 : chk 52 = true := by decide +kernel
set_option maxRecDepth 20000 in
theorem ck53 : chk 53 = true := by decide +kernel
set_option maxRecDepth 20000 in
theorem ck54 : chk 54 = true := by decide +kernel
set_option maxRecDepth 20000 in
theorem ck55 : chk 55 = true := by decide +kernel
set_option maxRecDepth 20000 in
theorem ck56 : chk 56 = true := by decide +kernel
set_option maxRecDepth 20000 in
theorem ck57 : chk 57 = true := by decide +kernel
set_option maxRecDepth 20000 in
theorem ck58 : chk 58 = true := by decide +kernel
set_option maxRecDepth 20000 in
theorem ck59 : chk 59 = true := by decide +kernel
set_option maxRecDepth 20000 in
theorem ck60 : chk 60 = true := by decide +kernel
set_option maxRecDepth 20000 in
theorem ck61 : chk 61 = true := by decide +kernel
set_option maxRecDepth 20000 in
theorem ck62 : chk 62 = true := by decide +kernel
set_option maxRecDepth 20000 in
theorem ck63 : chk 63 = true := by decide +kernel
set_option maxRecDepth 20000 in
theorem ck64 : chk 64 = true := by decide +kernel
set_option maxRecDepth 20000 in
theorem ck65 : chk 65 = true := by decide +kernel
set_option maxRecDepth 20000 in
theorem ck66 : chk 66 = true := by decide +kernel
set_option maxRecDepth 20000 in
theorem ck67 : chk 67 = true := by decide +kernel
set_option maxRecDepth 20000 in
theorem ck68 : chk 68 = true := by decide +kernel
set_option maxRecDepth 20000 in
theorem ck69 : chk 69 = true := by decide +kernel
set_option maxRecDepth 20000 in
theorem ck70 : chk 70 = true := by decide +kernel
set_option maxRecDepth 20000 in
theorem ck71 : chk 71 = true := by decide +kernel
set_option maxRecDepth 20000 in
theorem ck72 : chk 72 = true := by decide +kernel
set_option maxRecDepth 20000 in
theorem ck73 : chk 73 = true := by decide +kernel
set_option maxRecDepth 20000 in
theorem ck74 : chk 74 = true := by decide +kernel
set_option maxRecDepth 20000 in
theorem ck75 : chk 75 = true := by decide +kernel
set_option maxRecDepth 20000 in
theorem ck76 : chk 76 = true := by decide +kernel
set_option maxRecDepth 20000 in
theorem ck77 : chk 77 = true := by decide +kernel
set_option maxRecDepth 20000 in
theorem ck78 : chk 78 = true := by decide +kernel
set_option maxRecDepth 20000 in
theorem ck79 : chk 79 = true := by decide +kernel
set_option maxRecDepth 20000 in
theorem ck80 : chk 80 = true := by decide +kernel
set_option maxRecDepth 20000 in
theorem ck81 : chk 81 = true := by decide +kernel
set_option maxRecDepth 20000 in
theorem ck82 : chk 82 = true := by decide +kernel
set_option maxRecDepth 20000 in
theorem ck83 : chk 83 = true := by decide +kernel
set_option maxRecDepth 20000 in
theorem ck84 : chk 84 = true := by decide +kernel
set_option maxRecDepth 20000 in
theorem ck85 : chk 85 = true := by decide +kernel
set_option maxRecDepth 20000 in
theorem ck86 : chk 86 = true := by decide +kernel
set_option maxRecDepth 20000 in
theorem ck87 : chk 87 = true := by decide +kernel
set_option maxRecDepth 20000 in
theorem ck88 : chk 88 = true := by decide +kernel
set_option maxRecDepth 20000 in
theorem ck89 : chk 89 = true := by decide +kernel
set_option maxRecDepth 20000 in
theorem ck90 : chk 90 = true := by decide +kernel
set_option maxRecDepth 20000 in
theorem ck91 : chk 91 = true := by decide +kernel
set_option maxRecDepth 20000 in
theorem ck92 : chk 92 = true := by decide +kernel
set_option maxRecDepth 20000 in
theorem ck93 : chk 93 = true := by decide +kernel
set_option maxRecDepth 20000 in
theorem ck94 : chk 94 = true := by decide +kernel
set_option maxRecDepth 20000 in
theorem ck95 : chk 95 = true := by decide +kernel
set_option maxRecDepth 20000 in
theorem ck96 : chk 96 = true := by decide +kernel
set_option maxRecDepth 20000 in
theorem ck97 : chk 97 = true := by decide +kernel
set_option maxRecDepth 20000 in
theorem ck98 : chk 98 = true := by decide +kernel
set_option maxRecDepth 20000 in
theorem ck99 : chk 99 = true := by decide +kernel
set_option maxRecDepth 20000 in
theorem ck100 : chk 100 = true := by decide +kernel
set_option maxRecDepth 20000 in
theorem ck101 : chk 101 = true := by decide +kernel
set_option maxRecDepth 20000 in
theorem ck102 : chk 102 = true := by decide +kernel
set_option maxRecDepth 20000 in
theorem ck103 : chk 103 = true := by decide +kernel
set_option maxRecDepth 20000 in
theorem ck104 : chk 104 = true := by decide +kernel
set_option maxRecDepth 20000 in
theorem ck105 : chk 105 = true := by decide +kernel
set_option maxRecDepth 20000 in
theorem ck106 : chk 106 = true := by decide +kernel
set_option maxRecDepth 20000 in
theorem ck107 : chk 107 = true := by decide +kernel
set_option maxRecDepth 20000 in
theorem ck108 : chk 108 = true := by decide +kernel
set_option maxRecDepth 20000 in
theorem ck109 : chk 109 = true := by decide +kernel
set_option maxRecDepth 20000 in
theorem ck110 : chk 110 = true := by decide +kernel
set_option maxRecDepth 20000 in
theorem ck111 : chk 111 = true := by decide +kernel
set_option maxRecDepth 20000 in
theorem ck112 : chk 112 = true := by decide +kernel
set_option maxRecDepth 20000 in
theorem ck113 : chk 113 = true := by decide +kernel
set_option maxRecDepth 20000 in
theorem ck114 : chk 114 = true := by decide +kernel
set_option maxRecDepth 20000 in
theorem ck115 : chk 115 = true := by decide +kernel
set_option maxRecDepth 20000 in
theorem ck116 : chk 116 = true := by decide +kernel
set_option maxRecDepth 20000 in
theorem ck117 : chk 117 = true := by decide +kernel
set_option maxRecDepth 20000 in
theorem ck118 : chk 118 = true := by decide +kernel
set_option maxRecDepth 20000 in
theorem ck119 : chk 119 = true := by decide +kernel
set_option maxRecDepth 20000 in
theorem ck120 : chk 120 = true := by decide +kernel
set_option maxRecDepth 20000 in
theorem ck121 : chk 121 = true := by decide +kernel
set_option maxRecDepth 20000 in
theorem ck122 : chk 122 = true := by decide +kernel
set_option maxRecDepth 20000 in
theorem ck123 : chk 123 = true := by decide +kernel
set_option maxRecDepth 20000 in
theorem ck124 : chk 124 = true := by decide +kernel
set_option maxRecDepth 20000 in
theorem ck125 : chk 125 = true := by decide +kernel
set_option maxRecDepth 20000 in
theorem ck126 : chk 126 = true := by decide +kernel
set_option maxRecDepth 20000 in
theorem ck127 : chk 127 = true := by decide +kernel
set_option maxRecDepth 20000 in
theorem ck128 : chk 128 = true := by decide +kernel
set_option maxRecDepth 20000 in
theorem ck129 : chk 129 = true := by decide +kernel
set_option maxRecDepth 20000 in
theorem ck130 : chk 130 = true := by decide +kernel
set_option maxRecDepth 20000 in
theorem ck131 : chk 131 = true := by decide +kernel
set_option maxRecDepth 20000 in
theorem ck132 : chk 132 = true := by decide +kernel
set_option maxRecDepth 20000 in
theorem ck133 : chk 133 = true := by decide +kernel
set_option maxRecDepth 20000 in
theorem ck134 : chk 134 = true := by decide +kernel
set_option maxRecDepth 20000 in
theorem ck135 : chk 135 = true := by decide +kernel
set_option maxRecDepth 20000 in
theorem ck136 : chk 136 = true := by decide +kernel
set_option maxRecDepth 20000 in
theorem ck137 : chk 137 = true := by decide +kernel
set_option maxRecDepth 20000 in
theorem ck138 : chk 138 = true := by decide +kernel
set_option maxRecDepth 20000 in
theorem ck139 : chk 139 = true := by decide +kernel
set_option maxRecDepth 20000 in
theorem ck140 : chk 140 = true := by decide +kernel
set_option maxRecDepth 20000 in
theorem ck141 : chk 141 = true := by decide +kernel
set_option maxRecDepth 20000 in
theorem ck142 : chk 142 = true := by decide +kernel
set_option maxRecDepth 20000 in
theorem ck143 : chk 143 = true := by decide +kernel
set_option maxRecDepth 20000 in
theorem ck144 : chk 144 = true := by decide +kernel
set_option maxRecDepth 20000 in
theorem ck145 : chk 145 = true := by decide +kernel
set_option maxRecDepth 20000 in
theorem ck146 : chk 146 = true := by decide +kernel
set_option maxRecDepth 20000 in
theorem ck147 : chk 147 = true := by decide +kernel
set_option maxRecDepth 20000 in
theorem ck148 : chk 148 = true := by decide +kernel
set_option maxRecDepth 20000 in
theorem ck149 : chk 149 = true := by decide +kernel
set_option maxRecDepth 20000 in
theorem ck150 : chk 150 = true := by decide +kernel
set_option maxRecDepth 20000 in
theorem ck151 : chk 151 = true := by decide +kernel
set_option maxRecDepth 20000 in
theorem ck152 : chk 152 = true := by decide +kernel
set_option maxRecDepth 20000 in
theorem ck153 : chk 153 = true := by decide +kernel
set_option maxRecDepth 20000 in
theorem ck154 : chk 154 = true := by decide +kernel
set_option maxRecDepth 20000 in
theorem ck155 : chk 155 = true := by decide +kernel
set_option maxRecDepth 20000 in
theorem ck156 : chk 156 = true := by decide +kernel
set_option maxRecDepth 20000 in
theorem ck157 : chk 157 = true := by decide +kernel
set_option maxRecDepth 20000 in
theorem ck158 : chk 158 = true := by decide +kernel
set_option maxRecDepth 20000 in
theorem ck159 : chk 159 = true := by decide +kernel
set_option maxRecDepth 20000 in
theorem ck160 : chk 160 = true := by decide +kernel
set_option maxRecDepth 20000 in
theorem ck161 : chk 161 = true := by decide +kernel
set_option maxRecDepth 20000 in
theorem ck162 : chk 162 = true := by decide +kernel
set_option maxRecDepth 20000 in
theorem ck163 : chk 163 = true := by decide +kernel
set_option maxRecDepth 20000 in
theorem ck164 : chk 164 = true := by decide +kernel
set_option maxRecDepth 20000 in
theorem ck165 : chk 165 = true := by decide +kernel
set_option maxRecDepth 20000 in
theorem ck166 : chk 166 = true := by decide +kernel
set_option maxRecDepth 20000 in
theorem ck167 : chk 167 = true := by decide +kernel
set_option maxRecDepth 20000 in
theorem ck168 : chk 168 = true := by decide +kernel
set_option maxRecDepth 20000 in
theorem ck169 : chk 169 = true := by decide +kernel
set_option maxRecDepth 20000 in
theorem ck170 : chk 170 = true := by decide +kernel
set_option maxRecDepth 20000 in
theorem ck171 : chk 171 = true := by decide +kernel
set_option maxRecDepth 20000 in
theorem ck172 : chk 172 = true := by decide +kernel
set_option maxRecDepth 20000 in
theorem ck173 : chk 173 = true := by decide +kernel
set_option maxRecDepth 20000 in
theorem ck174 : chk 174 = true := by decide +kernel
set_option maxRecDepth 20000 in
theorem ck175 : chk 175 = true := by decide +kernel
set_option maxRecDepth 20000 in
theorem ck176 : chk 176 = true := by decide +kernel
set_option maxRecDepth 20000 in
theorem ck177 : chk 177 = true := by decide +kernel
set_option maxRecDepth 20000 in
theorem ck178 : chk 178 = true := by decide +kernel
set_option maxRecDepth 20000 in
theorem ck179 : chk 179 = true := by decide +kernel
set_option maxRecDepth 20000 in
theorem ck180 : chk 180 = true := by decide +kernel
set_option maxRecDepth 20000 in
theorem ck181 : chk 181 = true := by decide +kernel
set_option maxRecDepth 20000 in
theorem ck182 : chk 182 = true := by decide +kernel
set_option maxRecDepth 20000 in
theorem ck183 : chk 183 = true := by decide +kernel
set_option maxRecDepth 20000 in
theorem ck184 : chk 184 = true := by decide +kernel
set_option maxRecDepth 20000 in
theorem ck185 : chk 185 = true := by decide +kernel
set_option maxRecDepth 20000 in
theorem ck186 : chk 186 = true := by decide +kernel
set_option maxRecDepth 20000 in
theorem ck187 : chk 187 = true := by decide +kernel
set_option maxRecDepth 20000 in
theorem ck188 : chk 188 = true := by decide +kernel
set_option maxRecDepth 20000 in
theorem ck189 : chk 189 = true := by decide +kernel
set_option maxRecDepth 20000 in
theorem ck190 : chk 190 = true := by decide +kernel
set_option maxRecDepth 20000 in
theorem ck191 : chk 191 = true := by decide +kernel
set_option maxRecDepth 20000 in
theorem ck192 : chk 192 = true := by decide +kernel
set_option maxRecDepth 20000 in
theorem ck193 : chk 193 = true := by decide +kernel
set_option maxRecDepth 20000 in
theorem ck194 : chk 194 = true := by decide +kernel
set_option maxRecDepth 20000 in
theorem ck195 : chk 195 = true := by decide +kernel
set_option maxRecDepth 20000 in
theorem ck196 : chk 196 = true := by decide +kernel
set_option maxRecDepth 20000 in
theorem ck197 : chk 197 = true := by decide +kernel
set_option maxRecDepth 20000 in
theorem ck198 : chk 198 = true := by decide +kernel
set_option maxRecDepth 20000 in
theorem ck199 : chk 199 = true := by decide +kernel
set_option maxRecDepth 20000 in
theorem ck200 : chk 200 = true := by decide +kernel
set_option maxRecDepth 20000 in
theorem ck201 : chk 201 = true := by decide +kernel
set_option maxRecDepth 20000 in
theorem ck202 : chk 202 = true := by decide +kernel
set_option maxRecDepth 20000 in
theorem ck203 : chk 203 = true := by decide +kernel
set_option maxRecDepth 20000 in
theorem ck204 : chk 204 = true := by decide +kernel
set_option maxRecDepth 20000 in
theorem ck205 : chk 205 = true := by decide +kernel
set_option maxRecDepth 20000 in
theorem ck206 : chk 206 = true := by decide +kernel
set_option maxRecDepth 20000 in
theorem ck207 : chk 207 = true := by decide +kernel
set_option maxRecDepth 20000 in
theorem ck208 : chk 208 = true := by decide +kernel
set_option maxRecDepth 20000 in
theorem ck209 : chk 209 = true := by decide +kernel
set_option maxRecDepth 20000 in
theorem ck210 : chk 210 = true := by decide +kernel
set_option maxRecDepth 20000 in
theorem ck211 : chk 211 = true := by decide +kernel
set_option maxRecDepth 20000 in
theorem ck212 : chk 212 = true := by decide +kernel
set_option maxRecDepth 20000 in
theorem ck213 : chk 213 = true := by decide +kernel
set_option maxRecDepth 20000 in
theorem ck214 : chk 214 = true := by decide +kernel
set_option maxRecDepth 20000 in
theorem ck215 : chk 215 = true := by decide +kernel
set_option maxRecDepth 20000 in
theorem ck216 : chk 216 = true := by decide +kernel
set_option maxRecDepth 20000 in
theorem ck217 : chk 217 = true := by decide +kernel
set_option maxRecDepth 20000 in
theorem ck218 : chk 218 = true := by decide +kernel
set_option maxRecDepth 20000 in
theorem ck219 : chk 219 = true := by decide +kernel
set_option maxRecDepth 20000 in
theorem ck220 : chk 220 = true := by decide +kernel
set_option maxRecDepth 20000 in
theorem ck221 : chk 221 = true := by decide +kernel
set_option maxRecDepth 20000 in
theorem ck222 : chk 222 = true := by decide +kernel
set_option maxRecDepth 20000 in
theorem ck223 : chk 223 = true := by decide +kernel
set_option maxRecDepth 20000 in
theorem ck224 : chk 224 = true := by decide +kernel
set_option maxRecDepth 20000 in
theorem ck225 : chk 225 = true := by decide +kernel
set_option maxRecDepth 20000 in
theorem ck226 : chk 226 = true := by decide +kernel
theorem ck_nil (P : Nat → Prop) (n : Nat) : ∀ y, n ≤ y → y < n → P y := fun y h1 h2 => absurd h1 (by omega)
theorem ck_all : ∀ y, y < 227 → chk y = true := by
  intro y hy
  match y, hy with
  | 0, _ => exact ck0
  | 1, _ => exact ck1
  | 2, _ => exact ck2
  | 3, _ => exact ck3
  | 4, _ => exact ck4
  | 5, _ => exact ck5
  | 6, _ => exact ck6
  | 7, _ => exact ck7
  | 8, _ => exact ck8
  | 9, _ => exact ck9
  | 10, _ => exact ck10
  | 11, _ => exact ck11
  | 12, _ => exact ck12
  | 13, _ => exact ck13
  | 14, _ => exact ck14
  | 15, _ => exact ck15
  | 16, _ => exact ck16
  | 17, _ => exact ck17
  | 18, _ => exact ck18
  | 19, _ => exact ck19
  | 20, _ => exact ck20
  | 21, _ => exact ck21
  | 22, _ => exact ck22
  | 23, _ => exact ck23
  | 24, _ => exact ck24
  | 25, _ => exact ck25
  | 26, _ => exact ck26
  | 27, _ => exact ck27
  | 28, _ => exact ck28
  | 29, _ => exact ck29
  | 30, _ => exact ck30
  | 31, _ => exact ck31
  | 32, _ => exact ck32
  | 33, _ => exact ck33
  | 34, _ => exact ck34
  | 35, _ => exact ck35
  | 36, _ => exact ck36
  | 37, _ => exact ck37
  | 38, _ => exact ck38
  | 39, _ => exact ck39
  | 40, _ => exact ck40
  | 41, _ => exact ck41
  | 42, _ => exact ck42
  | 43, _ => exact ck43
  | 44, _ => exact ck44
  | 45, _ => exact ck45
  | 46, _ => exact ck46
  | 47, _ => exact ck47
  | 48, _ => exact ck48
  | 49, _ => exact ck49
  | 50, _ => exact ck50
  | 51, _ => exact ck51
  | 52, _ => exact ck52
  | 53, _ => exact ck53
  | 54, _ => exact ck54
  | 55, _ => exact ck55
  | 56, _ => exact ck56
  | 57, _ => exact ck57
  | 58, _ => exact ck58
  | 59, _ => exact ck59
  | 60, _ => exact ck60
  | 61, _ => exact ck61
  | 62, _ => exact ck62
  | 63, _ => exact ck63
  | 64, _ => exact ck64
  | 65, _ => exact ck65
  | 66, _ => exact ck66
  | 67, _ => exact ck67
  | 68, _ => exact ck68
  | 69, _ => exact ck69
  | 70, _ => exact ck70
  | 71, _ => exact ck71
  | 72, _ => exact ck72
  | 73, _ => exact ck73
  | 74, _ => exact ck74
  | 75, _ => exact ck75
  | 76, _ => exact ck76
  | 77, _ => exact ck77
  | 78, _ => exact ck78
  | 79, _ => exact ck79
  | 80, _ => exact ck80
  | 81, _ => exact ck81
  | 82, _ => exact ck82
  | 83, _ => exact ck83
  | 84, _ => exact ck84
  | 85, _ => exact ck85
  | 86, _ => exact ck86
  | 87, _ => exact ck87
  | 88, _ => exact ck88
  | 89, _ => exact ck89
  | 90, _ => exact ck90
  | 91, _ => exact ck91
  | 92, _ => exact ck92
  | 93, _ => exact ck93
  | 94, _ => exact ck94
  | 95, _ => exact ck95
  | 96, _ => exact ck96
  | 97, _ => exact ck97
  | 98, _ => exact ck98
  | 99, _ => exact ck99
  | 100, _ => exact ck100
  | 101, _ => exact ck101
  | 102, _ => exact ck102
  | 103, _ => exact ck103
  | 104, _ => exact ck104
  | 105, _ => exact ck105
  | 106, _ => exact ck106
  | 107, _ => exact ck107
  | 108, _ => exact ck108
  | 109, _ => exact ck109
  | 110, _ => exact ck110
  | 111, _ => exact ck111
  | 112, _ => exact ck112
  | 113, _ => exact ck113
  | 114, _ => exact ck114
  | 115, _ => exact ck115
  | 116, _ => exact ck116
  | 117, _ => exact ck117
  | 118, _ => exact ck118
  | 119, _ => exact ck119
  | 120, _ => exact ck120
  | 121, _ => exact ck121
  | 122, _ => exact ck122
  | 123, _ => exact ck123
  | 124, _ => exact ck124
  | 125, _ => exact ck125
  | 126, _ => exact ck126
  | 127, _ => exact ck127
  | 128, _ => exact ck128
  | 129, _ => exact ck129
  | 130, _ => exact ck130
  | 131, _ => exact ck131
  | 132, _ => exact ck132
  | 133, _ => exact ck133
  | 134, _ => exact ck134
  | 135, _ => exact ck135
  | 136, _ => exact ck136
  | 137, _ => exact ck137
  | 138, _ => exact ck138
  | 139, _ => exact ck139
  | 140, _ => exact ck140
  | 141, _ => exact ck141
  | 142, _ => exact ck142
  | 143, _ => exact ck143
  | 144, _ => exact ck144
  | 145, _ => exact ck145
  | 146, _ => exact ck146
  | 147, _ => exact ck147
  | 148, _ => exact ck148
  | 149, _ => exact ck149
  | 150, _ => exact ck150
  | 151, _ => exact ck151
  | 152, _ => exact ck152
  | 153, _ => exact ck153
  | 154, _ => exact ck154
  | 155, _ => exact ck155
  | 156, _ => exact ck156
  | 157, _ => exact ck157
  | 158, _ => exact ck158
  | 159, _ => exact ck159
  | 160, _ => exact ck160
  | 161, _ => exact ck161
  | 162, _ => exact ck162
  | 163, _ => exact ck163
  | 164, _ => exact ck164
  | 165, _ => exact ck165
  | 166, _ => exact ck166
  | 167, _ => exact ck167
  | 168, _ => exact ck168
  | 169, _ => exact ck169
  | 170, _ => exact ck170
  | 171, _ => exact ck171
  | 172, _ => exact ck172
  | 173, _ => exact ck173
  | 174, _ => exact ck174
  | 175, _ => exact ck175
  | 176, _ => exact ck176
  | 177, _ => exact ck177
  | 178, _ => exact ck178
  | 179, _ => exact ck179
  | 180, _ => exact ck180
  | 181, _ => exact ck181
  | 182, _ => exact ck182
  | 183, _ => exact ck183
  | 184, _ => exact ck184
  | 185, _ => exact ck185
  | 186, _ => exact ck186
  | 187, _ => exact ck187
  | 188, _ => exact ck188
  | 189, _ => exact ck189
  | 190, _ => exact ck190
  | 191, _ => exact ck191
  | 192, _ => exact ck192
  | 193, _ => exact ck193
  | 194, _ => exact ck194
  | 195, _ => exact ck195
  | 196, _ => exact ck196
  | 197, _ => exact ck197
  | 198, _ => exact ck198
  | 199, _ => exact ck199
  | 200, _ => exact ck200
  | 201, _ => exact ck201
  | 202, _ => exact ck202
  | 203, _ => exact ck203
  | 204, _ => exact ck204
  | 205, _ => exact ck205
  | 206, _ => exact ck206
  | 207, _ => exact ck207
  | 208, _ => exact ck208
  | 209, _ => exact ck209
  | 210, _ => exact ck210
  | 211, _ => exact ck211
  | 212, _ => exact ck212
  | 213, _ => exact ck213
  | 214, _ => exact ck214
  | 215, _ => exact ck215
  | 216, _ => exact ck216
  | 217, _ => exact ck217
  | 218, _ => exact ck218
  | 219, _ => exact ck219
  | 220, _ => exact ck220
  | 221, _ => exact ck221
  | 222, _ => exact ck222
  | 223, _ => exact ck223
  | 224, _ => exact ck224
  | 225, _ => exact ck225
  | 226, _ => exact ck226
  | y + 227, h => exact absurd h (by omega)
