/-! SOUNDNESS: what the pure machine comes to, the machine comes to (written by wip/whole/gen11.py) -/
theorem pI_inv {pc : Nat} {L : Lc} {M : Mm} {f : Int32 → Int32 → Int32} {st : List PV} {s : StT} (h : pI pc L M f st = some s) : ∃ (a b : Int) (st0 : List PV), st = .inl b :: .inl a :: st0 ∧ s = .inl (pc, L, .inl (i2 f a b) :: st0, M) := by
  unfold pI at h
  split at h
  · exact ⟨_, _, _, rfl, (Option.some.inj h).symm⟩
  · cases h
theorem pD_inv {pc : Nat} {L : Lc} {M : Mm} {f : Int32 → Int32 → Int32} {st : List PV} {s : StT} (h : pD pc L M f st = some s) : ∃ (a b : Int) (st0 : List PV), st = .inl b :: .inl a :: st0 ∧ ¬ b = 0 ∧ s = .inl (pc, L, .inl (i2 f a b) :: st0, M) := by
  unfold pD at h
  split at h
  · split at h
    · cases h
    · rename_i hb
      exact ⟨_, _, _, rfl, hb, (Option.some.inj h).symm⟩
  · cases h
theorem qI_inv {pc : Nat} {L : Lc} {M : Mm} {f : Int64 → Int64 → Int64} {st : List PV} {s : StT} (h : qI pc L M f st = some s) : ∃ (a b : Int) (st0 : List PV), st = .inr (.inl b) :: .inr (.inl a) :: st0 ∧ s = .inl (pc, L, .inr (.inl (l2 f a b)) :: st0, M) := by
  unfold qI at h
  split at h
  · exact ⟨_, _, _, rfl, (Option.some.inj h).symm⟩
  · cases h
theorem qD_inv {pc : Nat} {L : Lc} {M : Mm} {f : Int64 → Int64 → Int64} {st : List PV} {s : StT} (h : qD pc L M f st = some s) : ∃ (a b : Int) (st0 : List PV), st = .inr (.inl b) :: .inr (.inl a) :: st0 ∧ ¬ b = 0 ∧ s = .inl (pc, L, .inr (.inl (l2 f a b)) :: st0, M) := by
  unfold qD at h
  split at h
  · split at h
    · cases h
    · rename_i hb
      exact ⟨_, _, _, rfl, hb, (Option.some.inj h).symm⟩
  · cases h
theorem ld0_inv {pc i : Nat} {L : Lc} {M : Mm} {st : List PV} {s : StT} (h : ld pc L st M 0 i = some s) : ∃ z : Int, gl L i = some (.inl z) ∧ s = .inl (pc, L, .inl z :: st, M) := by
  unfold ld at h
  split at h <;> first | (rename_i e1 e2; cases h; exact ⟨_, by assumption, rfl⟩) | (cases h; exact ⟨_, by assumption, rfl⟩) | (cases h; done) | (exfalso; simp_all; done)
theorem ld1_inv {pc i : Nat} {L : Lc} {M : Mm} {st : List PV} {s : StT} (h : ld pc L st M 1 i = some s) : ∃ z : Int, gl L i = some (.inr (.inl z)) ∧ s = .inl (pc, L, .inr (.inl z) :: st, M) := by
  unfold ld at h
  split at h <;> first | (rename_i e1 e2; cases h; exact ⟨_, by assumption, rfl⟩) | (cases h; exact ⟨_, by assumption, rfl⟩) | (cases h; done) | (exfalso; simp_all; done)
theorem ld2_inv {pc i : Nat} {L : Lc} {M : Mm} {st : List PV} {s : StT} (h : ld pc L st M 2 i = some s) : ∃ z : Nat, gl L i = some (.inr (.inr z)) ∧ s = .inl (pc, L, .inr (.inr z) :: st, M) := by
  unfold ld at h
  split at h <;> first | (rename_i e1 e2; cases h; exact ⟨_, by assumption, rfl⟩) | (cases h; exact ⟨_, by assumption, rfl⟩) | (cases h; done) | (exfalso; simp_all; done)
theorem sto0_inv {pc i : Nat} {L : Lc} {M : Mm} {st : List PV} {s : StT} (h : sto pc L st M 0 i = some s) : ∃ (z : Int) (st0 : List PV), st = .inl z :: st0 ∧ s = .inl (pc, sl L i (some (.inl z)), st0, M) := by
  unfold sto at h
  split at h <;> first | (cases h; exact ⟨_, _, rfl, rfl⟩) | (cases h; done) | (exfalso; simp_all; done)
theorem sto1_inv {pc i : Nat} {L : Lc} {M : Mm} {st : List PV} {s : StT} (h : sto pc L st M 1 i = some s) : ∃ (z : Int) (st0 : List PV), st = .inr (.inl z) :: st0 ∧ s = .inl (pc, sl (sl L (i + 1) none) i (some (.inr (.inl z))), st0, M) := by
  unfold sto at h
  split at h <;> first | (cases h; exact ⟨_, _, rfl, rfl⟩) | (cases h; done) | (exfalso; simp_all; done)
theorem sto2_inv {pc i : Nat} {L : Lc} {M : Mm} {st : List PV} {s : StT} (h : sto pc L st M 2 i = some s) : ∃ (z : Nat) (st0 : List PV), st = .inr (.inr z) :: st0 ∧ s = .inl (pc, sl L i (some (.inr (.inr z))), st0, M) := by
  unfold sto at h
  split at h <;> first | (cases h; exact ⟨_, _, rfl, rfl⟩) | (cases h; done) | (exfalso; simp_all; done)
theorem gfield_inv {pc : Nat} {L : Lc} {M : Mm} {st : List PV} {q : Option (Nat × Nat × Nat)} {s : StT} (h : gfield pc L st M q = some s) : ∃ (ci f w r : Nat) (st0 : List PV), q = some (ci, f, w) ∧ st = .inr (.inr r) :: st0 ∧ fkind r ci f ≠ 99999 ∧ s = .inl (pc + 3, L, gf M r f (fkind r ci f) :: st0, M) := by
  unfold gfield at h
  split at h
  · split at h
    · cases h
    · rename_i hk
      exact ⟨_, _, _, _, _, rfl, rfl, fun z => hk z, (Option.some.inj h).symm⟩
  · cases h
theorem pfield_inv {pc : Nat} {L : Lc} {M : Mm} {st : List PV} {q : Option (Nat × Nat × Nat)} {s : StT} (h : pfield pc L st M q = some s) : ∃ (ci f w r : Nat) (z : Int) (v : PV) (st0 : List PV), q = some (ci, f, w) ∧ st = v :: .inr (.inr r) :: st0 ∧ s = .inl (pc + 3, L, st0, up M r f z) ∧
    ((v = .inl z ∧ fkind r ci f = 0) ∨ (v = .inl z ∧ fkind r ci f = 2 ∧ (z = 0 ∨ z = 1)) ∨ (v = .inr (.inl z) ∧ fkind r ci f = 1)) := by
  unfold pfield at h
  split at h
  · split at h
    · rename_i hk
      exact ⟨_, _, _, _, _, _, _, rfl, rfl, (Option.some.inj h).symm, Or.inl ⟨rfl, hk⟩⟩
    · rename_i hk
      split at h
      · rename_i hz
        exact ⟨_, _, _, _, _, _, _, rfl, rfl, (Option.some.inj h).symm, Or.inr (Or.inl ⟨rfl, hk, hz⟩)⟩
      · cases h
    · cases h
  · split at h
    · rename_i hk
      exact ⟨_, _, _, _, _, _, _, rfl, rfl, (Option.some.inj h).symm, Or.inr (Or.inr ⟨rfl, hk⟩)⟩
    · cases h
  · cases h
theorem ald_inv {pc : Nat} {L : Lc} {M : Mm} {st : List PV} {bo : Bool} {s : StT} (h : ald pc L st M bo = some s) : ∃ (i : Int) (r n : Nat) (st0 : List PV), st = .inl i :: .inr (.inr r) :: st0 ∧ shp r = .inl (n, bo) ∧ (0 ≤ i ∧ i < n) ∧ s = .inl (pc + 1, L, .inl (M r i) :: st0, M) := by
  unfold ald at h
  split at h
  · split at h
    · rename_i hsh
      cases hb : (_ == bo : Bool) with
      | false => rw [hb] at h; cases h
      | true =>
        rw [hb] at h
        dsimp only [cond_true] at h
        split at h
        · rename_i hi
          have e := eq_of_beq hb
          subst e
          exact ⟨_, _, _, _, rfl, hsh, hi, (Option.some.inj h).symm⟩
        · cases h
    · cases h
  · cases h
theorem ast_inv {pc : Nat} {L : Lc} {M : Mm} {st : List PV} {bo : Bool} {s : StT} (h : ast pc L st M bo = some s) : ∃ (v i : Int) (r n : Nat) (st0 : List PV), st = .inl v :: .inl i :: .inr (.inr r) :: st0 ∧ shp r = .inl (n, bo) ∧ ((0 ≤ i ∧ i < n) ∧ (bo = true → v = 0 ∨ v = 1)) ∧ s = .inl (pc + 1, L, st0, up M r i v) := by
  unfold ast at h
  split at h
  · split at h
    · rename_i hsh
      cases hb : (_ == bo : Bool) with
      | false => rw [hb] at h; cases h
      | true =>
        rw [hb] at h
        dsimp only [cond_true] at h
        split at h
        · rename_i hi
          have e := eq_of_beq hb
          subst e
          exact ⟨_, _, _, _, _, rfl, hsh, hi, (Option.some.inj h).symm⟩
        · cases h
    · cases h
  · cases h
theorem alen_inv {pc : Nat} {L : Lc} {M : Mm} {st : List PV} {s : StT} (h : alen pc L st M = some s) : ∃ (r n : Nat) (b : Bool) (st0 : List PV), st = .inr (.inr r) :: st0 ∧ shp r = .inl (n, b) ∧ r < 73 ∧ s = .inl (pc + 1, L, .inl (n : Int) :: st0, M) := by
  unfold alen at h
  split at h
  · split at h
    · rename_i hsh
      cases hb : Nat.blt _ 73 with
      | false => rw [hb] at h; cases h
      | true =>
        rw [hb] at h
        exact ⟨_, _, _, _, rfl, hsh, Nat.le_of_ble_eq_true hb, (Option.some.inj h).symm⟩
    · cases h
  · cases h
theorem acopy_inv {pc : Nat} {L : Lc} {M : Mm} {st : List PV} {s : StT} (h : acopy pc L st M = some s) : ∃ (n dp sp : Int) (rd rs n0 n1 : Nat) (st0 : List PV), st = .inl n :: .inl dp :: .inr (.inr rd) :: .inl sp :: .inr (.inr rs) :: st0 ∧ shp rs = .inl (n0, false) ∧ shp rd = .inl (n1, false) ∧ (((0 ≤ sp ∧ 0 ≤ dp ∧ 0 ≤ n) ∧ sp + n ≤ n0 ∧ dp + n ≤ n1) ∧ (rs < 73 ∧ rd < 73) ∧ cs st0 ≤ 8) ∧ s = .inl (pc + 3, L, st0, cp M rs sp rd dp n) := by
  unfold acopy at h
  split at h
  · split at h
    · split at h
      · rename_i h1 h2 h3
        exact ⟨_, _, _, _, _, _, _, _, rfl, h1, h2, h3, (Option.some.inj h).symm⟩
      · cases h
    · cases h
  · cases h
theorem calS_inv {pc t np : Nat} {st : List PV} {s : StT} (h : calS pc t np st = some s) : ∃ as rest : List PV, spl np [] st = some (as, rest) ∧ (cs rest ≤ 8 ∧ cs as ≤ mL t ∧ mS t = true ∧ lok (mG t) 0 as = true) ∧ s = .inr (.inl (t, as, pc + 3, rest)) := by
  unfold calS at h
  split at h
  · rename_i as rest hsp
    cases hb : (Nat.ble (cs rest) 8 && (Nat.ble (cs as) (mL t) && (mS t && lok (mG t) 0 as))) with
    | false => rw [hb] at h; cases h
    | true =>
      rw [hb] at h
      simp only [Bool.and_eq_true] at hb
      exact ⟨as, rest, hsp, ⟨Nat.le_of_ble_eq_true hb.1, Nat.le_of_ble_eq_true hb.2.1, hb.2.2.1, hb.2.2.2⟩, (Option.some.inj h).symm⟩
  · cases h
theorem calV_inv {pc t np : Nat} {st : List PV} {s : StT} (h : calV pc t np st = some s) : ∃ (r ci : Nat) (ks : List Nat) (as rest : List PV), spl (np + 1) [] st = some (.inr (.inr r) :: as, rest) ∧ shp r = .inr (ci, ks) ∧ (cs rest ≤ 8 ∧ cs as + 1 ≤ mL t ∧ mS t = false ∧ ci = mK t ∧ lok (mG t) 1 as = true) ∧ s = .inr (.inl (t, .inr (.inr r) :: as, pc + 3, rest)) := by
  unfold calV at h
  split at h
  · rename_i r as rest hsp
    split at h
    · rename_i ci ks hsh
      cases hb : (Nat.ble (cs rest) 8 && (Nat.ble (cs as + 1) (mL t) && (!(mS t) && (Nat.beq ci (mK t) && lok (mG t) 1 as)))) with
      | false => rw [hb] at h; cases h
      | true =>
        rw [hb] at h
        simp only [Bool.and_eq_true, Bool.not_eq_true'] at hb
        exact ⟨r, ci, ks, as, rest, hsp, hsh, ⟨Nat.le_of_ble_eq_true hb.1, Nat.le_of_ble_eq_true hb.2.1, hb.2.2.1, Nat.eq_of_beq_eq_true hb.2.2.2.1, hb.2.2.2.2⟩, (Option.some.inj h).symm⟩
    · cases h
  · cases h
theorem stlen_inv {pc : Nat} {L : Lc} {M : Mm} {st : List PV} {s : StT} (h : stlen pc L st M = some s) : ∃ (q : Nat) (st0 : List PV), st = .inr (.inr q) :: st0 ∧ ((500 ≤ q ∧ q < 506) ∧ cs st0 ≤ 8) ∧ s = .inl (pc + 3, L, .inl ((nth strB (q - 500) []).length : Int) :: st0, M) := by
  unfold stlen at h
  split at h
  · split at h
    · rename_i h3
      exact ⟨_, _, rfl, h3, (Option.some.inj h).symm⟩
    · cases h
  · cases h
theorem stchr_inv {pc : Nat} {L : Lc} {M : Mm} {st : List PV} {s : StT} (h : stchr pc L st M = some s) : ∃ (j : Int) (q : Nat) (st0 : List PV), st = .inl j :: .inr (.inr q) :: st0 ∧ (((500 ≤ q ∧ q < 506) ∧ 0 ≤ j ∧ j < (nth strB (q - 500) []).length) ∧ cs st0 ≤ 8) ∧ s = .inl (pc + 3, L, .inl (nth (nth strB (q - 500) []) j.toNat 0) :: st0, M) := by
  unfold stchr at h
  split at h
  · split at h
    · rename_i h3
      exact ⟨_, _, _, rfl, h3, (Option.some.inj h).symm⟩
    · cases h
  · cases h
theorem own_lt {y : Nat} (hy : y < 227) : mK y < 9 := by
  have : (List.range 227).all (fun y => Nat.blt (mK y) 9) = true := by decide +kernel
  exact Nat.le_of_ble_eq_true (List.all_eq_true.mp this y (List.mem_range.mpr hy))
theorem m_spec {y : Nat} (hy : y < 227) : (mN y).cls = nth ownN (mK y) "" ∧ plainFor (mN y) = true ∧ ((mN y).cls ≠ "java/lang/invoke/MethodHandle" ∧ (mN y).cls ≠ "java/lang/invoke/VarHandle") ∧ mL y ≤ 20 ∧ Jvm.Cond.initialized (mN y).cls ∈ gt ∧ (mS y = true → Jvm.Cond.static (mN y) ∈ gt) ∧ (mS y = false → Jvm.Cond.instanceMethod (mN y) ∈ gt ∧ Jvm.Cond.selects (mN y).cls (mN y) (mN y) ∈ gt ∧ (mN y).cls = clN (mK y)) ∧ Jvm.Cond.code (mN y) (mC y) (mL y) (mR y) ∈ gt := by
  have h := List.all_eq_true.mp m_ok y (List.mem_range.mpr hy)
  simp only [mOk, Bool.and_eq_true, decide_eq_true_eq] at h
  obtain ⟨h1, h2, h3, h4, h5, h6, h7⟩ := h
  obtain ⟨i, hi⟩ := mc_all y hy
  refine ⟨h1, h2, ⟨h3, h4⟩, h5, gt_of h6 rfl, fun hs => ?_, fun hs => ?_, gt_of hi rfl⟩
  · rw [if_pos hs] at h7
    exact gt_of (of_decide_eq_true h7) rfl
  · rw [if_neg (by rw [hs]; decide)] at h7
    simp only [Bool.and_eq_true, decide_eq_true_eq] at h7
    exact ⟨gt_of h7.1 rfl, gt_of h7.2.1 rfl, h7.2.2⟩
theorem fld_spec {o k ci f w : Nat} (ho : o < 9) (h : look4 (nth fldT o []) k = some (ci, f, w)) : ci < 6 ∧ Jvm.Cond.fieldLink (nth ownN o "") k ((clT ci) f).1 ((clT ci) f).2.1 ((clT ci) f).2.2.1 ∈ gt := by
  have h1 := List.all_eq_true.mp fld_ok o (List.mem_range.mpr ho)
  have h2 := List.all_eq_true.mp h1 _ (look4_mem _ _ _ h)
  simp only [fldOk, Bool.and_eq_true, decide_eq_true_eq] at h2
  exact ⟨Nat.le_of_ble_eq_true h2.1, gt_of h2.2 rfl⟩
theorem mth_spec {o k t np w : Nat} {ne : Bool} (ho : o < 9) (h : look4 (nth mthT o []) k = some (t, np, ne, w)) : mthOk o (k, t, np, ne, w) = true := by
  have h1 := List.all_eq_true.mp mth_ok o (List.mem_range.mpr ho)
  exact List.all_eq_true.mp h1 _ (look4_mem _ _ _ h)
theorem cst_spec {o k w : Nat} {v : Int} (ho : o < 9) (h : look4 (nth cstT o []) k = some (v, w)) : Jvm.Cond.constant (nth ownN o "") k (Int32.ofInt v) ∈ gt ∧ ok32 v := by
  have h1 := List.all_eq_true.mp cst_ok o (List.mem_range.mpr ho)
  have h2 := List.all_eq_true.mp h1 _ (look4_mem _ _ _ h)
  simp only [Bool.and_eq_true, decide_eq_true_eq] at h2
  exact ⟨gt_of h2.1 rfl, dok_ok h2.2⟩
theorem lng_spec {o k w : Nat} {v : Int} (ho : o < 9) (h : look4 (nth lngT o []) k = some (v, w)) : Jvm.Cond.constantLong (nth ownN o "") k (Int64.ofInt v) ∈ gt ∧ ok64 v := by
  have h1 := List.all_eq_true.mp lng_ok o (List.mem_range.mpr ho)
  have h2 := List.all_eq_true.mp h1 _ (look4_mem _ _ _ h)
  simp only [Bool.and_eq_true, decide_eq_true_eq] at h2
  exact ⟨gt_of h2.1 rfl, dokL_ok h2.2⟩
theorem str_spec {o k j w : Nat} (ho : o < 9) (h : look4 (nth strT o []) k = some (j, w)) : nth ownN o "" = "StairSteps$Reader" ∧ strP.getD j 0 = k ∧ j < 6 := by
  have h1 := List.all_eq_true.mp str_ok o (List.mem_range.mpr ho)
  have h2 := List.all_eq_true.mp h1 _ (look4_mem _ _ _ h)
  simp only [Bool.and_eq_true, decide_eq_true_eq] at h2
  exact ⟨h2.1, h2.2.1, Nat.le_of_ble_eq_true h2.2.2⟩
/-- the room of String's members -/
def rmS (d : Nat) : Room := { frames := d, cells := 0, slots := 0, locals := 40 * d }
def LenOk (l : Launch) (D : va_G) (cI cZ : ClassId) (ad adV : Nat → Nat) : Prop := ∀ (i : Nat) (M : Mm), i < 6 → okM M → Met l yJ0_length_8abf5 (Jvm.Cond.code yJ0_length_8abf5 cJ0_length_8abf5 1 (some .int) :: gt) (rmS 2) (PcY D cI cZ ad adV [.inr (.inr (500 + i))] M) (QcY D cI cZ ad adV (some (.inl ((nth strB i []).length : Int))) M) 0 0 (Ar ad)
def ChrOk (l : Launch) (D : va_G) (cI cZ : ClassId) (ad adV : Nat → Nat) : Prop := ∀ (i : Nat) (j : Int) (M : Mm), i < 6 → okM M → 0 ≤ j → j < (nth strB i []).length → Met l yJ0_charAt_5068e (Jvm.Cond.code yJ0_charAt_5068e cJ0_charAt_5068e 2 (some .char) :: gt) (rmS 4) (PcY D cI cZ ad adV [.inr (.inr (500 + i)), .inl j] M) (QcY D cI cZ ad adV (some (.inl (nth (nth strB i []) j.toNat 0))) M) 0 0 (Ar ad)
theorem w_len : Jvm.Cond.code yJ0_length_8abf5 cJ0_length_8abf5 1 (some .int) ∈ gt := gt_of (i := 386) (by decide +kernel) rfl
theorem w_chr : Jvm.Cond.code yJ0_charAt_5068e cJ0_charAt_5068e 2 (some .char) ∈ gt := gt_of (i := 396) (by decide +kernel) rfl
theorem w_ini : Jvm.Cond.initialized "java/lang/String" ∈ gt := gt_of (i := 87) (by decide +kernel) rfl
theorem w_lenI : Jvm.Cond.instanceMethod yJ0_length_8abf5 ∈ gt := gt_of (i := 384) (by decide +kernel) rfl
theorem w_lenS : Jvm.Cond.selects "java/lang/String" yJ0_length_8abf5 yJ0_length_8abf5 ∈ gt := gt_of (i := 385) (by decide +kernel) rfl
theorem w_chrI : Jvm.Cond.instanceMethod yJ0_charAt_5068e ∈ gt := gt_of (i := 394) (by decide +kernel) rfl
theorem w_chrS : Jvm.Cond.selects "java/lang/String" yJ0_charAt_5068e yJ0_charAt_5068e ∈ gt := gt_of (i := 395) (by decide +kernel) rfl
def SndP (l : Launch) (D : va_G) (cI cZ : ClassId) (ad adV : Nat → Nat) (n : Nat) : Prop := ∀ (y pc : Nat) (L : Lc) (st : List PV) (M : Mm) (r : Option PV) (M' : Mm), y < 227 → exec n y pc L st M = some (r, M') → ∀ (p : Program) (e : Env) (s : State) (m : MethodId) (args : Array Value) (below : List Frame) (meth : Method) (c : Code),
    p.tables.exec = Jvm.exec → c.code = mC y → meth.sig.returnType = mR y → c.maxLocals = mL y → meth.locks = false → s.vm.findClass (mN y).cls = some m.cls → (∀ w ∈ gt, w.before args s = true) → va_K D cls (tyw cI cZ) s → Sok ad adV s s.heap → Nok s →
    G p l e (rm y) s m args below meth c (MQ below (QcY D cI cZ ad adV r M') args s 0 0 (Ar ad)) D cI cZ ad y pc L st M
theorem met_of {l : Launch} {D : va_G} {cI cZ : ClassId} {ad adV : Nat → Nat} {n : Nat} (h : SndP l D cI cZ ad adV n) {t : Nat} {as : List PV} {M : Mm} {r : Option PV} {M' : Mm} (ht : t < 227) (hex : exec n t 0 (ent (mL t) as) [] M = some (r, M')) (ho : okS as) (hl : lok (mG t) 0 as = true) (hc : cs as ≤ mL t) (hM : okM M) :
    Met l (mN t) (wsm t) (rm t) (PcY D cI cZ ad adV as M) (QcY D cI cZ ad adV r M') 0 0 (Ar ad) := by
  refine va_MetF (cc := mC t) (maxL := mL t) (ret := mR t) (m_spec ht).2.1 rfl ?_
  intro p e s m args below meth c s₁ B hml hv
  obtain ⟨rfl, hP, hK, hSt, hN⟩ := hv
  have hts := atoms_spec (ws := wsm t) B.pre
  rw [lg_entry_eq]
  exact h t 0 _ [] M r M' ht hex p e s m _ below meth c B.exec B.bytes B.returns hml B.notSynchronized (findClass_of_methodNamed B.named) (fun w hw => hts w (List.mem_cons_of_mem _ hw)) hK hSt hN s.heap [] _ hP va_S.rf (RL_entry ho hl hc) (fun v hv => by cases hv) hM
set_option maxHeartbeats 4000000 in
theorem snd {l : Launch} {D : va_G} {cI cZ : ClassId} {ad adV : Nat → Nat} (hj : inj ad) (hLen : LenOk l D cI cZ ad adV) (hChr : ChrOk l D cI cZ ad adV) : ∀ n, SndP l D cI cZ ad adV n := by
  intro n
  induction n with
  | zero => intro y pc L st M r M' hy h; simp [exec] at h
  | succ n ih =>
  intro y pc L st M r M' hy h p e s m args below meth c hx hb hr hml hlk hown hts hK hSt hN
  have ih' : ∀ (pc : Nat) (L : Lc) (st : List PV) (M : Mm), exec n y pc L st M = some (r, M') → G p l e (rm y) s m args below meth c (MQ below (QcY D cI cZ ad adV r M') args s 0 0 (Ar ad)) D cI cZ ad y pc L st M := fun pc L st M h => ih y pc L st M r M' hy h p e s m args below meth c hx hb hr hml hlk hown hts hK hSt hN
  obtain ⟨m1, m2, m3, m4, m5, m6, m7, m8⟩ := m_spec hy
  have ho := own_lt hy
  rw [m1] at hown
  rw [exec] at h
  cases hs : step y pc L st M with
  | none => rw [hs] at h; cases h
  | some sr =>
  rw [hs] at h
  unfold step at hs
  cases hf : fetch y pc with
  | none => rw [hf] at hs; cases hs
  | some q =>
  obtain ⟨i, len⟩ := q
  rw [hf] at hs
  dsimp only at hs
  obtain ⟨hd, hok⟩ := fetch_ok hy hf
  cases i
  case iadd =>
    obtain ⟨a, b, st0, rfl, rfl⟩ := pI_inv hs
    cases Nat.eq_of_beq_eq_true hok
    exact g_iadd hx hb hd (ih' _ _ _ _ h)
  case isub =>
    obtain ⟨a, b, st0, rfl, rfl⟩ := pI_inv hs
    cases Nat.eq_of_beq_eq_true hok
    exact g_isub hx hb hd (ih' _ _ _ _ h)
  case imul =>
    obtain ⟨a, b, st0, rfl, rfl⟩ := pI_inv hs
    cases Nat.eq_of_beq_eq_true hok
    exact g_imul hx hb hd (ih' _ _ _ _ h)
  case iand =>
    obtain ⟨a, b, st0, rfl, rfl⟩ := pI_inv hs
    cases Nat.eq_of_beq_eq_true hok
    exact g_iand hx hb hd (ih' _ _ _ _ h)
  case ior =>
    obtain ⟨a, b, st0, rfl, rfl⟩ := pI_inv hs
    cases Nat.eq_of_beq_eq_true hok
    exact g_ior hx hb hd (ih' _ _ _ _ h)
  case ixor =>
    obtain ⟨a, b, st0, rfl, rfl⟩ := pI_inv hs
    cases Nat.eq_of_beq_eq_true hok
    exact g_ixor hx hb hd (ih' _ _ _ _ h)
  case ishl =>
    obtain ⟨a, b, st0, rfl, rfl⟩ := pI_inv hs
    cases Nat.eq_of_beq_eq_true hok
    exact g_ishl hx hb hd (ih' _ _ _ _ h)
  case ishr =>
    obtain ⟨a, b, st0, rfl, rfl⟩ := pI_inv hs
    cases Nat.eq_of_beq_eq_true hok
    exact g_ishr hx hb hd (ih' _ _ _ _ h)
  case iushr =>
    obtain ⟨a, b, st0, rfl, rfl⟩ := pI_inv hs
    cases Nat.eq_of_beq_eq_true hok
    exact g_iushr hx hb hd (ih' _ _ _ _ h)
  case idiv =>
    obtain ⟨a, b, st0, rfl, hne, rfl⟩ := pD_inv hs
    cases Nat.eq_of_beq_eq_true hok
    exact g_idiv hx hb hd hne (ih' _ _ _ _ h)
  case irem =>
    obtain ⟨a, b, st0, rfl, hne, rfl⟩ := pD_inv hs
    cases Nat.eq_of_beq_eq_true hok
    exact g_irem hx hb hd hne (ih' _ _ _ _ h)
  case ladd =>
    obtain ⟨a, b, st0, rfl, rfl⟩ := qI_inv hs
    cases Nat.eq_of_beq_eq_true hok
    exact g_ladd hx hb hd (ih' _ _ _ _ h)
  case lmul =>
    obtain ⟨a, b, st0, rfl, rfl⟩ := qI_inv hs
    cases Nat.eq_of_beq_eq_true hok
    exact g_lmul hx hb hd (ih' _ _ _ _ h)
  case ldiv =>
    obtain ⟨a, b, st0, rfl, hne, rfl⟩ := qD_inv hs
    cases Nat.eq_of_beq_eq_true hok
    exact g_ldiv hx hb hd hne (ih' _ _ _ _ h)
  case lrem =>
    obtain ⟨a, b, st0, rfl, hne, rfl⟩ := qD_inv hs
    cases Nat.eq_of_beq_eq_true hok
    exact g_lrem hx hb hd hne (ih' _ _ _ _ h)
  case ineg =>
    simp only [stepI] at hs
    split at hs
    · cases hs
      cases Nat.eq_of_beq_eq_true hok
      exact g_ineg hx hb hd (ih' _ _ _ _ h)
    · cases hs
  case i2l =>
    simp only [stepI] at hs
    split at hs
    · cases hs
      cases Nat.eq_of_beq_eq_true hok
      exact g_i2l hx hb hd (ih' _ _ _ _ h)
    · cases hs
  case l2i =>
    simp only [stepI] at hs
    split at hs
    · cases hs
      cases Nat.eq_of_beq_eq_true hok
      exact g_l2i hx hb hd (ih' _ _ _ _ h)
    · cases hs
  case lcmp =>
    simp only [stepI] at hs
    split at hs
    · cases hs
      cases Nat.eq_of_beq_eq_true hok
      exact g_lcmp hx hb hd (ih' _ _ _ _ h)
    · cases hs
  case dup =>
    simp only [stepI] at hs
    split at hs
    · cases hs
      cases Nat.eq_of_beq_eq_true hok
      exact g_dupI hx hb hd (ih' _ _ _ _ h)
    · cases hs
      cases Nat.eq_of_beq_eq_true hok
      exact g_dupR hx hb hd (ih' _ _ _ _ h)
    · cases hs
  case dup2 =>
    simp only [stepI] at hs
    split at hs
    · cases hs
      cases Nat.eq_of_beq_eq_true hok
      exact g_dup2 hx hb hd (ih' _ _ _ _ h)
    · cases hs
  case pop =>
    simp only [stepI] at hs
    split at hs
    · cases hs
      cases Nat.eq_of_beq_eq_true hok
      exact g_popI hx hb hd (ih' _ _ _ _ h)
    · cases hs
      cases Nat.eq_of_beq_eq_true hok
      exact g_popR hx hb hd (ih' _ _ _ _ h)
    · cases hs
  case iconst v =>
    cases hs
    simp only [insOK, Bool.and_eq_true] at hok
    cases Nat.eq_of_beq_eq_true hok.1
    exact g_iconst hx hb hd rfl (dok_ok hok.2) (ih' _ _ _ _ h)
  case bipush v =>
    cases hs
    simp only [insOK, Bool.and_eq_true, decide_eq_true_eq] at hok
    cases Nat.eq_of_beq_eq_true hok.1
    exact g_bipush hx hb hd hok.2.1 (dok_ok hok.2.2) (ih' _ _ _ _ h)
  case sipush v =>
    cases hs
    simp only [insOK, Bool.and_eq_true, decide_eq_true_eq] at hok
    cases Nat.eq_of_beq_eq_true hok.1
    exact g_sipush hx hb hd hok.2.1 (dok_ok hok.2.2) (ih' _ _ _ _ h)
  case lconst v =>
    cases hs
    cases Nat.eq_of_beq_eq_true hok
    exact g_lconst hx hb hd (ih' _ _ _ _ h)
  case ldc k =>
    simp only [stepI] at hs
    cases Nat.eq_of_beq_eq_true hok
    split at hs
    · rename_i v w hq
      cases hs
      obtain ⟨q1, q2⟩ := cst_spec ho hq
      exact g_ldc hx hb hown (hts _ q1) hd q2 (ih' _ _ _ _ h)
    · split at hs
      · rename_i j w hq
        cases hs
        obtain ⟨q1, q2, q3⟩ := str_spec ho hq
        have hr2 := hSt.2.1 j q3
        rw [q2] at hr2
        rw [q1] at hown
        exact g_ldcS hx hb hown hr2 hd (ih' _ _ _ _ h)
      · cases hs
  case ldc_w k =>
    simp only [stepI] at hs
    cases Nat.eq_of_beq_eq_true hok
    split at hs
    · rename_i v w hq
      cases hs
      obtain ⟨q1, q2⟩ := cst_spec ho hq
      exact g_ldcw hx hb hown (hts _ q1) hd q2 (ih' _ _ _ _ h)
    · cases hs
  case ldc2_w k =>
    simp only [stepI] at hs
    cases Nat.eq_of_beq_eq_true hok
    split at hs
    · rename_i v w hq
      cases hs
      obtain ⟨q1, q2⟩ := lng_spec ho hq
      exact g_ldc2 hx hb hown (hts _ q1) hd q2 (ih' _ _ _ _ h)
    · cases hs
  case iload k =>
    obtain ⟨z, hz, rfl⟩ := ld0_inv hs
    cases Nat.eq_of_beq_eq_true hok
    exact g_iload hx hb hd hz (ih' _ _ _ _ h)
  case iload_n k =>
    obtain ⟨z, hz, rfl⟩ := ld0_inv hs
    cases Nat.eq_of_beq_eq_true hok
    exact g_iload_n hx hb hd hz (ih' _ _ _ _ h)
  case lload k =>
    obtain ⟨z, hz, rfl⟩ := ld1_inv hs
    cases Nat.eq_of_beq_eq_true hok
    exact g_lload hx hb hd hz (ih' _ _ _ _ h)
  case lload_n k =>
    obtain ⟨z, hz, rfl⟩ := ld1_inv hs
    cases Nat.eq_of_beq_eq_true hok
    exact g_lload_n hx hb hd hz (ih' _ _ _ _ h)
  case aload k =>
    obtain ⟨z, hz, rfl⟩ := ld2_inv hs
    cases Nat.eq_of_beq_eq_true hok
    exact g_aload hx hb hd hz (ih' _ _ _ _ h)
  case aload_n k =>
    obtain ⟨z, hz, rfl⟩ := ld2_inv hs
    cases Nat.eq_of_beq_eq_true hok
    exact g_aload_n hx hb hd hz (ih' _ _ _ _ h)
  case istore k =>
    obtain ⟨z, st0, rfl, rfl⟩ := sto0_inv hs
    simp only [insOK, Bool.and_eq_true] at hok
    cases Nat.eq_of_beq_eq_true hok.1
    obtain ⟨q1, q2⟩ := stOk_ok hok.2
    exact g_istore hx hb hd q1 q2 (ih' _ _ _ _ h)
  case istore_n k =>
    obtain ⟨z, st0, rfl, rfl⟩ := sto0_inv hs
    simp only [insOK, Bool.and_eq_true] at hok
    cases Nat.eq_of_beq_eq_true hok.1
    obtain ⟨q1, q2⟩ := stOk_ok hok.2
    exact g_istore_n hx hb hd q1 q2 (ih' _ _ _ _ h)
  case astore k =>
    obtain ⟨z, st0, rfl, rfl⟩ := sto2_inv hs
    simp only [insOK, Bool.and_eq_true] at hok
    cases Nat.eq_of_beq_eq_true hok.1
    obtain ⟨q1, q2⟩ := stOk_ok hok.2
    exact g_astore hx hb hd q1 q2 (ih' _ _ _ _ h)
  case astore_n k =>
    obtain ⟨z, st0, rfl, rfl⟩ := sto2_inv hs
    simp only [insOK, Bool.and_eq_true] at hok
    cases Nat.eq_of_beq_eq_true hok.1
    obtain ⟨q1, q2⟩ := stOk_ok hok.2
    exact g_astore_n hx hb hd q1 q2 (ih' _ _ _ _ h)
  case lstore k =>
    obtain ⟨z, st0, rfl, rfl⟩ := sto1_inv hs
    simp only [insOK, Bool.and_eq_true] at hok
    cases Nat.eq_of_beq_eq_true hok.1
    obtain ⟨q1, q2⟩ := stOk_ok hok.2.1
    exact g_lstore hx hb hd (Nat.le_of_ble_eq_true hok.2.2.1) (by simpa using hok.2.2.2) q2 (ih' _ _ _ _ h)
  case lstore_n k =>
    obtain ⟨z, st0, rfl, rfl⟩ := sto1_inv hs
    simp only [insOK, Bool.and_eq_true] at hok
    cases Nat.eq_of_beq_eq_true hok.1
    obtain ⟨q1, q2⟩ := stOk_ok hok.2.1
    exact g_lstore_n hx hb hd (Nat.le_of_ble_eq_true hok.2.2.1) (by simpa using hok.2.2.2) q2 (ih' _ _ _ _ h)
  case iinc k v =>
    simp only [stepI] at hs
    split at hs
    · rename_i z hz
      cases hs
      simp only [insOK, Bool.and_eq_true] at hok
      cases Nat.eq_of_beq_eq_true hok.1
      obtain ⟨q1, q2⟩ := stOk_ok hok.2
      exact g_iinc hx hb hd hz q1 q2 (ih' _ _ _ _ h)
    · cases hs
  case goto off =>
    cases hs
    simp only [insOK, Bool.and_eq_true, brOk, decide_eq_true_eq] at hok
    cases Nat.eq_of_beq_eq_true hok.1
    exact g_goto hx hb hd hok.2 (ih' _ _ _ _ h)
  case ifCond cn off =>
    simp only [stepI] at hs
    split at hs
    · cases hs
      simp only [insOK, Bool.and_eq_true, brOk, decide_eq_true_eq] at hok
      cases Nat.eq_of_beq_eq_true hok.1
      exact g_if hx hb hd hok.2 (ih' _ _ _ _ h)
    · cases hs
  case if_icmp cn off =>
    simp only [stepI] at hs
    split at hs
    · cases hs
      simp only [insOK, Bool.and_eq_true, brOk, decide_eq_true_eq] at hok
      cases Nat.eq_of_beq_eq_true hok.1
      exact g_icmp hx hb hd hok.2 (ih' _ _ _ _ h)
    · cases hs
  case tableswitch d lo hi offs =>
    simp only [stepI] at hs
    split at hs
    · cases hs
      simp only [insOK, Bool.and_eq_true, brOk, decide_eq_true_eq, List.all_eq_true] at hok
      exact g_table hx hb hd hok.1 hok.2.1 hok.2.2 (ih' _ _ _ _ h)
    · cases hs
  case getfield k =>
    obtain ⟨ci, f, w, r0, st0, hq, rfl, hk, rfl⟩ := gfield_inv hs
    cases Nat.eq_of_beq_eq_true hok
    obtain ⟨q1, q2⟩ := fld_spec ho hq
    exact g_getfield hx hb hK hts hown (lay_all ci q1) hd (hts _ q2) rfl hk (ih' _ _ _ _ h)
  case putfield k =>
    obtain ⟨ci, f, w, r0, z, v, st0, hq, rfl, rfl, hv⟩ := pfield_inv hs
    simp only [insOK, Bool.and_eq_true, hq] at hok
    cases Nat.eq_of_beq_eq_true hok.1
    obtain ⟨q1, q2⟩ := fld_spec ho hq
    have hfin : ((clT ci) f).2.2.2 = false := by simpa using hok.2
    rcases hv with ⟨rfl, hk⟩ | ⟨rfl, hk, hz⟩ | ⟨rfl, hk⟩
    · obtain ⟨ks, e1, e2⟩ := fkind_spec hk (by decide)
      refine g_putfield hx hb hK hj hts hown (lay_all ci q1) (ty_all ci q1) (nm_all ci q1) hd (hts _ q2) hk (by decide) hfin rfl (by simp [gf, up]) rfl rfl (fun hv => ?_) (ih' _ _ _ _ h)
      rw [lgc_obj e1 e2]; exact hv
    · obtain ⟨ks, e1, e2⟩ := fkind_spec hk (by decide)
      refine g_putfield hx hb hK hj hts hown (lay_all ci q1) (ty_all ci q1) (nm_all ci q1) hd (hts _ q2) hk (by decide) hfin rfl (by simp [gf, up]) ?_ ?_ (fun hv => ?_) (ih' _ _ _ _ h)
      · rcases hz with rfl | rfl
        · show narrow .boolean (.int (Int32.ofInt 0)) = .int (Int32.ofInt 0); decide +kernel
        · show narrow .boolean (.int (Int32.ofInt 1)) = .int (Int32.ofInt 1); decide +kernel
      · rcases hz with rfl | rfl
        · show fits .boolean (.int (Int32.ofInt 0)) = true; decide +kernel
        · show fits .boolean (.int (Int32.ofInt 1)) = true; decide +kernel
      · rw [lgc_obj e1 e2]; exact hv
    · obtain ⟨ks, e1, e2⟩ := fkind_spec hk (by decide)
      refine g_putfield hx hb hK hj hts hown (lay_all ci q1) (ty_all ci q1) (nm_all ci q1) hd (hts _ q2) hk (by decide) hfin rfl (by simp [gf, up]) rfl rfl (fun hv => ?_) (ih' _ _ _ _ h)
      rw [lgc_obj e1 e2]; exact hv
  case iaload =>
    obtain ⟨j, r0, n0, st0, rfl, hsh, hi, rfl⟩ := ald_inv hs
    cases Nat.eq_of_beq_eq_true hok
    exact g_iaload hx hb hK hsh hi.1 hi.2 hd (ih' _ _ _ _ h)
  case baload =>
    obtain ⟨j, r0, n0, st0, rfl, hsh, hi, rfl⟩ := ald_inv hs
    cases Nat.eq_of_beq_eq_true hok
    exact g_baload hx hb hK hsh hi.1 hi.2 hd (ih' _ _ _ _ h)
  case iastore =>
    obtain ⟨v, j, r0, n0, st0, rfl, hsh, hi, rfl⟩ := ast_inv hs
    cases Nat.eq_of_beq_eq_true hok
    exact g_iastore hx hb hK hj hsh hi.1.1 hi.1.2 hd (ih' _ _ _ _ h)
  case bastore =>
    obtain ⟨v, j, r0, n0, st0, rfl, hsh, hi, rfl⟩ := ast_inv hs
    cases Nat.eq_of_beq_eq_true hok
    exact g_bastore hx hb hK hj hsh hi.1.1 hi.1.2 (hi.2 rfl) hd (ih' _ _ _ _ h)
  case arraylength =>
    obtain ⟨r0, n0, b, st0, rfl, hsh, hr0, rfl⟩ := alen_inv hs
    cases Nat.eq_of_beq_eq_true hok
    exact g_alen hx hb hK hsh hr0 hd (ih' _ _ _ _ h)
  case invokestatic k =>
    simp only [stepI] at hs
    split at hs
    · rename_i t np ne w hq
      have hm := mth_spec ho hq
      simp only [insOK, Bool.and_eq_true, hq] at hok
      cases Nat.eq_of_beq_eq_true hok.1
      cases ht : Nat.beq t 1002 with
      | true =>
        rw [ht] at hs
        have ht2 := Nat.eq_of_beq_eq_true ht
        subst ht2
        obtain ⟨n, dp, sp, rd, rs, n0, n1, st0, rfl, e0, e1, ⟨⟨⟨h1, h2, h3⟩, h4, h5⟩, ⟨h6, h7⟩, h8⟩, rfl⟩ := acopy_inv hs
        have hR : 0 < mD y := by simpa using hok.2
        have hwl : Jvm.Cond.methodLink (nth ownN (mK y) "") k arraycopyName ∈ gt := gt_of (of_decide_eq_true (by simpa [mthOk] using hm)) rfl
        exact g_acopy hx hb hml hts hK hj hown e0 e1 h6 h7 h1 h2 h3 h4 h5 h8 ⟨hR, by show 40 ≤ 40 * mD y; omega⟩ hwl hd (ih' _ _ _ _ h)
      | false =>
        rw [ht] at hs
        have ht2 : ¬ t = 1002 := fun q => by subst q; cases ht
        obtain ⟨as, rest, hsp, ⟨hcs, hca, hst, hlo⟩, rfl⟩ := calS_inv hs
        rw [if_neg ht2, Bool.and_eq_true] at hok
        have htl : t < 227 := Nat.le_of_ble_eq_true hok.2.1
        have hdep : mD t < mD y := Nat.le_of_ble_eq_true hok.2.2
        obtain ⟨t1, t2, t3, t4, t5, t6, t7, t8⟩ := m_spec htl
        have hRm : (rm t).frames + 1 ≤ (rm y).frames ∧ 8 + (mL t + 11) + (rm t).locals ≤ (rm y).locals := by show mD t + 1 ≤ mD y ∧ 8 + (mL t + 11) + 40 * mD t ≤ 40 * mD y; omega
        obtain ⟨hln, rfl⟩ := spl_0 hsp
        simp only [mthOk, if_neg ht2, if_neg (show ¬ t = 1003 by omega), if_neg (show ¬ t = 1004 by omega), Bool.and_eq_true, decide_eq_true_eq] at hm
        dsimp only at h
        cases hex : exec n t 0 (ent (mL t) as) [] M with
        | none => rw [hex] at h; cases h
        | some rr =>
          obtain ⟨r1, M1⟩ := rr
          rw [hex] at h
          dsimp only at h
          intro H locs ls hP hS hL hst0 hM
          have hoa : okS as := fun v hv => hst0 v (List.mem_append_left _ (List.mem_reverse.mpr hv))
          have hmet := met_of ih htl hex hoa hlo hca hM
          refine g_callS (r := r1) (M' := M1) (as := as) (rest := rest) hx hb hml hts hK hSt hN hown hmet rfl rfl hRm t8 t5 ?_ (t6 hst) ⟨t3.1, t3.2, hm.2⟩ hln hcs hd (fun _ _ => ih' _ _ _ _ h) H locs ls hP hS hL hst0 hM
          cases ne with
          | false => exact Or.inl (gt_of (by simpa using hm.1) rfl)
          | true =>
            refine Or.inr ?_
            have hm1 : nestL.contains (mK y, k, t) = true := by
              have := hm.1
              simp only [if_true, Bool.and_eq_true] at this
              exact this.1
            exact hN _ (by simpa using hm1)
    · cases hs
  case invokevirtual k =>
    simp only [stepI] at hs
    split at hs
    · rename_i t np ne w hq
      have hm := mth_spec ho hq
      simp only [insOK, Bool.and_eq_true, hq] at hok
      cases Nat.eq_of_beq_eq_true hok.1
      cases ht : Nat.beq t 1003 with
      | true =>
        rw [ht] at hs
        have ht2 := Nat.eq_of_beq_eq_true ht
        subst ht2
        obtain ⟨q, st0, rfl, ⟨⟨hq1, hq2⟩, hcs⟩, rfl⟩ := stlen_inv hs
        have hR : 2 < mD y := by simpa using hok.2
        have hRm : (rmS 2).frames + 1 ≤ (rm y).frames ∧ 8 + (1 + 11) + (rmS 2).locals ≤ (rm y).locals := by show 2 + 1 ≤ mD y ∧ 8 + (1 + 11) + 40 * 2 ≤ 40 * mD y; omega
        simp [mthOk] at hm
        obtain ⟨j, rfl⟩ : ∃ j, q = 500 + j := ⟨q - 500, by omega⟩
        rw [show 500 + j - 500 = j by omega] at h
        intro H locs ls hP hS hL hst0 hM
        have hmet := hLen j M (by omega) hM
        exact g_callV (np := 0) (as := []) (rest := st0) hx hb hml hts hK hSt hN hown hmet rfl rfl hRm w_len w_ini (gt_of hm.1 rfl) w_lenI w_lenS ⟨by decide +kernel, by decide +kernel, by decide +kernel⟩ rfl hcs (fun H locs _ hS => vk_recv (i := j) (adK := fun i => ad (500 + i)) hSt.1 (by omega) hS) hd (fun _ _ => ih' _ _ _ _ h) H locs ls hP hS hL hst0 hM
      | false =>
      rw [ht] at hs
      have ht2 : ¬ t = 1003 := fun q => by subst q; cases ht
      cases ht3 : Nat.beq t 1004 with
      | true =>
        rw [ht3] at hs
        have ht4 := Nat.eq_of_beq_eq_true ht3
        subst ht4
        obtain ⟨jj, q, st0, rfl, ⟨⟨⟨hq1, hq2⟩, hj0, hj1⟩, hcs⟩, rfl⟩ := stchr_inv hs
        have hR : 4 < mD y := by simpa using hok.2
        have hRm : (rmS 4).frames + 1 ≤ (rm y).frames ∧ 8 + (2 + 11) + (rmS 4).locals ≤ (rm y).locals := by show 4 + 1 ≤ mD y ∧ 8 + (2 + 11) + 40 * 4 ≤ 40 * mD y; omega
        simp [mthOk] at hm
        obtain ⟨j, rfl⟩ : ∃ j, q = 500 + j := ⟨q - 500, by omega⟩
        rw [show 500 + j - 500 = j by omega] at h hj1
        intro H locs ls hP hS hL hst0 hM
        have hmet := hChr j jj M (by omega) hM hj0 hj1
        exact g_callV (np := 1) (as := [.inl jj]) (rest := st0) hx hb hml hts hK hSt hN hown hmet rfl rfl hRm w_chr w_ini (gt_of hm.1 rfl) w_chrI w_chrS ⟨by decide +kernel, by decide +kernel, by decide +kernel⟩ rfl hcs (fun H locs _ hS => vk_recv (i := j) (adK := fun i => ad (500 + i)) hSt.1 (by omega) hS) hd (fun _ _ => ih' _ _ _ _ h) H locs ls hP hS hL hst0 hM
      | false =>
      rw [ht3] at hs
      have ht4 : ¬ t = 1004 := fun q => by subst q; cases ht3
      obtain ⟨r0, ci, ks, as, rest, hsp, hsh, ⟨hcs, hca, hst, hci, hlo⟩, rfl⟩ := calV_inv hs
      rw [if_neg ht2, if_neg ht4, Bool.and_eq_true] at hok
      have htl : t < 227 := Nat.le_of_ble_eq_true hok.2.1
      have hdep : mD t < mD y := Nat.le_of_ble_eq_true hok.2.2
      obtain ⟨t1, t2, t3, t4, t5, t6, t7, t8⟩ := m_spec htl
      have hRm : (rm t).frames + 1 ≤ (rm y).frames ∧ 8 + (mL t + 11) + (rm t).locals ≤ (rm y).locals := by show mD t + 1 ≤ mD y ∧ 8 + (mL t + 11) + 40 * mD t ≤ 40 * mD y; omega
      obtain ⟨hln, rfl⟩ := spl_0 hsp
      have ht0 : ¬ t = 1002 := by omega
      simp only [mthOk, if_neg ht0, if_neg ht2, if_neg ht4, Bool.and_eq_true, decide_eq_true_eq] at hm
      have hne : ne = false := by
        cases ne with
        | false => rfl
        | true =>
          have := hm.1
          simp only [if_true, Bool.and_eq_true] at this
          rw [this.2] at hst
          cases hst
      subst hne
      dsimp only at h
      cases hex : exec n t 0 (ent (mL t) (.inr (.inr r0) :: as)) [] M with
      | none => rw [hex] at h; cases h
      | some rr =>
        obtain ⟨r1, M1⟩ := rr
        rw [hex] at h
        dsimp only at h
        intro H locs ls hP hS hL hst0 hM
        rw [List.reverse_cons, List.append_assoc] at hst0 ⊢
        have hoa : okS (.inr (.inr r0) :: as) := fun v hv => by
          rcases List.mem_cons.mp hv with rfl | hv
          · trivial
          · exact hst0 v (List.mem_append_left _ (List.mem_reverse.mpr hv))
        have hmet := met_of ih htl hex hoa hlo (by simpa [cs] using hca) hM
        obtain ⟨u1, u2, u3⟩ := t7 hst
        exact g_callV (np := np) (r0 := r0) (r := r1) (M' := M1) (as := as) (rest := rest) hx hb hml hts hK hSt hN hown hmet rfl rfl hRm t8 t5 (gt_of (by simpa using hm.1) rfl) u1 u2 ⟨t3.1, t3.2, hm.2⟩ (by simpa using hln) hcs
          (fun H locs hP _ => by
            have hg := wd_get (cI := cI) (cZ := cZ) (ad := ad) (M := M) (shp_lt hsh)
            rw [hsh] at hg
            have hv := va_recv hK hP (cls_get (sh_obj hsh).1) hg
            rw [u3, ← hci]
            exact hv) hd (fun _ _ => ih' _ _ _ _ h) H locs ls hP hS hL hst0 hM
    · cases hs
  case ireturn =>
    simp only [stepI] at hs
    cases Nat.eq_of_beq_eq_true hok
    split at hs
    · split at hs
      · rename_i hret
        cases hs
        cases h
        intro H locs ls hP hS hL hst hM
        exact W.iret hx hb (hr.trans hret) (fun t ht hW => ⟨rfl, Wl_at hP hS hK hSt hN ht hW, hS.F ht, hM, fun v e => by cases e; exact okS_head hst⟩) hS.2.2 hd hlk
      · rename_i hret
        split at hs
        · rename_i hz
          cases hs
          cases h
          intro H locs ls hP hS hL hst hM
          exact W.zret hx hb (hr.trans hret) (by rcases hz with rfl | rfl <;> decide +kernel) (fun t ht hW => ⟨rfl, Wl_at hP hS hK hSt hN ht hW, hS.F ht, hM, fun v e => by cases e; exact okS_head hst⟩) hS.2.2 hd hlk
        · cases hs
      · cases hs
    · cases hs
  case lreturn =>
    simp only [stepI] at hs
    cases Nat.eq_of_beq_eq_true hok
    split at hs
    · split at hs
      · rename_i hret
        cases hs
        cases h
        intro H locs ls hP hS hL hst hM
        exact W.lret hx hb (hr.trans hret) (fun t ht hW => ⟨rfl, Wl_at hP hS hK hSt hN ht hW, hS.F ht, hM, fun v e => by cases e; exact okS_head hst⟩) hS.2.2 hd hlk
      · cases hs
    · cases hs
  case return_ =>
    simp only [stepI] at hs
    cases Nat.eq_of_beq_eq_true hok
    split at hs
    · split at hs
      · rename_i hret
        cases hs
        cases h
        intro H locs ls hP hS hL hst hM
        exact W.vret hx hb (hr.trans hret) (fun t ht hW => ⟨rfl, Wl_at hP hS hK hSt hN ht hW, hS.F ht, hM, fun v e => by cases e⟩) hS.2.2 hd hlk
      · cases hs
    · cases hs
  all_goals (cases hs; done)
