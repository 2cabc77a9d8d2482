/-! EVERY INSTRUCTION OVER THE WORLD OF A MEMORY (written by wip/whole/gen5.py) -/
def gt : List Jvm.Cond := lw_tbl.filter goodWord
theorem gt_good : ∀ w ∈ gt, goodWord w = true := fun w h => (List.mem_filter.mp h).2
theorem gt_of {w : Jvm.Cond} {i : Nat} (h : lw_tbl[i]? = some w) (hg : goodWord w = true) : w ∈ gt := List.mem_filter.mpr ⟨List.mem_of_getElem? h, hg⟩
def RL (ad : Nat → Nat) (ls : Array Slot) (n : Nat) (g : List Nat) (L : Lc) : Prop := ls.size = n ∧ lv_wf ls ∧ ∀ (i : Nat) (v : PV), gl L i = some v → ls[i]? = some (.val (toV ad v)) ∧ okV v ∧ ((∃ z, v = .inr (.inl z)) → i ∈ g)
def okS (st : List PV) : Prop := ∀ v ∈ st, okV v
theorem okS_cons {v : PV} {st : List PV} (h : okV v) (h2 : okS st) : okS (v :: st) := fun w hw => (List.mem_cons.mp hw).elim (fun e => e ▸ h) (h2 w)
theorem okS_tail {v : PV} {st : List PV} (h : okS (v :: st)) : okS st := fun w hw => h w (List.mem_cons_of_mem _ hw)
theorem okS_head {v : PV} {st : List PV} (h : okS (v :: st)) : okV v := h v List.mem_cons_self
theorem gl_out : ∀ (L : Lc) (i : Nat), L.length ≤ i → gl L i = none
  | [], _, _ => rfl
  | _ :: _, 0, h => by simp at h
  | _ :: l, n + 1, h => gl_out l n (by simpa using h)
theorem gl_sl : ∀ (L : Lc) (i : Nat) (v : Option PV) (j : Nat), gl (sl L i v) j = if j = i ∧ i < L.length then v else gl L j
  | [], i, v, j => by simp [sl, gl]
  | a :: l, 0, v, 0 => by simp [sl, gl]
  | a :: l, 0, v, j + 1 => by simp [sl, gl]
  | a :: l, i + 1, v, 0 => by simp [sl, gl]
  | a :: l, i + 1, v, j + 1 => by
    simp only [sl, gl]
    rw [gl_sl l i v j]
    simp
theorem sl_len : ∀ (L : Lc) (i : Nat) (v : Option PV), (sl L i v).length = L.length
  | [], _, _ => rfl
  | _ :: _, 0, _ => rfl
  | _ :: l, i + 1, v => by simp [sl, sl_len l i v]
def asl (ad : Nat → Nat) (L : Lc) : List (Nat × Value) := (List.range L.length).filterMap (fun i => (gl L i).map (fun v => (i, toV ad v)))
theorem asl_mem {ad : Nat → Nat} {L : Lc} {q : Nat × Value} : q ∈ asl ad L ↔ ∃ v, gl L q.1 = some v ∧ q.2 = toV ad v := by
  unfold asl
  rw [List.mem_filterMap]
  constructor
  · rintro ⟨i, -, h⟩
    cases hg : gl L i with
    | none => rw [hg] at h; cases h
    | some v =>
      rw [hg] at h
      have := Option.some.inj h
      subst this
      exact ⟨v, hg, rfl⟩
  · rintro ⟨v, hv, e⟩
    refine ⟨q.1, List.mem_range.mpr ?_, ?_⟩
    · rcases Nat.lt_or_ge q.1 L.length with h | h
      · exact h
      · rw [gl_out L q.1 h] at hv; cases hv
    · rw [hv, Option.map_some, ← e]
theorem RL.has {ad : Nat → Nat} {ls : Array Slot} {n : Nat} {g : List Nat} {L : Lc} (h : RL ad ls n g L) : lv_has ls n (asl ad L) := by
  refine ⟨h.1, h.2.1, fun q hq => ?_⟩
  obtain ⟨v, hv, e⟩ := asl_mem.mp hq
  rw [e]
  exact (h.2.2 q.1 v hv).1
theorem toV_cat {ad : Nat → Nat} {v : PV} (h : (toV ad v).category = 2) : ∃ z, v = .inr (.inl z) := by
  rcases v with z | z | r
  · simp [toV, Value.category] at h
  · exact ⟨z, rfl⟩
  · simp [toV, Value.category] at h
/-- storing a value of one slot -/
theorem RL.store1 {ad : Nat → Nat} {ls ls' : Array Slot} {n : Nat} {g : List Nat} {L : Lc} {i : Nat} {v : PV} (h : RL ad ls n g L) (hv : okV v) (hc : ¬ ∃ z, v = .inr (.inl z)) (hg : ∀ j, j + 1 = i → j ∉ g)
    (h' : lv_has ls' n ((i, toV ad v) :: (asl ad L).filter (fun q => !(q.1 == i) && !(q.1 + 1 == i && q.2.category == 2)))) : RL ad ls' n g (sl L i (some v)) := by
  refine ⟨h'.1, h'.2.1, fun j w hw => ?_⟩
  rw [gl_sl] at hw
  by_cases hj : j = i
  · subst hj
    by_cases hl : j < L.length
    · rw [if_pos ⟨rfl, hl⟩] at hw
      cases hw
      exact ⟨h'.2.2 _ List.mem_cons_self, hv, fun q => absurd q hc⟩
    · rw [if_neg (fun q => hl q.2), gl_out L j (by omega)] at hw
      cases hw
  · rw [if_neg (fun q => hj q.1)] at hw
    obtain ⟨h1, h2, h3⟩ := h.2.2 j w hw
    refine ⟨h'.2.2 (j, toV ad w) (List.mem_cons_of_mem _ (List.mem_filter.mpr ⟨asl_mem.mpr ⟨w, hw, rfl⟩, ?_⟩)), h2, h3⟩
    simp only [Bool.and_eq_true, Bool.not_eq_true', beq_eq_false_iff_ne, ne_eq, Bool.and_eq_false_iff]
    refine ⟨hj, ?_⟩
    by_cases hj1 : j + 1 = i
    · right
      intro hq
      exact hg j hj1 (h3 (toV_cat hq))
    · exact Or.inl hj1
/-- storing a long -/
theorem RL.store2 {ad : Nat → Nat} {ls ls' : Array Slot} {n : Nat} {g : List Nat} {L : Lc} {i : Nat} {z : Int} (h : RL ad ls n g L) (hv : ok64 z) (hi : i ∈ g) (hg : ∀ j, j + 1 = i → j ∉ g)
    (h' : lv_has ls' n ((i, toV ad (.inr (.inl z))) :: (asl ad L).filter (fun q => !(q.1 == i) && (!(q.1 == i + 1) && !(q.1 + 1 == i && q.2.category == 2))))) : RL ad ls' n g (sl (sl L (i + 1) none) i (some (.inr (.inl z)))) := by
  refine ⟨h'.1, h'.2.1, fun j w hw => ?_⟩
  rw [gl_sl] at hw
  by_cases hj : j = i
  · subst hj
    by_cases hl : j < (sl L (j + 1) none).length
    · rw [if_pos ⟨rfl, hl⟩] at hw
      cases hw
      exact ⟨h'.2.2 _ List.mem_cons_self, hv, fun _ => hi⟩
    · rw [if_neg (fun q => hl q.2), gl_out _ j (by omega)] at hw
      cases hw
  · rw [if_neg (fun q => hj q.1), gl_sl] at hw
    by_cases hj2 : j = i + 1
    · subst hj2
      by_cases hl : i + 1 < L.length
      · rw [if_pos ⟨rfl, hl⟩] at hw
        cases hw
      · rw [if_neg (fun q => hl q.2), gl_out L _ (by omega)] at hw
        cases hw
    · rw [if_neg (fun q => hj2 q.1)] at hw
      obtain ⟨h1, h2, h3⟩ := h.2.2 j w hw
      refine ⟨h'.2.2 (j, toV ad w) (List.mem_cons_of_mem _ (List.mem_filter.mpr ⟨asl_mem.mpr ⟨w, hw, rfl⟩, ?_⟩)), h2, h3⟩
      simp only [Bool.and_eq_true, Bool.not_eq_true', beq_eq_false_iff_ne, ne_eq, Bool.and_eq_false_iff]
      refine ⟨hj, hj2, ?_⟩
      by_cases hj1 : j + 1 = i
      · right
        intro hq
        exact hg j hj1 (h3 (toV_cat hq))
      · exact Or.inl hj1
theorem lt32 {a b : Int} (ha : ok32 a) (hb : ok32 b) : Int32.ofInt a < Int32.ofInt b ↔ a < b := by
  rw [Int32.lt_iff_toInt_lt, of32 ha, of32 hb]
theorem le32 {a b : Int} (ha : ok32 a) (hb : ok32 b) : Int32.ofInt a ≤ Int32.ofInt b ↔ a ≤ b := by
  rw [Int32.le_iff_toInt_le, of32 ha, of32 hb]
theorem eq32 {a b : Int} (ha : ok32 a) (hb : ok32 b) : Int32.ofInt a = Int32.ofInt b ↔ a = b := by
  rw [← Int32.toInt_inj, of32 ha, of32 hb]
theorem eq64 {a b : Int} (ha : ok64 a) (hb : ok64 b) : Int64.ofInt a = Int64.ofInt b ↔ a = b := by
  rw [← Int64.toInt_inj, of64 ha, of64 hb]
theorem lt64 {a b : Int} (ha : ok64 a) (hb : ok64 b) : Int64.ofInt a < Int64.ofInt b ↔ a < b := by
  rw [Int64.lt_iff_toInt_lt, of64 ha, of64 hb]
theorem ok32_0 : ok32 0 := ⟨by decide, by decide⟩
section OPS
variable {p : Program} {l : Launch} {e : Env} {R : Room} {s : State} {m : MethodId} {args : Array Value} {below : List Frame} {meth : Method} {c : Code} {Q : State → Prop} {D : va_G} {cI cZ : ClassId} {ad : Nat → Nat} {y pc : Nat} {L : Lc} {st : List PV} {M : Mm}
/-- from this configuration the machine comes to Q -/
def G (p : Program) (l : Launch) (e : Env) (R : Room) (s : State) (m : MethodId) (args : Array Value) (below : List Frame) (meth : Method) (c : Code) (Q : State → Prop) (D : va_G) (cI cZ : ClassId) (ad : Nat → Nat) (y pc : Nat) (L : Lc) (st : List PV) (M : Mm) : Prop :=
  ∀ (H : Heap) (locs : List Loc) (ls : Array Slot), va_P D cls (wd cI cZ ad M) H → va_S (Ar ad) s.heap H locs → RL ad ls (mL y) (mG y) L → okS st → okM M → W p l e R s m args below meth c H locs 0 0 Q (F0 m pc ls (st.map (toV ad)))
theorem g_iadd (hx : p.tables.exec = Jvm.exec) (hb : c.code = mC y) {a b : Int} (hd : decode (mC y) pc = .ok (.iadd, 1)) (k : G p l e R s m args below meth c Q D cI cZ ad y (pc + 1) L (.inl (i2 fadd a b) :: st) M) : G p l e R s m args below meth c Q D cI cZ ad y pc L (.inl b :: .inl a :: st) M := by
  intro H locs ls hP hS hL hst hM
  refine lv_iadd hx hb hd ?_
  have h := k H locs ls hP hS hL (okS_cons (ok32_to _) (okS_tail (okS_tail hst))) hM
  simpa only [List.map_cons, toV, i2, fadd, as32] using h
theorem g_isub (hx : p.tables.exec = Jvm.exec) (hb : c.code = mC y) {a b : Int} (hd : decode (mC y) pc = .ok (.isub, 1)) (k : G p l e R s m args below meth c Q D cI cZ ad y (pc + 1) L (.inl (i2 fsub a b) :: st) M) : G p l e R s m args below meth c Q D cI cZ ad y pc L (.inl b :: .inl a :: st) M := by
  intro H locs ls hP hS hL hst hM
  refine lv_isub hx hb hd ?_
  have h := k H locs ls hP hS hL (okS_cons (ok32_to _) (okS_tail (okS_tail hst))) hM
  simpa only [List.map_cons, toV, i2, fsub, as32] using h
theorem g_imul (hx : p.tables.exec = Jvm.exec) (hb : c.code = mC y) {a b : Int} (hd : decode (mC y) pc = .ok (.imul, 1)) (k : G p l e R s m args below meth c Q D cI cZ ad y (pc + 1) L (.inl (i2 fmul a b) :: st) M) : G p l e R s m args below meth c Q D cI cZ ad y pc L (.inl b :: .inl a :: st) M := by
  intro H locs ls hP hS hL hst hM
  refine lv_imul hx hb hd ?_
  have h := k H locs ls hP hS hL (okS_cons (ok32_to _) (okS_tail (okS_tail hst))) hM
  simpa only [List.map_cons, toV, i2, fmul, as32] using h
theorem g_iand (hx : p.tables.exec = Jvm.exec) (hb : c.code = mC y) {a b : Int} (hd : decode (mC y) pc = .ok (.iand, 1)) (k : G p l e R s m args below meth c Q D cI cZ ad y (pc + 1) L (.inl (i2 fand a b) :: st) M) : G p l e R s m args below meth c Q D cI cZ ad y pc L (.inl b :: .inl a :: st) M := by
  intro H locs ls hP hS hL hst hM
  refine lv_iand hx hb hd ?_
  have h := k H locs ls hP hS hL (okS_cons (ok32_to _) (okS_tail (okS_tail hst))) hM
  simpa only [List.map_cons, toV, i2, fand, as32] using h
theorem g_ior (hx : p.tables.exec = Jvm.exec) (hb : c.code = mC y) {a b : Int} (hd : decode (mC y) pc = .ok (.ior, 1)) (k : G p l e R s m args below meth c Q D cI cZ ad y (pc + 1) L (.inl (i2 fior a b) :: st) M) : G p l e R s m args below meth c Q D cI cZ ad y pc L (.inl b :: .inl a :: st) M := by
  intro H locs ls hP hS hL hst hM
  refine lv_ior hx hb hd ?_
  have h := k H locs ls hP hS hL (okS_cons (ok32_to _) (okS_tail (okS_tail hst))) hM
  simpa only [List.map_cons, toV, i2, fior, as32] using h
theorem g_ixor (hx : p.tables.exec = Jvm.exec) (hb : c.code = mC y) {a b : Int} (hd : decode (mC y) pc = .ok (.ixor, 1)) (k : G p l e R s m args below meth c Q D cI cZ ad y (pc + 1) L (.inl (i2 fxor a b) :: st) M) : G p l e R s m args below meth c Q D cI cZ ad y pc L (.inl b :: .inl a :: st) M := by
  intro H locs ls hP hS hL hst hM
  refine lv_ixor hx hb hd ?_
  have h := k H locs ls hP hS hL (okS_cons (ok32_to _) (okS_tail (okS_tail hst))) hM
  simpa only [List.map_cons, toV, i2, fxor, as32] using h
theorem g_ishl (hx : p.tables.exec = Jvm.exec) (hb : c.code = mC y) {a b : Int} (hd : decode (mC y) pc = .ok (.ishl, 1)) (k : G p l e R s m args below meth c Q D cI cZ ad y (pc + 1) L (.inl (i2 fshl a b) :: st) M) : G p l e R s m args below meth c Q D cI cZ ad y pc L (.inl b :: .inl a :: st) M := by
  intro H locs ls hP hS hL hst hM
  refine lv_ishl hx hb hd ?_
  have h := k H locs ls hP hS hL (okS_cons (ok32_to _) (okS_tail (okS_tail hst))) hM
  simpa only [List.map_cons, toV, i2, fshl, as32] using h
theorem g_ishr (hx : p.tables.exec = Jvm.exec) (hb : c.code = mC y) {a b : Int} (hd : decode (mC y) pc = .ok (.ishr, 1)) (k : G p l e R s m args below meth c Q D cI cZ ad y (pc + 1) L (.inl (i2 fshr a b) :: st) M) : G p l e R s m args below meth c Q D cI cZ ad y pc L (.inl b :: .inl a :: st) M := by
  intro H locs ls hP hS hL hst hM
  refine lv_ishr hx hb hd ?_
  have h := k H locs ls hP hS hL (okS_cons (ok32_to _) (okS_tail (okS_tail hst))) hM
  simpa only [List.map_cons, toV, i2, fshr, as32] using h
theorem g_iushr (hx : p.tables.exec = Jvm.exec) (hb : c.code = mC y) {a b : Int} (hd : decode (mC y) pc = .ok (.iushr, 1)) (k : G p l e R s m args below meth c Q D cI cZ ad y (pc + 1) L (.inl (i2 fushr a b) :: st) M) : G p l e R s m args below meth c Q D cI cZ ad y pc L (.inl b :: .inl a :: st) M := by
  intro H locs ls hP hS hL hst hM
  refine lv_iushr hx hb hd rfl ?_
  have h := k H locs ls hP hS hL (okS_cons (ok32_to _) (okS_tail (okS_tail hst))) hM
  simpa only [List.map_cons, toV, i2, fushr, as32] using h
theorem g_idiv (hx : p.tables.exec = Jvm.exec) (hb : c.code = mC y) {a b : Int} (hd : decode (mC y) pc = .ok (.idiv, 1)) (hne : ¬ b = 0) (k : G p l e R s m args below meth c Q D cI cZ ad y (pc + 1) L (.inl (i2 fdiv a b) :: st) M) : G p l e R s m args below meth c Q D cI cZ ad y pc L (.inl b :: .inl a :: st) M := by
  intro H locs ls hP hS hL hst hM
  refine lv_idiv hx hb hd (fun q => hne ((eq32 (okS_head hst) ok32_0).mp (q.trans (by decide)))) ?_
  have h := k H locs ls hP hS hL (okS_cons (ok32_to _) (okS_tail (okS_tail hst))) hM
  simpa only [List.map_cons, toV, i2, fdiv, as32] using h
theorem g_irem (hx : p.tables.exec = Jvm.exec) (hb : c.code = mC y) {a b : Int} (hd : decode (mC y) pc = .ok (.irem, 1)) (hne : ¬ b = 0) (k : G p l e R s m args below meth c Q D cI cZ ad y (pc + 1) L (.inl (i2 frem a b) :: st) M) : G p l e R s m args below meth c Q D cI cZ ad y pc L (.inl b :: .inl a :: st) M := by
  intro H locs ls hP hS hL hst hM
  refine lv_irem hx hb hd (fun q => hne ((eq32 (okS_head hst) ok32_0).mp (q.trans (by decide)))) ?_
  have h := k H locs ls hP hS hL (okS_cons (ok32_to _) (okS_tail (okS_tail hst))) hM
  simpa only [List.map_cons, toV, i2, frem, as32] using h
theorem g_ladd (hx : p.tables.exec = Jvm.exec) (hb : c.code = mC y) {a b : Int} (hd : decode (mC y) pc = .ok (.ladd, 1)) (k : G p l e R s m args below meth c Q D cI cZ ad y (pc + 1) L (.inr (.inl (l2 gadd a b)) :: st) M) : G p l e R s m args below meth c Q D cI cZ ad y pc L (.inr (.inl b) :: .inr (.inl a) :: st) M := by
  intro H locs ls hP hS hL hst hM
  refine lv_ladd hx hb hd ?_
  have h := k H locs ls hP hS hL (okS_cons (ok64_to _) (okS_tail (okS_tail hst))) hM
  simpa only [List.map_cons, toV, l2, gadd, as64] using h
theorem g_lmul (hx : p.tables.exec = Jvm.exec) (hb : c.code = mC y) {a b : Int} (hd : decode (mC y) pc = .ok (.lmul, 1)) (k : G p l e R s m args below meth c Q D cI cZ ad y (pc + 1) L (.inr (.inl (l2 gmul a b)) :: st) M) : G p l e R s m args below meth c Q D cI cZ ad y pc L (.inr (.inl b) :: .inr (.inl a) :: st) M := by
  intro H locs ls hP hS hL hst hM
  refine lv_lmul hx hb hd ?_
  have h := k H locs ls hP hS hL (okS_cons (ok64_to _) (okS_tail (okS_tail hst))) hM
  simpa only [List.map_cons, toV, l2, gmul, as64] using h
theorem g_ldiv (hx : p.tables.exec = Jvm.exec) (hb : c.code = mC y) {a b : Int} (hd : decode (mC y) pc = .ok (.ldiv, 1)) (hne : ¬ b = 0) (k : G p l e R s m args below meth c Q D cI cZ ad y (pc + 1) L (.inr (.inl (l2 gdiv a b)) :: st) M) : G p l e R s m args below meth c Q D cI cZ ad y pc L (.inr (.inl b) :: .inr (.inl a) :: st) M := by
  intro H locs ls hP hS hL hst hM
  refine lv_ldiv hx hb hd (fun q => hne ((eq64 (b := 0) (okS_head hst) ⟨by decide, by decide⟩).mp (q.trans (by decide)))) ?_
  have h := k H locs ls hP hS hL (okS_cons (ok64_to _) (okS_tail (okS_tail hst))) hM
  simpa only [List.map_cons, toV, l2, gdiv, as64] using h
theorem g_lrem (hx : p.tables.exec = Jvm.exec) (hb : c.code = mC y) {a b : Int} (hd : decode (mC y) pc = .ok (.lrem, 1)) (hne : ¬ b = 0) (k : G p l e R s m args below meth c Q D cI cZ ad y (pc + 1) L (.inr (.inl (l2 grem a b)) :: st) M) : G p l e R s m args below meth c Q D cI cZ ad y pc L (.inr (.inl b) :: .inr (.inl a) :: st) M := by
  intro H locs ls hP hS hL hst hM
  refine lv_lrem hx hb hd (fun q => hne ((eq64 (b := 0) (okS_head hst) ⟨by decide, by decide⟩).mp (q.trans (by decide)))) ?_
  have h := k H locs ls hP hS hL (okS_cons (ok64_to _) (okS_tail (okS_tail hst))) hM
  simpa only [List.map_cons, toV, l2, grem, as64] using h
theorem g_ineg (hx : p.tables.exec = Jvm.exec) (hb : c.code = mC y) {a : Int} (hd : decode (mC y) pc = .ok (.ineg, 1)) (k : G p l e R s m args below meth c Q D cI cZ ad y (pc + 1) L (.inl (i1 fneg a) :: st) M) : G p l e R s m args below meth c Q D cI cZ ad y pc L (.inl a :: st) M := by
  intro H locs ls hP hS hL hst hM
  refine lv_ineg hx hb hd ?_
  have h := k H locs ls hP hS hL (okS_cons (ok32_to _) (okS_tail hst)) hM
  simpa only [List.map_cons, toV, i1, fneg, as32] using h
theorem g_i2l (hx : p.tables.exec = Jvm.exec) (hb : c.code = mC y) {a : Int} (hd : decode (mC y) pc = .ok (.i2l, 1)) (k : G p l e R s m args below meth c Q D cI cZ ad y (pc + 1) L (.inr (.inl a) :: st) M) : G p l e R s m args below meth c Q D cI cZ ad y pc L (.inl a :: st) M := by
  intro H locs ls hP hS hL hst hM
  have ha : ok32 a := okS_head hst
  have ha2 : ok64 a := ⟨by have := ha.1; omega, by have := ha.2; omega⟩
  refine lv_i2l (v := Int64.ofInt a) hx hb hd ?_ ?_
  · rw [← Int64.toInt_inj, of64 ha2, Int32.toInt_toInt64, of32 ha]
  · exact k H locs ls hP hS hL (okS_cons ha2 (okS_tail hst)) hM
theorem g_l2i (hx : p.tables.exec = Jvm.exec) (hb : c.code = mC y) {a : Int} (hd : decode (mC y) pc = .ok (.l2i, 1)) (k : G p l e R s m args below meth c Q D cI cZ ad y (pc + 1) L (.inl (Int64.ofInt a).toInt32.toInt :: st) M) : G p l e R s m args below meth c Q D cI cZ ad y pc L (.inr (.inl a) :: st) M := by
  intro H locs ls hP hS hL hst hM
  refine lv_l2i (v := (Int64.ofInt a).toInt32) hx hb hd rfl ?_
  have h := k H locs ls hP hS hL (okS_cons (ok32_to _) (okS_tail hst)) hM
  simpa only [List.map_cons, toV, as32] using h
theorem g_lcmp (hx : p.tables.exec = Jvm.exec) (hb : c.code = mC y) {a b : Int} (hd : decode (mC y) pc = .ok (.lcmp, 1)) (k : G p l e R s m args below meth c Q D cI cZ ad y (pc + 1) L (.inl (lc a b) :: st) M) : G p l e R s m args below meth c Q D cI cZ ad y pc L (.inr (.inl b) :: .inr (.inl a) :: st) M := by
  intro H locs ls hP hS hL hst hM
  have hb2 : ok64 b := okS_head hst
  have ha2 : ok64 a := okS_head (okS_tail hst)
  refine W.lcmp hx hb hd ?_
  have e : lg_cmp (Int64.ofInt a) (Int64.ofInt b) = Int32.ofInt (lc a b) := by
    unfold lg_cmp lc
    by_cases h1 : b < a
    · rw [if_pos ((lt64 hb2 ha2).mpr h1), if_pos h1]; decide
    · rw [if_neg (fun q => h1 ((lt64 hb2 ha2).mp q)), if_neg h1]
      by_cases h2 : a = b
      · rw [if_pos ((eq64 ha2 hb2).mpr h2), if_pos h2]; decide
      · rw [if_neg (fun q => h2 ((eq64 ha2 hb2).mp q)), if_neg h2]; decide
  rw [e]
  refine k H locs ls hP hS hL (okS_cons ?_ (okS_tail (okS_tail hst))) hM
  show ok32 (lc a b)
  unfold lc ok32
  split
  · omega
  · split <;> omega
theorem g_iconst (hx : p.tables.exec = Jvm.exec) (hb : c.code = mC y) {v : Int} (hd : decode (mC y) pc = .ok (.iconst v, 1)) (hw : Int32.ofInt v = Int32.ofInt v) (hv : ok32 v) (k : G p l e R s m args below meth c Q D cI cZ ad y (pc + 1) L (.inl v :: st) M) : G p l e R s m args below meth c Q D cI cZ ad y pc L st M := by
  intro H locs ls hP hS hL hst hM
  exact lv_iconst (v := Int32.ofInt v) hx hb hd hw (k H locs ls hP hS hL (okS_cons hv hst) hM)
theorem g_bipush (hx : p.tables.exec = Jvm.exec) (hb : c.code = mC y) {v : Int} (hd : decode (mC y) pc = .ok (.bipush v, 2)) (hw : (Int8.ofInt v).toInt32 = Int32.ofInt v) (hv : ok32 v) (k : G p l e R s m args below meth c Q D cI cZ ad y (pc + 2) L (.inl v :: st) M) : G p l e R s m args below meth c Q D cI cZ ad y pc L st M := by
  intro H locs ls hP hS hL hst hM
  exact lv_bipush (v := Int32.ofInt v) hx hb hd hw (k H locs ls hP hS hL (okS_cons hv hst) hM)
theorem g_sipush (hx : p.tables.exec = Jvm.exec) (hb : c.code = mC y) {v : Int} (hd : decode (mC y) pc = .ok (.sipush v, 3)) (hw : (Int16.ofInt v).toInt32 = Int32.ofInt v) (hv : ok32 v) (k : G p l e R s m args below meth c Q D cI cZ ad y (pc + 3) L (.inl v :: st) M) : G p l e R s m args below meth c Q D cI cZ ad y pc L st M := by
  intro H locs ls hP hS hL hst hM
  exact lv_sipush (v := Int32.ofInt v) hx hb hd hw (k H locs ls hP hS hL (okS_cons hv hst) hM)
theorem g_lconst (hx : p.tables.exec = Jvm.exec) (hb : c.code = mC y) {v : Fin 2} (hd : decode (mC y) pc = .ok (.lconst v, 1)) (k : G p l e R s m args below meth c Q D cI cZ ad y (pc + 1) L (.inr (.inl (v.val : Int)) :: st) M) : G p l e R s m args below meth c Q D cI cZ ad y pc L st M := by
  intro H locs ls hP hS hL hst hM
  have hv : ok64 (v.val : Int) := ⟨by omega, by have := v.isLt; omega⟩
  refine lv_lconst (v := Int64.ofInt (v.val : Int)) hx hb hd ?_ (k H locs ls hP hS hL (okS_cons hv hst) hM)
  exact (Int64.ofInt_eq_ofNat).symm
theorem g_ldc (hx : p.tables.exec = Jvm.exec) (hb : c.code = mC y) {v : Int} {i : Nat} {own : String} (hown : s.vm.findClass own = some m.cls) (hw : (Jvm.Cond.constant own i (Int32.ofInt v)).before args s = true) (hd : decode (mC y) pc = .ok (.ldc i, 2)) (hv : ok32 v) (k : G p l e R s m args below meth c Q D cI cZ ad y (pc + 2) L (.inl v :: st) M) : G p l e R s m args below meth c Q D cI cZ ad y pc L st M := by
  intro H locs ls hP hS hL hst hM
  exact lv_ldc hx hb hown hw hd (k H locs ls hP hS hL (okS_cons hv hst) hM)
theorem g_ldcw (hx : p.tables.exec = Jvm.exec) (hb : c.code = mC y) {v : Int} {i : Nat} {own : String} (hown : s.vm.findClass own = some m.cls) (hw : (Jvm.Cond.constant own i (Int32.ofInt v)).before args s = true) (hd : decode (mC y) pc = .ok (.ldc_w i, 3)) (hv : ok32 v) (k : G p l e R s m args below meth c Q D cI cZ ad y (pc + 3) L (.inl v :: st) M) : G p l e R s m args below meth c Q D cI cZ ad y pc L st M := by
  intro H locs ls hP hS hL hst hM
  exact lv_ldcw hx hb hown hw hd (k H locs ls hP hS hL (okS_cons hv hst) hM)
theorem g_ldc2 (hx : p.tables.exec = Jvm.exec) (hb : c.code = mC y) {v : Int} {i : Nat} {own : String} (hown : s.vm.findClass own = some m.cls) (hw : (Jvm.Cond.constantLong own i (Int64.ofInt v)).before args s = true) (hd : decode (mC y) pc = .ok (.ldc2_w i, 3)) (hv : ok64 v) (k : G p l e R s m args below meth c Q D cI cZ ad y (pc + 3) L (.inr (.inl v) :: st) M) : G p l e R s m args below meth c Q D cI cZ ad y pc L st M := by
  intro H locs ls hP hS hL hst hM
  exact lv_ldc2 hx hb hown hw hd (k H locs ls hP hS hL (okS_cons hv hst) hM)
theorem g_ldcS (hx : p.tables.exec = Jvm.exec) (hb : c.code = mC y) {i j : Nat} {own tx : String} (hown : s.vm.findClass own = some m.cls) (hw : vk_R own i tx (ad (500 + j)) s) (hd : decode (mC y) pc = .ok (.ldc i, 2)) (k : G p l e R s m args below meth c Q D cI cZ ad y (pc + 2) L (.inr (.inr (500 + j)) :: st) M) : G p l e R s m args below meth c Q D cI cZ ad y pc L st M := by
  intro H locs ls hP hS hL hst hM
  exact va_ldcS hx hb hown hw hd (k H locs ls hP hS hL (okS_cons trivial hst) hM)
theorem g_iload (hx : p.tables.exec = Jvm.exec) (hb : c.code = mC y) {i : Nat} {z : Int} (hd : decode (mC y) pc = .ok (.iload i, 2)) (hg : gl L i = some (.inl z)) (k : G p l e R s m args below meth c Q D cI cZ ad y (pc + 2) L (.inl z :: st) M) : G p l e R s m args below meth c Q D cI cZ ad y pc L st M := by
  intro H locs ls hP hS hL hst hM
  obtain ⟨h1, h2, -⟩ := hL.2.2 _ _ hg
  exact lv_iload hx hb hd h1 (k H locs ls hP hS hL (okS_cons h2 hst) hM)
theorem g_iload_n (hx : p.tables.exec = Jvm.exec) (hb : c.code = mC y) {i : Fin 4} {z : Int} (hd : decode (mC y) pc = .ok (.iload_n i, 1)) (hg : gl L i.val = some (.inl z)) (k : G p l e R s m args below meth c Q D cI cZ ad y (pc + 1) L (.inl z :: st) M) : G p l e R s m args below meth c Q D cI cZ ad y pc L st M := by
  intro H locs ls hP hS hL hst hM
  obtain ⟨h1, h2, -⟩ := hL.2.2 _ _ hg
  exact lv_iload_n hx hb hd rfl h1 (k H locs ls hP hS hL (okS_cons h2 hst) hM)
theorem g_lload (hx : p.tables.exec = Jvm.exec) (hb : c.code = mC y) {i : Nat} {z : Int} (hd : decode (mC y) pc = .ok (.lload i, 2)) (hg : gl L i = some (.inr (.inl z))) (k : G p l e R s m args below meth c Q D cI cZ ad y (pc + 2) L (.inr (.inl z) :: st) M) : G p l e R s m args below meth c Q D cI cZ ad y pc L st M := by
  intro H locs ls hP hS hL hst hM
  obtain ⟨h1, h2, -⟩ := hL.2.2 _ _ hg
  exact lv_lload hx hb hd h1 (k H locs ls hP hS hL (okS_cons h2 hst) hM)
theorem g_lload_n (hx : p.tables.exec = Jvm.exec) (hb : c.code = mC y) {i : Fin 4} {z : Int} (hd : decode (mC y) pc = .ok (.lload_n i, 1)) (hg : gl L i.val = some (.inr (.inl z))) (k : G p l e R s m args below meth c Q D cI cZ ad y (pc + 1) L (.inr (.inl z) :: st) M) : G p l e R s m args below meth c Q D cI cZ ad y pc L st M := by
  intro H locs ls hP hS hL hst hM
  obtain ⟨h1, h2, -⟩ := hL.2.2 _ _ hg
  exact lv_lload_n hx hb hd rfl h1 (k H locs ls hP hS hL (okS_cons h2 hst) hM)
theorem g_aload (hx : p.tables.exec = Jvm.exec) (hb : c.code = mC y) {i : Nat} {z : Nat} (hd : decode (mC y) pc = .ok (.aload i, 2)) (hg : gl L i = some (.inr (.inr z))) (k : G p l e R s m args below meth c Q D cI cZ ad y (pc + 2) L (.inr (.inr z) :: st) M) : G p l e R s m args below meth c Q D cI cZ ad y pc L st M := by
  intro H locs ls hP hS hL hst hM
  obtain ⟨h1, h2, -⟩ := hL.2.2 _ _ hg
  exact lv_aload hx hb hd h1 (k H locs ls hP hS hL (okS_cons h2 hst) hM)
theorem g_aload_n (hx : p.tables.exec = Jvm.exec) (hb : c.code = mC y) {i : Fin 4} {z : Nat} (hd : decode (mC y) pc = .ok (.aload_n i, 1)) (hg : gl L i.val = some (.inr (.inr z))) (k : G p l e R s m args below meth c Q D cI cZ ad y (pc + 1) L (.inr (.inr z) :: st) M) : G p l e R s m args below meth c Q D cI cZ ad y pc L st M := by
  intro H locs ls hP hS hL hst hM
  obtain ⟨h1, h2, -⟩ := hL.2.2 _ _ hg
  exact lv_aload_n hx hb hd rfl h1 (k H locs ls hP hS hL (okS_cons h2 hst) hM)
theorem g_istore (hx : p.tables.exec = Jvm.exec) (hb : c.code = mC y) {i : Nat} {z : Int} (hd : decode (mC y) pc = .ok (.istore i, 2)) (hi : i < mL y) (hg : ∀ j, j + 1 = i → j ∉ mG y) (k : G p l e R s m args below meth c Q D cI cZ ad y (pc + 2) (sl L i (some (.inl z))) st M) : G p l e R s m args below meth c Q D cI cZ ad y pc L (.inl z :: st) M := by
  intro H locs ls hP hS hL hst hM
  exact lv_istore hx hb hd hL.has hi rfl (fun ls' h' => k H locs ls' hP hS (hL.store1 (okS_head hst) (by rintro ⟨q, e⟩; cases e) hg h') (okS_tail hst) hM)
theorem g_istore_n (hx : p.tables.exec = Jvm.exec) (hb : c.code = mC y) {i : Fin 4} {z : Int} (hd : decode (mC y) pc = .ok (.istore_n i, 1)) (hi : i.val < mL y) (hg : ∀ j, j + 1 = i.val → j ∉ mG y) (k : G p l e R s m args below meth c Q D cI cZ ad y (pc + 1) (sl L i.val (some (.inl z))) st M) : G p l e R s m args below meth c Q D cI cZ ad y pc L (.inl z :: st) M := by
  intro H locs ls hP hS hL hst hM
  exact lv_istore_n hx hb hd rfl hL.has hi rfl (fun ls' h' => k H locs ls' hP hS (hL.store1 (okS_head hst) (by rintro ⟨q, e⟩; cases e) hg h') (okS_tail hst) hM)
theorem g_astore (hx : p.tables.exec = Jvm.exec) (hb : c.code = mC y) {i : Nat} {z : Nat} (hd : decode (mC y) pc = .ok (.astore i, 2)) (hi : i < mL y) (hg : ∀ j, j + 1 = i → j ∉ mG y) (k : G p l e R s m args below meth c Q D cI cZ ad y (pc + 2) (sl L i (some (.inr (.inr z)))) st M) : G p l e R s m args below meth c Q D cI cZ ad y pc L (.inr (.inr z) :: st) M := by
  intro H locs ls hP hS hL hst hM
  exact lv_astore hx hb hd hL.has hi rfl (fun ls' h' => k H locs ls' hP hS (hL.store1 (okS_head hst) (by rintro ⟨q, e⟩; cases e) hg h') (okS_tail hst) hM)
theorem g_astore_n (hx : p.tables.exec = Jvm.exec) (hb : c.code = mC y) {i : Fin 4} {z : Nat} (hd : decode (mC y) pc = .ok (.astore_n i, 1)) (hi : i.val < mL y) (hg : ∀ j, j + 1 = i.val → j ∉ mG y) (k : G p l e R s m args below meth c Q D cI cZ ad y (pc + 1) (sl L i.val (some (.inr (.inr z)))) st M) : G p l e R s m args below meth c Q D cI cZ ad y pc L (.inr (.inr z) :: st) M := by
  intro H locs ls hP hS hL hst hM
  exact lv_astore_n hx hb hd rfl hL.has hi rfl (fun ls' h' => k H locs ls' hP hS (hL.store1 (okS_head hst) (by rintro ⟨q, e⟩; cases e) hg h') (okS_tail hst) hM)
theorem g_lstore (hx : p.tables.exec = Jvm.exec) (hb : c.code = mC y) {i : Nat} {z : Int} (hd : decode (mC y) pc = .ok (.lstore i, 2)) (hi : i + 1 < mL y) (hm : i ∈ mG y) (hg : ∀ j, j + 1 = i → j ∉ mG y) (k : G p l e R s m args below meth c Q D cI cZ ad y (pc + 2) (sl (sl L (i + 1) none) i (some (.inr (.inl z)))) st M) : G p l e R s m args below meth c Q D cI cZ ad y pc L (.inr (.inl z) :: st) M := by
  intro H locs ls hP hS hL hst hM
  exact lv_lstore hx hb hd hL.has hi rfl (fun ls' h' => k H locs ls' hP hS (hL.store2 (okS_head hst) hm hg h') (okS_tail hst) hM)
theorem g_lstore_n (hx : p.tables.exec = Jvm.exec) (hb : c.code = mC y) {i : Fin 4} {z : Int} (hd : decode (mC y) pc = .ok (.lstore_n i, 1)) (hi : i.val + 1 < mL y) (hm : i.val ∈ mG y) (hg : ∀ j, j + 1 = i.val → j ∉ mG y) (k : G p l e R s m args below meth c Q D cI cZ ad y (pc + 1) (sl (sl L (i.val + 1) none) i.val (some (.inr (.inl z)))) st M) : G p l e R s m args below meth c Q D cI cZ ad y pc L (.inr (.inl z) :: st) M := by
  intro H locs ls hP hS hL hst hM
  exact lv_lstore_n hx hb hd rfl hL.has hi rfl (fun ls' h' => k H locs ls' hP hS (hL.store2 (okS_head hst) hm hg h') (okS_tail hst) hM)
theorem g_iinc (hx : p.tables.exec = Jvm.exec) (hb : c.code = mC y) {i : Nat} {n z : Int} (hd : decode (mC y) pc = .ok (.iinc i n, 3)) (hz : gl L i = some (.inl z)) (hi : i < mL y) (hg : ∀ j, j + 1 = i → j ∉ mG y) (k : G p l e R s m args below meth c Q D cI cZ ad y (pc + 3) (sl L i (some (.inl (i2 fadd z n)))) st M) : G p l e R s m args below meth c Q D cI cZ ad y pc L st M := by
  intro H locs ls hP hS hL hst hM
  obtain ⟨q, hq⟩ := List.getElem?_of_mem (asl_mem.mpr ⟨_, hz, rfl⟩ : (i, toV ad (.inl z)) ∈ asl ad L)
  have e : toV ad (.inl (i2 fadd z n)) = .int (Int32.ofInt z + Int32.ofInt n) := by simp only [toV, i2, fadd, as32]
  exact lv_iinc hx hb hd hL.has hq rfl hi rfl (fun ls' h' => k H locs ls' hP hS (hL.store1 (v := .inl (i2 fadd z n)) (ok32_to _) (by rintro ⟨q, e⟩; cases e) hg (by rw [e]; exact h')) hst hM)
theorem g_dupI (hx : p.tables.exec = Jvm.exec) (hb : c.code = mC y) {a : Int} (hd : decode (mC y) pc = .ok (.dup, 1)) (k : G p l e R s m args below meth c Q D cI cZ ad y (pc + 1) L (.inl a :: .inl a :: st) M) : G p l e R s m args below meth c Q D cI cZ ad y pc L (.inl a :: st) M := by
  intro H locs ls hP hS hL hst hM
  exact lv_dup hx hb hd rfl (k H locs ls hP hS hL (okS_cons (okS_head hst) hst) hM)
theorem g_dupR (hx : p.tables.exec = Jvm.exec) (hb : c.code = mC y) {a : Nat} (hd : decode (mC y) pc = .ok (.dup, 1)) (k : G p l e R s m args below meth c Q D cI cZ ad y (pc + 1) L (.inr (.inr a) :: .inr (.inr a) :: st) M) : G p l e R s m args below meth c Q D cI cZ ad y pc L (.inr (.inr a) :: st) M := by
  intro H locs ls hP hS hL hst hM
  exact lv_dup hx hb hd rfl (k H locs ls hP hS hL (okS_cons (okS_head hst) hst) hM)
theorem g_dup2 (hx : p.tables.exec = Jvm.exec) (hb : c.code = mC y) {a : Int} {b : Nat} (hd : decode (mC y) pc = .ok (.dup2, 1)) (k : G p l e R s m args below meth c Q D cI cZ ad y (pc + 1) L (.inl a :: .inr (.inr b) :: .inl a :: .inr (.inr b) :: st) M) : G p l e R s m args below meth c Q D cI cZ ad y pc L (.inl a :: .inr (.inr b) :: st) M := by
  intro H locs ls hP hS hL hst hM
  exact lv_dup2_11 hx hb hd rfl rfl (k H locs ls hP hS hL (okS_cons (okS_head hst) (okS_cons trivial hst)) hM)
theorem g_popI (hx : p.tables.exec = Jvm.exec) (hb : c.code = mC y) {a : Int} (hd : decode (mC y) pc = .ok (.pop, 1)) (k : G p l e R s m args below meth c Q D cI cZ ad y (pc + 1) L st M) : G p l e R s m args below meth c Q D cI cZ ad y pc L (.inl a :: st) M := by
  intro H locs ls hP hS hL hst hM
  exact lv_pop hx hb hd rfl (k H locs ls hP hS hL (okS_tail hst) hM)
theorem g_popR (hx : p.tables.exec = Jvm.exec) (hb : c.code = mC y) {a : Nat} (hd : decode (mC y) pc = .ok (.pop, 1)) (k : G p l e R s m args below meth c Q D cI cZ ad y (pc + 1) L st M) : G p l e R s m args below meth c Q D cI cZ ad y pc L (.inr (.inr a) :: st) M := by
  intro H locs ls hP hS hL hst hM
  exact lv_pop hx hb hd rfl (k H locs ls hP hS hL (okS_tail hst) hM)
theorem g_goto (hx : p.tables.exec = Jvm.exec) (hb : c.code = mC y) {off : Int} (hd : decode (mC y) pc = .ok (.goto off, 3)) (ht : 0 ≤ (pc : Int) + off) (k : G p l e R s m args below meth c Q D cI cZ ad y ((pc : Int) + off).toNat L st M) : G p l e R s m args below meth c Q D cI cZ ad y pc L st M := by
  intro H locs ls hP hS hL hst hM
  exact lv_goto hx hb hd (by omega) (k H locs ls hP hS hL hst hM)
theorem g_icmp (hx : p.tables.exec = Jvm.exec) (hb : c.code = mC y) {cn : Jvm.ClassFile.Cond} {off a b : Int} (hd : decode (mC y) pc = .ok (.if_icmp cn off, 3)) (ht : 0 ≤ (pc : Int) + off) (k : G p l e R s m args below meth c Q D cI cZ ad y (br cn a b ((pc : Int) + off).toNat (pc + 3)) L st M) : G p l e R s m args below meth c Q D cI cZ ad y pc L (.inl b :: .inl a :: st) M := by
  intro H locs ls hP hS hL hst hM
  have hb2 : ok32 b := okS_head hst
  have ha : ok32 a := okS_head (okS_tail hst)
  cases cn
  · refine lv_icmp_eq (tgt := ((pc : Int) + off).toNat) hx hb hd (by omega) (fun h => ?_) (fun h => ?_)
    · have h9 := k H locs ls hP hS hL (okS_tail (okS_tail hst)) hM
      rw [show br .eq a b ((pc : Int) + off).toNat (pc + 3) = ((pc : Int) + off).toNat from by have h8 := (eq32 ha hb2).mp h; simp only [br]; first | (rw [if_pos (by omega)]) | (rw [if_neg (by omega)])] at h9
      exact h9
    · have h9 := k H locs ls hP hS hL (okS_tail (okS_tail hst)) hM
      rw [show br .eq a b ((pc : Int) + off).toNat (pc + 3) = pc + 3 from by have h8 := (not_congr (eq32 ha hb2)).mp h; simp only [br]; first | (rw [if_pos (by omega)]) | (rw [if_neg (by omega)])] at h9
      exact h9
  · refine lv_icmp_ne (tgt := ((pc : Int) + off).toNat) hx hb hd (by omega) (fun h => ?_) (fun h => ?_)
    · have h9 := k H locs ls hP hS hL (okS_tail (okS_tail hst)) hM
      rw [show br .ne a b ((pc : Int) + off).toNat (pc + 3) = ((pc : Int) + off).toNat from by have h8 := (not_congr (eq32 ha hb2)).mp h; simp only [br]; first | (rw [if_pos (by omega)]) | (rw [if_neg (by omega)])] at h9
      exact h9
    · have h9 := k H locs ls hP hS hL (okS_tail (okS_tail hst)) hM
      rw [show br .ne a b ((pc : Int) + off).toNat (pc + 3) = pc + 3 from by have h8 := (eq32 ha hb2).mp h; simp only [br]; first | (rw [if_pos (by omega)]) | (rw [if_neg (by omega)])] at h9
      exact h9
  · refine lv_icmp_lt (tgt := ((pc : Int) + off).toNat) hx hb hd (by omega) (fun h => ?_) (fun h => ?_)
    · have h9 := k H locs ls hP hS hL (okS_tail (okS_tail hst)) hM
      rw [show br .lt a b ((pc : Int) + off).toNat (pc + 3) = ((pc : Int) + off).toNat from by have h8 := (lt32 ha hb2).mp h; simp only [br]; first | (rw [if_pos (by omega)]) | (rw [if_neg (by omega)])] at h9
      exact h9
    · have h9 := k H locs ls hP hS hL (okS_tail (okS_tail hst)) hM
      rw [show br .lt a b ((pc : Int) + off).toNat (pc + 3) = pc + 3 from by have h8 := (not_congr (lt32 ha hb2)).mp h; simp only [br]; first | (rw [if_pos (by omega)]) | (rw [if_neg (by omega)])] at h9
      exact h9
  · refine lv_icmp_ge (tgt := ((pc : Int) + off).toNat) hx hb hd (by omega) (fun h => ?_) (fun h => ?_)
    · have h9 := k H locs ls hP hS hL (okS_tail (okS_tail hst)) hM
      rw [show br .ge a b ((pc : Int) + off).toNat (pc + 3) = ((pc : Int) + off).toNat from by have h8 := (le32 hb2 ha).mp h; simp only [br]; first | (rw [if_pos (by omega)]) | (rw [if_neg (by omega)])] at h9
      exact h9
    · have h9 := k H locs ls hP hS hL (okS_tail (okS_tail hst)) hM
      rw [show br .ge a b ((pc : Int) + off).toNat (pc + 3) = pc + 3 from by have h8 := (not_congr (le32 hb2 ha)).mp h; simp only [br]; first | (rw [if_pos (by omega)]) | (rw [if_neg (by omega)])] at h9
      exact h9
  · refine lv_icmp_gt (tgt := ((pc : Int) + off).toNat) hx hb hd (by omega) (fun h => ?_) (fun h => ?_)
    · have h9 := k H locs ls hP hS hL (okS_tail (okS_tail hst)) hM
      rw [show br .gt a b ((pc : Int) + off).toNat (pc + 3) = ((pc : Int) + off).toNat from by have h8 := (lt32 hb2 ha).mp h; simp only [br]; first | (rw [if_pos (by omega)]) | (rw [if_neg (by omega)])] at h9
      exact h9
    · have h9 := k H locs ls hP hS hL (okS_tail (okS_tail hst)) hM
      rw [show br .gt a b ((pc : Int) + off).toNat (pc + 3) = pc + 3 from by have h8 := (not_congr (lt32 hb2 ha)).mp h; simp only [br]; first | (rw [if_pos (by omega)]) | (rw [if_neg (by omega)])] at h9
      exact h9
  · refine lv_icmp_le (tgt := ((pc : Int) + off).toNat) hx hb hd (by omega) (fun h => ?_) (fun h => ?_)
    · have h9 := k H locs ls hP hS hL (okS_tail (okS_tail hst)) hM
      rw [show br .le a b ((pc : Int) + off).toNat (pc + 3) = ((pc : Int) + off).toNat from by have h8 := (le32 ha hb2).mp h; simp only [br]; first | (rw [if_pos (by omega)]) | (rw [if_neg (by omega)])] at h9
      exact h9
    · have h9 := k H locs ls hP hS hL (okS_tail (okS_tail hst)) hM
      rw [show br .le a b ((pc : Int) + off).toNat (pc + 3) = pc + 3 from by have h8 := (not_congr (le32 ha hb2)).mp h; simp only [br]; first | (rw [if_pos (by omega)]) | (rw [if_neg (by omega)])] at h9
      exact h9
theorem g_if (hx : p.tables.exec = Jvm.exec) (hb : c.code = mC y) {cn : Jvm.ClassFile.Cond} {off a : Int} (hd : decode (mC y) pc = .ok (.ifCond cn off, 3)) (ht : 0 ≤ (pc : Int) + off) (k : G p l e R s m args below meth c Q D cI cZ ad y (br cn a 0 ((pc : Int) + off).toNat (pc + 3)) L st M) : G p l e R s m args below meth c Q D cI cZ ad y pc L (.inl a :: st) M := by
  intro H locs ls hP hS hL hst hM
  have ha : ok32 a := okS_head hst
  cases cn
  · refine lv_if_eq (tgt := ((pc : Int) + off).toNat) hx hb hd (by omega) (fun h => ?_) (fun h => ?_)
    · have h9 := k H locs ls hP hS hL (okS_tail hst) hM
      rw [show br .eq a 0 ((pc : Int) + off).toNat (pc + 3) = ((pc : Int) + off).toNat from by have h8 := (eq32 ha ok32_0).mp h; simp only [br]; first | (rw [if_pos (by omega)]) | (rw [if_neg (by omega)])] at h9
      exact h9
    · have h9 := k H locs ls hP hS hL (okS_tail hst) hM
      rw [show br .eq a 0 ((pc : Int) + off).toNat (pc + 3) = pc + 3 from by have h8 := (not_congr (eq32 ha ok32_0)).mp h; simp only [br]; first | (rw [if_pos (by omega)]) | (rw [if_neg (by omega)])] at h9
      exact h9
  · refine lv_if_ne (tgt := ((pc : Int) + off).toNat) hx hb hd (by omega) (fun h => ?_) (fun h => ?_)
    · have h9 := k H locs ls hP hS hL (okS_tail hst) hM
      rw [show br .ne a 0 ((pc : Int) + off).toNat (pc + 3) = ((pc : Int) + off).toNat from by have h8 := (not_congr (eq32 ha ok32_0)).mp h; simp only [br]; first | (rw [if_pos (by omega)]) | (rw [if_neg (by omega)])] at h9
      exact h9
    · have h9 := k H locs ls hP hS hL (okS_tail hst) hM
      rw [show br .ne a 0 ((pc : Int) + off).toNat (pc + 3) = pc + 3 from by have h8 := (eq32 ha ok32_0).mp h; simp only [br]; first | (rw [if_pos (by omega)]) | (rw [if_neg (by omega)])] at h9
      exact h9
  · refine lv_if_lt (tgt := ((pc : Int) + off).toNat) hx hb hd (by omega) (fun h => ?_) (fun h => ?_)
    · have h9 := k H locs ls hP hS hL (okS_tail hst) hM
      rw [show br .lt a 0 ((pc : Int) + off).toNat (pc + 3) = ((pc : Int) + off).toNat from by have h8 := (lt32 ha ok32_0).mp h; simp only [br]; first | (rw [if_pos (by omega)]) | (rw [if_neg (by omega)])] at h9
      exact h9
    · have h9 := k H locs ls hP hS hL (okS_tail hst) hM
      rw [show br .lt a 0 ((pc : Int) + off).toNat (pc + 3) = pc + 3 from by have h8 := (not_congr (lt32 ha ok32_0)).mp h; simp only [br]; first | (rw [if_pos (by omega)]) | (rw [if_neg (by omega)])] at h9
      exact h9
  · refine lv_if_ge (tgt := ((pc : Int) + off).toNat) hx hb hd (by omega) (fun h => ?_) (fun h => ?_)
    · have h9 := k H locs ls hP hS hL (okS_tail hst) hM
      rw [show br .ge a 0 ((pc : Int) + off).toNat (pc + 3) = ((pc : Int) + off).toNat from by have h8 := (le32 ok32_0 ha).mp h; simp only [br]; first | (rw [if_pos (by omega)]) | (rw [if_neg (by omega)])] at h9
      exact h9
    · have h9 := k H locs ls hP hS hL (okS_tail hst) hM
      rw [show br .ge a 0 ((pc : Int) + off).toNat (pc + 3) = pc + 3 from by have h8 := (not_congr (le32 ok32_0 ha)).mp h; simp only [br]; first | (rw [if_pos (by omega)]) | (rw [if_neg (by omega)])] at h9
      exact h9
  · refine lv_if_gt (tgt := ((pc : Int) + off).toNat) hx hb hd (by omega) (fun h => ?_) (fun h => ?_)
    · have h9 := k H locs ls hP hS hL (okS_tail hst) hM
      rw [show br .gt a 0 ((pc : Int) + off).toNat (pc + 3) = ((pc : Int) + off).toNat from by have h8 := (lt32 ok32_0 ha).mp h; simp only [br]; first | (rw [if_pos (by omega)]) | (rw [if_neg (by omega)])] at h9
      exact h9
    · have h9 := k H locs ls hP hS hL (okS_tail hst) hM
      rw [show br .gt a 0 ((pc : Int) + off).toNat (pc + 3) = pc + 3 from by have h8 := (not_congr (lt32 ok32_0 ha)).mp h; simp only [br]; first | (rw [if_pos (by omega)]) | (rw [if_neg (by omega)])] at h9
      exact h9
  · refine lv_if_le (tgt := ((pc : Int) + off).toNat) hx hb hd (by omega) (fun h => ?_) (fun h => ?_)
    · have h9 := k H locs ls hP hS hL (okS_tail hst) hM
      rw [show br .le a 0 ((pc : Int) + off).toNat (pc + 3) = ((pc : Int) + off).toNat from by have h8 := (le32 ha ok32_0).mp h; simp only [br]; first | (rw [if_pos (by omega)]) | (rw [if_neg (by omega)])] at h9
      exact h9
    · have h9 := k H locs ls hP hS hL (okS_tail hst) hM
      rw [show br .le a 0 ((pc : Int) + off).toNat (pc + 3) = pc + 3 from by have h8 := (not_congr (le32 ha ok32_0)).mp h; simp only [br]; first | (rw [if_pos (by omega)]) | (rw [if_neg (by omega)])] at h9
      exact h9
end OPS
