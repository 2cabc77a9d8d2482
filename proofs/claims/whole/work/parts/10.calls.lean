/-! CALLS, ENDS; the soundness of the pure machine -/
def Zok (ad : Nat → Nat) (U : State) (H : Heap) : Prop := va_Z "java/lang/String" "COMPACT_STRINGS" "Z" (.int 1) (Ar ad) U H ∧ va_Zq "jdk/internal/util/Preconditions" "SIOOBE_FORMATTER" "Ljava/util/function/BiFunction;" (Ar ad) U H
def Sok (ad adV : Nat → Nat) (U : State) (H : Heap) : Prop := vk_S 6 strL strY (fun i => ad (500 + i)) adV (Ar ad) U H ∧ (∀ i, i < 6 → vk_R "StairSteps$Reader" (strP.getD i 0) (strX.getD i "") (ad (500 + i)) U) ∧ Zok ad U H
def Nok (U : State) : Prop := ∀ q ∈ nestL, va_Nw (.methodLinkNest (nth ownN q.1 "") q.2.1 (mN q.2.2) "StairSteps") U
def rm (y : Nat) : Room := { frames := mD y, cells := 0, slots := 0, locals := 40 * mD y }
def wsm (y : Nat) : List Jvm.Cond := Jvm.Cond.code (mN y) (mC y) (mL y) (mR y) :: gt
def Wl (D : va_G) (cI cZ : ClassId) (ad adV : Nat → Nat) (M : Mm) (U : State) (H : Heap) : Prop := va_P D cls (wd cI cZ ad M) H ∧ va_K D cls (tyw cI cZ) U ∧ Sok ad adV U H ∧ Nok U
theorem Wl_at {D : va_G} {cI cZ : ClassId} {ad adV : Nat → Nat} {M : Mm} {s t : State} {H : Heap} {locs : List Loc} (hP : va_P D cls (wd cI cZ ad M) H) (hS : va_S (Ar ad) s.heap H locs) (hK : va_K D cls (tyw cI cZ) s) (hSt : Sok ad adV s s.heap) (hN : Nok s) (ht : t.heap = H) (hW : s.WarmedH t.vm) : Wl D cI cZ ad adV M t t.heap := by
  refine ⟨by rw [ht]; exact hP, va_K.moved hW.alike hK, ⟨?_, fun i hi => (hSt.2.1 i hi).warm hW, ?_⟩, fun q hq => va_Nw.warmM hW (hN q hq)⟩
  · rw [ht]
    exact (hSt.1.moved hW.alike).kept hS.2.1
  · rw [ht]
    exact ⟨(hSt.2.2.1.moved hW.alike).kept hS.2.1, (hSt.2.2.2.moved hW.alike).kept hS.2.1⟩
def PcY (D : va_G) (cI cZ : ClassId) (ad adV : Nat → Nat) (as : List PV) (M : Mm) : Array Value → State → Prop := va_Pc (as.map (toV ad)) (fun U => Wl D cI cZ ad adV M U U.heap)
def QcY (D : va_G) (cI cZ : ClassId) (ad adV : Nat → Nat) (r : Option PV) (M' : Mm) : Array Value → State → Outcome → State → Prop := fun _ st oc t => oc = .returned (r.map (toV ad)) ∧ Wl D cI cZ ad adV M' t t.heap ∧ va_F (Ar ad) st t ∧ okM M' ∧ ∀ v, r = some v → okV v
theorem PcY_blind {D : va_G} {cI cZ : ClassId} {ad adV : Nat → Nat} {as : List PV} {M : Mm} : FrameBlind (PcY D cI cZ ad adV as M) := by
  intro a U g mk q
  obtain ⟨q0, qP, qK, ⟨qS, qR, qZ⟩, qN⟩ := q
  exact ⟨q0, qP, va_K.moved (u := U) (U := U.calling g mk a) (Vm.Alike.refl U.vm) qK, ⟨vk_S.moved (u := U) (U := U.calling g mk a) (Vm.Alike.refl U.vm) qS, fun i hi => vk_R.same (u := U) rfl (qR i hi), va_Z.moved (u := U) (U := U.calling g mk a) (Vm.Alike.refl U.vm) qZ.1, va_Zq.moved (u := U) (U := U.calling g mk a) (Vm.Alike.refl U.vm) qZ.2⟩, fun w hw => va_Nw.same (u := U) rfl rfl (qN w hw)⟩
theorem spl_spec : ∀ (n : Nat) (acc st xs rest : List PV), spl n acc st = some (xs, rest) → ∃ ys : List PV, ys.length = n ∧ st = ys ++ rest ∧ xs = ys.reverse ++ acc
  | 0, acc, st, xs, rest, h => by cases h; exact ⟨[], rfl, rfl, rfl⟩
  | n + 1, acc, [], xs, rest, h => by cases h
  | n + 1, acc, v :: st, xs, rest, h => by
    obtain ⟨ys, h1, h2, h3⟩ := spl_spec n (v :: acc) st xs rest h
    exact ⟨v :: ys, by simp [h1], by rw [h2]; rfl, by rw [h3]; simp⟩
theorem spl_0 {n : Nat} {st xs rest : List PV} (h : spl n [] st = some (xs, rest)) : xs.length = n ∧ st = xs.reverse ++ rest := by
  obtain ⟨ys, h1, h2, h3⟩ := spl_spec n [] st xs rest h
  rw [List.append_nil] at h3
  subst h3
  exact ⟨by simpa using h1, by simpa using h2⟩
theorem cs_sum (ad : Nat → Nat) : ∀ st : List PV, ((st.map (toV ad)).map fun v => v.category).sum = cs st
  | [] => rfl
  | .inl z :: st => by
    have h := cs_sum ad st
    show 1 + ((st.map (toV ad)).map fun v => v.category).sum = cs st + 1
    rw [h]; omega
  | .inr (.inl z) :: st => by
    have h := cs_sum ad st
    show 2 + ((st.map (toV ad)).map fun v => v.category).sum = cs st + 2
    rw [h]; omega
  | .inr (.inr z) :: st => by
    have h := cs_sum ad st
    show 1 + ((st.map (toV ad)).map fun v => v.category).sum = cs st + 1
    rw [h]; omega
theorem lg_len (ad : Nat → Nat) : ∀ st : List PV, (lg_sl (st.map (toV ad))).length = cs st
  | [] => rfl
  | .inl z :: st => by
    have := lg_len ad st
    simp only [lg_sl, List.map_cons, List.flatMap_cons, List.length_append, toV, Value.category, cs] at this ⊢
    simp only [this]; simp; omega
  | .inr (.inl z) :: st => by
    have := lg_len ad st
    simp only [lg_sl, List.map_cons, List.flatMap_cons, List.length_append, toV, Value.category, cs] at this ⊢
    simp only [this]; simp; omega
  | .inr (.inr z) :: st => by
    have := lg_len ad st
    simp only [lg_sl, List.map_cons, List.flatMap_cons, List.length_append, toV, Value.category, cs] at this ⊢
    simp only [this]; simp; omega
theorem gl_rep : ∀ (n i : Nat), gl (List.replicate n none) i = none
  | 0, _ => rfl
  | n + 1, 0 => rfl
  | n + 1, i + 1 => gl_rep n i
theorem ent_spec (ad : Nat → Nat) (g : List Nat) : ∀ (as : List PV) (n o i : Nat) (v : PV), okS as → lok g o as = true → gl (ent n as) i = some v → (o + i, toV ad v) ∈ lv_args o (as.map (toV ad)) ∧ okV v ∧ ((∃ z, v = .inr (.inl z)) → o + i ∈ g)
  | [], n, o, i, v, _, _, h => by rw [ent, gl_rep] at h; cases h
  | .inl z :: as, n, o, 0, v, ho, _, h => by
    cases h
    exact ⟨by simp [lv_args], okS_head ho, by rintro ⟨q, e⟩; cases e⟩
  | .inr (.inr z) :: as, n, o, 0, v, ho, _, h => by
    cases h
    exact ⟨by simp [lv_args], okS_head ho, by rintro ⟨q, e⟩; cases e⟩
  | .inr (.inl z) :: as, n, o, 0, v, ho, hl, h => by
    cases h
    simp only [lok, Bool.and_eq_true] at hl
    exact ⟨by simp [lv_args], okS_head ho, fun _ => by simpa using hl.1⟩
  | .inl z :: as, n, o, i + 1, v, ho, hl, h => by
    obtain ⟨h1, h2, h3⟩ := ent_spec ad g as (n - 1) (o + 1) i v (okS_tail ho) hl h
    rw [show o + (i + 1) = o + 1 + i by omega]
    refine ⟨?_, h2, h3⟩
    simp only [List.map_cons, lv_args, toV, Value.category]
    exact List.mem_cons_of_mem _ h1
  | .inr (.inr z) :: as, n, o, i + 1, v, ho, hl, h => by
    obtain ⟨h1, h2, h3⟩ := ent_spec ad g as (n - 1) (o + 1) i v (okS_tail ho) hl h
    rw [show o + (i + 1) = o + 1 + i by omega]
    refine ⟨?_, h2, h3⟩
    simp only [List.map_cons, lv_args, toV, Value.category]
    exact List.mem_cons_of_mem _ h1
  | .inr (.inl z) :: as, n, o, 1, v, ho, hl, h => by cases h
  | .inr (.inl z) :: as, n, o, i + 2, v, ho, hl, h => by
    simp only [lok, Bool.and_eq_true] at hl
    obtain ⟨h1, h2, h3⟩ := ent_spec ad g as (n - 2) (o + 2) i v (okS_tail ho) hl.2 h
    rw [show o + (i + 2) = o + 2 + i by omega]
    refine ⟨?_, h2, h3⟩
    simp only [List.map_cons, lv_args, toV, Value.category]
    exact List.mem_cons_of_mem _ h1
theorem RL_entry {ad : Nat → Nat} {as : List PV} {n : Nat} {g : List Nat} (ho : okS as) (hl : lok g 0 as = true) (hc : cs as ≤ n) : RL ad ((lg_sl (as.map (toV ad)) ++ List.replicate (n - (lg_sl (as.map (toV ad))).length) Slot.unset).toArray) n g (ent n as) := by
  have h := lv_entry (as.map (toV ad)) (n := n) (by rw [lg_len]; exact hc)
  refine ⟨h.1, h.2.1, fun i v hv => ?_⟩
  obtain ⟨h1, h2, h3⟩ := ent_spec ad g as n 0 i v ho hl hv
  rw [Nat.zero_add] at h1 h3
  exact ⟨h.2.2 _ h1, h2, h3⟩
section CALLS
variable {p : Program} {l : Launch} {e : Env} {R : Room} {s : State} {m : MethodId} {args : Array Value} {below : List Frame} {meth : Method} {c : Code} {Q : State → Prop} {D : va_G} {cI cZ : ClassId} {ad adV : Nat → Nat} {y pc : Nat} {L : Lc} {st : List PV} {M : Mm} {H : Heap} {locs : List Loc}
theorem callOn {r : Option PV} {M' : Mm} {a : Array Value} {st0 rest : List Value} {ls : Array Slot} (hr : va_Run p l e R s m args below meth c H locs 0 0 0 0 (F0 m pc ls st0) rest (QcY D cI cZ ad adV r M' a) (Ar ad)) (hS : va_S (Ar ad) s.heap H locs)
    (kk : ∀ (H1 : Heap) (locs1 : List Loc), va_P D cls (wd cI cZ ad M') H1 → va_S (Ar ad) s.heap H1 locs1 → okM M' → (∀ v, r = some v → okV v) → W p l e R s m args below meth c H1 locs1 0 0 Q (F0 m (pc + 3) ls ((r.map (toV ad)).toList ++ rest))) : W p l e R s m args below meth c H locs 0 0 Q (F0 m pc ls st0) := by
  intro T hT X
  obtain ⟨v, st₀, t, T', LL, h0, X', hL, e1, e2, ⟨hv, hW, ⟨hz, hk⟩, hM', hok⟩, st⟩ := hr T hT X
  have hv2 : v = r.map (toV ad) := by injection hv
  subst hv2
  rw [h0] at hz hk
  obtain ⟨t2, a1, b1⟩ := kk T'.heap (locs ++ LL) (by rw [e1]; exact hW.1)
    ⟨Nat.le_trans hS.1 (by rw [e1]; exact hz), fun q h1 h2 => by rw [e1, hk q (Nat.lt_of_lt_of_le h1 hS.1) h2]; exact hS.2.1 q h1 h2, fun q hq => by
      rcases List.mem_append.mp hq with h | h
      · exact hS.2.2 q h
      · exact hL q h⟩ hM' hok T' rfl X'
  exact ⟨t2, st t2 a1, b1⟩
theorem gt_GoodIn {big : List Jvm.Cond} (hg : big = gt) {w : Jvm.Cond} (hw : w ∈ gt) : GoodIn big (w :: gt) := by
  subst hg
  intro x hx
  rcases List.mem_cons.mp hx with rfl | h
  · exact ⟨hw, good_of_word (gt_good _ hw)⟩
  · exact ⟨h, good_of_word (gt_good _ h)⟩
theorem g_callV (hx : p.tables.exec = Jvm.exec) (hb : c.code = mC y) (hml : c.maxLocals = mL y) (hts : ∀ w ∈ gt, w.before args s = true) (hK : va_K D cls (tyw cI cZ) s) (hSt : Sok ad adV s s.heap) (hN : Nok s) {own : String} (hown : s.vm.findClass own = some m.cls)
    {yn : MethodName} {bytes : ByteArray} {maxL np k r0 : Nat} {ret : Option FieldType} {rmc : Room} {as rest : List PV} {r : Option PV} {M' : Mm}
    (hMet : Met l yn (Jvm.Cond.code yn bytes maxL ret :: gt) rmc (PcY D cI cZ ad adV (.inr (.inr r0) :: as) M) (QcY D cI cZ ad adV r M') 0 0 (Ar ad)) (hrc : rmc.cells = 0) (hrs : rmc.slots = 0) (hR : rmc.frames + 1 ≤ R.frames ∧ 8 + (maxL + 11) + rmc.locals ≤ R.locals)
    (wc : Jvm.Cond.code yn bytes maxL ret ∈ gt) (wi : Jvm.Cond.initialized yn.cls ∈ gt) (wl : Jvm.Cond.methodLink own k yn ∈ gt) (wm : Jvm.Cond.instanceMethod yn ∈ gt) (wsl : Jvm.Cond.selects yn.cls yn yn ∈ gt)
    (hd : yn.cls ≠ "java/lang/invoke/MethodHandle" ∧ yn.cls ≠ "java/lang/invoke/VarHandle" ∧ (parseMethodDescriptor yn.desc).map (fun d => d.parameters.length) = some np) (hn : as.length = np) (hcs : cs rest ≤ 8)
    (hrecv : ∀ (H : Heap) (locs : List Loc), va_P D cls (wd cI cZ ad M) H → va_S (Ar ad) s.heap H locs → ∃ cell : Cell, H[ad r0]? = some cell ∧ cell.vm.isStatics = false ∧ s.vm.findClass yn.cls = some cell.cls)
    (hdc : decode (mC y) pc = .ok (.invokevirtual k, 3)) (kk : okM M' → (∀ v, r = some v → okV v) → G p l e R s m args below meth c Q D cI cZ ad y (pc + 3) L (r.toList ++ rest) M') : G p l e R s m args below meth c Q D cI cZ ad y pc L (as.reverse ++ .inr (.inr r0) :: rest) M := by
  intro H locs ls hP hS hL hst hM
  have hcw : CallW R s args own yn.cls k yn bytes maxL ret (Jvm.Cond.code yn bytes maxL ret :: gt) rmc 0 0 np := ⟨callB_of np hts (gt_GoodIn rfl wc) rfl hrc hrs (hts _ wi) (hts _ wl) hd hR, hts _ wm, hts _ wsl⟩
  have hrun := va_runV (g := F0 m pc ls ((as.reverse ++ .inr (.inr r0) :: rest).map (toV ad))) (H := H) (locs := locs) (cells := 0) (slots := 0) (As := as.map (toV ad)) (b := ad r0) (rest := rest.map (toV ad)) (below := below) (e := e) (meth := meth) (nL := mL y) ⟨hx, hb, hml, hown, hts⟩ hMet hcw
    ⟨PcY_blind, hrecv H locs hP hS, fun U hU hW => ⟨rfl, Wl_at hP hS hK hSt hN hU hW⟩⟩ rfl (by rw [List.length_map]; exact hn) hL.1 (by simp [toV]) (lv_room (by rw [cs_sum]; exact hcs)) hdc ⟨Nat.zero_le _, Nat.zero_le _⟩
  refine callOn hrun hS (fun H1 locs1 hP1 hS1 hM1 hok => ?_)
  have h := kk hM1 hok H1 locs1 ls hP1 hS1 hL (fun v hv => ?_) hM1
  · rw [List.map_append] at h
    cases r with
    | none => exact h
    | some w => exact h
  · rcases List.mem_append.mp hv with q | q
    · cases r with
      | none => cases q
      | some w =>
        have : v = w := by simpa using q
        subst this
        exact hok _ rfl
    · exact hst v (List.mem_append_right _ (List.mem_cons_of_mem _ q))
theorem g_callS (hx : p.tables.exec = Jvm.exec) (hb : c.code = mC y) (hml : c.maxLocals = mL y) (hts : ∀ w ∈ gt, w.before args s = true) (hK : va_K D cls (tyw cI cZ) s) (hSt : Sok ad adV s s.heap) (hN : Nok s) {own : String} (hown : s.vm.findClass own = some m.cls)
    {yn : MethodName} {bytes : ByteArray} {maxL np k : Nat} {ret : Option FieldType} {rmc : Room} {as rest : List PV} {r : Option PV} {M' : Mm}
    (hMet : Met l yn (Jvm.Cond.code yn bytes maxL ret :: gt) rmc (PcY D cI cZ ad adV as M) (QcY D cI cZ ad adV r M') 0 0 (Ar ad)) (hrc : rmc.cells = 0) (hrs : rmc.slots = 0) (hR : rmc.frames + 1 ≤ R.frames ∧ 8 + (maxL + 11) + rmc.locals ≤ R.locals)
    (wc : Jvm.Cond.code yn bytes maxL ret ∈ gt) (wi : Jvm.Cond.initialized yn.cls ∈ gt) (wl : Jvm.Cond.methodLink own k yn ∈ gt ∨ va_Nw (.methodLinkNest own k yn "StairSteps") s) (wm : Jvm.Cond.static yn ∈ gt)
    (hd : yn.cls ≠ "java/lang/invoke/MethodHandle" ∧ yn.cls ≠ "java/lang/invoke/VarHandle" ∧ (parseMethodDescriptor yn.desc).map (fun d => d.parameters.length) = some np) (hn : as.length = np) (hcs : cs rest ≤ 8)
    (hdc : decode (mC y) pc = .ok (.invokestatic k, 3)) (kk : okM M' → (∀ v, r = some v → okV v) → G p l e R s m args below meth c Q D cI cZ ad y (pc + 3) L (r.toList ++ rest) M') : G p l e R s m args below meth c Q D cI cZ ad y pc L (as.reverse ++ rest) M := by
  intro H locs ls hP hS hL hst hM
  have hrun : va_Run p l e R s m args below meth c H locs 0 0 0 0 (F0 m pc ls ((as.reverse ++ rest).map (toV ad))) (rest.map (toV ad)) (QcY D cI cZ ad adV r M' (as.map (toV ad)).toArray) (Ar ad) := by
    rcases wl with wl | wl
    · exact va_runS (As := as.map (toV ad)) (rest := rest.map (toV ad)) (nL := mL y) ⟨hx, hb, hml, hown, hts⟩ hMet ⟨callB_of np hts (gt_GoodIn rfl wc) rfl hrc hrs (hts _ wi) (hts _ wl) hd hR, hts _ wm⟩
        ⟨PcY_blind, fun U hU hW => ⟨rfl, Wl_at hP hS hK hSt hN hU hW⟩⟩ rfl (by rw [List.length_map]; exact hn) hL.1 (by simp) (lv_room (by rw [cs_sum]; exact hcs)) hdc ⟨Nat.zero_le _, Nat.zero_le _⟩
    · exact va_runSN (As := as.map (toV ad)) (rest := rest.map (toV ad)) (nL := mL y) (host := "StairSteps") ⟨hx, hb, hml, hown, hts⟩ hMet ⟨va_cnB np hts (gt_GoodIn rfl wc) rfl hrc hrs wl (hts _ wi) hd hR, hts _ wm, trivial⟩
        ⟨PcY_blind, fun U hU hW => ⟨rfl, Wl_at hP hS hK hSt hN hU hW⟩⟩ rfl (by rw [List.length_map]; exact hn) hL.1 (by simp) (lv_room (by rw [cs_sum]; exact hcs)) hdc ⟨Nat.zero_le _, Nat.zero_le _⟩
  refine callOn hrun hS (fun H1 locs1 hP1 hS1 hM1 hok => ?_)
  have h := kk hM1 hok H1 locs1 ls hP1 hS1 hL (fun v hv => ?_) hM1
  · rw [List.map_append] at h
    cases r with
    | none => exact h
    | some w => exact h
  · rcases List.mem_append.mp hv with q | q
    · cases r with
      | none => cases q
      | some w =>
        have : v = w := by simpa using q
        subst this
        exact hok _ rfl
    · exact hst v (List.mem_append_right _ q)
theorem cp_other {M : Mm} {rs rd a : Nat} {sp dp n : Int} (h : a ≠ rd) (i : Int) : cp M rs sp rd dp n a i = M a i := by simp [cp, h]
theorem w_nat : Jvm.Cond.native arraycopyName ∈ gt := gt_of (i := 555) (by decide +kernel) (by decide +kernel)
theorem w_sta : Jvm.Cond.static arraycopyName ∈ gt := gt_of (i := 554) (by decide +kernel) (by decide +kernel)
theorem w_sys : Jvm.Cond.initialized "java/lang/System" ∈ gt := gt_of (i := 92) (by decide +kernel) (by decide +kernel)
theorem g_acopy (hx : p.tables.exec = Jvm.exec) (hb : c.code = mC y) (hml : c.maxLocals = mL y) (hts : ∀ w ∈ gt, w.before args s = true) (hK : va_K D cls (tyw cI cZ) s) (hj : inj ad) {own : String} (hown : s.vm.findClass own = some m.cls) {k rs rd n0 n1 : Nat} {sp dp n : Int} {rest : List PV}
    (hs0 : shp rs = .inl (n0, false)) (hs1 : shp rd = .inl (n1, false)) (hr0 : rs < 73) (hr1 : rd < 73) (h1 : 0 ≤ sp) (h2 : 0 ≤ dp) (h3 : 0 ≤ n) (h4 : sp + n ≤ n0) (h5 : dp + n ≤ n1) (hcs : cs rest ≤ 8) (hR : 1 ≤ R.frames ∧ 40 ≤ R.locals) (wl : Jvm.Cond.methodLink own k arraycopyName ∈ gt)
    (hd : decode (mC y) pc = .ok (.invokestatic k, 3)) (kk : G p l e R s m args below meth c Q D cI cZ ad y (pc + 3) L rest (cp M rs sp rd dp n)) : G p l e R s m args below meth c Q D cI cZ ad y pc L (.inl n :: .inl dp :: .inr (.inr rd) :: .inl sp :: .inr (.inr rs) :: rest) M := by
  intro H locs ls hP hS hL hst hM
  have en : ok32 n := okS_head hst
  have ed : ok32 dp := okS_head (okS_tail hst)
  have es : ok32 sp := okS_head (okS_tail (okS_tail (okS_tail hst)))
  have hg0 := wd_get (cI := cI) (cZ := cZ) (ad := ad) (M := M) hr0
  rw [hs0] at hg0
  have hg1 := wd_get (cI := cI) (cZ := cZ) (ad := ad) (M := M) hr1
  rw [hs1] at hg1
  have nn : ∀ z : Int, ok32 z → 0 ≤ z → ¬ Int32.ofInt z < 0 := fun z hz h0 q => by
    rw [Int32.lt_iff_toInt_lt, of32 hz] at q
    have : (0 : Int32).toInt = 0 := by decide
    omega
  refine va_copyi (own := own) (index := k) (rest := rest.map (toV ad)) (ty := .int) (c0 := cI) (c1 := cI) (n0 := n0) (n1 := n1) (f := fun j => Int32.ofInt (M rs j)) (g := fun j => Int32.ofInt (M rd j)) hx hb (by rw [hml]; exact hL.1.symm) hown (hts _ wl) (hts _ w_nat) (hts _ w_sta) (hts _ w_sys) hK hP (wd_D hj M) hS rs rd 0 0 hg0 hg1 rfl rfl rfl (nn sp es h1) (nn dp ed h2) (nn n en h3) (by rw [clampN _ es, clampN _ en]; omega) (by rw [clampN _ ed, clampN _ en]; omega) (fun i _ => rfl) hR.1 (by rw [cs_sum]; show _ + (7 + 11) ≤ _; omega) hd (fun H1 locs1 hP1 _ hS1 => ?_)
  rw [clampN _ es, clampN _ ed, clampN _ en] at hP1
  have e : (Sum.inl (cI, n1, Sum.inl (va_cpy (fun j => Int32.ofInt (M rs j)) (fun j => Int32.ofInt (M rd j)) sp.toNat dp.toNat n.toNat)) : va_E) = cellE cI cZ ad (cp M rs sp rd dp n) rd (shp rd) := by
    have hf : va_cpy (fun j => Int32.ofInt (M rs j)) (fun j => Int32.ofInt (M rd j)) sp.toNat dp.toNat n.toNat = fun j : Nat => Int32.ofInt (cp M rs sp rd dp n rd (j : Int)) := by
      funext j
      simp only [va_cpy, cp]
      by_cases q : dp.toNat ≤ j ∧ j < dp.toNat + n.toNat
      · rw [if_pos q, if_pos ⟨trivial, by omega, by omega⟩]
        rw [show ((sp.toNat + (j - dp.toNat) : Nat) : Int) = sp + ((j : Int) - dp) by omega]
      · rw [if_neg q, if_neg (fun z => q (by omega))]
    rw [hs1, hf]
    rfl
  rw [e, wd_set hr1 (fun a i ha => cp_other ha i)] at hP1
  refine kk H1 locs1 ls hP1 hS1 hL (okS_tail (okS_tail (okS_tail (okS_tail (okS_tail hst))))) (fun a i => ?_)
  by_cases q : a = rd ∧ dp ≤ (i : Int) ∧ (i : Int) < dp + n
  · have e : sp + ((i : Int) - dp) = (((sp + ((i : Int) - dp)).toNat : Nat) : Int) := by omega
    rw [show cp M rs sp rd dp n a i = M rs (sp + ((i : Int) - dp)) from if_pos q, e]
    rw [q.1, lgc_arr hs1]
    exact okM_int hM (lgc_arr hs0)
  · rw [show cp M rs sp rd dp n a i = M a i from if_neg q]
    exact hM a i
end CALLS
