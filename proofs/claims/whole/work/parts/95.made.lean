/-! THE CONSTRUCTORS (written by wip/whole/gen95.py) -/
def Nk (U : State) : Prop := va_Nw (.methodLinkNest "StairSteps" 9 yX1_init "StairSteps") U ∧ va_Nw (.methodLinkNest "StairSteps" 27 yX0_init "StairSteps") U ∧ va_Nw (.methodLinkNest "StairSteps" 37 yX3_init "StairSteps") U
theorem Nk.warm {s U : State} (hW : s.WarmedH U.vm) (h : Nk s) : Nk U := ⟨va_Nw.warmM hW h.1, va_Nw.warmM hW h.2.1, va_Nw.warmM hW h.2.2⟩
theorem Nk.same {u U : State} (e : u.vm = U.vm) (h : Nk u) : Nk U := ⟨va_Nw.same rfl e h.1, va_Nw.same rfl e h.2.1, va_Nw.same rfl e h.2.2⟩
def cPre (D : va_G) (cI cZ : ClassId) (n : Nat × va_E) (sz : Nat) (U : State) : Prop := U.heap.size = sz ∧ va_P D cls [n] U.heap ∧ va_K D cls (tyw cI cZ) U ∧ Nk U
def cPost (D : va_G) (n : Nat × va_E) (sz : Nat) (Wc : (Nat → Nat) → va_W) (g : Nat → Nat) (t : State) : Prop := va_P D cls (Wc g) t.heap ∧ va_D (va_A [n] sz) (Wc g)
/-- what a constructor does: one new cell n before, the cells Wc g behind -/
def CM (l : Launch) (D : va_G) (cI cZ : ClassId) (y : MethodName) (bytes : ByteArray) (maxL : Nat) (rm : Room) (As : List Value) (n : Nat × va_E) (Wc : (Nat → Nat) → va_W) : Prop :=
  ∀ sz : Nat, Met l y (Jvm.Cond.code y bytes maxL none :: gt) rm (va_Pc (.ref n.1 :: As) (cPre D cI cZ n sz)) (va_Qv (fun _ : Nat → Nat => True) (cPost D n sz Wc) (va_A [n] sz)) rm.cells rm.slots (va_A [n] sz)
theorem cPre_blind {D : va_G} {cI cZ : ClassId} {n : Nat × va_E} {sz : Nat} {av : List Value} : FrameBlind (va_Pc av (cPre D cI cZ n sz)) := by
  intro a U g mk q
  obtain ⟨q0, q1, qP, qK, qN⟩ := q
  exact ⟨q0, q1, qP, va_K.moved (u := U) (U := U.calling g mk a) (Vm.Alike.refl U.vm) qK, Nk.same (u := U) rfl qN⟩
theorem va_D1 {n : Nat × va_E} {sz : Nat} : va_D (va_A [n] sz) [n] := by
  have h0 : ∀ (k : Nat) (q : Nat × va_E), [n][k]? = some q → k = 0 := fun k q h => by
    have := (List.getElem?_eq_some_iff.mp h).1
    simpa using this
  exact ⟨fun i j p q hi hj _ => by rw [h0 i p hi, h0 j q hj], fun k q hk => va_A.in hk⟩
theorem k_join {A0 : Nat → Prop} {D : va_G} {X w1 : va_W} {n : Nat × va_E} {H H1 : Heap} (hP : va_P D cls (X ++ [n]) H) (hD : va_D A0 (X ++ [n])) (hk : ∀ q : Nat, q < H.size → ¬ va_A [n] H.size q → H1[q]? = H[q]?) (hF : ∀ q, va_A [n] H.size q → A0 q) (hP1 : va_P D cls w1 H1) (hD1 : va_D (va_A [n] H.size) w1) : va_P D cls (X ++ w1) H1 ∧ va_D A0 (X ++ w1) := by
  have hX : ∀ (k : Nat) (q : Nat × va_E), X[k]? = some q → (X ++ [n])[k]? = some q := fun k q h => by
    rw [List.getElem?_append_left (List.getElem?_eq_some_iff.mp h).1]; exact h
  have hn : (X ++ [n])[X.length]? = some n := by simp
  have apart : ∀ (k : Nat) (q : Nat × va_E), X[k]? = some q → q.1 < H.size ∧ ¬ va_A [n] H.size q.1 := by
    intro k q hq
    have hl := (hP k q (hX k q hq)).lt
    refine ⟨hl, fun h => ?_⟩
    rcases h with ⟨k2, e, h⟩ | h
    · have hk2 : k2 = 0 := by
        have := (List.getElem?_eq_some_iff.mp h).1
        simpa using this
      subst hk2
      have h2 : n = (q.1, e) := by simpa using h
      have h3 := hD.1 k X.length q n (hX k q hq) hn (by rw [h2])
      have h4 := (List.getElem?_eq_some_iff.mp hq).1
      omega
    · omega
  refine ⟨va_P.app (fun k q hq => (hP k q (hX k q hq)).kept (hk q.1 (apart k q hq).1 (apart k q hq).2)) hP1, va_D.app ⟨fun i j x y hi hj e => hD.1 i j x y (hX i x hi) (hX j y hj) e, fun k q hq => hD.2 k q (hX k q hq)⟩ (hD1.weaken (fun k q _ h => hF q.1 h)) (fun i j x y hx hy hxy => (apart i x hx).2 (by rw [hxy]; exact hD1.2 j y hy))⟩
theorem k_free {A0 : Nat → Prop} {X : va_W} {n : Nat × va_E} {H0 H : Heap} {locs : List Loc} (hD : va_D A0 (X ++ [n])) (hS : va_S A0 H0 H locs) (hA : ∀ q, H0.size ≤ q → A0 q) : ∀ q, va_A [n] H.size q → A0 q := by
  rintro q (⟨k, e, h⟩ | h)
  · have hk2 : k = 0 := by
      have := (List.getElem?_eq_some_iff.mp h).1
      simpa using this
    subst hk2
    have h2 : n = (q, e) := by simpa using h
    have h3 := hD.2 X.length n (by simp)
    rw [h2] at h3
    exact h3
  · exact hA q (Nat.le_trans hS.1 h)
theorem k_nI : Jvm.Cond.arrayClass (newarray.typeOf .int) ∈ gt := gt_of (i := 128) (by decide +kernel) rfl
theorem k_nZ : Jvm.Cond.arrayClass (newarray.typeOf .boolean) ∈ gt := gt_of (i := 954) (by decide +kernel) rfl
section KROWS
variable {p : Program} {l : Launch} {e : Env} {R : Room} {s : State} {m : MethodId} {args : Array Value} {below : List Frame} {meth : Method} {c : Code} {H : Heap} {locs : List Loc} {cells slots : Nat} {Q : State → Prop}
variable {cc : ByteArray} {nL pc : Nat} {ls : Array Slot} {rest : List Value} {D : va_G} {cI cZ : ClassId} {A : Nat → Prop} {a : Nat} {r : va_W} {o : Nat × va_E} {H0 : Heap} {own : String}
theorem k_call' (hx : p.tables.exec = Jvm.exec) (hb : c.code = cc) (hml : c.maxLocals = nL) (hts : ∀ w ∈ gt, w.before args s = true) (hown : s.vm.findClass own = some m.cls) (hK : va_K D cls (tyw cI cZ) s) (hNk : Nk s) {y : MethodName} {bytes : ByteArray} {maxL : Nat} {rm : Room} {As : List Value} {n : Nat × va_E} {Wc : (Nat → Nat) → va_W} (hM : CM l D cI cZ y bytes maxL rm As n Wc) {index np : Nat}
    (wl : Jvm.Cond.methodLink own index y ∈ gt ∨ va_Nw (.methodLinkNest own index y "StairSteps") s) (wc : Jvm.Cond.code y bytes maxL none ∈ gt) (wi : Jvm.Cond.initialized y.cls ∈ gt) (wm : Jvm.Cond.instanceMethod y ∈ gt) (hy : y.name = "<init>")
    (hd : y.cls ≠ "java/lang/invoke/MethodHandle" ∧ y.cls ≠ "java/lang/invoke/VarHandle" ∧ (parseMethodDescriptor y.desc).map (fun d => d.parameters.length) = some np) (hR : rm.frames + 1 ≤ R.frames ∧ 8 + (maxL + 11) + rm.locals ≤ R.locals) (hn : As.length = np) (hls : ls.size = nL) (hcs : (rest.map fun v => v.category).sum ≤ 8) (hdc : decode cc pc = .ok (.invokespecial index, 3)) (hf : cells + rm.cells ≤ R.cells ∧ slots + rm.slots ≤ R.slots)
    {X : va_W} (hP : va_P D cls (X ++ [n]) H) (hD : va_D A (X ++ [n])) (hS : va_S A H0 H locs) (hA : ∀ q, H0.size ≤ q → A q) {st : List Value} (hst : st = As.reverse ++ .ref n.1 :: rest)
    (kk : ∀ (g : Nat → Nat) (H1 : Heap) (locs1 : List Loc), va_P D cls (X ++ Wc g) H1 → va_D A (X ++ Wc g) → va_S A H0 H1 locs1 → W p l e R s m args below meth c H1 locs1 (cells + rm.cells) (slots + rm.slots) Q (F0 m (pc + 3) ls rest)) : W p l e R s m args below meth c H locs cells slots Q (F0 m pc ls st) := by
  subst hst
  have hF := k_free hD hS hA
  have hPn : va_P D cls [n] H := fun k q hk => hP (X.length + k) q (by
    rw [List.getElem?_append_right (by omega), show X.length + k - X.length = k by omega]; exact hk)
  have hpre : PreS s H (va_Pc (.ref n.1 :: As) (cPre D cI cZ n H.size)) (.ref n.1 :: As) := ⟨cPre_blind, fun U hU hW => ⟨rfl, by rw [hU], by rw [hU]; exact hPn, va_K.moved hW.alike hK, hNk.warm hW⟩⟩
  have hrun : va_Run p l e R s m args below meth c H locs cells slots rm.cells rm.slots (F0 m pc ls (As.reverse ++ .ref n.1 :: rest)) rest (va_Qv (fun _ : Nat → Nat => True) (cPost D n H.size Wc) (va_A [n] H.size) (Value.ref n.1 :: As).toArray) (va_A [n] H.size) := by
    rcases wl with wl | wl
    · exact va_runI (As := As) (rest := rest) ⟨hx, hb, hml, hown, hts⟩ (hM H.size) ⟨callB_of np hts (gt_GoodIn rfl wc) rfl rfl rfl (hts _ wi) (hts _ wl) hd hR, hy, hts _ wm⟩ hpre rfl hn hls rfl (lv_room hcs) hdc hf
    · exact va_runIN (As := As) (rest := rest) (host := "StairSteps") ⟨hx, hb, hml, hown, hts⟩ (hM H.size) ⟨va_cnB np hts (gt_GoodIn rfl wc) rfl rfl rfl wl (hts _ wi) hd hR, hy, hts _ wm⟩ hpre rfl hn hls rfl (lv_room hcs) hdc hf
  refine va_callv hrun hS (fun q _ h => hF q h) hF (fun g t H1 locs1 ht hvm hw hB hz1 hk1 hS1 => ?_)
  obtain ⟨hP1, hD1⟩ := hB
  rw [ht] at hP1
  obtain ⟨hP2, hD2⟩ := k_join hP hD hk1 hF hP1 hD1
  exact kk g H1 locs1 hP2 hD2 hS1
theorem k_call (hx : p.tables.exec = Jvm.exec) (hb : c.code = cc) (hml : c.maxLocals = nL) (hts : ∀ w ∈ gt, w.before args s = true) (hown : s.vm.findClass own = some m.cls) (hK : va_K D cls (tyw cI cZ) s) (hNk : Nk s) {y : MethodName} {bytes : ByteArray} {maxL : Nat} {rm : Room} {As : List Value} {n : Nat × va_E} {Wc : (Nat → Nat) → va_W} (hM : CM l D cI cZ y bytes maxL rm As n Wc) {index np : Nat}
    (wl : Jvm.Cond.methodLink own index y ∈ gt ∨ va_Nw (.methodLinkNest own index y "StairSteps") s) (wc : Jvm.Cond.code y bytes maxL none ∈ gt) (wi : Jvm.Cond.initialized y.cls ∈ gt) (wm : Jvm.Cond.instanceMethod y ∈ gt) (hy : y.name = "<init>")
    (hd : y.cls ≠ "java/lang/invoke/MethodHandle" ∧ y.cls ≠ "java/lang/invoke/VarHandle" ∧ (parseMethodDescriptor y.desc).map (fun d => d.parameters.length) = some np) (hR : rm.frames + 1 ≤ R.frames ∧ 8 + (maxL + 11) + rm.locals ≤ R.locals) (hn : As.length = np) (hls : ls.size = nL) (hcs : (rest.map fun v => v.category).sum ≤ 8) (hdc : decode cc pc = .ok (.invokespecial index, 3)) (hf : cells + rm.cells ≤ R.cells ∧ slots + rm.slots ≤ R.slots)
    (hP : va_P D cls (o :: (r ++ [n])) H) (hD : va_D A (o :: (r ++ [n]))) (hS : va_S A H0 H locs) (hA : ∀ q, H0.size ≤ q → A q) {st : List Value} (hst : st = As.reverse ++ .ref n.1 :: rest)
    (kk : ∀ (g : Nat → Nat) (H1 : Heap) (locs1 : List Loc), va_P D cls (o :: (r ++ Wc g)) H1 → va_D A (o :: (r ++ Wc g)) → va_S A H0 H1 locs1 → W p l e R s m args below meth c H1 locs1 (cells + rm.cells) (slots + rm.slots) Q (F0 m (pc + 3) ls rest)) : W p l e R s m args below meth c H locs cells slots Q (F0 m pc ls st) :=
  k_call' (X := o :: r) hx hb hml hts hown hK hNk hM wl wc wi wm hy hd hR hn hls hcs hdc hf hP hD hS hA hst kk
theorem k_new' {X : va_W} (hx : p.tables.exec = Jvm.exec) (hb : c.code = cc) (hts : ∀ w ∈ gt, w.before args s = true) (hown : s.vm.findClass own = some m.cls) {ci index : Nat} (h6 : ci < 6) (wcl : Jvm.Cond.classLink own index (clN ci) ∈ gt) (wi : Jvm.Cond.instantiable (clN ci) (clS ci) ∈ gt) (wini : Jvm.Cond.initialized (clN ci) ∈ gt) (hK : va_K D cls (tyw cI cZ) s) (hP : va_P D cls X H) (hD : va_D A X) (hS : va_S A H0 H locs) (hA : ∀ q, H0.size ≤ q → A q)
    {fs : List Value} (hfs : ∀ j, j < clS ci → defaultValue (tyO ci j) = vp_V fs j) (hcells : cells + 1 ≤ R.cells) (hslots : slots + clS ci ≤ R.slots) (hdg : decode cc pc = .ok (.new index, 3))
    (kk : ∀ (q : Nat) (H1 : Heap), va_P D cls (X ++ [(q, .inr (ci, fs))]) H1 → va_D A (X ++ [(q, .inr (ci, fs))]) → va_S A H0 H1 locs → W p l e R s m args below meth c H1 locs (cells + 1) (slots + clS ci) Q (F0 m (pc + 3) ls (.ref q :: rest))) : W p l e R s m args below meth c H locs cells slots Q (F0 m pc ls rest) :=
  va_new hx hb hts (lay_all ci h6) (tyO ci) (ty_all ci h6) hown (hts _ wcl) (hts _ wi) (hts _ wini) hK hP hD hS hA (cls_get h6) hfs hcells hslots hdg kk
theorem k_new (hx : p.tables.exec = Jvm.exec) (hb : c.code = cc) (hts : ∀ w ∈ gt, w.before args s = true) (hown : s.vm.findClass own = some m.cls) {ci index : Nat} (h6 : ci < 6) (wcl : Jvm.Cond.classLink own index (clN ci) ∈ gt) (wi : Jvm.Cond.instantiable (clN ci) (clS ci) ∈ gt) (wini : Jvm.Cond.initialized (clN ci) ∈ gt) (hK : va_K D cls (tyw cI cZ) s) (hP : va_P D cls (o :: r) H) (hD : va_D A (o :: r)) (hS : va_S A H0 H locs) (hA : ∀ q, H0.size ≤ q → A q)
    {fs : List Value} (hfs : ∀ j, j < clS ci → defaultValue (tyO ci j) = vp_V fs j) (hcells : cells + 1 ≤ R.cells) (hslots : slots + clS ci ≤ R.slots) (hdg : decode cc pc = .ok (.new index, 3))
    (kk : ∀ (q : Nat) (H1 : Heap), va_P D cls (o :: (r ++ [(q, .inr (ci, fs))])) H1 → va_D A (o :: (r ++ [(q, .inr (ci, fs))])) → va_S A H0 H1 locs → W p l e R s m args below meth c H1 locs (cells + 1) (slots + clS ci) Q (F0 m (pc + 3) ls (.ref q :: rest))) : W p l e R s m args below meth c H locs cells slots Q (F0 m pc ls rest) :=
  k_new' (X := o :: r) hx hb hts hown h6 wcl wi wini hK hP hD hS hA hfs hcells hslots hdg kk
theorem k_put (hx : p.tables.exec = Jvm.exec) (hb : c.code = cc) (hts : ∀ w ∈ gt, w.before args s = true) (hin2 : meth.name = "<init>") (hown : s.vm.findClass own = some m.cls) (hK : va_K D cls (tyw cI cZ) s) {ci : Nat} {fs : List Value} (hP : va_P D cls ((a, .inr (ci, fs)) :: r) H) (hD : va_D A ((a, .inr (ci, fs)) :: r)) (hS : va_S A H0 H locs)
    (h6 : ci < 6) {k index : Nat} {fin : Bool} {v : Value} (hk : k < clS ci) (wl : Jvm.Cond.fieldLink own index ((clT ci) k).1 ((clT ci) k).2.1 ((clT ci) k).2.2.1 ∈ gt) (hdecl : ((clT ci) k).1 = own) (hfin : ((clT ci) k).2.2.2 = fin) (hn : narrow (tyO ci k) v = v) (hfit : fits (tyO ci k) v = true) (hl : k < fs.length) (hdg : decode cc pc = .ok (.putfield index, 3))
    (kk : ∀ (H1 : Heap) (locs1 : List Loc), va_P D cls ((a, .inr (ci, fs.set k v)) :: r) H1 → va_D A ((a, .inr (ci, fs.set k v)) :: r) → va_S A H0 H1 locs1 → W p l e R s m args below meth c H1 locs1 cells slots Q (F0 m (pc + 3) ls rest)) : W p l e R s m args below meth c H locs cells slots Q (F0 m pc ls (v :: .ref a :: rest)) := by
  cases fin with
  | true => exact va_putF hx hb hts (lay_all ci h6) (tyO ci) (ty_all ci h6) (nm_all ci h6) hown hK hP hD hS 0 rfl (cls_get h6) k hk (hts _ wl) (fun _ h => h) hfin hin2 hdecl (ty_all ci h6 k hk) hn hfit hl hdg kk
  | false => exact va_put hx hb hts (lay_all ci h6) (tyO ci) (ty_all ci h6) (nm_all ci h6) hown hK hP hD hS 0 rfl (cls_get h6) k hk (hts _ wl) (fun _ h => h) hfin (ty_all ci h6 k hk) hn hfit hl hdg kk
theorem k_get (hx : p.tables.exec = Jvm.exec) (hb : c.code = cc) (hts : ∀ w ∈ gt, w.before args s = true) (hown : s.vm.findClass own = some m.cls) (hK : va_K D cls (tyw cI cZ) s) {ci : Nat} {fs : List Value} (hP : va_P D cls ((a, .inr (ci, fs)) :: r) H)
    (h6 : ci < 6) {k index : Nat} {v : Value} (hk : k < clS ci) (wl : Jvm.Cond.fieldLink own index ((clT ci) k).1 ((clT ci) k).2.1 ((clT ci) k).2.2.1 ∈ gt) (hv : fs[k]? = some v) (hdg : decode cc pc = .ok (.getfield index, 3))
    (kk : W p l e R s m args below meth c H locs cells slots Q (F0 m (pc + 3) ls (v :: rest))) : W p l e R s m args below meth c H locs cells slots Q (F0 m pc ls (.ref a :: rest)) :=
  va_get hx hb hts (lay_all ci h6) hown hK hP 0 rfl (cls_get h6) k hk (hts _ wl) (fun _ h => h) hv hdg kk
theorem k_newI (hx : p.tables.exec = Jvm.exec) (hb : c.code = cc) (hts : ∀ w ∈ gt, w.before args s = true) (hK : va_K D cls (tyw cI cZ) s) (hP : va_P D cls (o :: r) H) (hD : va_D A (o :: r)) (hS : va_S A H0 H locs) (hA : ∀ q, H0.size ≤ q → A q)
    {n : Int32} {N : Nat} (hn : ¬ n < 0) (hN : n.toNatClampNeg = N) (hB : N * componentBytes .int ≤ 536870912) (hcells : cells + 1 ≤ R.cells) (hslots : slots + N ≤ R.slots) (hdg : decode cc pc = .ok (.newarray .int, 2))
    (kk : ∀ (q : Nat) (H1 : Heap), va_P D cls (o :: (r ++ [(q, .inl (cI, N, .inl (fun _ => 0)))])) H1 → va_D A (o :: (r ++ [(q, .inl (cI, N, .inl (fun _ => 0)))])) → va_S A H0 H1 locs → W p l e R s m args below meth c H1 locs (cells + 1) (slots + N) Q (F0 m (pc + 2) ls (.ref q :: rest))) : W p l e R s m args below meth c H locs cells slots Q (F0 m pc ls (.int n :: rest)) := by
  refine va_newa (atype := .int) (ty := .int) (a0 := (N, .inl (fun _ => 0))) hx hb (hts _ k_nI) rfl hK hP hD hS hA (fun cA => rfl) hn hN hB hcells hslots hdg (fun q cA H1 hK1 hP1 hD1 hS1 => ?_)
  have h1 : s.vm.findClass ("[" ++ FieldType.int.toString) = some cA := (hK1.2 2 (cA, .int) rfl).2
  have h2 : s.vm.findClass ("[" ++ FieldType.int.toString) = some cI := (hK.2 0 (cI, .int) rfl).2
  have h3 : cA = cI := Option.some.inj (h1.symm.trans h2)
  subst h3
  exact kk q H1 hP1 hD1 hS1
theorem k_newZ (hx : p.tables.exec = Jvm.exec) (hb : c.code = cc) (hts : ∀ w ∈ gt, w.before args s = true) (hK : va_K D cls (tyw cI cZ) s) (hP : va_P D cls (o :: r) H) (hD : va_D A (o :: r)) (hS : va_S A H0 H locs) (hA : ∀ q, H0.size ≤ q → A q)
    {n : Int32} {N : Nat} (hn : ¬ n < 0) (hN : n.toNatClampNeg = N) (hB : N * componentBytes .boolean ≤ 536870912) (hcells : cells + 1 ≤ R.cells) (hslots : slots + N ≤ R.slots) (hdg : decode cc pc = .ok (.newarray .boolean, 2))
    (kk : ∀ (q : Nat) (H1 : Heap), va_P D cls (o :: (r ++ [(q, .inl (cZ, N, .inl (fun _ => 0)))])) H1 → va_D A (o :: (r ++ [(q, .inl (cZ, N, .inl (fun _ => 0)))])) → va_S A H0 H1 locs → W p l e R s m args below meth c H1 locs (cells + 1) (slots + N) Q (F0 m (pc + 2) ls (.ref q :: rest))) : W p l e R s m args below meth c H locs cells slots Q (F0 m pc ls (.int n :: rest)) := by
  refine va_newa (atype := .boolean) (ty := .boolean) (a0 := (N, .inl (fun _ => 0))) hx hb (hts _ k_nZ) rfl hK hP hD hS hA (fun cA => rfl) hn hN hB hcells hslots hdg (fun q cA H1 hK1 hP1 hD1 hS1 => ?_)
  have h1 : s.vm.findClass ("[" ++ FieldType.boolean.toString) = some cA := (hK1.2 2 (cA, .boolean) rfl).2
  have h2 : s.vm.findClass ("[" ++ FieldType.boolean.toString) = some cZ := (hK.2 1 (cZ, .boolean) rfl).2
  have h3 : cA = cZ := Option.some.inj (h1.symm.trans h2)
  subst h3
  exact kk q H1 hP1 hD1 hS1
end KROWS
abbrev fs0 : List Value := [.null, .null, .int 0]
theorem fs0_ok : ∀ j, j < clS 0 → defaultValue (tyO 0 j) = vp_V fs0 j := by
  intro j hj
  match j, hj with
  | 0, _ => rfl
  | 1, _ => rfl
  | 2, _ => rfl
  | j + 3, h => exact absurd (show j + 3 < 3 from h) (by omega)
abbrev fs1 : List Value := [.int 0, .int 0, .int 0, .null, .null, .null, .null, .null, .null, .null, .null, .null]
theorem fs1_ok : ∀ j, j < clS 1 → defaultValue (tyO 1 j) = vp_V fs1 j := by
  intro j hj
  match j, hj with
  | 0, _ => rfl
  | 1, _ => rfl
  | 2, _ => rfl
  | 3, _ => rfl
  | 4, _ => rfl
  | 5, _ => rfl
  | 6, _ => rfl
  | 7, _ => rfl
  | 8, _ => rfl
  | 9, _ => rfl
  | 10, _ => rfl
  | 11, _ => rfl
  | j + 12, h => exact absurd (show j + 12 < 12 from h) (by omega)
abbrev fs2 : List Value := [.int 0, .int 0, .null, .int 0]
theorem fs2_ok : ∀ j, j < clS 2 → defaultValue (tyO 2 j) = vp_V fs2 j := by
  intro j hj
  match j, hj with
  | 0, _ => rfl
  | 1, _ => rfl
  | 2, _ => rfl
  | 3, _ => rfl
  | j + 4, h => exact absurd (show j + 4 < 4 from h) (by omega)
abbrev fs3 : List Value := [.null, .int 0, .int 0, .int 0, .int 0, .int 0]
theorem fs3_ok : ∀ j, j < clS 3 → defaultValue (tyO 3 j) = vp_V fs3 j := by
  intro j hj
  match j, hj with
  | 0, _ => rfl
  | 1, _ => rfl
  | 2, _ => rfl
  | 3, _ => rfl
  | 4, _ => rfl
  | 5, _ => rfl
  | j + 6, h => exact absurd (show j + 6 < 6 from h) (by omega)
abbrev fs4 : List Value := [.null, .null, .null, .int 0, .int 0, .null, .null, .null, .null, .null, .null, .null, .long 0, .long 0, .int 0, .int 0, .int 0]
theorem fs4_ok : ∀ j, j < clS 4 → defaultValue (tyO 4 j) = vp_V fs4 j := by
  intro j hj
  match j, hj with
  | 0, _ => rfl
  | 1, _ => rfl
  | 2, _ => rfl
  | 3, _ => rfl
  | 4, _ => rfl
  | 5, _ => rfl
  | 6, _ => rfl
  | 7, _ => rfl
  | 8, _ => rfl
  | 9, _ => rfl
  | 10, _ => rfl
  | 11, _ => rfl
  | 12, _ => rfl
  | 13, _ => rfl
  | 14, _ => rfl
  | 15, _ => rfl
  | 16, _ => rfl
  | j + 17, h => exact absurd (show j + 17 < 17 from h) (by omega)
abbrev fs5 : List Value := [.null, .null, .null, .int 0, .long 0, .long 0, .null, .int 0, .int 0, .int 0, .null, .null, .null, .null, .long 0]
theorem fs5_ok : ∀ j, j < clS 5 → defaultValue (tyO 5 j) = vp_V fs5 j := by
  intro j hj
  match j, hj with
  | 0, _ => rfl
  | 1, _ => rfl
  | 2, _ => rfl
  | 3, _ => rfl
  | 4, _ => rfl
  | 5, _ => rfl
  | 6, _ => rfl
  | 7, _ => rfl
  | 8, _ => rfl
  | 9, _ => rfl
  | 10, _ => rfl
  | 11, _ => rfl
  | 12, _ => rfl
  | 13, _ => rfl
  | 14, _ => rfl
  | j + 15, h => exact absurd (show j + 15 < 15 from h) (by omega)
def wLed (cI : ClassId) (w m : Int32) (N : Nat) (h0 : Nat) (g : Nat → Nat) : va_W := [(h0, .inr (2, [.int w, .int m, .ref (g 1), .int 0])), (g 1, .inl (cI, N, .inl (fun _ => 0)))]
def wHou (cI : ClassId) (h0 : Nat) (g : Nat → Nat) : va_W := [(h0, .inr (1, [.int 0, .int 0, .int 0, .ref (g 1), .ref (g 2), .ref (g 3), .ref (g 4), .ref (g 5), .ref (g 6), .ref (g 7), .ref (g 9), .ref (g 11)])), (g 1, .inl (cI, 3, .inl (fun _ => 0))), (g 2, .inl (cI, 6, .inl (fun _ => 0))), (g 3, .inl (cI, 6, .inl (fun _ => 0))), (g 4, .inl (cI, 6, .inl (fun _ => 0))), (g 5, .inl (cI, 17, .inl (fun _ => 0))), (g 6, .inl (cI, 136, .inl (fun _ => 0))), (g 7, .inr (2, [.int 4, .int 5, .ref (g 8), .int 0])), (g 8, .inl (cI, 20, .inl (fun _ => 0))), (g 9, .inr (2, [.int 3, .int 6, .ref (g 10), .int 0])), (g 10, .inl (cI, 18, .inl (fun _ => 0))), (g 11, .inr (2, [.int 5, .int 6, .ref (g 12), .int 0])), (g 12, .inl (cI, 30, .inl (fun _ => 0)))]
def wCli (cI : ClassId) (h0 : Nat) (g : Nat → Nat) : va_W := [(h0, .inr (0, [.ref (g 1), .ref (g 2), .int (-1)])), (g 1, .inl (cI, 12, .inl (fun _ => 0))), (g 2, .inl (cI, 11, .inl (fun _ => 0)))]
def wRea (cI : ClassId) (h0 : Nat) (g : Nat → Nat) : va_W := [(h0, .inr (3, [.ref (g 1), .int 0, .int 0, .int 0, .int 0, .int 0])), (g 1, .inl (cI, 150, .inl (fun _ => 0)))]
def wSta (cI : ClassId) (h0 : Nat) (g : Nat → Nat) : va_W := [(h0, .inr (4, [.ref (g 1), .ref (g 14), .ref (g 27), .int 0, .int 0, .ref (g 40), .ref (g 53), .ref (g 56), .ref (g 59), .ref (g 61), .ref (g 62), .ref (g 63), .long 0, .long 1, .int 0, .int 0, .int 0])), (g 1, .inr (1, [.int 0, .int 0, .int 0, .ref (g 2), .ref (g 3), .ref (g 4), .ref (g 5), .ref (g 6), .ref (g 7), .ref (g 8), .ref (g 10), .ref (g 12)])), (g 2, .inl (cI, 3, .inl (fun _ => 0))), (g 3, .inl (cI, 6, .inl (fun _ => 0))), (g 4, .inl (cI, 6, .inl (fun _ => 0))), (g 5, .inl (cI, 6, .inl (fun _ => 0))), (g 6, .inl (cI, 17, .inl (fun _ => 0))), (g 7, .inl (cI, 136, .inl (fun _ => 0))), (g 8, .inr (2, [.int 4, .int 5, .ref (g 9), .int 0])), (g 9, .inl (cI, 20, .inl (fun _ => 0))), (g 10, .inr (2, [.int 3, .int 6, .ref (g 11), .int 0])), (g 11, .inl (cI, 18, .inl (fun _ => 0))), (g 12, .inr (2, [.int 5, .int 6, .ref (g 13), .int 0])), (g 13, .inl (cI, 30, .inl (fun _ => 0))), (g 14, .inr (1, [.int 0, .int 0, .int 0, .ref (g 15), .ref (g 16), .ref (g 17), .ref (g 18), .ref (g 19), .ref (g 20), .ref (g 21), .ref (g 23), .ref (g 25)])), (g 15, .inl (cI, 3, .inl (fun _ => 0))), (g 16, .inl (cI, 6, .inl (fun _ => 0))), (g 17, .inl (cI, 6, .inl (fun _ => 0))), (g 18, .inl (cI, 6, .inl (fun _ => 0))), (g 19, .inl (cI, 17, .inl (fun _ => 0))), (g 20, .inl (cI, 136, .inl (fun _ => 0))), (g 21, .inr (2, [.int 4, .int 5, .ref (g 22), .int 0])), (g 22, .inl (cI, 20, .inl (fun _ => 0))), (g 23, .inr (2, [.int 3, .int 6, .ref (g 24), .int 0])), (g 24, .inl (cI, 18, .inl (fun _ => 0))), (g 25, .inr (2, [.int 5, .int 6, .ref (g 26), .int 0])), (g 26, .inl (cI, 30, .inl (fun _ => 0))), (g 27, .inr (1, [.int 0, .int 0, .int 0, .ref (g 28), .ref (g 29), .ref (g 30), .ref (g 31), .ref (g 32), .ref (g 33), .ref (g 34), .ref (g 36), .ref (g 38)])), (g 28, .inl (cI, 3, .inl (fun _ => 0))), (g 29, .inl (cI, 6, .inl (fun _ => 0))), (g 30, .inl (cI, 6, .inl (fun _ => 0))), (g 31, .inl (cI, 6, .inl (fun _ => 0))), (g 32, .inl (cI, 17, .inl (fun _ => 0))), (g 33, .inl (cI, 136, .inl (fun _ => 0))), (g 34, .inr (2, [.int 4, .int 5, .ref (g 35), .int 0])), (g 35, .inl (cI, 20, .inl (fun _ => 0))), (g 36, .inr (2, [.int 3, .int 6, .ref (g 37), .int 0])), (g 37, .inl (cI, 18, .inl (fun _ => 0))), (g 38, .inr (2, [.int 5, .int 6, .ref (g 39), .int 0])), (g 39, .inl (cI, 30, .inl (fun _ => 0))), (g 40, .inr (1, [.int 0, .int 0, .int 0, .ref (g 41), .ref (g 42), .ref (g 43), .ref (g 44), .ref (g 45), .ref (g 46), .ref (g 47), .ref (g 49), .ref (g 51)])), (g 41, .inl (cI, 3, .inl (fun _ => 0))), (g 42, .inl (cI, 6, .inl (fun _ => 0))), (g 43, .inl (cI, 6, .inl (fun _ => 0))), (g 44, .inl (cI, 6, .inl (fun _ => 0))), (g 45, .inl (cI, 17, .inl (fun _ => 0))), (g 46, .inl (cI, 136, .inl (fun _ => 0))), (g 47, .inr (2, [.int 4, .int 5, .ref (g 48), .int 0])), (g 48, .inl (cI, 20, .inl (fun _ => 0))), (g 49, .inr (2, [.int 3, .int 6, .ref (g 50), .int 0])), (g 50, .inl (cI, 18, .inl (fun _ => 0))), (g 51, .inr (2, [.int 5, .int 6, .ref (g 52), .int 0])), (g 52, .inl (cI, 30, .inl (fun _ => 0))), (g 53, .inr (0, [.ref (g 54), .ref (g 55), .int (-1)])), (g 54, .inl (cI, 12, .inl (fun _ => 0))), (g 55, .inl (cI, 11, .inl (fun _ => 0))), (g 56, .inr (0, [.ref (g 57), .ref (g 58), .int (-1)])), (g 57, .inl (cI, 12, .inl (fun _ => 0))), (g 58, .inl (cI, 11, .inl (fun _ => 0))), (g 59, .inr (3, [.ref (g 60), .int 0, .int 0, .int 0, .int 0, .int 0])), (g 60, .inl (cI, 150, .inl (fun _ => 0))), (g 61, .inl (cI, 12, .inl (fun _ => 0))), (g 62, .inl (cI, 12, .inl (fun _ => 0))), (g 63, .inl (cI, 10, .inl (fun _ => 0)))]
def wMod (cI cZ : ClassId) (h0 : Nat) (g : Nat → Nat) : va_W := [(h0, .inr (5, [.ref (g 1), .ref (g 2), .ref (g 3), .int 0, .long 0, .long 1, .ref (g 4), .int 0, .int 0, .int 0, .ref (g 5), .ref (g 6), .ref (g 7), .ref (g 8), .long 0])), (g 1, .inl (cI, 1032, .inl (fun _ => 0))), (g 2, .inl (cZ, 2, .inl (fun _ => 0))), (g 3, .inl (cI, 150, .inl (fun _ => 0))), (g 4, .inl (cI, 3, .inl (fun _ => 0))), (g 5, .inl (cI, 12, .inl (fun _ => 0))), (g 6, .inl (cI, 13, .inl (fun _ => 0))), (g 7, .inl (cI, 13, .inl (fun _ => 0))), (g 8, .inl (cI, 6, .inl (fun _ => 0)))]
abbrev rmL (N : Nat) : Room := { frames := 1, cells := 1, slots := N, locals := 12 }
abbrev rmH : Room := { frames := 2, cells := 12, slots := 254, locals := 40 }
abbrev rmC : Room := { frames := 1, cells := 2, slots := 23, locals := 12 }
abbrev rmR : Room := { frames := 1, cells := 1, slots := 150, locals := 12 }
abbrev rmT : Room := { frames := 3, cells := 63, slots := 1306, locals := 64 }
abbrev rmM : Room := { frames := 1, cells := 8, slots := 1231, locals := 12 }
theorem wk_2 : (Jvm.Cond.initialized "StairSteps$House") ∈ gt := gt_of (i := 81) (by decide +kernel) rfl
theorem wk_3 : (Jvm.Cond.initialized "StairSteps$Ledger") ∈ gt := gt_of (i := 82) (by decide +kernel) rfl
theorem wk_4 : (Jvm.Cond.initialized "StairSteps$Climb") ∈ gt := gt_of (i := 83) (by decide +kernel) rfl
theorem wk_5 : (Jvm.Cond.initialized "StairSteps$Reader") ∈ gt := gt_of (i := 84) (by decide +kernel) rfl
theorem wk_20 : (Jvm.Cond.methodLink "StairSteps" (1 : Nat) ({ cls := "java/lang/Object", name := "<init>", desc := "()V" } : Jvm.MethodName)) ∈ gt := gt_of (i := 99) (by decide +kernel) rfl
theorem wk_21 : (Jvm.Cond.instanceMethod ({ cls := "java/lang/Object", name := "<init>", desc := "()V" } : Jvm.MethodName)) ∈ gt := gt_of (i := 100) (by decide +kernel) rfl
theorem wk_23 : (Jvm.Cond.classLink "StairSteps" (7 : Nat) "StairSteps$House") ∈ gt := gt_of (i := 102) (by decide +kernel) rfl
theorem wk_24 : (Jvm.Cond.instantiable "StairSteps$House" (12 : Nat)) ∈ gt := gt_of (i := 103) (by decide +kernel) rfl
theorem wk_26 : (Jvm.Cond.instanceMethod ({ cls := "StairSteps$House", name := "<init>", desc := "()V" } : Jvm.MethodName)) ∈ gt := gt_of (i := 105) (by decide +kernel) rfl
theorem wk_27 : (Jvm.Cond.code ({ cls := "StairSteps$House", name := "<init>", desc := "()V" } : Jvm.MethodName) prog_3_method_1_code (1 : Nat) (Option.none : Option Jvm.ClassFile.FieldType)) ∈ gt := gt_of (i := 106) (by decide +kernel) rfl
theorem wk_28 : (Jvm.Cond.methodLink "StairSteps$House" (5 : Nat) ({ cls := "java/lang/Object", name := "<init>", desc := "()V" } : Jvm.MethodName)) ∈ gt := gt_of (i := 107) (by decide +kernel) rfl
theorem wk_29 : (Jvm.Cond.classLink "StairSteps$House" (30 : Nat) "StairSteps$Ledger") ∈ gt := gt_of (i := 108) (by decide +kernel) rfl
theorem wk_30 : (Jvm.Cond.instantiable "StairSteps$Ledger" (4 : Nat)) ∈ gt := gt_of (i := 109) (by decide +kernel) rfl
theorem wk_31 : (Jvm.Cond.methodLink "StairSteps$House" (32 : Nat) ({ cls := "StairSteps$Ledger", name := "<init>", desc := "(II)V" } : Jvm.MethodName)) ∈ gt := gt_of (i := 110) (by decide +kernel) rfl
theorem wk_32 : (Jvm.Cond.instanceMethod ({ cls := "StairSteps$Ledger", name := "<init>", desc := "(II)V" } : Jvm.MethodName)) ∈ gt := gt_of (i := 111) (by decide +kernel) rfl
theorem wk_33 : (Jvm.Cond.code ({ cls := "StairSteps$Ledger", name := "<init>", desc := "(II)V" } : Jvm.MethodName) prog_4_method_1_code (3 : Nat) (Option.none : Option Jvm.ClassFile.FieldType)) ∈ gt := gt_of (i := 112) (by decide +kernel) rfl
theorem wk_34 : (Jvm.Cond.methodLink "StairSteps$Ledger" (1 : Nat) ({ cls := "java/lang/Object", name := "<init>", desc := "()V" } : Jvm.MethodName)) ∈ gt := gt_of (i := 113) (by decide +kernel) rfl
theorem wk_35 : (Jvm.Cond.fieldLink "StairSteps$Ledger" (7 : Nat) "StairSteps$Ledger" "width" "I") ∈ gt := gt_of (i := 114) (by decide +kernel) rfl
theorem wk_36 : (Jvm.Cond.fieldLink "StairSteps$Ledger" (13 : Nat) "StairSteps$Ledger" "most" "I") ∈ gt := gt_of (i := 115) (by decide +kernel) rfl
theorem wk_37 : (Jvm.Cond.fieldLink "StairSteps$Ledger" (16 : Nat) "StairSteps$Ledger" "cells" "[I") ∈ gt := gt_of (i := 116) (by decide +kernel) rfl
theorem wk_58 : (Jvm.Cond.fieldLink "StairSteps$House" (11 : Nat) "StairSteps$House" "ownerKinds" "[I") ∈ gt := gt_of (i := 137) (by decide +kernel) rfl
theorem wk_59 : (Jvm.Cond.fieldLink "StairSteps$House" (15 : Nat) "StairSteps$House" "goerKinds" "[I") ∈ gt := gt_of (i := 138) (by decide +kernel) rfl
theorem wk_60 : (Jvm.Cond.fieldLink "StairSteps$House" (18 : Nat) "StairSteps$House" "legs" "[I") ∈ gt := gt_of (i := 139) (by decide +kernel) rfl
theorem wk_61 : (Jvm.Cond.fieldLink "StairSteps$House" (21 : Nat) "StairSteps$House" "goerFlights" "[I") ∈ gt := gt_of (i := 140) (by decide +kernel) rfl
theorem wk_62 : (Jvm.Cond.fieldLink "StairSteps$House" (24 : Nat) "StairSteps$House" "now" "[I") ∈ gt := gt_of (i := 141) (by decide +kernel) rfl
theorem wk_63 : (Jvm.Cond.fieldLink "StairSteps$House" (27 : Nat) "StairSteps$House" "past" "[I") ∈ gt := gt_of (i := 142) (by decide +kernel) rfl
theorem wk_64 : (Jvm.Cond.fieldLink "StairSteps$House" (35 : Nat) "StairSteps$House" "seen" "LStairSteps$Ledger;") ∈ gt := gt_of (i := 143) (by decide +kernel) rfl
theorem wk_66 : (Jvm.Cond.fieldLink "StairSteps$House" (39 : Nat) "StairSteps$House" "notes" "LStairSteps$Ledger;") ∈ gt := gt_of (i := 145) (by decide +kernel) rfl
theorem wk_68 : (Jvm.Cond.fieldLink "StairSteps$House" (42 : Nat) "StairSteps$House" "marks" "LStairSteps$Ledger;") ∈ gt := gt_of (i := 147) (by decide +kernel) rfl
theorem wk_95 : (Jvm.Cond.classLink "StairSteps" (25 : Nat) "StairSteps$Climb") ∈ gt := gt_of (i := 174) (by decide +kernel) rfl
theorem wk_96 : (Jvm.Cond.instantiable "StairSteps$Climb" (3 : Nat)) ∈ gt := gt_of (i := 175) (by decide +kernel) rfl
theorem wk_98 : (Jvm.Cond.instanceMethod ({ cls := "StairSteps$Climb", name := "<init>", desc := "()V" } : Jvm.MethodName)) ∈ gt := gt_of (i := 177) (by decide +kernel) rfl
theorem wk_99 : (Jvm.Cond.code ({ cls := "StairSteps$Climb", name := "<init>", desc := "()V" } : Jvm.MethodName) prog_2_method_1_code (1 : Nat) (Option.none : Option Jvm.ClassFile.FieldType)) ∈ gt := gt_of (i := 178) (by decide +kernel) rfl
theorem wk_100 : (Jvm.Cond.methodLink "StairSteps$Climb" (3 : Nat) ({ cls := "java/lang/Object", name := "<init>", desc := "()V" } : Jvm.MethodName)) ∈ gt := gt_of (i := 179) (by decide +kernel) rfl
theorem wk_101 : (Jvm.Cond.fieldLink "StairSteps$Climb" (9 : Nat) "StairSteps$Climb" "fewest" "[I") ∈ gt := gt_of (i := 180) (by decide +kernel) rfl
theorem wk_102 : (Jvm.Cond.fieldLink "StairSteps$Climb" (15 : Nat) "StairSteps$Climb" "row" "[I") ∈ gt := gt_of (i := 181) (by decide +kernel) rfl
theorem wk_103 : (Jvm.Cond.fieldLink "StairSteps$Climb" (18 : Nat) "StairSteps$Climb" "length" "I") ∈ gt := gt_of (i := 182) (by decide +kernel) rfl
theorem wk_112 : (Jvm.Cond.classLink "StairSteps" (35 : Nat) "StairSteps$Reader") ∈ gt := gt_of (i := 191) (by decide +kernel) rfl
theorem wk_113 : (Jvm.Cond.instantiable "StairSteps$Reader" (6 : Nat)) ∈ gt := gt_of (i := 192) (by decide +kernel) rfl
theorem wk_115 : (Jvm.Cond.instanceMethod ({ cls := "StairSteps$Reader", name := "<init>", desc := "()V" } : Jvm.MethodName)) ∈ gt := gt_of (i := 194) (by decide +kernel) rfl
theorem wk_116 : (Jvm.Cond.code ({ cls := "StairSteps$Reader", name := "<init>", desc := "()V" } : Jvm.MethodName) prog_5_method_1_code (1 : Nat) (Option.none : Option Jvm.ClassFile.FieldType)) ∈ gt := gt_of (i := 195) (by decide +kernel) rfl
theorem wk_117 : (Jvm.Cond.methodLink "StairSteps$Reader" (3 : Nat) ({ cls := "java/lang/Object", name := "<init>", desc := "()V" } : Jvm.MethodName)) ∈ gt := gt_of (i := 196) (by decide +kernel) rfl
theorem wk_118 : (Jvm.Cond.fieldLink "StairSteps$Reader" (9 : Nat) "StairSteps$Reader" "bytes" "[I") ∈ gt := gt_of (i := 197) (by decide +kernel) rfl
theorem wk_139 : (Jvm.Cond.fieldLink "StairSteps" (10 : Nat) "StairSteps" "house" "LStairSteps$House;") ∈ gt := gt_of (i := 218) (by decide +kernel) rfl
theorem wk_140 : (Jvm.Cond.fieldLink "StairSteps" (16 : Nat) "StairSteps" "firstImage" "LStairSteps$House;") ∈ gt := gt_of (i := 219) (by decide +kernel) rfl
theorem wk_141 : (Jvm.Cond.fieldLink "StairSteps" (19 : Nat) "StairSteps" "secondImage" "LStairSteps$House;") ∈ gt := gt_of (i := 220) (by decide +kernel) rfl
theorem wk_144 : (Jvm.Cond.fieldLink "StairSteps" (22 : Nat) "StairSteps" "trial" "LStairSteps$House;") ∈ gt := gt_of (i := 223) (by decide +kernel) rfl
theorem wk_145 : (Jvm.Cond.fieldLink "StairSteps" (28 : Nat) "StairSteps" "climb" "LStairSteps$Climb;") ∈ gt := gt_of (i := 224) (by decide +kernel) rfl
theorem wk_146 : (Jvm.Cond.fieldLink "StairSteps" (32 : Nat) "StairSteps" "otherClimb" "LStairSteps$Climb;") ∈ gt := gt_of (i := 225) (by decide +kernel) rfl
theorem wk_147 : (Jvm.Cond.fieldLink "StairSteps" (38 : Nat) "StairSteps" "reader" "LStairSteps$Reader;") ∈ gt := gt_of (i := 226) (by decide +kernel) rfl
theorem wk_148 : (Jvm.Cond.fieldLink "StairSteps" (42 : Nat) "StairSteps" "ways" "[I") ∈ gt := gt_of (i := 227) (by decide +kernel) rfl
theorem wk_149 : (Jvm.Cond.fieldLink "StairSteps" (46 : Nat) "StairSteps" "waysBefore" "[I") ∈ gt := gt_of (i := 228) (by decide +kernel) rfl
theorem wk_150 : (Jvm.Cond.fieldLink "StairSteps" (49 : Nat) "StairSteps" "alike" "[I") ∈ gt := gt_of (i := 229) (by decide +kernel) rfl
theorem wk_151 : (Jvm.Cond.fieldLink "StairSteps" (52 : Nat) "StairSteps" "above" "J") ∈ gt := gt_of (i := 230) (by decide +kernel) rfl
theorem wk_152 : (Jvm.Cond.fieldLink "StairSteps" (56 : Nat) "StairSteps" "below" "J") ∈ gt := gt_of (i := 231) (by decide +kernel) rfl
theorem wk_828 : (Jvm.Cond.methodLink "StairStepsModel" (1 : Nat) ({ cls := "java/lang/Object", name := "<init>", desc := "()V" } : Jvm.MethodName)) ∈ gt := gt_of (i := 907) (by decide +kernel) rfl
theorem wk_829 : (Jvm.Cond.fieldLink "StairStepsModel" (7 : Nat) "StairStepsModel" "w" "[I") ∈ gt := gt_of (i := 908) (by decide +kernel) rfl
theorem wk_830 : (Jvm.Cond.fieldLink "StairStepsModel" (13 : Nat) "StairStepsModel" "isKept" "[Z") ∈ gt := gt_of (i := 909) (by decide +kernel) rfl
theorem wk_831 : (Jvm.Cond.fieldLink "StairStepsModel" (17 : Nat) "StairStepsModel" "text" "[I") ∈ gt := gt_of (i := 910) (by decide +kernel) rfl
theorem wk_832 : (Jvm.Cond.fieldLink "StairStepsModel" (42 : Nat) "StairStepsModel" "texted" "I") ∈ gt := gt_of (i := 911) (by decide +kernel) rfl
theorem wk_833 : (Jvm.Cond.fieldLink "StairStepsModel" (20 : Nat) "StairStepsModel" "above" "J") ∈ gt := gt_of (i := 912) (by decide +kernel) rfl
theorem wk_834 : (Jvm.Cond.fieldLink "StairStepsModel" (24 : Nat) "StairStepsModel" "below" "J") ∈ gt := gt_of (i := 913) (by decide +kernel) rfl
theorem wk_835 : (Jvm.Cond.fieldLink "StairStepsModel" (27 : Nat) "StairStepsModel" "statuses" "[I") ∈ gt := gt_of (i := 914) (by decide +kernel) rfl
theorem wk_839 : (Jvm.Cond.fieldLink "StairStepsModel" (30 : Nat) "StairStepsModel" "left" "[I") ∈ gt := gt_of (i := 918) (by decide +kernel) rfl
theorem wk_840 : (Jvm.Cond.fieldLink "StairStepsModel" (33 : Nat) "StairStepsModel" "one" "[I") ∈ gt := gt_of (i := 919) (by decide +kernel) rfl
theorem wk_841 : (Jvm.Cond.fieldLink "StairStepsModel" (36 : Nat) "StairStepsModel" "two" "[I") ∈ gt := gt_of (i := 920) (by decide +kernel) rfl
theorem wk_842 : (Jvm.Cond.fieldLink "StairStepsModel" (39 : Nat) "StairStepsModel" "by" "[I") ∈ gt := gt_of (i := 921) (by decide +kernel) rfl
theorem wk_ocode : Jvm.Cond.code Lib.objectInit ⟨#[0xb1]⟩ 1 none ∈ gt := gt_of (i := 101) (by decide +kernel) rfl
theorem dk_2_0 : decode cX2_init 0 = .ok (.aload_n 0, 1) := by decide +kernel
theorem dk_2_1 : decode cX2_init 1 = .ok (.invokespecial 1, 3) := by decide +kernel
theorem dk_2_4 : decode cX2_init 4 = .ok (.aload_n 0, 1) := by decide +kernel
theorem dk_2_5 : decode cX2_init 5 = .ok (.iload_n 1, 1) := by decide +kernel
theorem dk_2_6 : decode cX2_init 6 = .ok (.ifCond .le 7, 3) := by decide +kernel
theorem dk_2_9 : decode cX2_init 9 = .ok (.iload_n 1, 1) := by decide +kernel
theorem dk_2_10 : decode cX2_init 10 = .ok (.goto 4, 3) := by decide +kernel
theorem dk_2_14 : decode cX2_init 14 = .ok (.putfield 7, 3) := by decide +kernel
theorem dk_2_17 : decode cX2_init 17 = .ok (.aload_n 0, 1) := by decide +kernel
theorem dk_2_18 : decode cX2_init 18 = .ok (.iload_n 2, 1) := by decide +kernel
theorem dk_2_19 : decode cX2_init 19 = .ok (.ifCond .le 7, 3) := by decide +kernel
theorem dk_2_22 : decode cX2_init 22 = .ok (.iload_n 2, 1) := by decide +kernel
theorem dk_2_23 : decode cX2_init 23 = .ok (.goto 4, 3) := by decide +kernel
theorem dk_2_27 : decode cX2_init 27 = .ok (.putfield 13, 3) := by decide +kernel
theorem dk_2_30 : decode cX2_init 30 = .ok (.aload_n 0, 1) := by decide +kernel
theorem dk_2_31 : decode cX2_init 31 = .ok (.aload_n 0, 1) := by decide +kernel
theorem dk_2_32 : decode cX2_init 32 = .ok (.getfield 7, 3) := by decide +kernel
theorem dk_2_35 : decode cX2_init 35 = .ok (.aload_n 0, 1) := by decide +kernel
theorem dk_2_36 : decode cX2_init 36 = .ok (.getfield 13, 3) := by decide +kernel
theorem dk_2_39 : decode cX2_init 39 = .ok (.imul, 1) := by decide +kernel
theorem dk_2_40 : decode cX2_init 40 = .ok (.newarray .int, 2) := by decide +kernel
theorem dk_2_42 : decode cX2_init 42 = .ok (.putfield 16, 3) := by decide +kernel
theorem dk_2_45 : decode cX2_init 45 = .ok (.return_, 1) := by decide +kernel
theorem dk_1_0 : decode cX1_init 0 = .ok (.aload_n 0, 1) := by decide +kernel
theorem dk_1_1 : decode cX1_init 1 = .ok (.invokespecial 5, 3) := by decide +kernel
theorem dk_1_4 : decode cX1_init 4 = .ok (.aload_n 0, 1) := by decide +kernel
theorem dk_1_5 : decode cX1_init 5 = .ok (.iconst 3, 1) := by decide +kernel
theorem dk_1_6 : decode cX1_init 6 = .ok (.newarray .int, 2) := by decide +kernel
theorem dk_1_8 : decode cX1_init 8 = .ok (.putfield 11, 3) := by decide +kernel
theorem dk_1_11 : decode cX1_init 11 = .ok (.aload_n 0, 1) := by decide +kernel
theorem dk_1_12 : decode cX1_init 12 = .ok (.bipush 6, 2) := by decide +kernel
theorem dk_1_14 : decode cX1_init 14 = .ok (.newarray .int, 2) := by decide +kernel
theorem dk_1_16 : decode cX1_init 16 = .ok (.putfield 15, 3) := by decide +kernel
theorem dk_1_19 : decode cX1_init 19 = .ok (.aload_n 0, 1) := by decide +kernel
theorem dk_1_20 : decode cX1_init 20 = .ok (.bipush 6, 2) := by decide +kernel
theorem dk_1_22 : decode cX1_init 22 = .ok (.newarray .int, 2) := by decide +kernel
theorem dk_1_24 : decode cX1_init 24 = .ok (.putfield 18, 3) := by decide +kernel
theorem dk_1_27 : decode cX1_init 27 = .ok (.aload_n 0, 1) := by decide +kernel
theorem dk_1_28 : decode cX1_init 28 = .ok (.bipush 6, 2) := by decide +kernel
theorem dk_1_30 : decode cX1_init 30 = .ok (.newarray .int, 2) := by decide +kernel
theorem dk_1_32 : decode cX1_init 32 = .ok (.putfield 21, 3) := by decide +kernel
theorem dk_1_35 : decode cX1_init 35 = .ok (.aload_n 0, 1) := by decide +kernel
theorem dk_1_36 : decode cX1_init 36 = .ok (.bipush 17, 2) := by decide +kernel
theorem dk_1_38 : decode cX1_init 38 = .ok (.newarray .int, 2) := by decide +kernel
theorem dk_1_40 : decode cX1_init 40 = .ok (.putfield 24, 3) := by decide +kernel
theorem dk_1_43 : decode cX1_init 43 = .ok (.aload_n 0, 1) := by decide +kernel
theorem dk_1_44 : decode cX1_init 44 = .ok (.sipush 136, 3) := by decide +kernel
theorem dk_1_47 : decode cX1_init 47 = .ok (.newarray .int, 2) := by decide +kernel
theorem dk_1_49 : decode cX1_init 49 = .ok (.putfield 27, 3) := by decide +kernel
theorem dk_1_52 : decode cX1_init 52 = .ok (.aload_n 0, 1) := by decide +kernel
theorem dk_1_53 : decode cX1_init 53 = .ok (.new 30, 3) := by decide +kernel
theorem dk_1_56 : decode cX1_init 56 = .ok (.dup, 1) := by decide +kernel
theorem dk_1_57 : decode cX1_init 57 = .ok (.iconst 4, 1) := by decide +kernel
theorem dk_1_58 : decode cX1_init 58 = .ok (.iconst 5, 1) := by decide +kernel
theorem dk_1_59 : decode cX1_init 59 = .ok (.invokespecial 32, 3) := by decide +kernel
theorem dk_1_62 : decode cX1_init 62 = .ok (.putfield 35, 3) := by decide +kernel
theorem dk_1_65 : decode cX1_init 65 = .ok (.aload_n 0, 1) := by decide +kernel
theorem dk_1_66 : decode cX1_init 66 = .ok (.new 30, 3) := by decide +kernel
theorem dk_1_69 : decode cX1_init 69 = .ok (.dup, 1) := by decide +kernel
theorem dk_1_70 : decode cX1_init 70 = .ok (.iconst 3, 1) := by decide +kernel
theorem dk_1_71 : decode cX1_init 71 = .ok (.bipush 6, 2) := by decide +kernel
theorem dk_1_73 : decode cX1_init 73 = .ok (.invokespecial 32, 3) := by decide +kernel
theorem dk_1_76 : decode cX1_init 76 = .ok (.putfield 39, 3) := by decide +kernel
theorem dk_1_79 : decode cX1_init 79 = .ok (.aload_n 0, 1) := by decide +kernel
theorem dk_1_80 : decode cX1_init 80 = .ok (.new 30, 3) := by decide +kernel
theorem dk_1_83 : decode cX1_init 83 = .ok (.dup, 1) := by decide +kernel
theorem dk_1_84 : decode cX1_init 84 = .ok (.iconst 5, 1) := by decide +kernel
theorem dk_1_85 : decode cX1_init 85 = .ok (.bipush 6, 2) := by decide +kernel
theorem dk_1_87 : decode cX1_init 87 = .ok (.invokespecial 32, 3) := by decide +kernel
theorem dk_1_90 : decode cX1_init 90 = .ok (.putfield 42, 3) := by decide +kernel
theorem dk_1_93 : decode cX1_init 93 = .ok (.return_, 1) := by decide +kernel
theorem dk_0_0 : decode cX0_init 0 = .ok (.aload_n 0, 1) := by decide +kernel
theorem dk_0_1 : decode cX0_init 1 = .ok (.invokespecial 3, 3) := by decide +kernel
theorem dk_0_4 : decode cX0_init 4 = .ok (.aload_n 0, 1) := by decide +kernel
theorem dk_0_5 : decode cX0_init 5 = .ok (.bipush 12, 2) := by decide +kernel
theorem dk_0_7 : decode cX0_init 7 = .ok (.newarray .int, 2) := by decide +kernel
theorem dk_0_9 : decode cX0_init 9 = .ok (.putfield 9, 3) := by decide +kernel
theorem dk_0_12 : decode cX0_init 12 = .ok (.aload_n 0, 1) := by decide +kernel
theorem dk_0_13 : decode cX0_init 13 = .ok (.bipush 11, 2) := by decide +kernel
theorem dk_0_15 : decode cX0_init 15 = .ok (.newarray .int, 2) := by decide +kernel
theorem dk_0_17 : decode cX0_init 17 = .ok (.putfield 15, 3) := by decide +kernel
theorem dk_0_20 : decode cX0_init 20 = .ok (.aload_n 0, 1) := by decide +kernel
theorem dk_0_21 : decode cX0_init 21 = .ok (.iconst (-1), 1) := by decide +kernel
theorem dk_0_22 : decode cX0_init 22 = .ok (.putfield 18, 3) := by decide +kernel
theorem dk_0_25 : decode cX0_init 25 = .ok (.return_, 1) := by decide +kernel
theorem dk_3_0 : decode cX3_init 0 = .ok (.aload_n 0, 1) := by decide +kernel
theorem dk_3_1 : decode cX3_init 1 = .ok (.invokespecial 3, 3) := by decide +kernel
theorem dk_3_4 : decode cX3_init 4 = .ok (.aload_n 0, 1) := by decide +kernel
theorem dk_3_5 : decode cX3_init 5 = .ok (.sipush 150, 3) := by decide +kernel
theorem dk_3_8 : decode cX3_init 8 = .ok (.newarray .int, 2) := by decide +kernel
theorem dk_3_10 : decode cX3_init 10 = .ok (.putfield 9, 3) := by decide +kernel
theorem dk_3_13 : decode cX3_init 13 = .ok (.return_, 1) := by decide +kernel
theorem dk_4_0 : decode cX4_init 0 = .ok (.aload_n 0, 1) := by decide +kernel
theorem dk_4_1 : decode cX4_init 1 = .ok (.invokespecial 1, 3) := by decide +kernel
theorem dk_4_4 : decode cX4_init 4 = .ok (.aload_n 0, 1) := by decide +kernel
theorem dk_4_5 : decode cX4_init 5 = .ok (.new 7, 3) := by decide +kernel
theorem dk_4_8 : decode cX4_init 8 = .ok (.dup, 1) := by decide +kernel
theorem dk_4_9 : decode cX4_init 9 = .ok (.invokespecial 9, 3) := by decide +kernel
theorem dk_4_12 : decode cX4_init 12 = .ok (.putfield 10, 3) := by decide +kernel
theorem dk_4_15 : decode cX4_init 15 = .ok (.aload_n 0, 1) := by decide +kernel
theorem dk_4_16 : decode cX4_init 16 = .ok (.new 7, 3) := by decide +kernel
theorem dk_4_19 : decode cX4_init 19 = .ok (.dup, 1) := by decide +kernel
theorem dk_4_20 : decode cX4_init 20 = .ok (.invokespecial 9, 3) := by decide +kernel
theorem dk_4_23 : decode cX4_init 23 = .ok (.putfield 16, 3) := by decide +kernel
theorem dk_4_26 : decode cX4_init 26 = .ok (.aload_n 0, 1) := by decide +kernel
theorem dk_4_27 : decode cX4_init 27 = .ok (.new 7, 3) := by decide +kernel
theorem dk_4_30 : decode cX4_init 30 = .ok (.dup, 1) := by decide +kernel
theorem dk_4_31 : decode cX4_init 31 = .ok (.invokespecial 9, 3) := by decide +kernel
theorem dk_4_34 : decode cX4_init 34 = .ok (.putfield 19, 3) := by decide +kernel
theorem dk_4_37 : decode cX4_init 37 = .ok (.aload_n 0, 1) := by decide +kernel
theorem dk_4_38 : decode cX4_init 38 = .ok (.new 7, 3) := by decide +kernel
theorem dk_4_41 : decode cX4_init 41 = .ok (.dup, 1) := by decide +kernel
theorem dk_4_42 : decode cX4_init 42 = .ok (.invokespecial 9, 3) := by decide +kernel
theorem dk_4_45 : decode cX4_init 45 = .ok (.putfield 22, 3) := by decide +kernel
theorem dk_4_48 : decode cX4_init 48 = .ok (.aload_n 0, 1) := by decide +kernel
theorem dk_4_49 : decode cX4_init 49 = .ok (.new 25, 3) := by decide +kernel
theorem dk_4_52 : decode cX4_init 52 = .ok (.dup, 1) := by decide +kernel
theorem dk_4_53 : decode cX4_init 53 = .ok (.invokespecial 27, 3) := by decide +kernel
theorem dk_4_56 : decode cX4_init 56 = .ok (.putfield 28, 3) := by decide +kernel
theorem dk_4_59 : decode cX4_init 59 = .ok (.aload_n 0, 1) := by decide +kernel
theorem dk_4_60 : decode cX4_init 60 = .ok (.new 25, 3) := by decide +kernel
theorem dk_4_63 : decode cX4_init 63 = .ok (.dup, 1) := by decide +kernel
theorem dk_4_64 : decode cX4_init 64 = .ok (.invokespecial 27, 3) := by decide +kernel
theorem dk_4_67 : decode cX4_init 67 = .ok (.putfield 32, 3) := by decide +kernel
theorem dk_4_70 : decode cX4_init 70 = .ok (.aload_n 0, 1) := by decide +kernel
theorem dk_4_71 : decode cX4_init 71 = .ok (.new 35, 3) := by decide +kernel
theorem dk_4_74 : decode cX4_init 74 = .ok (.dup, 1) := by decide +kernel
theorem dk_4_75 : decode cX4_init 75 = .ok (.invokespecial 37, 3) := by decide +kernel
theorem dk_4_78 : decode cX4_init 78 = .ok (.putfield 38, 3) := by decide +kernel
theorem dk_4_81 : decode cX4_init 81 = .ok (.aload_n 0, 1) := by decide +kernel
theorem dk_4_82 : decode cX4_init 82 = .ok (.bipush 12, 2) := by decide +kernel
theorem dk_4_84 : decode cX4_init 84 = .ok (.newarray .int, 2) := by decide +kernel
theorem dk_4_86 : decode cX4_init 86 = .ok (.putfield 42, 3) := by decide +kernel
theorem dk_4_89 : decode cX4_init 89 = .ok (.aload_n 0, 1) := by decide +kernel
theorem dk_4_90 : decode cX4_init 90 = .ok (.bipush 12, 2) := by decide +kernel
theorem dk_4_92 : decode cX4_init 92 = .ok (.newarray .int, 2) := by decide +kernel
theorem dk_4_94 : decode cX4_init 94 = .ok (.putfield 46, 3) := by decide +kernel
theorem dk_4_97 : decode cX4_init 97 = .ok (.aload_n 0, 1) := by decide +kernel
theorem dk_4_98 : decode cX4_init 98 = .ok (.bipush 10, 2) := by decide +kernel
theorem dk_4_100 : decode cX4_init 100 = .ok (.newarray .int, 2) := by decide +kernel
theorem dk_4_102 : decode cX4_init 102 = .ok (.putfield 49, 3) := by decide +kernel
theorem dk_4_105 : decode cX4_init 105 = .ok (.aload_n 0, 1) := by decide +kernel
theorem dk_4_106 : decode cX4_init 106 = .ok (.lconst 0, 1) := by decide +kernel
theorem dk_4_107 : decode cX4_init 107 = .ok (.putfield 52, 3) := by decide +kernel
theorem dk_4_110 : decode cX4_init 110 = .ok (.aload_n 0, 1) := by decide +kernel
theorem dk_4_111 : decode cX4_init 111 = .ok (.lconst 1, 1) := by decide +kernel
theorem dk_4_112 : decode cX4_init 112 = .ok (.putfield 56, 3) := by decide +kernel
theorem dk_4_115 : decode cX4_init 115 = .ok (.return_, 1) := by decide +kernel
theorem dk_5_0 : decode cX5_init 0 = .ok (.aload_n 0, 1) := by decide +kernel
theorem dk_5_1 : decode cX5_init 1 = .ok (.invokespecial 1, 3) := by decide +kernel
theorem dk_5_4 : decode cX5_init 4 = .ok (.aload_n 0, 1) := by decide +kernel
theorem dk_5_5 : decode cX5_init 5 = .ok (.sipush 1032, 3) := by decide +kernel
theorem dk_5_8 : decode cX5_init 8 = .ok (.newarray .int, 2) := by decide +kernel
theorem dk_5_10 : decode cX5_init 10 = .ok (.putfield 7, 3) := by decide +kernel
theorem dk_5_13 : decode cX5_init 13 = .ok (.aload_n 0, 1) := by decide +kernel
theorem dk_5_14 : decode cX5_init 14 = .ok (.iconst 2, 1) := by decide +kernel
theorem dk_5_15 : decode cX5_init 15 = .ok (.newarray .boolean, 2) := by decide +kernel
theorem dk_5_17 : decode cX5_init 17 = .ok (.putfield 13, 3) := by decide +kernel
theorem dk_5_20 : decode cX5_init 20 = .ok (.aload_n 0, 1) := by decide +kernel
theorem dk_5_21 : decode cX5_init 21 = .ok (.sipush 150, 3) := by decide +kernel
theorem dk_5_24 : decode cX5_init 24 = .ok (.newarray .int, 2) := by decide +kernel
theorem dk_5_26 : decode cX5_init 26 = .ok (.putfield 17, 3) := by decide +kernel
theorem dk_5_29 : decode cX5_init 29 = .ok (.aload_n 0, 1) := by decide +kernel
theorem dk_5_30 : decode cX5_init 30 = .ok (.lconst 0, 1) := by decide +kernel
theorem dk_5_31 : decode cX5_init 31 = .ok (.putfield 20, 3) := by decide +kernel
theorem dk_5_34 : decode cX5_init 34 = .ok (.aload_n 0, 1) := by decide +kernel
theorem dk_5_35 : decode cX5_init 35 = .ok (.lconst 1, 1) := by decide +kernel
theorem dk_5_36 : decode cX5_init 36 = .ok (.putfield 24, 3) := by decide +kernel
theorem dk_5_39 : decode cX5_init 39 = .ok (.aload_n 0, 1) := by decide +kernel
theorem dk_5_40 : decode cX5_init 40 = .ok (.iconst 3, 1) := by decide +kernel
theorem dk_5_41 : decode cX5_init 41 = .ok (.newarray .int, 2) := by decide +kernel
theorem dk_5_43 : decode cX5_init 43 = .ok (.putfield 27, 3) := by decide +kernel
theorem dk_5_46 : decode cX5_init 46 = .ok (.aload_n 0, 1) := by decide +kernel
theorem dk_5_47 : decode cX5_init 47 = .ok (.bipush 12, 2) := by decide +kernel
theorem dk_5_49 : decode cX5_init 49 = .ok (.newarray .int, 2) := by decide +kernel
theorem dk_5_51 : decode cX5_init 51 = .ok (.putfield 30, 3) := by decide +kernel
theorem dk_5_54 : decode cX5_init 54 = .ok (.aload_n 0, 1) := by decide +kernel
theorem dk_5_55 : decode cX5_init 55 = .ok (.bipush 13, 2) := by decide +kernel
theorem dk_5_57 : decode cX5_init 57 = .ok (.newarray .int, 2) := by decide +kernel
theorem dk_5_59 : decode cX5_init 59 = .ok (.putfield 33, 3) := by decide +kernel
theorem dk_5_62 : decode cX5_init 62 = .ok (.aload_n 0, 1) := by decide +kernel
theorem dk_5_63 : decode cX5_init 63 = .ok (.bipush 13, 2) := by decide +kernel
theorem dk_5_65 : decode cX5_init 65 = .ok (.newarray .int, 2) := by decide +kernel
theorem dk_5_67 : decode cX5_init 67 = .ok (.putfield 36, 3) := by decide +kernel
theorem dk_5_70 : decode cX5_init 70 = .ok (.aload_n 0, 1) := by decide +kernel
theorem dk_5_71 : decode cX5_init 71 = .ok (.bipush 6, 2) := by decide +kernel
theorem dk_5_73 : decode cX5_init 73 = .ok (.newarray .int, 2) := by decide +kernel
theorem dk_5_75 : decode cX5_init 75 = .ok (.putfield 39, 3) := by decide +kernel
theorem dk_5_78 : decode cX5_init 78 = .ok (.aload_n 0, 1) := by decide +kernel
theorem dk_5_79 : decode cX5_init 79 = .ok (.iconst 0, 1) := by decide +kernel
theorem dk_5_80 : decode cX5_init 80 = .ok (.putfield 42, 3) := by decide +kernel
theorem dk_5_83 : decode cX5_init 83 = .ok (.return_, 1) := by decide +kernel
set_option maxHeartbeats 4000000 in
set_option maxRecDepth 100000 in
theorem c_Led (l : Launch) (D : va_G) (cI cZ : ClassId) (w z : Int32) (N : Nat) (hw : ¬ w ≤ 0) (hz : ¬ z ≤ 0) (hn : ¬ w * z < 0) (hN : (w * z).toNatClampNeg = N) (hB : N * componentBytes .int ≤ 536870912) (h0 : Nat) : CM l D cI cZ yX2_init cX2_init 3 (rmL N) [.int w, .int z] (h0, .inr (2, fs2)) (wLed cI w z N h0) := by
  intro sz
  refine Met.ofW (cc := cX2_init) (maxL := 3) (ret := none) (by decide) rfl ?_
  intro p e s m args below meth c s₁ B hml hv
  obtain ⟨rfl, hsz, hP, hK, hNk⟩ := hv
  have hx := B.exec
  have hb := B.bytes
  have hr := B.returns
  have hts0 := atoms_spec (ws := Jvm.Cond.code yX2_init cX2_init 3 none :: gt) B.pre
  have hts : ∀ w ∈ gt, w.before _ s = true := fun w hw => hts0 w (List.mem_cons_of_mem _ hw)
  have hown : s.vm.findClass "StairSteps$Ledger" = some m.cls := findClass_of_methodNamed B.named
  have hlocks := B.notSynchronized
  have hin : meth.name = "<init>" := (name_of_methodNamed B.named B.method).1
  subst hsz
  have hD : va_D (va_A [(h0, .inr (2, fs2))] s.heap.size) [(h0, .inr (2, fs2))] := va_D1
  have hA : ∀ q : Nat, s.heap.size ≤ q → (va_A [(h0, .inr (2, fs2))] s.heap.size) q := fun q h => Or.inr h
  have hS : va_S (va_A [(h0, .inr (2, fs2))] s.heap.size) s.heap s.heap [] := va_S.rf
  have hl := lv_entry ([.ref h0, .int w, .int z]) (n := 3) (Nat.le_of_ble_eq_true rfl)
  rw [lg_entry_eq]
  generalize (lg_sl ([.ref h0, .int w, .int z]) ++ List.replicate (3 - (lg_sl ([.ref h0, .int w, .int z])).length) Slot.unset).toArray = ls at hl ⊢
  have hl : lv_has ls 3 [(0, .ref h0), (1, .int w), (2, .int z)] := hl
  refine lv_aload_n hx hb dk_2_0 rfl (lv_at hl 0 rfl) ?_
  refine W.objInit hx hb hown (hts _ wk_34) (hts _ wk_21) (hts _ wk_ocode) rfl (by rw [hml]; exact hl.1) rfl dk_2_1 (Nat.le_of_ble_eq_true rfl) (Nat.le_of_ble_eq_true rfl) ?_
  refine W.eq (g2 := F0 m 4 ls []) rfl ?_
  refine lv_aload_n hx hb dk_2_4 rfl (lv_at hl 0 rfl) ?_
  refine lv_iload_n hx hb dk_2_5 rfl (lv_at hl 1 rfl) ?_
  refine lv_if_le (tgt := 13) hx hb dk_2_6 (by decide) (fun z => absurd z hw) (fun _ => ?_)
  refine lv_iload_n hx hb dk_2_9 rfl (lv_at hl 1 rfl) ?_
  refine lv_goto (tgt := 14) hx hb dk_2_10 (by decide) ?_
  refine k_put (ci := 2) (k := 0) (fin := true) hx hb hts hin hown hK hP hD hS (by decide) (by decide) wk_35 rfl rfl rfl rfl (Nat.le_of_ble_eq_true rfl) dk_2_14 (fun H locs hP hD hS => ?_)
  refine lv_aload_n hx hb dk_2_17 rfl (lv_at hl 0 rfl) ?_
  refine lv_iload_n hx hb dk_2_18 rfl (lv_at hl 2 rfl) ?_
  refine lv_if_le (tgt := 26) hx hb dk_2_19 (by decide) (fun z => absurd z hz) (fun _ => ?_)
  refine lv_iload_n hx hb dk_2_22 rfl (lv_at hl 2 rfl) ?_
  refine lv_goto (tgt := 27) hx hb dk_2_23 (by decide) ?_
  refine k_put (ci := 2) (k := 1) (fin := true) hx hb hts hin hown hK hP hD hS (by decide) (by decide) wk_36 rfl rfl rfl rfl (Nat.le_of_ble_eq_true rfl) dk_2_27 (fun H locs hP hD hS => ?_)
  refine lv_aload_n hx hb dk_2_30 rfl (lv_at hl 0 rfl) ?_
  refine lv_aload_n hx hb dk_2_31 rfl (lv_at hl 0 rfl) ?_
  refine k_get (ci := 2) (k := 0) hx hb hts hown hK hP (by decide) (by decide) wk_35 rfl dk_2_32 ?_
  refine lv_aload_n hx hb dk_2_35 rfl (lv_at hl 0 rfl) ?_
  refine k_get (ci := 2) (k := 1) hx hb hts hown hK hP (by decide) (by decide) wk_36 rfl dk_2_36 ?_
  refine lv_imul hx hb dk_2_39 ?_
  refine k_newI (N := N) hx hb hts hK hP hD hS hA hn hN hB (Nat.le_of_ble_eq_true rfl) (Nat.le_of_eq (Nat.zero_add N)) dk_2_40 (fun q1 H hP hD hS => ?_)
  refine k_put (ci := 2) (k := 2) (fin := true) hx hb hts hin hown hK hP hD hS (by decide) (by decide) wk_37 rfl rfl rfl rfl (Nat.le_of_ble_eq_true rfl) dk_2_42 (fun H locs hP hD hS => ?_)
  refine W.widen (k := 1) (n := N) (Nat.le_of_ble_eq_true rfl) (Nat.le_of_eq (Nat.zero_add N)) ?_
  exact W.vret hx hb hr (fun t ht hW => ⟨⟨fun k => nth [h0, q1] k 0, rfl, trivial, by rw [ht]; exact hP, hD⟩, hS.F ht⟩) hS.2.2 dk_2_45
set_option maxHeartbeats 4000000 in
set_option maxRecDepth 100000 in
theorem c_Hou (l : Launch) (D : va_G) (cI cZ : ClassId) (h0 : Nat) : CM l D cI cZ yX1_init cX1_init 1 rmH [] (h0, .inr (1, fs1)) (wHou cI h0) := by
  intro sz
  refine Met.ofW (cc := cX1_init) (maxL := 1) (ret := none) (by decide) rfl ?_
  intro p e s m args below meth c s₁ B hml hv
  obtain ⟨rfl, hsz, hP, hK, hNk⟩ := hv
  have hx := B.exec
  have hb := B.bytes
  have hr := B.returns
  have hts0 := atoms_spec (ws := Jvm.Cond.code yX1_init cX1_init 1 none :: gt) B.pre
  have hts : ∀ w ∈ gt, w.before _ s = true := fun w hw => hts0 w (List.mem_cons_of_mem _ hw)
  have hown : s.vm.findClass "StairSteps$House" = some m.cls := findClass_of_methodNamed B.named
  have hlocks := B.notSynchronized
  have hin : meth.name = "<init>" := (name_of_methodNamed B.named B.method).1
  subst hsz
  have hD : va_D (va_A [(h0, .inr (1, fs1))] s.heap.size) [(h0, .inr (1, fs1))] := va_D1
  have hA : ∀ q : Nat, s.heap.size ≤ q → (va_A [(h0, .inr (1, fs1))] s.heap.size) q := fun q h => Or.inr h
  have hS : va_S (va_A [(h0, .inr (1, fs1))] s.heap.size) s.heap s.heap [] := va_S.rf
  have hl := lv_entry ([.ref h0]) (n := 1) (Nat.le_of_ble_eq_true rfl)
  rw [lg_entry_eq]
  generalize (lg_sl ([.ref h0]) ++ List.replicate (1 - (lg_sl ([.ref h0])).length) Slot.unset).toArray = ls at hl ⊢
  have hl : lv_has ls 1 [(0, .ref h0)] := hl
  refine lv_aload_n hx hb dk_1_0 rfl (lv_at hl 0 rfl) ?_
  refine W.objInit hx hb hown (hts _ wk_28) (hts _ wk_21) (hts _ wk_ocode) rfl (by rw [hml]; exact hl.1) rfl dk_1_1 (Nat.le_of_ble_eq_true rfl) (Nat.le_of_ble_eq_true rfl) ?_
  refine W.eq (g2 := F0 m 4 ls []) rfl ?_
  refine lv_aload_n hx hb dk_1_4 rfl (lv_at hl 0 rfl) ?_
  refine lv_iconst (v := 3) hx hb dk_1_5 (by decide) ?_
  refine k_newI (N := 3) hx hb hts hK hP hD hS hA (by decide) (by decide) (Nat.le_of_ble_eq_true rfl) (Nat.le_of_ble_eq_true rfl) (Nat.le_of_ble_eq_true rfl) dk_1_6 (fun q1 H hP hD hS => ?_)
  refine k_put (ci := 1) (k := 3) (fin := true) hx hb hts hin hown hK hP hD hS (by decide) (by decide) wk_58 rfl rfl rfl rfl (Nat.le_of_ble_eq_true rfl) dk_1_8 (fun H locs hP hD hS => ?_)
  refine lv_aload_n hx hb dk_1_11 rfl (lv_at hl 0 rfl) ?_
  refine lv_bipush (v := 6) hx hb dk_1_12 (by decide) ?_
  refine k_newI (N := 6) hx hb hts hK hP hD hS hA (by decide) (by decide) (Nat.le_of_ble_eq_true rfl) (Nat.le_of_ble_eq_true rfl) (Nat.le_of_ble_eq_true rfl) dk_1_14 (fun q2 H hP hD hS => ?_)
  refine k_put (ci := 1) (k := 4) (fin := true) hx hb hts hin hown hK hP hD hS (by decide) (by decide) wk_59 rfl rfl rfl rfl (Nat.le_of_ble_eq_true rfl) dk_1_16 (fun H locs hP hD hS => ?_)
  refine lv_aload_n hx hb dk_1_19 rfl (lv_at hl 0 rfl) ?_
  refine lv_bipush (v := 6) hx hb dk_1_20 (by decide) ?_
  refine k_newI (N := 6) hx hb hts hK hP hD hS hA (by decide) (by decide) (Nat.le_of_ble_eq_true rfl) (Nat.le_of_ble_eq_true rfl) (Nat.le_of_ble_eq_true rfl) dk_1_22 (fun q3 H hP hD hS => ?_)
  refine k_put (ci := 1) (k := 5) (fin := true) hx hb hts hin hown hK hP hD hS (by decide) (by decide) wk_60 rfl rfl rfl rfl (Nat.le_of_ble_eq_true rfl) dk_1_24 (fun H locs hP hD hS => ?_)
  refine lv_aload_n hx hb dk_1_27 rfl (lv_at hl 0 rfl) ?_
  refine lv_bipush (v := 6) hx hb dk_1_28 (by decide) ?_
  refine k_newI (N := 6) hx hb hts hK hP hD hS hA (by decide) (by decide) (Nat.le_of_ble_eq_true rfl) (Nat.le_of_ble_eq_true rfl) (Nat.le_of_ble_eq_true rfl) dk_1_30 (fun q4 H hP hD hS => ?_)
  refine k_put (ci := 1) (k := 6) (fin := true) hx hb hts hin hown hK hP hD hS (by decide) (by decide) wk_61 rfl rfl rfl rfl (Nat.le_of_ble_eq_true rfl) dk_1_32 (fun H locs hP hD hS => ?_)
  refine lv_aload_n hx hb dk_1_35 rfl (lv_at hl 0 rfl) ?_
  refine lv_bipush (v := 17) hx hb dk_1_36 (by decide) ?_
  refine k_newI (N := 17) hx hb hts hK hP hD hS hA (by decide) (by decide) (Nat.le_of_ble_eq_true rfl) (Nat.le_of_ble_eq_true rfl) (Nat.le_of_ble_eq_true rfl) dk_1_38 (fun q5 H hP hD hS => ?_)
  refine k_put (ci := 1) (k := 7) (fin := true) hx hb hts hin hown hK hP hD hS (by decide) (by decide) wk_62 rfl rfl rfl rfl (Nat.le_of_ble_eq_true rfl) dk_1_40 (fun H locs hP hD hS => ?_)
  refine lv_aload_n hx hb dk_1_43 rfl (lv_at hl 0 rfl) ?_
  refine lv_sipush (v := 136) hx hb dk_1_44 (by decide) ?_
  refine k_newI (N := 136) hx hb hts hK hP hD hS hA (by decide) (by decide) (Nat.le_of_ble_eq_true rfl) (Nat.le_of_ble_eq_true rfl) (Nat.le_of_ble_eq_true rfl) dk_1_47 (fun q6 H hP hD hS => ?_)
  refine k_put (ci := 1) (k := 8) (fin := true) hx hb hts hin hown hK hP hD hS (by decide) (by decide) wk_63 rfl rfl rfl rfl (Nat.le_of_ble_eq_true rfl) dk_1_49 (fun H locs hP hD hS => ?_)
  refine lv_aload_n hx hb dk_1_52 rfl (lv_at hl 0 rfl) ?_
  refine k_new (ci := 2) (fs := fs2) hx hb hts hown (by decide) wk_29 wk_30 wk_3 hK hP hD hS hA fs2_ok (Nat.le_of_ble_eq_true rfl) (Nat.le_of_ble_eq_true rfl) dk_1_53 (fun q7 H hP hD hS => ?_)
  refine lv_dup hx hb dk_1_56 rfl ?_
  refine lv_iconst (v := 4) hx hb dk_1_57 (by decide) ?_
  refine lv_iconst (v := 5) hx hb dk_1_58 (by decide) ?_
  refine k_call hx hb hml hts hown hK hNk (c_Led l D cI cZ 4 5 20 (by decide) (by decide) (by decide) (by decide) (Nat.le_of_ble_eq_true rfl) q7) (Or.inl wk_31) wk_33 wk_3 wk_32 rfl (by decide +kernel) ⟨Nat.le_of_ble_eq_true rfl, Nat.le_of_ble_eq_true rfl⟩ rfl hl.1 (Nat.le_of_ble_eq_true rfl) dk_1_59 ⟨Nat.le_of_ble_eq_true rfl, Nat.le_of_ble_eq_true rfl⟩ hP hD hS hA rfl (fun g7 H locs hP hD hS => ?_)
  refine W.eq (g2 := F0 m 62 ls [.ref q7, .ref h0]) rfl ?_
  refine k_put (ci := 1) (k := 9) (fin := true) hx hb hts hin hown hK hP hD hS (by decide) (by decide) wk_64 rfl rfl rfl rfl (Nat.le_of_ble_eq_true rfl) dk_1_62 (fun H locs hP hD hS => ?_)
  refine lv_aload_n hx hb dk_1_65 rfl (lv_at hl 0 rfl) ?_
  refine k_new (ci := 2) (fs := fs2) hx hb hts hown (by decide) wk_29 wk_30 wk_3 hK hP hD hS hA fs2_ok (Nat.le_of_ble_eq_true rfl) (Nat.le_of_ble_eq_true rfl) dk_1_66 (fun q9 H hP hD hS => ?_)
  refine lv_dup hx hb dk_1_69 rfl ?_
  refine lv_iconst (v := 3) hx hb dk_1_70 (by decide) ?_
  refine lv_bipush (v := 6) hx hb dk_1_71 (by decide) ?_
  refine k_call hx hb hml hts hown hK hNk (c_Led l D cI cZ 3 6 18 (by decide) (by decide) (by decide) (by decide) (Nat.le_of_ble_eq_true rfl) q9) (Or.inl wk_31) wk_33 wk_3 wk_32 rfl (by decide +kernel) ⟨Nat.le_of_ble_eq_true rfl, Nat.le_of_ble_eq_true rfl⟩ rfl hl.1 (Nat.le_of_ble_eq_true rfl) dk_1_73 ⟨Nat.le_of_ble_eq_true rfl, Nat.le_of_ble_eq_true rfl⟩ hP hD hS hA rfl (fun g9 H locs hP hD hS => ?_)
  refine W.eq (g2 := F0 m 76 ls [.ref q9, .ref h0]) rfl ?_
  refine k_put (ci := 1) (k := 10) (fin := true) hx hb hts hin hown hK hP hD hS (by decide) (by decide) wk_66 rfl rfl rfl rfl (Nat.le_of_ble_eq_true rfl) dk_1_76 (fun H locs hP hD hS => ?_)
  refine lv_aload_n hx hb dk_1_79 rfl (lv_at hl 0 rfl) ?_
  refine k_new (ci := 2) (fs := fs2) hx hb hts hown (by decide) wk_29 wk_30 wk_3 hK hP hD hS hA fs2_ok (Nat.le_of_ble_eq_true rfl) (Nat.le_of_ble_eq_true rfl) dk_1_80 (fun q11 H hP hD hS => ?_)
  refine lv_dup hx hb dk_1_83 rfl ?_
  refine lv_iconst (v := 5) hx hb dk_1_84 (by decide) ?_
  refine lv_bipush (v := 6) hx hb dk_1_85 (by decide) ?_
  refine k_call hx hb hml hts hown hK hNk (c_Led l D cI cZ 5 6 30 (by decide) (by decide) (by decide) (by decide) (Nat.le_of_ble_eq_true rfl) q11) (Or.inl wk_31) wk_33 wk_3 wk_32 rfl (by decide +kernel) ⟨Nat.le_of_ble_eq_true rfl, Nat.le_of_ble_eq_true rfl⟩ rfl hl.1 (Nat.le_of_ble_eq_true rfl) dk_1_87 ⟨Nat.le_of_ble_eq_true rfl, Nat.le_of_ble_eq_true rfl⟩ hP hD hS hA rfl (fun g11 H locs hP hD hS => ?_)
  refine W.eq (g2 := F0 m 90 ls [.ref q11, .ref h0]) rfl ?_
  refine k_put (ci := 1) (k := 11) (fin := true) hx hb hts hin hown hK hP hD hS (by decide) (by decide) wk_68 rfl rfl rfl rfl (Nat.le_of_ble_eq_true rfl) dk_1_90 (fun H locs hP hD hS => ?_)
  refine W.widen (k := 12) (n := 254) (Nat.le_of_ble_eq_true rfl) (Nat.le_of_ble_eq_true rfl) ?_
  exact W.vret hx hb hr (fun t ht hW => ⟨⟨fun k => nth [h0, q1, q2, q3, q4, q5, q6, q7, g7 1, q9, g9 1, q11, g11 1] k 0, rfl, trivial, by rw [ht]; exact hP, hD⟩, hS.F ht⟩) hS.2.2 dk_1_93
set_option maxHeartbeats 4000000 in
set_option maxRecDepth 100000 in
theorem c_Cli (l : Launch) (D : va_G) (cI cZ : ClassId) (h0 : Nat) : CM l D cI cZ yX0_init cX0_init 1 rmC [] (h0, .inr (0, fs0)) (wCli cI h0) := by
  intro sz
  refine Met.ofW (cc := cX0_init) (maxL := 1) (ret := none) (by decide) rfl ?_
  intro p e s m args below meth c s₁ B hml hv
  obtain ⟨rfl, hsz, hP, hK, hNk⟩ := hv
  have hx := B.exec
  have hb := B.bytes
  have hr := B.returns
  have hts0 := atoms_spec (ws := Jvm.Cond.code yX0_init cX0_init 1 none :: gt) B.pre
  have hts : ∀ w ∈ gt, w.before _ s = true := fun w hw => hts0 w (List.mem_cons_of_mem _ hw)
  have hown : s.vm.findClass "StairSteps$Climb" = some m.cls := findClass_of_methodNamed B.named
  have hlocks := B.notSynchronized
  have hin : meth.name = "<init>" := (name_of_methodNamed B.named B.method).1
  subst hsz
  have hD : va_D (va_A [(h0, .inr (0, fs0))] s.heap.size) [(h0, .inr (0, fs0))] := va_D1
  have hA : ∀ q : Nat, s.heap.size ≤ q → (va_A [(h0, .inr (0, fs0))] s.heap.size) q := fun q h => Or.inr h
  have hS : va_S (va_A [(h0, .inr (0, fs0))] s.heap.size) s.heap s.heap [] := va_S.rf
  have hl := lv_entry ([.ref h0]) (n := 1) (Nat.le_of_ble_eq_true rfl)
  rw [lg_entry_eq]
  generalize (lg_sl ([.ref h0]) ++ List.replicate (1 - (lg_sl ([.ref h0])).length) Slot.unset).toArray = ls at hl ⊢
  have hl : lv_has ls 1 [(0, .ref h0)] := hl
  refine lv_aload_n hx hb dk_0_0 rfl (lv_at hl 0 rfl) ?_
  refine W.objInit hx hb hown (hts _ wk_100) (hts _ wk_21) (hts _ wk_ocode) rfl (by rw [hml]; exact hl.1) rfl dk_0_1 (Nat.le_of_ble_eq_true rfl) (Nat.le_of_ble_eq_true rfl) ?_
  refine W.eq (g2 := F0 m 4 ls []) rfl ?_
  refine lv_aload_n hx hb dk_0_4 rfl (lv_at hl 0 rfl) ?_
  refine lv_bipush (v := 12) hx hb dk_0_5 (by decide) ?_
  refine k_newI (N := 12) hx hb hts hK hP hD hS hA (by decide) (by decide) (Nat.le_of_ble_eq_true rfl) (Nat.le_of_ble_eq_true rfl) (Nat.le_of_ble_eq_true rfl) dk_0_7 (fun q1 H hP hD hS => ?_)
  refine k_put (ci := 0) (k := 0) (fin := true) hx hb hts hin hown hK hP hD hS (by decide) (by decide) wk_101 rfl rfl rfl rfl (Nat.le_of_ble_eq_true rfl) dk_0_9 (fun H locs hP hD hS => ?_)
  refine lv_aload_n hx hb dk_0_12 rfl (lv_at hl 0 rfl) ?_
  refine lv_bipush (v := 11) hx hb dk_0_13 (by decide) ?_
  refine k_newI (N := 11) hx hb hts hK hP hD hS hA (by decide) (by decide) (Nat.le_of_ble_eq_true rfl) (Nat.le_of_ble_eq_true rfl) (Nat.le_of_ble_eq_true rfl) dk_0_15 (fun q2 H hP hD hS => ?_)
  refine k_put (ci := 0) (k := 1) (fin := true) hx hb hts hin hown hK hP hD hS (by decide) (by decide) wk_102 rfl rfl rfl rfl (Nat.le_of_ble_eq_true rfl) dk_0_17 (fun H locs hP hD hS => ?_)
  refine lv_aload_n hx hb dk_0_20 rfl (lv_at hl 0 rfl) ?_
  refine lv_iconst (v := (-1)) hx hb dk_0_21 (by decide) ?_
  refine k_put (ci := 0) (k := 2) (fin := false) hx hb hts hin hown hK hP hD hS (by decide) (by decide) wk_103 rfl rfl rfl rfl (Nat.le_of_ble_eq_true rfl) dk_0_22 (fun H locs hP hD hS => ?_)
  refine W.widen (k := 2) (n := 23) (Nat.le_of_ble_eq_true rfl) (Nat.le_of_ble_eq_true rfl) ?_
  exact W.vret hx hb hr (fun t ht hW => ⟨⟨fun k => nth [h0, q1, q2] k 0, rfl, trivial, by rw [ht]; exact hP, hD⟩, hS.F ht⟩) hS.2.2 dk_0_25
set_option maxHeartbeats 4000000 in
set_option maxRecDepth 100000 in
theorem c_Rea (l : Launch) (D : va_G) (cI cZ : ClassId) (h0 : Nat) : CM l D cI cZ yX3_init cX3_init 1 rmR [] (h0, .inr (3, fs3)) (wRea cI h0) := by
  intro sz
  refine Met.ofW (cc := cX3_init) (maxL := 1) (ret := none) (by decide) rfl ?_
  intro p e s m args below meth c s₁ B hml hv
  obtain ⟨rfl, hsz, hP, hK, hNk⟩ := hv
  have hx := B.exec
  have hb := B.bytes
  have hr := B.returns
  have hts0 := atoms_spec (ws := Jvm.Cond.code yX3_init cX3_init 1 none :: gt) B.pre
  have hts : ∀ w ∈ gt, w.before _ s = true := fun w hw => hts0 w (List.mem_cons_of_mem _ hw)
  have hown : s.vm.findClass "StairSteps$Reader" = some m.cls := findClass_of_methodNamed B.named
  have hlocks := B.notSynchronized
  have hin : meth.name = "<init>" := (name_of_methodNamed B.named B.method).1
  subst hsz
  have hD : va_D (va_A [(h0, .inr (3, fs3))] s.heap.size) [(h0, .inr (3, fs3))] := va_D1
  have hA : ∀ q : Nat, s.heap.size ≤ q → (va_A [(h0, .inr (3, fs3))] s.heap.size) q := fun q h => Or.inr h
  have hS : va_S (va_A [(h0, .inr (3, fs3))] s.heap.size) s.heap s.heap [] := va_S.rf
  have hl := lv_entry ([.ref h0]) (n := 1) (Nat.le_of_ble_eq_true rfl)
  rw [lg_entry_eq]
  generalize (lg_sl ([.ref h0]) ++ List.replicate (1 - (lg_sl ([.ref h0])).length) Slot.unset).toArray = ls at hl ⊢
  have hl : lv_has ls 1 [(0, .ref h0)] := hl
  refine lv_aload_n hx hb dk_3_0 rfl (lv_at hl 0 rfl) ?_
  refine W.objInit hx hb hown (hts _ wk_117) (hts _ wk_21) (hts _ wk_ocode) rfl (by rw [hml]; exact hl.1) rfl dk_3_1 (Nat.le_of_ble_eq_true rfl) (Nat.le_of_ble_eq_true rfl) ?_
  refine W.eq (g2 := F0 m 4 ls []) rfl ?_
  refine lv_aload_n hx hb dk_3_4 rfl (lv_at hl 0 rfl) ?_
  refine lv_sipush (v := 150) hx hb dk_3_5 (by decide) ?_
  refine k_newI (N := 150) hx hb hts hK hP hD hS hA (by decide) (by decide) (Nat.le_of_ble_eq_true rfl) (Nat.le_of_ble_eq_true rfl) (Nat.le_of_ble_eq_true rfl) dk_3_8 (fun q1 H hP hD hS => ?_)
  refine k_put (ci := 3) (k := 0) (fin := true) hx hb hts hin hown hK hP hD hS (by decide) (by decide) wk_118 rfl rfl rfl rfl (Nat.le_of_ble_eq_true rfl) dk_3_10 (fun H locs hP hD hS => ?_)
  refine W.widen (k := 1) (n := 150) (Nat.le_of_ble_eq_true rfl) (Nat.le_of_ble_eq_true rfl) ?_
  exact W.vret hx hb hr (fun t ht hW => ⟨⟨fun k => nth [h0, q1] k 0, rfl, trivial, by rw [ht]; exact hP, hD⟩, hS.F ht⟩) hS.2.2 dk_3_13
set_option maxHeartbeats 4000000 in
set_option maxRecDepth 100000 in
theorem c_Sta (l : Launch) (D : va_G) (cI cZ : ClassId) (h0 : Nat) : CM l D cI cZ yX4_init cX4_init 1 rmT [] (h0, .inr (4, fs4)) (wSta cI h0) := by
  intro sz
  refine Met.ofW (cc := cX4_init) (maxL := 1) (ret := none) (by decide) rfl ?_
  intro p e s m args below meth c s₁ B hml hv
  obtain ⟨rfl, hsz, hP, hK, hNk⟩ := hv
  have hx := B.exec
  have hb := B.bytes
  have hr := B.returns
  have hts0 := atoms_spec (ws := Jvm.Cond.code yX4_init cX4_init 1 none :: gt) B.pre
  have hts : ∀ w ∈ gt, w.before _ s = true := fun w hw => hts0 w (List.mem_cons_of_mem _ hw)
  have hown : s.vm.findClass "StairSteps" = some m.cls := findClass_of_methodNamed B.named
  have hlocks := B.notSynchronized
  have hin : meth.name = "<init>" := (name_of_methodNamed B.named B.method).1
  subst hsz
  have hD : va_D (va_A [(h0, .inr (4, fs4))] s.heap.size) [(h0, .inr (4, fs4))] := va_D1
  have hA : ∀ q : Nat, s.heap.size ≤ q → (va_A [(h0, .inr (4, fs4))] s.heap.size) q := fun q h => Or.inr h
  have hS : va_S (va_A [(h0, .inr (4, fs4))] s.heap.size) s.heap s.heap [] := va_S.rf
  have hl := lv_entry ([.ref h0]) (n := 1) (Nat.le_of_ble_eq_true rfl)
  rw [lg_entry_eq]
  generalize (lg_sl ([.ref h0]) ++ List.replicate (1 - (lg_sl ([.ref h0])).length) Slot.unset).toArray = ls at hl ⊢
  have hl : lv_has ls 1 [(0, .ref h0)] := hl
  refine lv_aload_n hx hb dk_4_0 rfl (lv_at hl 0 rfl) ?_
  refine W.objInit hx hb hown (hts _ wk_20) (hts _ wk_21) (hts _ wk_ocode) rfl (by rw [hml]; exact hl.1) rfl dk_4_1 (Nat.le_of_ble_eq_true rfl) (Nat.le_of_ble_eq_true rfl) ?_
  refine W.eq (g2 := F0 m 4 ls []) rfl ?_
  refine lv_aload_n hx hb dk_4_4 rfl (lv_at hl 0 rfl) ?_
  refine k_new (ci := 1) (fs := fs1) hx hb hts hown (by decide) wk_23 wk_24 wk_2 hK hP hD hS hA fs1_ok (Nat.le_of_ble_eq_true rfl) (Nat.le_of_ble_eq_true rfl) dk_4_5 (fun q1 H hP hD hS => ?_)
  refine lv_dup hx hb dk_4_8 rfl ?_
  refine k_call hx hb hml hts hown hK hNk (c_Hou l D cI cZ q1) (Or.inr hNk.1) wk_27 wk_2 wk_26 rfl (by decide +kernel) ⟨Nat.le_of_ble_eq_true rfl, Nat.le_of_ble_eq_true rfl⟩ rfl hl.1 (Nat.le_of_ble_eq_true rfl) dk_4_9 ⟨Nat.le_of_ble_eq_true rfl, Nat.le_of_ble_eq_true rfl⟩ hP hD hS hA rfl (fun g1 H locs hP hD hS => ?_)
  refine W.eq (g2 := F0 m 12 ls [.ref q1, .ref h0]) rfl ?_
  refine k_put (ci := 4) (k := 0) (fin := true) hx hb hts hin hown hK hP hD hS (by decide) (by decide) wk_139 rfl rfl rfl rfl (Nat.le_of_ble_eq_true rfl) dk_4_12 (fun H locs hP hD hS => ?_)
  refine lv_aload_n hx hb dk_4_15 rfl (lv_at hl 0 rfl) ?_
  refine k_new (ci := 1) (fs := fs1) hx hb hts hown (by decide) wk_23 wk_24 wk_2 hK hP hD hS hA fs1_ok (Nat.le_of_ble_eq_true rfl) (Nat.le_of_ble_eq_true rfl) dk_4_16 (fun q14 H hP hD hS => ?_)
  refine lv_dup hx hb dk_4_19 rfl ?_
  refine k_call hx hb hml hts hown hK hNk (c_Hou l D cI cZ q14) (Or.inr hNk.1) wk_27 wk_2 wk_26 rfl (by decide +kernel) ⟨Nat.le_of_ble_eq_true rfl, Nat.le_of_ble_eq_true rfl⟩ rfl hl.1 (Nat.le_of_ble_eq_true rfl) dk_4_20 ⟨Nat.le_of_ble_eq_true rfl, Nat.le_of_ble_eq_true rfl⟩ hP hD hS hA rfl (fun g14 H locs hP hD hS => ?_)
  refine W.eq (g2 := F0 m 23 ls [.ref q14, .ref h0]) rfl ?_
  refine k_put (ci := 4) (k := 1) (fin := true) hx hb hts hin hown hK hP hD hS (by decide) (by decide) wk_140 rfl rfl rfl rfl (Nat.le_of_ble_eq_true rfl) dk_4_23 (fun H locs hP hD hS => ?_)
  refine lv_aload_n hx hb dk_4_26 rfl (lv_at hl 0 rfl) ?_
  refine k_new (ci := 1) (fs := fs1) hx hb hts hown (by decide) wk_23 wk_24 wk_2 hK hP hD hS hA fs1_ok (Nat.le_of_ble_eq_true rfl) (Nat.le_of_ble_eq_true rfl) dk_4_27 (fun q27 H hP hD hS => ?_)
  refine lv_dup hx hb dk_4_30 rfl ?_
  refine k_call hx hb hml hts hown hK hNk (c_Hou l D cI cZ q27) (Or.inr hNk.1) wk_27 wk_2 wk_26 rfl (by decide +kernel) ⟨Nat.le_of_ble_eq_true rfl, Nat.le_of_ble_eq_true rfl⟩ rfl hl.1 (Nat.le_of_ble_eq_true rfl) dk_4_31 ⟨Nat.le_of_ble_eq_true rfl, Nat.le_of_ble_eq_true rfl⟩ hP hD hS hA rfl (fun g27 H locs hP hD hS => ?_)
  refine W.eq (g2 := F0 m 34 ls [.ref q27, .ref h0]) rfl ?_
  refine k_put (ci := 4) (k := 2) (fin := true) hx hb hts hin hown hK hP hD hS (by decide) (by decide) wk_141 rfl rfl rfl rfl (Nat.le_of_ble_eq_true rfl) dk_4_34 (fun H locs hP hD hS => ?_)
  refine lv_aload_n hx hb dk_4_37 rfl (lv_at hl 0 rfl) ?_
  refine k_new (ci := 1) (fs := fs1) hx hb hts hown (by decide) wk_23 wk_24 wk_2 hK hP hD hS hA fs1_ok (Nat.le_of_ble_eq_true rfl) (Nat.le_of_ble_eq_true rfl) dk_4_38 (fun q40 H hP hD hS => ?_)
  refine lv_dup hx hb dk_4_41 rfl ?_
  refine k_call hx hb hml hts hown hK hNk (c_Hou l D cI cZ q40) (Or.inr hNk.1) wk_27 wk_2 wk_26 rfl (by decide +kernel) ⟨Nat.le_of_ble_eq_true rfl, Nat.le_of_ble_eq_true rfl⟩ rfl hl.1 (Nat.le_of_ble_eq_true rfl) dk_4_42 ⟨Nat.le_of_ble_eq_true rfl, Nat.le_of_ble_eq_true rfl⟩ hP hD hS hA rfl (fun g40 H locs hP hD hS => ?_)
  refine W.eq (g2 := F0 m 45 ls [.ref q40, .ref h0]) rfl ?_
  refine k_put (ci := 4) (k := 5) (fin := true) hx hb hts hin hown hK hP hD hS (by decide) (by decide) wk_144 rfl rfl rfl rfl (Nat.le_of_ble_eq_true rfl) dk_4_45 (fun H locs hP hD hS => ?_)
  refine lv_aload_n hx hb dk_4_48 rfl (lv_at hl 0 rfl) ?_
  refine k_new (ci := 0) (fs := fs0) hx hb hts hown (by decide) wk_95 wk_96 wk_4 hK hP hD hS hA fs0_ok (Nat.le_of_ble_eq_true rfl) (Nat.le_of_ble_eq_true rfl) dk_4_49 (fun q53 H hP hD hS => ?_)
  refine lv_dup hx hb dk_4_52 rfl ?_
  refine k_call hx hb hml hts hown hK hNk (c_Cli l D cI cZ q53) (Or.inr hNk.2.1) wk_99 wk_4 wk_98 rfl (by decide +kernel) ⟨Nat.le_of_ble_eq_true rfl, Nat.le_of_ble_eq_true rfl⟩ rfl hl.1 (Nat.le_of_ble_eq_true rfl) dk_4_53 ⟨Nat.le_of_ble_eq_true rfl, Nat.le_of_ble_eq_true rfl⟩ hP hD hS hA rfl (fun g53 H locs hP hD hS => ?_)
  refine W.eq (g2 := F0 m 56 ls [.ref q53, .ref h0]) rfl ?_
  refine k_put (ci := 4) (k := 6) (fin := true) hx hb hts hin hown hK hP hD hS (by decide) (by decide) wk_145 rfl rfl rfl rfl (Nat.le_of_ble_eq_true rfl) dk_4_56 (fun H locs hP hD hS => ?_)
  refine lv_aload_n hx hb dk_4_59 rfl (lv_at hl 0 rfl) ?_
  refine k_new (ci := 0) (fs := fs0) hx hb hts hown (by decide) wk_95 wk_96 wk_4 hK hP hD hS hA fs0_ok (Nat.le_of_ble_eq_true rfl) (Nat.le_of_ble_eq_true rfl) dk_4_60 (fun q56 H hP hD hS => ?_)
  refine lv_dup hx hb dk_4_63 rfl ?_
  refine k_call hx hb hml hts hown hK hNk (c_Cli l D cI cZ q56) (Or.inr hNk.2.1) wk_99 wk_4 wk_98 rfl (by decide +kernel) ⟨Nat.le_of_ble_eq_true rfl, Nat.le_of_ble_eq_true rfl⟩ rfl hl.1 (Nat.le_of_ble_eq_true rfl) dk_4_64 ⟨Nat.le_of_ble_eq_true rfl, Nat.le_of_ble_eq_true rfl⟩ hP hD hS hA rfl (fun g56 H locs hP hD hS => ?_)
  refine W.eq (g2 := F0 m 67 ls [.ref q56, .ref h0]) rfl ?_
  refine k_put (ci := 4) (k := 7) (fin := true) hx hb hts hin hown hK hP hD hS (by decide) (by decide) wk_146 rfl rfl rfl rfl (Nat.le_of_ble_eq_true rfl) dk_4_67 (fun H locs hP hD hS => ?_)
  refine lv_aload_n hx hb dk_4_70 rfl (lv_at hl 0 rfl) ?_
  refine k_new (ci := 3) (fs := fs3) hx hb hts hown (by decide) wk_112 wk_113 wk_5 hK hP hD hS hA fs3_ok (Nat.le_of_ble_eq_true rfl) (Nat.le_of_ble_eq_true rfl) dk_4_71 (fun q59 H hP hD hS => ?_)
  refine lv_dup hx hb dk_4_74 rfl ?_
  refine k_call hx hb hml hts hown hK hNk (c_Rea l D cI cZ q59) (Or.inr hNk.2.2) wk_116 wk_5 wk_115 rfl (by decide +kernel) ⟨Nat.le_of_ble_eq_true rfl, Nat.le_of_ble_eq_true rfl⟩ rfl hl.1 (Nat.le_of_ble_eq_true rfl) dk_4_75 ⟨Nat.le_of_ble_eq_true rfl, Nat.le_of_ble_eq_true rfl⟩ hP hD hS hA rfl (fun g59 H locs hP hD hS => ?_)
  refine W.eq (g2 := F0 m 78 ls [.ref q59, .ref h0]) rfl ?_
  refine k_put (ci := 4) (k := 8) (fin := true) hx hb hts hin hown hK hP hD hS (by decide) (by decide) wk_147 rfl rfl rfl rfl (Nat.le_of_ble_eq_true rfl) dk_4_78 (fun H locs hP hD hS => ?_)
  refine lv_aload_n hx hb dk_4_81 rfl (lv_at hl 0 rfl) ?_
  refine lv_bipush (v := 12) hx hb dk_4_82 (by decide) ?_
  refine k_newI (N := 12) hx hb hts hK hP hD hS hA (by decide) (by decide) (Nat.le_of_ble_eq_true rfl) (Nat.le_of_ble_eq_true rfl) (Nat.le_of_ble_eq_true rfl) dk_4_84 (fun q61 H hP hD hS => ?_)
  refine k_put (ci := 4) (k := 9) (fin := true) hx hb hts hin hown hK hP hD hS (by decide) (by decide) wk_148 rfl rfl rfl rfl (Nat.le_of_ble_eq_true rfl) dk_4_86 (fun H locs hP hD hS => ?_)
  refine lv_aload_n hx hb dk_4_89 rfl (lv_at hl 0 rfl) ?_
  refine lv_bipush (v := 12) hx hb dk_4_90 (by decide) ?_
  refine k_newI (N := 12) hx hb hts hK hP hD hS hA (by decide) (by decide) (Nat.le_of_ble_eq_true rfl) (Nat.le_of_ble_eq_true rfl) (Nat.le_of_ble_eq_true rfl) dk_4_92 (fun q62 H hP hD hS => ?_)
  refine k_put (ci := 4) (k := 10) (fin := true) hx hb hts hin hown hK hP hD hS (by decide) (by decide) wk_149 rfl rfl rfl rfl (Nat.le_of_ble_eq_true rfl) dk_4_94 (fun H locs hP hD hS => ?_)
  refine lv_aload_n hx hb dk_4_97 rfl (lv_at hl 0 rfl) ?_
  refine lv_bipush (v := 10) hx hb dk_4_98 (by decide) ?_
  refine k_newI (N := 10) hx hb hts hK hP hD hS hA (by decide) (by decide) (Nat.le_of_ble_eq_true rfl) (Nat.le_of_ble_eq_true rfl) (Nat.le_of_ble_eq_true rfl) dk_4_100 (fun q63 H hP hD hS => ?_)
  refine k_put (ci := 4) (k := 11) (fin := true) hx hb hts hin hown hK hP hD hS (by decide) (by decide) wk_150 rfl rfl rfl rfl (Nat.le_of_ble_eq_true rfl) dk_4_102 (fun H locs hP hD hS => ?_)
  refine lv_aload_n hx hb dk_4_105 rfl (lv_at hl 0 rfl) ?_
  refine lv_lconst (v := 0) hx hb dk_4_106 (by decide) ?_
  refine k_put (ci := 4) (k := 12) (fin := false) hx hb hts hin hown hK hP hD hS (by decide) (by decide) wk_151 rfl rfl rfl rfl (Nat.le_of_ble_eq_true rfl) dk_4_107 (fun H locs hP hD hS => ?_)
  refine lv_aload_n hx hb dk_4_110 rfl (lv_at hl 0 rfl) ?_
  refine lv_lconst (v := 1) hx hb dk_4_111 (by decide) ?_
  refine k_put (ci := 4) (k := 13) (fin := false) hx hb hts hin hown hK hP hD hS (by decide) (by decide) wk_152 rfl rfl rfl rfl (Nat.le_of_ble_eq_true rfl) dk_4_112 (fun H locs hP hD hS => ?_)
  refine W.widen (k := 63) (n := 1306) (Nat.le_of_ble_eq_true rfl) (Nat.le_of_ble_eq_true rfl) ?_
  exact W.vret hx hb hr (fun t ht hW => ⟨⟨fun k => nth [h0, q1, g1 1, g1 2, g1 3, g1 4, g1 5, g1 6, g1 7, g1 8, g1 9, g1 10, g1 11, g1 12, q14, g14 1, g14 2, g14 3, g14 4, g14 5, g14 6, g14 7, g14 8, g14 9, g14 10, g14 11, g14 12, q27, g27 1, g27 2, g27 3, g27 4, g27 5, g27 6, g27 7, g27 8, g27 9, g27 10, g27 11, g27 12, q40, g40 1, g40 2, g40 3, g40 4, g40 5, g40 6, g40 7, g40 8, g40 9, g40 10, g40 11, g40 12, q53, g53 1, g53 2, q56, g56 1, g56 2, q59, g59 1, q61, q62, q63] k 0, rfl, trivial, by rw [ht]; exact hP, hD⟩, hS.F ht⟩) hS.2.2 dk_4_115
set_option maxHeartbeats 4000000 in
set_option maxRecDepth 100000 in
theorem c_Mod (l : Launch) (D : va_G) (cI cZ : ClassId) (h0 : Nat) : CM l D cI cZ yX5_init cX5_init 1 rmM [] (h0, .inr (5, fs5)) (wMod cI cZ h0) := by
  intro sz
  refine Met.ofW (cc := cX5_init) (maxL := 1) (ret := none) (by decide) rfl ?_
  intro p e s m args below meth c s₁ B hml hv
  obtain ⟨rfl, hsz, hP, hK, hNk⟩ := hv
  have hx := B.exec
  have hb := B.bytes
  have hr := B.returns
  have hts0 := atoms_spec (ws := Jvm.Cond.code yX5_init cX5_init 1 none :: gt) B.pre
  have hts : ∀ w ∈ gt, w.before _ s = true := fun w hw => hts0 w (List.mem_cons_of_mem _ hw)
  have hown : s.vm.findClass "StairStepsModel" = some m.cls := findClass_of_methodNamed B.named
  have hlocks := B.notSynchronized
  have hin : meth.name = "<init>" := (name_of_methodNamed B.named B.method).1
  subst hsz
  have hD : va_D (va_A [(h0, .inr (5, fs5))] s.heap.size) [(h0, .inr (5, fs5))] := va_D1
  have hA : ∀ q : Nat, s.heap.size ≤ q → (va_A [(h0, .inr (5, fs5))] s.heap.size) q := fun q h => Or.inr h
  have hS : va_S (va_A [(h0, .inr (5, fs5))] s.heap.size) s.heap s.heap [] := va_S.rf
  have hl := lv_entry ([.ref h0]) (n := 1) (Nat.le_of_ble_eq_true rfl)
  rw [lg_entry_eq]
  generalize (lg_sl ([.ref h0]) ++ List.replicate (1 - (lg_sl ([.ref h0])).length) Slot.unset).toArray = ls at hl ⊢
  have hl : lv_has ls 1 [(0, .ref h0)] := hl
  refine lv_aload_n hx hb dk_5_0 rfl (lv_at hl 0 rfl) ?_
  refine W.objInit hx hb hown (hts _ wk_828) (hts _ wk_21) (hts _ wk_ocode) rfl (by rw [hml]; exact hl.1) rfl dk_5_1 (Nat.le_of_ble_eq_true rfl) (Nat.le_of_ble_eq_true rfl) ?_
  refine W.eq (g2 := F0 m 4 ls []) rfl ?_
  refine lv_aload_n hx hb dk_5_4 rfl (lv_at hl 0 rfl) ?_
  refine lv_sipush (v := 1032) hx hb dk_5_5 (by decide) ?_
  refine k_newI (N := 1032) hx hb hts hK hP hD hS hA (by decide) (by decide) (Nat.le_of_ble_eq_true rfl) (Nat.le_of_ble_eq_true rfl) (Nat.le_of_ble_eq_true rfl) dk_5_8 (fun q1 H hP hD hS => ?_)
  refine k_put (ci := 5) (k := 0) (fin := true) hx hb hts hin hown hK hP hD hS (by decide) (by decide) wk_829 rfl rfl rfl rfl (Nat.le_of_ble_eq_true rfl) dk_5_10 (fun H locs hP hD hS => ?_)
  refine lv_aload_n hx hb dk_5_13 rfl (lv_at hl 0 rfl) ?_
  refine lv_iconst (v := 2) hx hb dk_5_14 (by decide) ?_
  refine k_newZ (N := 2) hx hb hts hK hP hD hS hA (by decide) (by decide) (Nat.le_of_ble_eq_true rfl) (Nat.le_of_ble_eq_true rfl) (Nat.le_of_ble_eq_true rfl) dk_5_15 (fun q2 H hP hD hS => ?_)
  refine k_put (ci := 5) (k := 1) (fin := true) hx hb hts hin hown hK hP hD hS (by decide) (by decide) wk_830 rfl rfl rfl rfl (Nat.le_of_ble_eq_true rfl) dk_5_17 (fun H locs hP hD hS => ?_)
  refine lv_aload_n hx hb dk_5_20 rfl (lv_at hl 0 rfl) ?_
  refine lv_sipush (v := 150) hx hb dk_5_21 (by decide) ?_
  refine k_newI (N := 150) hx hb hts hK hP hD hS hA (by decide) (by decide) (Nat.le_of_ble_eq_true rfl) (Nat.le_of_ble_eq_true rfl) (Nat.le_of_ble_eq_true rfl) dk_5_24 (fun q3 H hP hD hS => ?_)
  refine k_put (ci := 5) (k := 2) (fin := true) hx hb hts hin hown hK hP hD hS (by decide) (by decide) wk_831 rfl rfl rfl rfl (Nat.le_of_ble_eq_true rfl) dk_5_26 (fun H locs hP hD hS => ?_)
  refine lv_aload_n hx hb dk_5_29 rfl (lv_at hl 0 rfl) ?_
  refine lv_lconst (v := 0) hx hb dk_5_30 (by decide) ?_
  refine k_put (ci := 5) (k := 4) (fin := false) hx hb hts hin hown hK hP hD hS (by decide) (by decide) wk_833 rfl rfl rfl rfl (Nat.le_of_ble_eq_true rfl) dk_5_31 (fun H locs hP hD hS => ?_)
  refine lv_aload_n hx hb dk_5_34 rfl (lv_at hl 0 rfl) ?_
  refine lv_lconst (v := 1) hx hb dk_5_35 (by decide) ?_
  refine k_put (ci := 5) (k := 5) (fin := false) hx hb hts hin hown hK hP hD hS (by decide) (by decide) wk_834 rfl rfl rfl rfl (Nat.le_of_ble_eq_true rfl) dk_5_36 (fun H locs hP hD hS => ?_)
  refine lv_aload_n hx hb dk_5_39 rfl (lv_at hl 0 rfl) ?_
  refine lv_iconst (v := 3) hx hb dk_5_40 (by decide) ?_
  refine k_newI (N := 3) hx hb hts hK hP hD hS hA (by decide) (by decide) (Nat.le_of_ble_eq_true rfl) (Nat.le_of_ble_eq_true rfl) (Nat.le_of_ble_eq_true rfl) dk_5_41 (fun q4 H hP hD hS => ?_)
  refine k_put (ci := 5) (k := 6) (fin := true) hx hb hts hin hown hK hP hD hS (by decide) (by decide) wk_835 rfl rfl rfl rfl (Nat.le_of_ble_eq_true rfl) dk_5_43 (fun H locs hP hD hS => ?_)
  refine lv_aload_n hx hb dk_5_46 rfl (lv_at hl 0 rfl) ?_
  refine lv_bipush (v := 12) hx hb dk_5_47 (by decide) ?_
  refine k_newI (N := 12) hx hb hts hK hP hD hS hA (by decide) (by decide) (Nat.le_of_ble_eq_true rfl) (Nat.le_of_ble_eq_true rfl) (Nat.le_of_ble_eq_true rfl) dk_5_49 (fun q5 H hP hD hS => ?_)
  refine k_put (ci := 5) (k := 10) (fin := true) hx hb hts hin hown hK hP hD hS (by decide) (by decide) wk_839 rfl rfl rfl rfl (Nat.le_of_ble_eq_true rfl) dk_5_51 (fun H locs hP hD hS => ?_)
  refine lv_aload_n hx hb dk_5_54 rfl (lv_at hl 0 rfl) ?_
  refine lv_bipush (v := 13) hx hb dk_5_55 (by decide) ?_
  refine k_newI (N := 13) hx hb hts hK hP hD hS hA (by decide) (by decide) (Nat.le_of_ble_eq_true rfl) (Nat.le_of_ble_eq_true rfl) (Nat.le_of_ble_eq_true rfl) dk_5_57 (fun q6 H hP hD hS => ?_)
  refine k_put (ci := 5) (k := 11) (fin := true) hx hb hts hin hown hK hP hD hS (by decide) (by decide) wk_840 rfl rfl rfl rfl (Nat.le_of_ble_eq_true rfl) dk_5_59 (fun H locs hP hD hS => ?_)
  refine lv_aload_n hx hb dk_5_62 rfl (lv_at hl 0 rfl) ?_
  refine lv_bipush (v := 13) hx hb dk_5_63 (by decide) ?_
  refine k_newI (N := 13) hx hb hts hK hP hD hS hA (by decide) (by decide) (Nat.le_of_ble_eq_true rfl) (Nat.le_of_ble_eq_true rfl) (Nat.le_of_ble_eq_true rfl) dk_5_65 (fun q7 H hP hD hS => ?_)
  refine k_put (ci := 5) (k := 12) (fin := true) hx hb hts hin hown hK hP hD hS (by decide) (by decide) wk_841 rfl rfl rfl rfl (Nat.le_of_ble_eq_true rfl) dk_5_67 (fun H locs hP hD hS => ?_)
  refine lv_aload_n hx hb dk_5_70 rfl (lv_at hl 0 rfl) ?_
  refine lv_bipush (v := 6) hx hb dk_5_71 (by decide) ?_
  refine k_newI (N := 6) hx hb hts hK hP hD hS hA (by decide) (by decide) (Nat.le_of_ble_eq_true rfl) (Nat.le_of_ble_eq_true rfl) (Nat.le_of_ble_eq_true rfl) dk_5_73 (fun q8 H hP hD hS => ?_)
  refine k_put (ci := 5) (k := 13) (fin := true) hx hb hts hin hown hK hP hD hS (by decide) (by decide) wk_842 rfl rfl rfl rfl (Nat.le_of_ble_eq_true rfl) dk_5_75 (fun H locs hP hD hS => ?_)
  refine lv_aload_n hx hb dk_5_78 rfl (lv_at hl 0 rfl) ?_
  refine lv_iconst (v := 0) hx hb dk_5_79 (by decide) ?_
  refine k_put (ci := 5) (k := 3) (fin := false) hx hb hts hin hown hK hP hD hS (by decide) (by decide) wk_832 rfl rfl rfl rfl (Nat.le_of_ble_eq_true rfl) dk_5_80 (fun H locs hP hD hS => ?_)
  refine W.widen (k := 8) (n := 1231) (Nat.le_of_ble_eq_true rfl) (Nat.le_of_ble_eq_true rfl) ?_
  exact W.vret hx hb hr (fun t ht hW => ⟨⟨fun k => nth [h0, q1, q2, q3, q4, q5, q6, q7, q8] k 0, rfl, trivial, by rw [ht]; exact hP, hD⟩, hS.F ht⟩) hS.2.2 dk_5_83
