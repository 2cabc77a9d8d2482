/-! the members of String that the literals go through: length, charAt (written by wip/whole/gen89.py) -/
def PcS (D : va_G) (cI cZ : ClassId) (ad adV : Nat → Nat) (as : List Value) (M : Mm) : Array Value → State → Prop := va_Pc as (fun U => Wl D cI cZ ad adV M U U.heap)
def QcS (D : va_G) (cI cZ : ClassId) (ad adV : Nat → Nat) (r : Option Value) (M : Mm) : Array Value → State → Outcome → State → Prop := fun _ st oc t => oc = .returned r ∧ Wl D cI cZ ad adV M t t.heap ∧ va_F (Ar ad) st t
theorem PcS_blind {D : va_G} {cI cZ : ClassId} {ad adV : Nat → Nat} {as : List Value} {M : Mm} : FrameBlind (PcS D cI cZ ad adV as M) := by
  intro a U g mk q
  obtain ⟨q0, qP, qK, ⟨qS, qR, qZ⟩, qN⟩ := q
  exact ⟨q0, qP, va_K.moved (u := U) (U := U.calling g mk a) (Vm.Alike.refl U.vm) qK, ⟨vk_S.moved (u := U) (U := U.calling g mk a) (Vm.Alike.refl U.vm) qS, fun i hi => vk_R.same (u := U) rfl (qR i hi), va_Z.moved (u := U) (U := U.calling g mk a) (Vm.Alike.refl U.vm) qZ.1, va_Zq.moved (u := U) (U := U.calling g mk a) (Vm.Alike.refl U.vm) qZ.2⟩, fun w hw => va_Nw.same (u := U) rfl rfl (qN w hw)⟩
section STR
variable {p : Program} {l : Launch} {e : Env} {R : Room} {s : State} {m : MethodId} {args : Array Value} {below : List Frame} {meth : Method} {c : Code} {Q : State → Prop} {D : va_G} {cI cZ : ClassId} {ad adV : Nat → Nat} {cc : ByteArray} {nL pc : Nat} {M : Mm} {H : Heap} {locs : List Loc}
theorem callOnS {r : Option Value} {a : Array Value} {st0 rest : List Value} {ls : Array Slot} (hr : va_Run p l e R s m args below meth c H locs 0 0 0 0 (F0 m pc ls st0) rest (QcS D cI cZ ad adV r M a) (Ar ad)) (hS : va_S (Ar ad) s.heap H locs)
    (kk : ∀ (H1 : Heap) (locs1 : List Loc), va_P D cls (wd cI cZ ad M) H1 → va_S (Ar ad) s.heap H1 locs1 → W p l e R s m args below meth c H1 locs1 0 0 Q (F0 m (pc + 3) ls (r.toList ++ rest))) : W p l e R s m args below meth c H locs 0 0 Q (F0 m pc ls st0) := by
  intro T hT X
  obtain ⟨v, st₀, t, T', LL, h0, X', hL, e1, e2, ⟨hv, hW, ⟨hz, hk⟩⟩, st⟩ := hr T hT X
  have hv2 : v = r := by injection hv
  subst hv2
  rw [h0] at hz hk
  obtain ⟨t2, a1, b1⟩ := kk T'.heap (locs ++ LL) (by rw [e1]; exact hW.1)
    ⟨Nat.le_trans hS.1 (by rw [e1]; exact hz), fun q h1 h2 => by rw [e1, hk q (Nat.lt_of_lt_of_le h1 hS.1) h2]; exact hS.2.1 q h1 h2, fun q hq => by
      rcases List.mem_append.mp hq with h | h
      · exact hS.2.2 q h
      · exact hL q h⟩ T' rfl X'
  exact ⟨t2, st t2 a1, b1⟩
theorem s_callV (hx : p.tables.exec = Jvm.exec) (hb : c.code = cc) (hml : c.maxLocals = nL) (hts : ∀ w ∈ gt, w.before args s = true) (hK : va_K D cls (tyw cI cZ) s) (hSt : Sok ad adV s s.heap) (hN : Nok s) {own : String} (hown : s.vm.findClass own = some m.cls)
    {yn : MethodName} {bytes : ByteArray} {maxL np k b : Nat} {ret : Option FieldType} {rmc : Room} {As rest : List Value} {r : Option Value} {ls : Array Slot}
    (hMet : Met l yn (Jvm.Cond.code yn bytes maxL ret :: gt) rmc (PcS D cI cZ ad adV (.ref b :: As) M) (QcS D cI cZ ad adV r M) 0 0 (Ar ad)) (hrc : rmc.cells = 0) (hrs : rmc.slots = 0) (hR : rmc.frames + 1 ≤ R.frames ∧ 8 + (maxL + 11) + rmc.locals ≤ R.locals)
    (wc : Jvm.Cond.code yn bytes maxL ret ∈ gt) (wi : Jvm.Cond.initialized yn.cls ∈ gt) (wl : Jvm.Cond.methodLink own k yn ∈ gt) (wm : Jvm.Cond.instanceMethod yn ∈ gt) (wsl : Jvm.Cond.selects yn.cls yn yn ∈ gt)
    (hd : yn.cls ≠ "java/lang/invoke/MethodHandle" ∧ yn.cls ≠ "java/lang/invoke/VarHandle" ∧ (parseMethodDescriptor yn.desc).map (fun d => d.parameters.length) = some np) (hn : As.length = np) (hcs : (rest.map fun v => v.category).sum ≤ 8)
    (hrecv : ∃ cell : Cell, H[b]? = some cell ∧ cell.vm.isStatics = false ∧ s.vm.findClass yn.cls = some cell.cls) (hls : ls.size = nL)
    (hdc : decode cc pc = .ok (.invokevirtual k, 3)) (hP : va_P D cls (wd cI cZ ad M) H) (hS : va_S (Ar ad) s.heap H locs)
    (kk : ∀ (H1 : Heap) (locs1 : List Loc), va_P D cls (wd cI cZ ad M) H1 → va_S (Ar ad) s.heap H1 locs1 → W p l e R s m args below meth c H1 locs1 0 0 Q (F0 m (pc + 3) ls (r.toList ++ rest))) : W p l e R s m args below meth c H locs 0 0 Q (F0 m pc ls (As.reverse ++ .ref b :: rest)) := by
  have hcw : CallW R s args own yn.cls k yn bytes maxL ret (Jvm.Cond.code yn bytes maxL ret :: gt) rmc 0 0 np := ⟨callB_of np hts (gt_GoodIn rfl wc) rfl hrc hrs (hts _ wi) (hts _ wl) hd hR, hts _ wm, hts _ wsl⟩
  have hrun := va_runV (g := F0 m pc ls (As.reverse ++ .ref b :: rest)) (H := H) (locs := locs) (cells := 0) (slots := 0) (As := As) (b := b) (rest := rest) (below := below) (e := e) (meth := meth) (nL := nL) ⟨hx, hb, hml, hown, hts⟩ hMet hcw
    ⟨PcS_blind, hrecv, fun U hU hW => ⟨rfl, Wl_at hP hS hK hSt hN hU hW⟩⟩ rfl hn hls rfl (lv_room hcs) hdc ⟨Nat.zero_le _, Nat.zero_le _⟩
  exact callOnS hrun hS kk
theorem s_callS (hx : p.tables.exec = Jvm.exec) (hb : c.code = cc) (hml : c.maxLocals = nL) (hts : ∀ w ∈ gt, w.before args s = true) (hK : va_K D cls (tyw cI cZ) s) (hSt : Sok ad adV s s.heap) (hN : Nok s) {own : String} (hown : s.vm.findClass own = some m.cls)
    {yn : MethodName} {bytes : ByteArray} {maxL np k : Nat} {ret : Option FieldType} {rmc : Room} {As rest : List Value} {r : Option Value} {ls : Array Slot}
    (hMet : Met l yn (Jvm.Cond.code yn bytes maxL ret :: gt) rmc (PcS D cI cZ ad adV As M) (QcS D cI cZ ad adV r M) 0 0 (Ar ad)) (hrc : rmc.cells = 0) (hrs : rmc.slots = 0) (hR : rmc.frames + 1 ≤ R.frames ∧ 8 + (maxL + 11) + rmc.locals ≤ R.locals)
    (wc : Jvm.Cond.code yn bytes maxL ret ∈ gt) (wi : Jvm.Cond.initialized yn.cls ∈ gt) (wl : Jvm.Cond.methodLink own k yn ∈ gt) (wm : Jvm.Cond.static yn ∈ gt)
    (hd : yn.cls ≠ "java/lang/invoke/MethodHandle" ∧ yn.cls ≠ "java/lang/invoke/VarHandle" ∧ (parseMethodDescriptor yn.desc).map (fun d => d.parameters.length) = some np) (hn : As.length = np) (hcs : (rest.map fun v => v.category).sum ≤ 8)
    (hls : ls.size = nL) (hdc : decode cc pc = .ok (.invokestatic k, 3)) (hP : va_P D cls (wd cI cZ ad M) H) (hS : va_S (Ar ad) s.heap H locs)
    (kk : ∀ (H1 : Heap) (locs1 : List Loc), va_P D cls (wd cI cZ ad M) H1 → va_S (Ar ad) s.heap H1 locs1 → W p l e R s m args below meth c H1 locs1 0 0 Q (F0 m (pc + 3) ls (r.toList ++ rest))) : W p l e R s m args below meth c H locs 0 0 Q (F0 m pc ls (As.reverse ++ rest)) := by
  have hrun : va_Run p l e R s m args below meth c H locs 0 0 0 0 (F0 m pc ls (As.reverse ++ rest)) rest (QcS D cI cZ ad adV r M As.toArray) (Ar ad) :=
    va_runS (As := As) (rest := rest) (nL := nL) ⟨hx, hb, hml, hown, hts⟩ hMet ⟨callB_of np hts (gt_GoodIn rfl wc) rfl hrc hrs (hts _ wi) (hts _ wl) hd hR, hts _ wm⟩
      ⟨PcS_blind, fun U hU hW => ⟨rfl, Wl_at hP hS hK hSt hN hU hW⟩⟩ rfl hn hls rfl (lv_room hcs) hdc ⟨Nat.zero_le _, Nat.zero_le _⟩
  exact callOnS hrun hS kk
theorem metS {yn : MethodName} {maxL : Nat} {ret : Option FieldType} {rmc : Room} {as : List Value} {Qc : Array Value → State → Outcome → State → Prop} (hpl : plainFor yn = true) (hc : (lg_sl as).length ≤ maxL)
    (body : ∀ (p : Program) (e : Env) (s : State) (m : MethodId) (args : Array Value) (below : List Frame) (meth : Method) (c : Code) (ls : Array Slot), p.tables.exec = Jvm.exec → c.code = cc → meth.sig.returnType = ret → c.maxLocals = maxL → meth.locks = false → s.vm.findClass yn.cls = some m.cls → (∀ w ∈ gt, w.before args s = true) → Wl D cI cZ ad adV M s s.heap → lv_has ls maxL (lv_args 0 as) → W p l e rmc s m args below meth c s.heap [] 0 0 (MQ below Qc args s 0 0 (Ar ad)) (F0 m 0 ls [])) :
    Met l yn (Jvm.Cond.code yn cc maxL ret :: gt) rmc (PcS D cI cZ ad adV as M) Qc 0 0 (Ar ad) := by
  refine va_MetF (cc := cc) (maxL := maxL) (ret := ret) hpl rfl ?_
  intro p e s m args below meth c s₁ B hml hv
  obtain ⟨rfl, hw⟩ := hv
  have hts := atoms_spec (ws := Jvm.Cond.code yn cc maxL ret :: gt) B.pre
  rw [lg_entry_eq]
  exact body p e s m _ below meth c _ B.exec B.bytes B.returns hml B.notSynchronized (findClass_of_methodNamed B.named) (fun w hw => hts w (List.mem_cons_of_mem _ hw)) hw (lv_entry as hc)
end STR
theorem w_iniL : Jvm.Cond.initialized "java/lang/StringLatin1" ∈ gt := gt_of (i := 88) (by decide +kernel) rfl
theorem w_iniP : Jvm.Cond.initialized "jdk/internal/util/Preconditions" ∈ gt := gt_of (i := 89) (by decide +kernel) rfl
theorem w_l335 : Jvm.Cond.methodLink "java/lang/String" 335 yJ0_coder_7d493 ∈ gt := gt_of (i := 387) (by decide +kernel) rfl
theorem w_codI : Jvm.Cond.instanceMethod yJ0_coder_7d493 ∈ gt := gt_of (i := 388) (by decide +kernel) rfl
theorem w_codS : Jvm.Cond.selects "java/lang/String" yJ0_coder_7d493 yJ0_coder_7d493 ∈ gt := gt_of (i := 389) (by decide +kernel) rfl
theorem w_cod : Jvm.Cond.code yJ0_coder_7d493 cJ0_coder_7d493 1 (some .byte) ∈ gt := gt_of (i := 390) (by decide +kernel) rfl
theorem w_f38 : Jvm.Cond.fieldLink "java/lang/String" 38 "java/lang/String" "COMPACT_STRINGS" "Z" ∈ gt := gt_of (i := 391) (by decide +kernel) rfl
theorem w_l492 : Jvm.Cond.methodLink "java/lang/String" 492 yJ0_isLatin1_aae02 ∈ gt := gt_of (i := 397) (by decide +kernel) rfl
theorem w_latI : Jvm.Cond.instanceMethod yJ0_isLatin1_aae02 ∈ gt := gt_of (i := 398) (by decide +kernel) rfl
theorem w_latS : Jvm.Cond.selects "java/lang/String" yJ0_isLatin1_aae02 yJ0_isLatin1_aae02 ∈ gt := gt_of (i := 399) (by decide +kernel) rfl
theorem w_lat : Jvm.Cond.code yJ0_isLatin1_aae02 cJ0_isLatin1_aae02 1 (some .boolean) ∈ gt := gt_of (i := 400) (by decide +kernel) rfl
theorem w_l495 : Jvm.Cond.methodLink "java/lang/String" 495 yJ1_charAt_3b067 ∈ gt := gt_of (i := 401) (by decide +kernel) rfl
theorem w_laS : Jvm.Cond.static yJ1_charAt_3b067 ∈ gt := gt_of (i := 402) (by decide +kernel) rfl
theorem w_la : Jvm.Cond.code yJ1_charAt_3b067 cJ1_charAt_3b067 2 (some .char) ∈ gt := gt_of (i := 403) (by decide +kernel) rfl
theorem w_l9 : Jvm.Cond.methodLink "java/lang/StringLatin1" 9 yJ0_checkIndex_df160 ∈ gt := gt_of (i := 404) (by decide +kernel) rfl
theorem w_ciS : Jvm.Cond.static yJ0_checkIndex_df160 ∈ gt := gt_of (i := 405) (by decide +kernel) rfl
theorem w_ci : Jvm.Cond.code yJ0_checkIndex_df160 cJ0_checkIndex_df160 2 none ∈ gt := gt_of (i := 406) (by decide +kernel) rfl
theorem w_f1053 : Jvm.Cond.fieldLink "java/lang/String" 1053 "jdk/internal/util/Preconditions" "SIOOBE_FORMATTER" "Ljava/util/function/BiFunction;" ∈ gt := gt_of (i := 407) (by decide +kernel) rfl
theorem w_l1059 : Jvm.Cond.methodLink "java/lang/String" 1059 yJ3_checkIndex_8e157 ∈ gt := gt_of (i := 409) (by decide +kernel) rfl
theorem w_pcS : Jvm.Cond.static yJ3_checkIndex_8e157 ∈ gt := gt_of (i := 410) (by decide +kernel) rfl
theorem w_pc : Jvm.Cond.code yJ3_checkIndex_8e157 cJ3_checkIndex_8e157 3 (some .int) ∈ gt := gt_of (i := 411) (by decide +kernel) rfl
theorem w_f9 : Jvm.Cond.fieldLink "java/lang/String" 9 "java/lang/String" "value" "[B" ∈ gt := gt_of (i := 1340) (by decide +kernel) rfl
theorem w_f15 : Jvm.Cond.fieldLink "java/lang/String" 15 "java/lang/String" "coder" "B" ∈ gt := gt_of (i := 1341) (by decide +kernel) rfl
theorem d_cod_0 : decode cJ0_coder_7d493 0 = .ok (.getstatic 38, 3) := by decide +kernel
theorem d_cod_3 : decode cJ0_coder_7d493 3 = .ok (.ifCond .eq 10, 3) := by decide +kernel
theorem d_cod_6 : decode cJ0_coder_7d493 6 = .ok (.aload_n 0, 1) := by decide +kernel
theorem d_cod_7 : decode cJ0_coder_7d493 7 = .ok (.getfield 15, 3) := by decide +kernel
theorem d_cod_10 : decode cJ0_coder_7d493 10 = .ok (.goto 4, 3) := by decide +kernel
theorem d_cod_14 : decode cJ0_coder_7d493 14 = .ok (.ireturn, 1) := by decide +kernel
theorem d_len_0 : decode cJ0_length_8abf5 0 = .ok (.aload_n 0, 1) := by decide +kernel
theorem d_len_1 : decode cJ0_length_8abf5 1 = .ok (.getfield 9, 3) := by decide +kernel
theorem d_len_4 : decode cJ0_length_8abf5 4 = .ok (.arraylength, 1) := by decide +kernel
theorem d_len_5 : decode cJ0_length_8abf5 5 = .ok (.aload_n 0, 1) := by decide +kernel
theorem d_len_6 : decode cJ0_length_8abf5 6 = .ok (.invokevirtual 335, 3) := by decide +kernel
theorem d_len_9 : decode cJ0_length_8abf5 9 = .ok (.ishr, 1) := by decide +kernel
theorem d_len_10 : decode cJ0_length_8abf5 10 = .ok (.ireturn, 1) := by decide +kernel
theorem d_lat_0 : decode cJ0_isLatin1_aae02 0 = .ok (.getstatic 38, 3) := by decide +kernel
theorem d_lat_3 : decode cJ0_isLatin1_aae02 3 = .ok (.ifCond .eq 14, 3) := by decide +kernel
theorem d_lat_6 : decode cJ0_isLatin1_aae02 6 = .ok (.aload_n 0, 1) := by decide +kernel
theorem d_lat_7 : decode cJ0_isLatin1_aae02 7 = .ok (.getfield 15, 3) := by decide +kernel
theorem d_lat_10 : decode cJ0_isLatin1_aae02 10 = .ok (.ifCond .ne 7, 3) := by decide +kernel
theorem d_lat_13 : decode cJ0_isLatin1_aae02 13 = .ok (.iconst 1, 1) := by decide +kernel
theorem d_lat_14 : decode cJ0_isLatin1_aae02 14 = .ok (.goto 4, 3) := by decide +kernel
theorem d_lat_18 : decode cJ0_isLatin1_aae02 18 = .ok (.ireturn, 1) := by decide +kernel
theorem d_pc_0 : decode cJ3_checkIndex_8e157 0 = .ok (.iload_n 0, 1) := by decide +kernel
theorem d_pc_1 : decode cJ3_checkIndex_8e157 1 = .ok (.ifCond .lt 8, 3) := by decide +kernel
theorem d_pc_4 : decode cJ3_checkIndex_8e157 4 = .ok (.iload_n 0, 1) := by decide +kernel
theorem d_pc_5 : decode cJ3_checkIndex_8e157 5 = .ok (.iload_n 1, 1) := by decide +kernel
theorem d_pc_6 : decode cJ3_checkIndex_8e157 6 = .ok (.if_icmp .lt 10, 3) := by decide +kernel
theorem d_pc_16 : decode cJ3_checkIndex_8e157 16 = .ok (.iload_n 0, 1) := by decide +kernel
theorem d_pc_17 : decode cJ3_checkIndex_8e157 17 = .ok (.ireturn, 1) := by decide +kernel
theorem d_ci_0 : decode cJ0_checkIndex_df160 0 = .ok (.iload_n 0, 1) := by decide +kernel
theorem d_ci_1 : decode cJ0_checkIndex_df160 1 = .ok (.iload_n 1, 1) := by decide +kernel
theorem d_ci_2 : decode cJ0_checkIndex_df160 2 = .ok (.getstatic 1053, 3) := by decide +kernel
theorem d_ci_5 : decode cJ0_checkIndex_df160 5 = .ok (.invokestatic 1059, 3) := by decide +kernel
theorem d_ci_8 : decode cJ0_checkIndex_df160 8 = .ok (.pop, 1) := by decide +kernel
theorem d_ci_9 : decode cJ0_checkIndex_df160 9 = .ok (.return_, 1) := by decide +kernel
theorem d_la_0 : decode cJ1_charAt_3b067 0 = .ok (.iload_n 1, 1) := by decide +kernel
theorem d_la_1 : decode cJ1_charAt_3b067 1 = .ok (.aload_n 0, 1) := by decide +kernel
theorem d_la_2 : decode cJ1_charAt_3b067 2 = .ok (.arraylength, 1) := by decide +kernel
theorem d_la_3 : decode cJ1_charAt_3b067 3 = .ok (.invokestatic 9, 3) := by decide +kernel
theorem d_la_6 : decode cJ1_charAt_3b067 6 = .ok (.aload_n 0, 1) := by decide +kernel
theorem d_la_7 : decode cJ1_charAt_3b067 7 = .ok (.iload_n 1, 1) := by decide +kernel
theorem d_la_8 : decode cJ1_charAt_3b067 8 = .ok (.baload, 1) := by decide +kernel
theorem d_la_9 : decode cJ1_charAt_3b067 9 = .ok (.sipush 255, 3) := by decide +kernel
theorem d_la_12 : decode cJ1_charAt_3b067 12 = .ok (.iand, 1) := by decide +kernel
theorem d_la_13 : decode cJ1_charAt_3b067 13 = .ok (.i2c, 1) := by decide +kernel
theorem d_la_14 : decode cJ1_charAt_3b067 14 = .ok (.ireturn, 1) := by decide +kernel
theorem d_ch_0 : decode cJ0_charAt_5068e 0 = .ok (.aload_n 0, 1) := by decide +kernel
theorem d_ch_1 : decode cJ0_charAt_5068e 1 = .ok (.invokevirtual 492, 3) := by decide +kernel
theorem d_ch_4 : decode cJ0_charAt_5068e 4 = .ok (.ifCond .eq 12, 3) := by decide +kernel
theorem d_ch_7 : decode cJ0_charAt_5068e 7 = .ok (.aload_n 0, 1) := by decide +kernel
theorem d_ch_8 : decode cJ0_charAt_5068e 8 = .ok (.getfield 9, 3) := by decide +kernel
theorem d_ch_11 : decode cJ0_charAt_5068e 11 = .ok (.iload_n 1, 1) := by decide +kernel
theorem d_ch_12 : decode cJ0_charAt_5068e 12 = .ok (.invokestatic 495, 3) := by decide +kernel
theorem d_ch_15 : decode cJ0_charAt_5068e 15 = .ok (.ireturn, 1) := by decide +kernel
theorem str_ix : ∀ i, i < 6 → ∀ k, k < strL.getD i 0 → (¬ Int32.ofNat k < 0 ∧ Int32.ofNat k < Int32.ofNat (strL.getD i 0) ∧ ¬ (Int32.ofNat k < 0 ∨ strL.getD i 0 ≤ (Int32.ofNat k).toNatClampNeg) ∧ (Int32.ofNat k).toNatClampNeg = k ∧ ((((strY.getD i []).getD k 0) &&& 255).toUInt32 % 65536).toInt32 = (strY.getD i []).getD k 0 ∧ (strY.getD i []).getD k 0 = Int32.ofInt (nth (nth strB i []) k 0) ∧ nth (nth strB i []) k 0 < 128 ∧ 0 ≤ nth (nth strB i []) k 0) := by decide +kernel
theorem str_le : ∀ i, i < 6 → (Int32.ofNat (strL.getD i 0) >>> ((0 : Int32) &&& 31) = Int32.ofNat (strL.getD i 0) ∧ strL.getD i 0 = (nth strB i []).length ∧ (nth strB i []).length < 9) := by decide +kernel
theorem str_na : ∀ i, i < 6 → ∀ k, k < strL.getD i 0 → narrow .char (.int ((strY.getD i []).getD k 0)) = .int ((strY.getD i []).getD k 0) := by decide +kernel
section STM
variable {l : Launch} {D : va_G} {cI cZ : ClassId} {ad adV : Nat → Nat} {M : Mm} {i k : Nat}
theorem M_coder (hi : i < 6) : Met l yJ0_coder_7d493 (Jvm.Cond.code yJ0_coder_7d493 cJ0_coder_7d493 1 (some .byte) :: gt) (rmS 0) (PcS D cI cZ ad adV [.ref (ad (500 + i))] M) (QcS D cI cZ ad adV (some (.int 0)) M) 0 0 (Ar ad) := by
  refine metS (by decide +kernel) (Nat.le_refl 1) ?_
  intro p e s m args below meth c ls hx hb hr hml hlk hown hts hw hL
  obtain ⟨hP, hK, hSt, hN⟩ := hw
  have hown : s.vm.findClass "java/lang/String" = some m.cls := hown
  have h0 := lv_at hL 0 (i := 0) rfl
  refine va_gets hx hb hSt.2.2.1 va_S.rf hown (hts _ w_f38) (fun x h => h) d_cod_0 ?_
  refine lv_if_eq (tgt := 13) hx hb d_cod_3 (by decide) (fun h => absurd h (by decide)) (fun _ => ?_)
  refine lv_aload_n hx hb d_cod_6 rfl h0 ?_
  refine vk_getf hx hb (hSt.1.1 i hi).2.1 va_S.rf hown (hts _ w_f15) (fun x h => h) d_cod_7 ?_
  refine lv_goto (tgt := 14) hx hb d_cod_10 (by decide) ?_
  exact W.zret hx hb hr (by decide +kernel) (fun t ht hW => ⟨rfl, Wl_at hP va_S.rf hK hSt hN ht hW, va_S.rf.F ht⟩) (by intro q h; cases h) d_cod_14 hlk
theorem M_lat (hi : i < 6) : Met l yJ0_isLatin1_aae02 (Jvm.Cond.code yJ0_isLatin1_aae02 cJ0_isLatin1_aae02 1 (some .boolean) :: gt) (rmS 0) (PcS D cI cZ ad adV [.ref (ad (500 + i))] M) (QcS D cI cZ ad adV (some (.int 1)) M) 0 0 (Ar ad) := by
  refine metS (by decide +kernel) (Nat.le_refl 1) ?_
  intro p e s m args below meth c ls hx hb hr hml hlk hown hts hw hL
  obtain ⟨hP, hK, hSt, hN⟩ := hw
  have hown : s.vm.findClass "java/lang/String" = some m.cls := hown
  have h0 := lv_at hL 0 (i := 0) rfl
  refine va_gets hx hb hSt.2.2.1 va_S.rf hown (hts _ w_f38) (fun x h => h) d_lat_0 ?_
  refine lv_if_eq (tgt := 17) hx hb d_lat_3 (by decide) (fun h => absurd h (by decide)) (fun _ => ?_)
  refine lv_aload_n hx hb d_lat_6 rfl h0 ?_
  refine vk_getf hx hb (hSt.1.1 i hi).2.1 va_S.rf hown (hts _ w_f15) (fun x h => h) d_lat_7 ?_
  refine lv_if_ne (tgt := 17) hx hb d_lat_10 (by decide) (fun h => absurd rfl h) (fun _ => ?_)
  refine lv_iconst (v := 1) hx hb d_lat_13 (by decide) ?_
  refine lv_goto (tgt := 18) hx hb d_lat_14 (by decide) ?_
  exact W.zret hx hb hr (by decide +kernel) (fun t ht hW => ⟨rfl, Wl_at hP va_S.rf hK hSt hN ht hW, va_S.rf.F ht⟩) (by intro q h; cases h) d_lat_18 hlk
theorem M_pc {x y : Int32} {v : Value} (h0 : ¬ x < 0) (h1 : x < y) (hv : v = .null ∨ ∃ t, v = .ref t) : Met l yJ3_checkIndex_8e157 (Jvm.Cond.code yJ3_checkIndex_8e157 cJ3_checkIndex_8e157 3 (some .int) :: gt) (rmS 0) (PcS D cI cZ ad adV [.int x, .int y, v] M) (QcS D cI cZ ad adV (some (.int x)) M) 0 0 (Ar ad) := by
  have hc : (lg_sl [.int x, .int y, v]).length ≤ 3 := by
    rcases hv with rfl | ⟨t, rfl⟩
    · exact Nat.le_refl 3
    · exact Nat.le_refl 3
  refine metS (by decide +kernel) hc ?_
  intro p e s m args below meth c ls hx hb hr hml hlk hown hts hw hL
  obtain ⟨hP, hK, hSt, hN⟩ := hw
  have e0 := lv_at hL 0 (i := 0) (v := .int x) rfl
  have e1 := lv_at hL 1 (i := 1) (v := .int y) rfl
  refine lv_iload_n hx hb d_pc_0 rfl e0 ?_
  refine lv_if_lt (tgt := 9) hx hb d_pc_1 (by decide) (fun h => absurd h h0) (fun _ => ?_)
  refine lv_iload_n hx hb d_pc_4 rfl e0 ?_
  refine lv_iload_n hx hb d_pc_5 rfl e1 ?_
  refine lv_icmp_lt (tgt := 16) hx hb d_pc_6 (by decide) (fun _ => ?_) (fun h => absurd h1 h)
  refine lv_iload_n hx hb d_pc_16 rfl e0 ?_
  exact W.iret hx hb hr (fun t ht hW => ⟨rfl, Wl_at hP va_S.rf hK hSt hN ht hW, va_S.rf.F ht⟩) (by intro q h; cases h) d_pc_17 hlk
theorem M_ci {x y : Int32} (h0 : ¬ x < 0) (h1 : x < y) : Met l yJ0_checkIndex_df160 (Jvm.Cond.code yJ0_checkIndex_df160 cJ0_checkIndex_df160 2 none :: gt) (rmS 1) (PcS D cI cZ ad adV [.int x, .int y] M) (QcS D cI cZ ad adV none M) 0 0 (Ar ad) := by
  refine metS (by decide +kernel) (Nat.le_refl 2) ?_
  intro p e s m args below meth c ls hx hb hr hml hlk hown hts hw hL
  obtain ⟨hP, hK, hSt, hN⟩ := hw
  have hown : s.vm.findClass "java/lang/String" = some m.cls := hown
  have e0 := lv_at hL 0 (i := 0) (v := .int x) rfl
  have e1 := lv_at hL 1 (i := 1) (v := .int y) rfl
  obtain ⟨v, hv, hZ⟩ : ∃ v : Value, (v = .null ∨ ∃ t, v = .ref t) ∧ va_Z "jdk/internal/util/Preconditions" "SIOOBE_FORMATTER" "Ljava/util/function/BiFunction;" v (Ar ad) s s.heap := by
    rcases hSt.2.2.2 with h | ⟨t, h⟩
    · exact ⟨_, Or.inl rfl, h⟩
    · exact ⟨_, Or.inr ⟨t, rfl⟩, h⟩
  refine lv_iload_n hx hb d_ci_0 rfl e0 ?_
  refine lv_iload_n hx hb d_ci_1 rfl e1 ?_
  refine va_gets hx hb hZ va_S.rf hown (hts _ w_f1053) (fun x h => h) d_ci_2 ?_
  refine s_callS (np := 3) (As := [.int x, .int y, v]) (rest := []) (r := some (.int x)) hx hb hml hts hK hSt hN hown (M_pc h0 h1 hv) rfl rfl ⟨by decide, by decide⟩ w_pc w_iniP w_l1059 w_pcS ⟨by decide +kernel, by decide +kernel, by decide +kernel⟩ rfl (by decide) hL.1 d_ci_5 hP va_S.rf (fun H1 locs1 hP1 hS1 => ?_)
  refine lv_pop (va := .int x) hx hb d_ci_8 rfl ?_
  exact W.vret hx hb hr (fun t ht hW => ⟨rfl, Wl_at hP1 hS1 hK hSt hN ht hW, hS1.F ht⟩) hS1.2.2 d_ci_9 hlk
theorem M_la (hi : i < 6) (hk : k < strL.getD i 0) : Met l yJ1_charAt_3b067 (Jvm.Cond.code yJ1_charAt_3b067 cJ1_charAt_3b067 2 (some .char) :: gt) (rmS 2) (PcS D cI cZ ad adV [.ref (adV i), .int (Int32.ofNat k)] M) (QcS D cI cZ ad adV (some (.int ((strY.getD i []).getD k 0))) M) 0 0 (Ar ad) := by
  refine metS (by decide +kernel) (Nat.le_refl 2) ?_
  intro p e s m args below meth c ls hx hb hr hml hlk hown hts hw hL
  obtain ⟨hP, hK, hSt, hN⟩ := hw
  obtain ⟨j0, j1, j2, j3, j4, -⟩ := str_ix i hi k hk
  have hown : s.vm.findClass "java/lang/StringLatin1" = some m.cls := hown
  have e0 := lv_at hL 0 (i := 0) (v := .ref (adV i)) rfl
  have e1 := lv_at hL 1 (i := 1) (v := .int (Int32.ofNat k)) rfl
  refine lv_iload_n hx hb d_la_0 rfl e1 ?_
  refine lv_aload_n hx hb d_la_1 rfl e0 ?_
  refine va_tlen hx hb (hSt.1.1 i hi).2.2.2 va_S.rf rfl d_la_2 ?_
  refine s_callS (np := 2) (As := [.int (Int32.ofNat k), .int (Int32.ofNat (strL.getD i 0))]) (rest := []) (r := none) hx hb hml hts hK hSt hN hown (M_ci j0 j1) rfl rfl ⟨by decide, by decide⟩ w_ci w_ini w_l9 w_ciS ⟨by decide +kernel, by decide +kernel, by decide +kernel⟩ rfl (by decide) hL.1 d_la_3 hP va_S.rf (fun H1 locs1 hP1 hS1 => ?_)
  refine lv_aload_n hx hb d_la_6 rfl e0 ?_
  refine lv_iload_n hx hb d_la_7 rfl e1 ?_
  refine va_tb (v := .int ((strY.getD i []).getD k 0)) hx hb (hSt.1.1 i hi).2.2.2 hS1 j2 (by rw [j3]) d_la_8 ?_
  refine lv_sipush (v := 255) hx hb d_la_9 (by decide) ?_
  refine lv_iand hx hb d_la_12 ?_
  refine lv_i2c hx hb d_la_13 j4 ?_
  exact W.zret hx hb hr (str_na i hi k hk) (fun t ht hW => ⟨rfl, Wl_at hP1 hS1 hK hSt hN ht hW, hS1.F ht⟩) hS1.2.2 d_la_14 hlk
theorem lenOk : LenOk l D cI cZ ad adV := by
  intro i M hi hM
  refine metS (as := [.ref (ad (500 + i))]) (by decide +kernel) (Nat.le_refl 1) ?_
  intro p e s m args below meth c ls hx hb hr hml hlk hown hts hw hL
  obtain ⟨hP, hK, hSt, hN⟩ := hw
  obtain ⟨j0, j1, j2⟩ := str_le i hi
  have hown : s.vm.findClass "java/lang/String" = some m.cls := hown
  have e0 := lv_at hL 0 (i := 0) (v := .ref (ad (500 + i))) rfl
  refine lv_aload_n hx hb d_len_0 rfl e0 ?_
  refine vk_getf hx hb (hSt.1.1 i hi).2.2.1 va_S.rf hown (hts _ w_f9) (fun x h => h) d_len_1 ?_
  refine va_tlen hx hb (hSt.1.1 i hi).2.2.2 va_S.rf rfl d_len_4 ?_
  refine lv_aload_n hx hb d_len_5 rfl e0 ?_
  refine s_callV (np := 0) (As := []) (rest := [.int (Int32.ofNat (strL.getD i 0))]) (r := some (.int 0)) hx hb hml hts hK hSt hN hown (M_coder hi) rfl rfl ⟨by decide, by decide⟩ w_cod w_ini w_l335 w_codI w_codS ⟨by decide +kernel, by decide +kernel, by decide +kernel⟩ rfl (by simp [Value.category]) (vk_recv (i := i) (adK := fun i => ad (500 + i)) hSt.1 hi va_S.rf) hL.1 d_len_6 hP va_S.rf (fun H1 locs1 hP1 hS1 => ?_)
  refine lv_ishr hx hb d_len_9 ?_
  rw [j0]
  refine W.iret hx hb hr (fun t ht hW => ⟨?_, Wl_at hP1 hS1 hK hSt hN ht hW, hS1.F ht, hM, fun v e => ?_⟩) hS1.2.2 d_len_10 hlk
  · show Outcome.returned (some (Value.int (Int32.ofNat (strL.getD i 0)))) = Outcome.returned (some (Value.int (Int32.ofInt ((nth strB i []).length : Int))))
    rw [j1, ← Int32.ofInt_eq_ofNat]
  · cases e
    exact ⟨by omega, by omega⟩
theorem chrOk : ChrOk l D cI cZ ad adV := by
  intro i j M hi hM hj0 hj1
  obtain ⟨k, rfl⟩ : ∃ k : Nat, j = (k : Int) := ⟨j.toNat, by omega⟩
  obtain ⟨-, l1, -⟩ := str_le i hi
  have hk : k < strL.getD i 0 := by omega
  have e9 : Int32.ofInt (k : Int) = Int32.ofNat k := Int32.ofInt_eq_ofNat
  refine metS (as := [.ref (ad (500 + i)), .int (Int32.ofInt (k : Int))]) (by decide +kernel) (Nat.le_refl 2) ?_
  rw [e9]
  intro p e s m args below meth c ls hx hb hr hml hlk hown hts hw hL
  obtain ⟨hP, hK, hSt, hN⟩ := hw
  obtain ⟨-, -, -, -, -, j5, j6, j7⟩ := str_ix i hi k hk
  have hown : s.vm.findClass "java/lang/String" = some m.cls := hown
  have e0 := lv_at hL 0 (i := 0) (v := .ref (ad (500 + i))) rfl
  have e1 := lv_at hL 1 (i := 1) (v := .int (Int32.ofNat k)) rfl
  refine lv_aload_n hx hb d_ch_0 rfl e0 ?_
  refine s_callV (np := 0) (As := []) (rest := []) (r := some (.int 1)) hx hb hml hts hK hSt hN hown (M_lat hi) rfl rfl ⟨by decide, by decide⟩ w_lat w_ini w_l492 w_latI w_latS ⟨by decide +kernel, by decide +kernel, by decide +kernel⟩ rfl (by decide) (vk_recv (i := i) (adK := fun i => ad (500 + i)) hSt.1 hi va_S.rf) hL.1 d_ch_1 hP va_S.rf (fun H1 locs1 hP1 hS1 => ?_)
  refine lv_if_eq (tgt := 16) hx hb d_ch_4 (by decide) (fun h => absurd h (by decide)) (fun _ => ?_)
  refine lv_aload_n hx hb d_ch_7 rfl e0 ?_
  refine vk_getf hx hb (hSt.1.1 i hi).2.2.1 hS1 hown (hts _ w_f9) (fun x h => h) d_ch_8 ?_
  refine lv_iload_n hx hb d_ch_11 rfl e1 ?_
  refine s_callS (np := 2) (As := [.ref (adV i), .int (Int32.ofNat k)]) (rest := []) (r := some (.int ((strY.getD i []).getD k 0))) hx hb hml hts hK hSt hN hown (M_la hi hk) rfl rfl ⟨by decide, by decide⟩ w_la w_iniL w_l495 w_laS ⟨by decide +kernel, by decide +kernel, by decide +kernel⟩ rfl (by decide) hL.1 d_ch_12 hP1 hS1 (fun H2 locs2 hP2 hS2 => ?_)
  refine W.zret hx hb hr (str_na i hi k hk) (fun t ht hW => ⟨?_, Wl_at hP2 hS2 hK hSt hN ht hW, hS2.F ht, hM, fun v e => ?_⟩) hS2.2.2 d_ch_15 hlk
  · show Outcome.returned (some (Value.int ((strY.getD i []).getD k 0))) = Outcome.returned (some (Value.int (Int32.ofInt (nth (nth strB i []) (k : Int).toNat 0))))
    rw [j5]; rfl
  · cases e
    exact ⟨by show (-2147483648 : Int) ≤ nth (nth strB i []) k 0; omega, by show nth (nth strB i []) k 0 < (2147483648 : Int); omega⟩
theorem snd0 (hj : inj ad) : ∀ n, SndP l D cI cZ ad adV n := snd hj lenOk chrOk
end STM
