/-! fields, arrays, switches, ends -/
def kTy : Nat → Option FieldType
  | 0 => some .int
  | 1 => some .long
  | 2 => some .boolean
  | _ => none
def clN (ci : Nat) : String := (nth cls ci ("", TX0, 0)).1
def clT (ci : Nat) : u_T := (nth cls ci ("", TX0, 0)).2.1
def clS (ci : Nat) : Nat := (nth cls ci ("", TX0, 0)).2.2
theorem cls_get {ci : Nat} (h : ci < 6) : cls[ci]? = some (clN ci, clT ci, clS ci) := nth_get cls ci h
/-- the shapes fit the classes -/
def shOk (r : Nat) : Bool := match shp r with
  | .inl _ => true
  | .inr (ci, ks) => Nat.blt ci 6 && (Nat.beq ks.length (clS ci) && (List.range (clS ci)).all (fun f => match kTy (nth ks f 99999) with
    | some t => decide (parseFieldDescriptor ((clT ci) f).2.2.1 = some t)
    | none => true))
theorem sh_ok : (List.range 73).all shOk = true := by decide +kernel
theorem shp_lt {r ci : Nat} {ks : List Nat} (h : shp r = .inr (ci, ks)) : r < 73 := by
  rcases Nat.lt_or_ge r 73 with q | q
  · exact q
  · rw [shp_out q] at h; cases h
theorem sh_obj {r ci : Nat} {ks : List Nat} (h : shp r = .inr (ci, ks)) : ci < 6 ∧ ks.length = clS ci ∧ ∀ f, f < clS ci → ∀ t, kTy (nth ks f 99999) = some t → parseFieldDescriptor ((clT ci) f).2.2.1 = some t := by
  have h0 := List.all_eq_true.mp sh_ok r (List.mem_range.mpr (shp_lt h))
  unfold shOk at h0
  rw [h] at h0
  simp only [Bool.and_eq_true] at h0
  obtain ⟨h1, h2, h3⟩ := h0
  refine ⟨Nat.le_of_ble_eq_true h1, Nat.eq_of_beq_eq_true h2, fun f hf t ht => ?_⟩
  have h4 := List.all_eq_true.mp h3 f (List.mem_range.mpr hf)
  rw [ht] at h4
  exact of_decide_eq_true h4
theorem nth_some {α : Type} {d : α} {l : List α} {n : Nat} {a : α} (h : l[n]? = some a) : nth l n d = a := by
  have h1 := nth_get (d := d) l n (List.getElem?_eq_some_iff.mp h).1
  rw [h] at h1
  exact (Option.some.inj h1).symm
theorem fkind_spec {r ci f k : Nat} (h : fkind r ci f = k) (hk : k ≠ 99999) : ∃ ks, shp r = .inr (ci, ks) ∧ ks[f]? = some k := by
  unfold fkind at h
  cases hs : shp r with
  | inl q => rw [hs] at h; exact absurd h.symm hk
  | inr q =>
    obtain ⟨c0, ks⟩ := q
    rw [hs] at h
    dsimp only at h
    cases hc : Nat.beq c0 ci with
    | false => rw [hc] at h; exact absurd h.symm hk
    | true =>
      rw [hc] at h
      have hc2 := Nat.eq_of_beq_eq_true hc
      subst hc2
      refine ⟨ks, rfl, ?_⟩
      rcases Nat.lt_or_ge f ks.length with q | q
      · rw [nth_get (d := 99999) ks f q]; exact congrArg some h
      · exact absurd ((nth_out (d := 99999) ks f q).symm.trans h).symm hk
theorem okM_int {M : Mm} (h : okM M) {r i : Nat} (hl : lgc r i = false) : ok32 (M r i) := by
  have := h r i; rw [hl] at this; simpa using this
theorem okM_long {M : Mm} (h : okM M) {r i : Nat} (hl : lgc r i = true) : ok64 (M r i) := by
  have := h r i; rw [hl] at this; simpa using this
theorem lgc_obj {r f ci k : Nat} {ks : List Nat} (hs : shp r = .inr (ci, ks)) (hk : ks[f]? = some k) : lgc r f = Nat.beq k 1 := by
  unfold lgc; rw [hs]; dsimp only; rw [nth_some hk]
theorem lgc_arr {r i n : Nat} {b : Bool} (hs : shp r = .inl (n, b)) : lgc r i = false := by
  unfold lgc; rw [hs]
theorem okM_up {M : Mm} (h : okM M) {r : Nat} {f z : Int} (hz : if lgc r f.toNat then ok64 z else ok32 z) : okM (up M r f z) := by
  intro a i
  by_cases hc : a = r ∧ (i : Int) = f
  · obtain ⟨rfl, rfl⟩ := hc
    rw [show up M a i z a i = z from if_pos ⟨rfl, rfl⟩]; simpa using hz
  · rw [show up M r f z a i = M a i from if_neg hc]; exact h a i
theorem okV_gf {M : Mm} (h : okM M) {r f ci k : Nat} {ks : List Nat} (hs : shp r = .inr (ci, ks)) (hk : ks[f]? = some k) : okV (gf M r f k) := by
  have e := lgc_obj hs hk
  rcases k with _ | _ | _ | k
  · exact okM_int h e
  · exact okM_long h e
  · exact okM_int h e
  · trivial
def inj (ad : Nat → Nat) : Prop := ∀ i j, i < 73 → j < 73 → ad i = ad j → i = j
theorem wd_D {cI cZ : ClassId} {ad : Nat → Nat} (h : inj ad) (M : Mm) : va_D (Ar ad) (wd cI cZ ad M) := by
  refine ⟨fun i j p q hi hj e => ?_, fun k q hk => ?_⟩
  · obtain ⟨h1, h2⟩ := wd_lt hi
    obtain ⟨h3, h4⟩ := wd_lt hj
    exact h i j h1 h3 (by rw [← h2, ← h4, e])
  · obtain ⟨h1, h2⟩ := wd_lt hk
    exact ⟨k, h1, h2⟩
abbrev tyw (cI cZ : ClassId) : List (ClassId × FieldType) := [(cI, .int), (cZ, .boolean)]
section HEAP
variable {p : Program} {l : Launch} {e : Env} {R : Room} {s : State} {m : MethodId} {args : Array Value} {below : List Frame} {meth : Method} {c : Code} {Q : State → Prop} {D : va_G} {cI cZ : ClassId} {ad : Nat → Nat} {y pc : Nat} {L : Lc} {st : List PV} {M : Mm}
theorem g_getfield (hx : p.tables.exec = Jvm.exec) (hb : c.code = mC y) (hK : va_K D cls (tyw cI cZ) s) (hts : ∀ w ∈ gt, w.before args s = true) {own : String} (hown : s.vm.findClass own = some m.cls) {i ci f r k : Nat} (hin : ∀ w ∈ u_ws (clN ci) (clT ci) (clS ci), w ∈ gt)
    (hd : decode (mC y) pc = .ok (.getfield i, 3)) (hw : (Jvm.Cond.fieldLink own i ((clT ci) f).1 ((clT ci) f).2.1 ((clT ci) f).2.2.1).before args s = true) (hk : fkind r ci f = k) (hk9 : k ≠ 99999)
    (kk : G p l e R s m args below meth c Q D cI cZ ad y (pc + 3) L (gf M r f k :: st) M) : G p l e R s m args below meth c Q D cI cZ ad y pc L (.inr (.inr r) :: st) M := by
  intro H locs ls hP hS hL hst hM
  obtain ⟨ks, hs, hkf⟩ := fkind_spec hk hk9
  obtain ⟨h6, hl, -⟩ := sh_obj hs
  have hr := shp_lt hs
  have hg := wd_get (cI := cI) (cZ := cZ) (ad := ad) (M := M) hr
  rw [hs] at hg
  have hf : f < clS ci := by rw [← hl]; exact (List.getElem?_eq_some_iff.mp hkf).1
  refine va_get (C := clN ci) (T := clT ci) (N := clS ci) (own := own) (v := toV ad (gf M r f k)) hx hb hts hin hown hK hP r hg (cls_get h6) f hf hw (fun _ h => h) ?_ hd ?_
  · rw [List.getElem?_mapIdx, hkf]; rfl
  · exact kk H locs ls hP hS hL (okS_cons (okV_gf hM hs hkf) (okS_tail hst)) hM
theorem g_putfield (hx : p.tables.exec = Jvm.exec) (hb : c.code = mC y) (hK : va_K D cls (tyw cI cZ) s) (hj : inj ad) (hts : ∀ w ∈ gt, w.before args s = true) {own : String} (hown : s.vm.findClass own = some m.cls) {i ci f r k : Nat} {z : Int} {v : PV} {ty : FieldType} (hin : ∀ w ∈ u_ws (clN ci) (clT ci) (clS ci), w ∈ gt)
    (hty : ∀ k, k < clS ci → parseFieldDescriptor ((clT ci) k).2.2.1 = some (tyO ci k)) (hnm : ∀ a, a < clS ci → ∀ b, b < clS ci → a ≠ b → ((clT ci) a).2.1 ≠ ((clT ci) b).2.1)
    (hd : decode (mC y) pc = .ok (.putfield i, 3)) (hw : (Jvm.Cond.fieldLink own i ((clT ci) f).1 ((clT ci) f).2.1 ((clT ci) f).2.2.1).before args s = true) (hk : fkind r ci f = k) (hk9 : k ≠ 99999) (hfin : ((clT ci) f).2.2.2 = false) (hkt : kTy k = some ty)
    (hv : gf (up M r f z) r f k = v) (hn : narrow ty (toV ad v) = toV ad v) (hfit : fits ty (toV ad v) = true) (hz : okV v → if lgc r f then ok64 z else ok32 z)
    (kk : G p l e R s m args below meth c Q D cI cZ ad y (pc + 3) L st (up M r f z)) : G p l e R s m args below meth c Q D cI cZ ad y pc L (v :: .inr (.inr r) :: st) M := by
  intro H locs ls hP hS hL hst hM
  obtain ⟨ks, hs, hkf⟩ := fkind_spec hk hk9
  obtain ⟨h6, hl, ht⟩ := sh_obj hs
  have hr := shp_lt hs
  have hg := wd_get (cI := cI) (cZ := cZ) (ad := ad) (M := M) hr
  rw [hs] at hg
  have hf : f < clS ci := by rw [← hl]; exact (List.getElem?_eq_some_iff.mp hkf).1
  have hpf := ht f hf ty (by rw [nth_some hkf]; exact hkt)
  refine va_put (C := clN ci) (T := clT ci) (N := clS ci) (own := own) (v := toV ad v) hx hb hts hin (tyO ci) hty hnm hown hK hP (wd_D hj M) hS r hg (cls_get h6) f hf hw (fun _ h => h) hfin hpf hn hfit (by simpa [hl] using hf) hd (fun H1 locs1 hP1 _ hS1 => ?_)
  rw [← cellE_upO (cI := cI) (cZ := cZ) hs hkf hv, wd_set hr (fun a i ha => up_other ha i)] at hP1
  exact kk H1 locs1 ls hP1 hS1 hL (okS_tail (okS_tail hst)) (okM_up hM (by simpa using hz (okS_head hst)))
theorem clampN (i : Int) (h : ok32 i) : (Int32.ofInt i).toNatClampNeg = i.toNat := by
  show (Int32.ofInt i).toInt.toNat = i.toNat
  rw [of32 h]
theorem in32 {i : Int} {n : Nat} (h : ok32 i) (h1 : 0 ≤ i) (h2 : i < n) : vp_in (Int32.ofInt i) n := vp_in_iff.mpr (by rw [of32 h]; exact ⟨h1, h2⟩)
theorem g_iaload (hx : p.tables.exec = Jvm.exec) (hb : c.code = mC y) (hK : va_K D cls (tyw cI cZ) s) {r n : Nat} {i : Int} (hs : shp r = .inl (n, false)) (h1 : 0 ≤ i) (h2 : i < n) (hd : decode (mC y) pc = .ok (.iaload, 1))
    (kk : G p l e R s m args below meth c Q D cI cZ ad y (pc + 1) L (.inl (M r i) :: st) M) : G p l e R s m args below meth c Q D cI cZ ad y pc L (.inl i :: .inr (.inr r) :: st) M := by
  intro H locs ls hP hS hL hst hM
  have hi : ok32 i := okS_head hst
  have hr : r < 73 := by
    rcases Nat.lt_or_ge r 73 with q | q
    · exact q
    · rw [shp_out q] at hs; cases hs; omega
  have hg := wd_get (cI := cI) (cZ := cZ) (ad := ad) (M := M) hr
  rw [hs] at hg
  refine va_iald (cA := cI) (f := fun j => Int32.ofInt (M r j)) (n := n) hx hb hK hP r 0 hg rfl (in32 hi h1 h2) hd ?_
  rw [clampN i hi]
  have e : ((i.toNat : Nat) : Int) = i := Int.toNat_of_nonneg h1
  have h9 := kk H locs ls hP hS hL (okS_cons (show ok32 (M r i) by rw [← e]; exact okM_int hM (lgc_arr hs)) (okS_tail (okS_tail hst))) hM
  rw [e]
  exact h9
theorem g_baload (hx : p.tables.exec = Jvm.exec) (hb : c.code = mC y) (hK : va_K D cls (tyw cI cZ) s) {r n : Nat} {i : Int} (hs : shp r = .inl (n, true)) (h1 : 0 ≤ i) (h2 : i < n) (hd : decode (mC y) pc = .ok (.baload, 1))
    (kk : G p l e R s m args below meth c Q D cI cZ ad y (pc + 1) L (.inl (M r i) :: st) M) : G p l e R s m args below meth c Q D cI cZ ad y pc L (.inl i :: .inr (.inr r) :: st) M := by
  intro H locs ls hP hS hL hst hM
  have hi : ok32 i := okS_head hst
  have hr : r < 73 := by
    rcases Nat.lt_or_ge r 73 with q | q
    · exact q
    · rw [shp_out q] at hs; cases hs
  have hg := wd_get (cI := cI) (cZ := cZ) (ad := ad) (M := M) hr
  rw [hs] at hg
  refine va_zald (cA := cZ) (f := fun j => Int32.ofInt (M r j)) (n := n) hx hb hK hP r 1 hg rfl (in32 hi h1 h2) hd ?_
  rw [clampN i hi]
  have e : ((i.toNat : Nat) : Int) = i := Int.toNat_of_nonneg h1
  have h9 := kk H locs ls hP hS hL (okS_cons (show ok32 (M r i) by rw [← e]; exact okM_int hM (lgc_arr hs)) (okS_tail (okS_tail hst))) hM
  rw [e]
  exact h9
theorem g_iastore (hx : p.tables.exec = Jvm.exec) (hb : c.code = mC y) (hK : va_K D cls (tyw cI cZ) s) (hj : inj ad) {r n : Nat} {i v : Int} (hs : shp r = .inl (n, false)) (h1 : 0 ≤ i) (h2 : i < n) (hd : decode (mC y) pc = .ok (.iastore, 1))
    (kk : G p l e R s m args below meth c Q D cI cZ ad y (pc + 1) L st (up M r i v)) : G p l e R s m args below meth c Q D cI cZ ad y pc L (.inl v :: .inl i :: .inr (.inr r) :: st) M := by
  intro H locs ls hP hS hL hst hM
  have hv : ok32 v := okS_head hst
  have hi : ok32 i := okS_head (okS_tail hst)
  have hr : r < 73 := by
    rcases Nat.lt_or_ge r 73 with q | q
    · exact q
    · rw [shp_out q] at hs; cases hs; omega
  have hg := wd_get (cI := cI) (cZ := cZ) (ad := ad) (M := M) hr
  rw [hs] at hg
  refine va_iast (cA := cI) (f := fun j => Int32.ofInt (M r j)) (n := n) hx hb hK hP (wd_D hj M) hS r 0 hg rfl (in32 hi h1 h2) hd (fun H1 locs1 hP1 _ hS1 => ?_)
  rw [clampN i hi, show (Sum.inl (cI, n, Sum.inl (upd (fun j => Int32.ofInt (M r j)) i.toNat (Int32.ofInt v))) : va_E) = cellE cI cZ ad (up M r i v) r (shp r) from (cellE_upA (cI := cI) (cZ := cZ) (ad := ad) h1 hs).symm, wd_set hr (fun a i ha => up_other ha i)] at hP1
  exact kk H1 locs1 ls hP1 hS1 hL (okS_tail (okS_tail (okS_tail hst))) (okM_up hM (by rw [lgc_arr hs]; exact hv))
theorem g_bastore (hx : p.tables.exec = Jvm.exec) (hb : c.code = mC y) (hK : va_K D cls (tyw cI cZ) s) (hj : inj ad) {r n : Nat} {i v : Int} (hs : shp r = .inl (n, true)) (h1 : 0 ≤ i) (h2 : i < n) (hv01 : v = 0 ∨ v = 1) (hd : decode (mC y) pc = .ok (.bastore, 1))
    (kk : G p l e R s m args below meth c Q D cI cZ ad y (pc + 1) L st (up M r i v)) : G p l e R s m args below meth c Q D cI cZ ad y pc L (.inl v :: .inl i :: .inr (.inr r) :: st) M := by
  intro H locs ls hP hS hL hst hM
  have hv : ok32 v := okS_head hst
  have hi : ok32 i := okS_head (okS_tail hst)
  have hr : r < 73 := by
    rcases Nat.lt_or_ge r 73 with q | q
    · exact q
    · rw [shp_out q] at hs; cases hs
  have hg := wd_get (cI := cI) (cZ := cZ) (ad := ad) (M := M) hr
  rw [hs] at hg
  have hnar : vp_nar .boolean (Int32.ofInt v) = Int32.ofInt v := by
    rcases hv01 with rfl | rfl
    · decide +kernel
    · decide +kernel
  refine va_zast (cA := cZ) (f := fun j => Int32.ofInt (M r j)) (n := n) hx hb hK hP (wd_D hj M) hS r 1 hg rfl (in32 hi h1 h2) hd (fun H1 locs1 hP1 _ hS1 => ?_)
  rw [hnar, clampN i hi, show (Sum.inl (cZ, n, Sum.inl (upd (fun j => Int32.ofInt (M r j)) i.toNat (Int32.ofInt v))) : va_E) = cellE cI cZ ad (up M r i v) r (shp r) from (cellE_upA (cI := cI) (cZ := cZ) (ad := ad) h1 hs).symm, wd_set hr (fun a i ha => up_other ha i)] at hP1
  exact kk H1 locs1 ls hP1 hS1 hL (okS_tail (okS_tail (okS_tail hst))) (okM_up hM (by rw [lgc_arr hs]; exact hv))
theorem SH_small : (List.range 73).all (fun r => match shp r with | .inl (n, _) => Nat.blt n 2000 | _ => true) = true := by decide +kernel
theorem shp_small {r n : Nat} {b : Bool} (h : shp r = .inl (n, b)) : n < 2000 := by
  rcases Nat.lt_or_ge r 73 with q | q
  · have := List.all_eq_true.mp SH_small r (List.mem_range.mpr q)
    rw [h] at this
    exact Nat.le_of_ble_eq_true this
  · rw [shp_out q] at h; cases h; omega
theorem g_alen (hx : p.tables.exec = Jvm.exec) (hb : c.code = mC y) (hK : va_K D cls (tyw cI cZ) s) {r n : Nat} {b : Bool} (hs : shp r = .inl (n, b)) (hr : r < 73) (hd : decode (mC y) pc = .ok (.arraylength, 1))
    (kk : G p l e R s m args below meth c Q D cI cZ ad y (pc + 1) L (.inl (n : Int) :: st) M) : G p l e R s m args below meth c Q D cI cZ ad y pc L (.inr (.inr r) :: st) M := by
  intro H locs ls hP hS hL hst hM
  have hg := wd_get (cI := cI) (cZ := cZ) (ad := ad) (M := M) hr
  rw [hs] at hg
  have hn := shp_small hs
  have k2 := kk H locs ls hP hS hL (okS_cons (show ok32 (n : Int) from ⟨by omega, by omega⟩) (okS_tail hst)) hM
  cases b with
  | false => exact va_alen (cA := cI) hx hb hK hP r 0 hg rfl (Int32.ofInt_eq_ofNat).symm hd k2
  | true => exact va_alen (cA := cZ) hx hb hK hP r 1 hg rfl (Int32.ofInt_eq_ofNat).symm hd k2
theorem g_table (hx : p.tables.exec = Jvm.exec) (hb : c.code = mC y) {d lo hi a : Int} {offs : Array Int} {len : Nat} (hd : decode (mC y) pc = .ok (.tableswitch d lo hi offs, len)) (hs : hi - lo < offs.size) (h0 : 0 ≤ (pc : Int) + d) (h1 : ∀ o ∈ offs.toList, 0 ≤ (pc : Int) + o)
    (kk : G p l e R s m args below meth c Q D cI cZ ad y ((pc : Int) + (if a < lo ∨ hi < a then d else nth offs.toList (a - lo).toNat d)).toNat L st M) : G p l e R s m args below meth c Q D cI cZ ad y pc L (.inl a :: st) M := by
  intro H locs ls hP hS hL hst hM
  have ha : ok32 a := okS_head hst
  have k2 := kk H locs ls hP hS hL (okS_tail hst) hM
  by_cases hc : a < lo ∨ hi < a
  · rw [if_pos hc] at k2
    exact lv_tableOut hx hb hd (by rw [of32 ha]; exact hc) (by omega) k2
  · rw [if_neg hc] at k2
    have hl : (a - lo).toNat < offs.toList.length := by
      rw [Array.length_toList]; omega
    have hg := nth_get (d := d) offs.toList (a - lo).toNat hl
    have hp := h1 _ (List.mem_of_getElem? hg)
    refine lv_tableIn (off := nth offs.toList (a - lo).toNat d) hx hb hd (by rw [of32 ha]; omega) (by rw [of32 ha]; omega) ?_ (tgt := ((pc : Int) + nth offs.toList (a - lo).toNat d).toNat) (by omega) k2
    rw [of32 ha, ← Array.getElem?_toList]
    exact hg
end HEAP
