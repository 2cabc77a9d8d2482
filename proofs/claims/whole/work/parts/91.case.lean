/-! THE LAW'S CASES: one theorem for all (written by wip/whole/gen91.py) -/
section CASE
variable {p : Program} {l : Launch} {e : Env} {s : State} {m : MethodId} {args : Array Value} {below : List Frame} {meth : Method} {c : Code} {Q : State → Prop} {D : va_G} {cI cZ : ClassId} {ad adV : Nat → Nat} {nL : Nat} {M : Mm} {H : Heap} {locs : List Loc} {cells slots : Nat} {ls : Array Slot}
theorem eq_of_map {a b : Int} (h : a = b) : Int32.ofInt a = Int32.ofInt b := by rw [h]
theorem l_case (hj : inj ad) (hx : p.tables.exec = Jvm.exec) (hb : c.code = code) (hml : c.maxLocals = nL) (hts : ∀ w ∈ gt, w.before args s = true) (hK : va_K D cls (tyw cI cZ) s) (hSt : SokA (A0 s) ad adV s s.heap) (hN : Nok s) (hA : ∀ r, r < 73 → s.heap.size ≤ ad r) (hown : s.vm.findClass "StairStepsLaw" = some m.cls) (hls : ls.size = nL) (hf : cells ≤ room_1.cells ∧ slots ≤ room_1.slots)
    {b L i : Nat} {xs : Nat → Int32} (hX : va_X b L xs s s.heap) (hbl : b < s.heap.size) (hi : i + 6 ≤ L) (hL : L ≤ 3072) (e0 : ls[0]? = some (.val (.ref b))) (e1 : ls[1]? = some (.val (.ref (ad 0)))) (e2 : ls[2]? = some (.val (.ref (ad 64)))) (e3 : ls[3]? = some (.val (.int (nI i))))
    {p0 k A B yc yr wA wB : Nat} {lg : Bool} {P : Mm → Prop} (hk : k ≤ 5) (hmc : mOkL yc k wA A 0 lg = true) (hmr : mOkL yr k wB B 64 lg = true) (he : endOk lg (p0 + 8 + 10 * k) = true)
    (d0 : decode code p0 = .ok (.aload_n 1, 1)) (ha : ∀ j, j < k → argOk (p0 + 1 + 5 * j) j = true) (dA : decode code (p0 + 1 + 5 * k) = .ok (.invokevirtual A, 3)) (d2 : decode code (p0 + 1 + 5 * k + 3) = .ok (.aload_n 2, 1)) (ha2 : ∀ j, j < k → argOk (p0 + 1 + 5 * k + 3 + 1 + 5 * j) j = true) (dB : decode code (p0 + 1 + 5 * k + 3 + 1 + 5 * k) = .ok (.invokevirtual B, 3))
    (hSame : Ct yc (vr 0 :: av xs i k) M (fun r1 M1 => Ct yr (vr 64 :: av xs i k) M1 (fun r2 M2 => r1 = r2 ∧ P M2)))
    (hP : va_P D cls (wd cI cZ ad M) H) (hS : va_S (A0 s) s.heap H locs) (hM : okM M)
    (kk : ∀ (M2 : Mm) (H2 : Heap) (locs2 : List Loc), P M2 → okM M2 → va_P D cls (wd cI cZ ad M2) H2 → va_S (A0 s) s.heap H2 locs2 → W p l e room_1 s m args below meth c H2 locs2 cells slots Q (F0 m 1266 ls [])) :
    W p l e room_1 s m args below meth c H locs cells slots Q (F0 m p0 ls []) := by
  obtain ⟨r1, M1, hd1, r2, M2, hd2, rfl, hPM⟩ := hSame
  obtain ⟨n1, hx1⟩ := den_iff.mp hd1
  obtain ⟨n2, hx2⟩ := den_iff.mp hd2
  refine lv_aload_n hx hb d0 rfl e1 ?_
  refine l_args (ad := ad) hx hb hX hbl hS hi hL e0 e3 k hk ha ?_
  refine l_call (rest := []) hx hb hml hts hK hSt hN hA hown hmc (snd0 hj n1) hx1 (av_ok xs i k) (av_int xs i k) (av_len xs i k) hM (by decide) hls rfl dA hP hS hf (fun H1 locs1 hP1 hS1 hM1 hok1 => ?_)
  refine lv_aload_n hx hb d2 rfl e2 ?_
  refine l_args (ad := ad) hx hb hX hbl hS1 hi hL e0 e3 k hk ha2 ?_
  have hk1 := exec_ret n1 hx1
  simp only [mOkL, Bool.and_eq_true, decide_eq_true_eq] at hmc
  rw [hmc.2.2.2.2.2.2.1] at hk1
  cases lg with
  | false =>
    obtain ⟨z, rfl⟩ : ∃ z, r1 = some (.inl z) := hk1
    refine l_call (rest := [.int (Int32.ofInt z)]) hx hb hml hts hK hSt hN hA hown hmr (snd0 hj n2) hx2 (av_ok xs i k) (av_int xs i k) (av_len xs i k) hM1 (by simp [Value.category]) hls rfl dB hP1 hS1 hf (fun H2 locs2 hP2 hS2 hM2 _ => ?_)
    have he : decode code (p0 + 1 + 5 * k + 3 + 1 + 5 * k + 3) = .ok (.if_icmp .eq (1266 - ((p0 + 8 + 10 * k : Nat) : Int)), 3) := by
      rw [show p0 + 1 + 5 * k + 3 + 1 + 5 * k + 3 = p0 + 8 + 10 * k by omega]
      simpa [endOk] using he
    refine lv_icmp_eq (tgt := 1266) hx hb he (by omega) (fun _ => ?_) (fun h => absurd rfl h)
    exact kk M2 H2 locs2 hPM hM2 hP2 hS2
  | true =>
    obtain ⟨z, rfl⟩ : ∃ z, r1 = some (.inr (.inl z)) := hk1
    refine l_call (rest := [.long (Int64.ofInt z)]) hx hb hml hts hK hSt hN hA hown hmr (snd0 hj n2) hx2 (av_ok xs i k) (av_int xs i k) (av_len xs i k) hM1 (by simp [Value.category]) hls rfl dB hP1 hS1 hf (fun H2 locs2 hP2 hS2 hM2 _ => ?_)
    simp only [endOk, Bool.and_eq_true, decide_eq_true_eq] at he
    have he1 : decode code (p0 + 1 + 5 * k + 3 + 1 + 5 * k + 3) = .ok (.lcmp, 1) := by
      rw [show p0 + 1 + 5 * k + 3 + 1 + 5 * k + 3 = p0 + 8 + 10 * k by omega]
      exact he.1
    have he2 : decode code (p0 + 1 + 5 * k + 3 + 1 + 5 * k + 3 + 1) = .ok (.ifCond .eq (1266 - ((p0 + 8 + 10 * k + 1 : Nat) : Int)), 3) := by
      rw [show p0 + 1 + 5 * k + 3 + 1 + 5 * k + 3 + 1 = p0 + 8 + 10 * k + 1 by omega]
      exact he.2
    refine W.lcmp hx hb he1 ?_
    refine lv_if_eq (tgt := 1266) hx hb he2 (by omega) (fun _ => ?_) (fun h => absurd (by simp [lg_cmp]) h)
    exact kk M2 H2 locs2 hPM hM2 hP2 hS2
end CASE
