/-! bits; copies; the moving members of a house (written by wip/whole/gen15.py) -/
theorem s_l9 : ∀ n, n < 32 → ((nI n &&& 31).toBitVec.smod 32).toNat = n := by decide +kernel
theorem shr32 {a p : Int} (ha : 0 ≤ a ∧ a < 2147483648) (hp : 0 ≤ p ∧ p < 32) : i2 fshr a p = a / 2 ^ p.toNat := by
  obtain ⟨n, rfl⟩ : ∃ n : Nat, a = n := ⟨a.toNat, by omega⟩
  obtain ⟨k, rfl⟩ : ∃ k : Nat, p = k := ⟨p.toNat, by omega⟩
  have hn : n < 2 ^ 31 := by omega
  have h := pk_shrN (n := n) hn (nI k &&& 31) k (s_l9 k (by omega))
  have hq : n / 2 ^ k ≤ n := Nat.div_le_self n _
  unfold i2 fshr
  rw [Int32.ofInt_eq_ofNat, Int32.ofInt_eq_ofNat]
  show (nI n >>> (nI k &&& 31)).toInt = _
  rw [h, nI_toInt (by omega)]
  simp
theorem and1 {a : Int} (ha : 0 ≤ a ∧ a < 2147483648) : i2 fand a 1 = a % 2 := by
  obtain ⟨n, rfl⟩ : ∃ n : Nat, a = n := ⟨a.toNat, by omega⟩
  have hn : n < 2 ^ 32 := by omega
  have h := pk_andN (n := n) hn (m := 1) 1 (by decide)
  unfold i2 fand
  rw [Int32.ofInt_eq_ofNat, show Int32.ofInt 1 = 1 from by decide]
  show (nI n &&& 1).toInt = _
  rw [h, nI_toInt (by omega)]
  omega
theorem shl32 {a p : Int} (ha : 0 ≤ a) (hp : 0 ≤ p ∧ p < 32) (h : a * 2 ^ p.toNat < 2147483648) : i2 fshl a p = a * 2 ^ p.toNat := by
  obtain ⟨n, rfl⟩ : ∃ n : Nat, a = n := ⟨a.toNat, by omega⟩
  obtain ⟨k, rfl⟩ : ∃ k : Nat, p = k := ⟨p.toNat, by omega⟩
  have h2 : n * 2 ^ k < 2 ^ 31 := by
    have e : (n : Int) * 2 ^ ((k : Int).toNat) = ((n * 2 ^ k : Nat) : Int) := by simp
    rw [e] at h
    omega
  have h3 := pk_shlN (n := n) (nI k &&& 31) k (s_l9 k (by omega)) (by omega)
  unfold i2 fshl
  rw [Int32.ofInt_eq_ofNat, Int32.ofInt_eq_ofNat]
  show (nI n <<< (nI k &&& 31)).toInt = _
  rw [h3, nI_toInt h2]
  simp
/-- bit p of b -/
def hb (b p : Int) : Prop := b / 2 ^ p.toNat % 2 = 1
theorem hb_e {b p : Int} (hb0 : 0 ≤ b ∧ b < 2147483648) (hp : 0 ≤ p ∧ p < 32) : i2 fand (i2 fshr b p) 1 = b / 2 ^ p.toNat % 2 := by
  have h1 : 0 ≤ b / 2 ^ p.toNat := Int.ediv_nonneg hb0.1 (Int.pow_nonneg (by decide))
  have h2 : b / 2 ^ p.toNat ≤ b := Int.ediv_le_self _ hb0.1
  rw [shr32 hb0 hp, and1 ⟨h1, by omega⟩]
/-- the steps, as bits, that an owner at step s bars, by how many -/
def bb (s n : Int) : Int := (((2 ^ n.toNat - 1) * 2 ^ s.toNat) % 2048 : Nat)
theorem lb_e : ∀ n : Fin 4, i2 fsub (i2 fshl 1 (n.val : Int)) 1 = (2 : Int) ^ n.val - 1 := by decide +kernel
theorem bb_e : ∀ (s : Fin 11) (n : Fin 4), 1 ≤ s.val → i2 fand (i2 fshl ((2 : Int) ^ n.val - 1) (s.val : Int)) 2046 = bb (s.val : Int) (n.val : Int) := by decide +kernel
theorem bb_rng (s n : Int) : 0 ≤ bb s n ∧ bb s n < 2048 := by
  unfold bb
  have := Nat.mod_lt ((2 ^ n.toNat - 1) * 2 ^ s.toNat) (show 0 < 2048 by decide)
  omega
theorem Hx.acopyI {y pc k rs rd n0 n1 : Nat} {L : Lc} {st : List PV} {M : Mm} {P : Option PV → Mm → Prop} {n dp sp : Int} (hf : fetch y pc = some (.invokestatic k, 3)) (hl : (look4 (nth mthT (mK y) []) k).map (fun q => q.1) = some 1002)
    (hs0 : shp rs = .inl (n0, false)) (hs1 : shp rd = .inl (n1, false)) (h0 : rs < 73) (h1 : rd < 73) (h : (0 ≤ sp ∧ 0 ≤ dp ∧ 0 ≤ n) ∧ sp + n ≤ (n0 : Int) ∧ dp + n ≤ (n1 : Int)) (hc : cs st ≤ 8)
    (kk : Hx y (pc + 3) L st (cp M rs sp rd dp n) P) : Hx y pc L (vi n :: vi dp :: vr rd :: vi sp :: vr rs :: st) M P := by
  refine Hx.go (pc' := pc + 3) (L' := L) (st' := st) (M' := cp M rs sp rd dp n) ?_ kk
  unfold step
  rw [hf]
  simp only [stepI]
  cases hq : look4 (nth mthT (mK y) []) k with
  | none => rw [hq] at hl; cases hl
  | some q =>
    obtain ⟨t, np, ne, w⟩ := q
    rw [hq] at hl
    have ht : t = 1002 := by simpa using hl
    subst ht
    have e : Nat.beq 1002 1002 = true := by decide
    simp only [e, cond_true]
    unfold acopy
    simp only [hs0, hs1]
    rw [if_pos ⟨h, ⟨h0, h1⟩, hc⟩]
    rfl
theorem c_lowBits (n : Int) (M : Mm) (hn : 0 ≤ n ∧ n ≤ 3) : Ct 127 [vi n] M (fun q0 M' => q0 = some (vi (2 ^ n.toNat - 1)) ∧ M = M') := by
  obtain ⟨j, rfl⟩ : ∃ j : Nat, n = j := ⟨n.toNat, by omega⟩
  refine Hx.run 5 (pc' := 5) (L' := [some (vi (j : Int))]) (st' := [vi (i2 fsub (i2 fshl 1 (j : Int)) 1)]) (M' := M) rfl ?_
  refine Hx.ret rfl ?_
  have := lb_e ⟨j, by omega⟩
  exact ⟨some_vi (by simpa using this), rfl⟩
set_option maxRecDepth 100000 in
theorem c_barBits (s n : Int) (M : Mm) (hs : 1 ≤ s ∧ s ≤ 10) (hn : 0 ≤ n ∧ n ≤ 3) : Ct 125 [vi s, vi n] M (fun q0 M' => q0 = some (vi (bb s n)) ∧ M = M') := by
  refine Hx.run 1 (pc' := 1) (L' := [some (vi s), some (vi n)]) (st' := [vi n]) (M' := M) rfl ?_
  refine Hx.call (t := 127) (as := [vi n]) (pc' := 4) (rest := []) rfl (c_lowBits n M (by omega)) ?_
  rintro _ _ ⟨rfl, rfl⟩
  refine Hx.run 4 (pc' := 10) (L' := [some (vi s), some (vi n)]) (st' := [vi (i2 fand (i2 fshl (2 ^ n.toNat - 1) s) 2046)]) (M' := M) rfl ?_
  refine Hx.ret rfl ⟨some_vi ?_, rfl⟩
  obtain ⟨j, rfl⟩ : ∃ j : Nat, n = j := ⟨n.toNat, by omega⟩
  obtain ⟨i, rfl⟩ : ∃ i : Nat, s = i := ⟨s.toNat, by omega⟩
  have h := bb_e ⟨i, by omega⟩ ⟨j, by omega⟩ (by show 1 ≤ i; omega)
  simpa using h
set_option maxRecDepth 100000 in
theorem c_isBarred (b p : Int) (M : Mm) (h0 : 0 ≤ b ∧ b < 2147483648) (hp : 0 ≤ p ∧ p < 32) : Ct 128 [vi b, vi p] M (fun q0 M' => ((hb b p) ∧ q0 = some (vi 1) ∧ M = M') ∨ (¬ (hb b p) ∧ q0 = some (vi 0) ∧ M = M')) := by
  refine Hx.run 6 (pc' := 6) (L' := [some (vi b), some (vi p)]) (st' := [vi 1, vi (i2 fand (i2 fshr b p) 1)]) (M' := M) rfl ?_
  refine Hx.br (c := (i2 fand (i2 fshr b p) 1) = 1) (t := 9) (f := 13) rfl (fun h1 => ?_) (fun h1 => ?_)
  · skip
    refine Hx.run 2 (pc' := 14) (L' := [some (vi b), some (vi p)]) (st' := [vi 1]) (M' := M) rfl ?_
    refine Hx.ret rfl ?_
    first | exact Or.inl ⟨by unfold hb; rw [hb_e h0 hp] at h1; omega, rfl, rfl⟩ | exact Or.inr ⟨by unfold hb; rw [hb_e h0 hp] at h1; omega, rfl, rfl⟩
  · skip
    refine Hx.run 1 (pc' := 14) (L' := [some (vi b), some (vi p)]) (st' := [vi 0]) (M' := M) rfl ?_
    refine Hx.ret rfl ?_
    first | exact Or.inl ⟨by unfold hb; rw [hb_e h0 hp] at h1; omega, rfl, rfl⟩ | exact Or.inr ⟨by unfold hb; rw [hb_e h0 hp] at h1; omega, rfl, rfl⟩
