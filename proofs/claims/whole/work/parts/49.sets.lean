/-! sets, their bits, their sizes (written by wip/whole/gen49.py) -/
def bN (f : Nat → Bool) : Nat → Nat
  | 0 => 0
  | n + 1 => bN f n + (if f n = true then 2 ^ n else 0)
theorem bN_succ (f : Nat → Bool) (n : Nat) : bN f (n + 1) = bN f n + (if f n = true then 2 ^ n else 0) := rfl
theorem bN_lt (f : Nat → Bool) : ∀ n, bN f n < 2 ^ n
  | 0 => by show 0 < 2 ^ 0; decide
  | n + 1 => by
    have h := bN_lt f n
    rw [bN_succ, Nat.pow_succ]
    split <;> omega
theorem bS_bN (f : Nat → Bool) : ∀ n, bS f n = (bN f n : Int)
  | 0 => rfl
  | n + 1 => by
    rw [bS_succ, bN_succ, bS_bN f n]
    split
    · rw [Int.natCast_add, Int.natCast_pow]; rfl
    · rfl
theorem bN_bit (f : Nat → Bool) : ∀ n k, (bN f n).testBit k = (decide (k < n) && f k)
  | 0, k => by rw [show bN f 0 = 0 from rfl, Nat.zero_testBit, decide_eq_false (by omega)]; rfl
  | n + 1, k => by
    rw [bN_succ]
    have hl := bN_lt f n
    by_cases h : f n = true
    · rw [if_pos h, Nat.add_comm]
      rcases Nat.lt_trichotomy k n with z | z | z
      · rw [Nat.testBit_two_pow_add_gt z, bN_bit f n k, decide_eq_true z, decide_eq_true (by omega)]
      · subst z
        rw [Nat.testBit_two_pow_add_eq, bN_bit f k k, decide_eq_false (by omega), decide_eq_true (by omega), h]; rfl
      · have h2 : 2 ^ (n + 1) ≤ 2 ^ k := Nat.pow_le_pow_right (by decide) z
        rw [Nat.pow_succ] at h2
        rw [Nat.testBit_lt_two_pow (show 2 ^ n + bN f n < 2 ^ k by omega), decide_eq_false (by omega)]; rfl
    · rw [if_neg h, Nat.add_zero, bN_bit f n k]
      by_cases z : k = n
      · subst z
        rw [show f k = false from by simpa using h, Bool.and_false, Bool.and_false]
      · by_cases z2 : k < n
        · rw [decide_eq_true z2, decide_eq_true (by omega)]
        · rw [decide_eq_false z2, decide_eq_false (by omega)]
theorem and32 {a b : Nat} (ha : a < 2 ^ 31) : i2 fand (a : Int) (b : Int) = ((a &&& b : Nat) : Int) := by
  unfold i2 fand
  rw [Int32.ofInt_eq_ofNat, Int32.ofInt_eq_ofNat]
  have e : (Int32.ofNat a &&& Int32.ofNat b) = Int32.ofNat (a &&& b) := by
    apply Int32.toBitVec_inj.mp
    rw [Int32.toBitVec_and]
    show BitVec.ofNat 32 a &&& BitVec.ofNat 32 b = BitVec.ofNat 32 (a &&& b)
    rw [BitVec.ofNat_and]
  rw [e]
  have h1 : a &&& b ≤ a := Nat.and_le_left
  exact nI_toInt (n := a &&& b) (by omega)
theorem andn32 {a b : Nat} (ha : a < 2 ^ 11) : i2 fand (a : Int) (i2 fxor (b : Int) (-1)) = ((a &&& ((2 ^ 11 - 1) ^^^ b) : Nat) : Int) := by
  unfold i2 fand fxor
  rw [Int32.ofInt_toInt, Int32.ofInt_eq_ofNat, Int32.ofInt_eq_ofNat]
  have e : (Int32.ofNat a &&& (Int32.ofNat b ^^^ Int32.ofInt (-1))) = Int32.ofNat (a &&& ((2 ^ 11 - 1) ^^^ b)) := by
    apply Int32.toBitVec_inj.mp
    rw [Int32.toBitVec_and, Int32.toBitVec_xor, show (Int32.ofInt (-1)).toBitVec = BitVec.allOnes 32 from by decide]
    show BitVec.ofNat 32 a &&& (BitVec.ofNat 32 b ^^^ BitVec.allOnes 32) = BitVec.ofNat 32 (a &&& ((2 ^ 11 - 1) ^^^ b))
    apply BitVec.eq_of_getLsbD_eq
    intro i hi
    rw [BitVec.getLsbD_and, BitVec.getLsbD_xor, BitVec.getLsbD_ofNat, BitVec.getLsbD_ofNat, BitVec.getLsbD_ofNat, BitVec.getLsbD_allOnes, Nat.testBit_and, Nat.testBit_xor, Nat.testBit_two_pow_sub_one, decide_eq_true hi]
    by_cases z : i < 11
    · rw [decide_eq_true z]
      cases a.testBit i <;> cases b.testBit i <;> rfl
    · have h2 : 2 ^ 11 ≤ 2 ^ i := Nat.pow_le_pow_right (by decide) (by omega)
      rw [Nat.testBit_lt_two_pow (show a < 2 ^ i by omega)]
      rfl
  rw [e]
  have h1 : a &&& ((2 ^ 11 - 1) ^^^ b) ≤ a := Nat.and_le_left
  exact nI_toInt (n := a &&& ((2 ^ 11 - 1) ^^^ b)) (by omega)
theorem and_bS (f g : Nat → Bool) : i2 fand (bS f 11) (bS g 11) = bS (fun p => f p && g p) 11 := by
  have h1 := bN_lt f 11
  rw [bS_bN, bS_bN, bS_bN, and32 (by omega)]
  congr 1
  apply Nat.eq_of_testBit_eq
  intro k
  rw [Nat.testBit_and, bN_bit, bN_bit, bN_bit]
  cases decide (k < 11) <;> cases f k <;> cases g k <;> rfl
theorem andn_bS (f g : Nat → Bool) : i2 fand (bS f 11) (i2 fxor (bS g 11) (-1)) = bS (fun p => f p && !g p) 11 := by
  have h1 := bN_lt f 11
  rw [bS_bN, bS_bN, bS_bN, andn32 (by omega)]
  congr 1
  apply Nat.eq_of_testBit_eq
  intro k
  rw [Nat.testBit_and, Nat.testBit_xor, Nat.testBit_two_pow_sub_one, bN_bit, bN_bit, bN_bit]
  cases decide (k < 11) <;> cases f k <;> cases g k <;> rfl
theorem bS_bit {f : Nat → Bool} {n k : Nat} (h : k < n) : bS f n / 2 ^ k % 2 = if f k = true then 1 else 0 := by
  rw [bS_bN]
  have e : ((bN f n : Int)) / 2 ^ k % 2 = ((bN f n / 2 ^ k % 2 : Nat) : Int) := by simp
  rw [e]
  have h2 := bN_bit f n k
  rw [Nat.testBit_eq_decide_div_mod_eq, decide_eq_true h, Bool.true_and] at h2
  split
  · rename_i q
    rw [q] at h2
    have := of_decide_eq_true h2
    omega
  · rename_i q
    have q2 : f k = false := by simpa using q
    rw [q2] at h2
    have := of_decide_eq_false h2
    omega
theorem bS_hb {f : Nat → Bool} {n k : Nat} (h : k < n) : hb (bS f n) (k : Int) ↔ f k = true := by
  unfold hb
  rw [show ((k : Int)).toNat = k from rfl, bS_bit h]
  split <;> rename_i q <;> simp [q]
/-- how many bits -/
def pop (x : Int) : Int := sS (fun p => x / 2 ^ p % 2) 11
theorem pop_bS (f : Nat → Bool) : pop (bS f 11) = sS (fun p => if f p = true then 1 else 0) 11 := by
  unfold pop
  exact sS_congr 11 (fun m hm => bS_bit hm)
def bq1 (x : Int) : Int := i2 fsub x (i2 fand (i2 fushr x 1) 1431655765)
def bq2 (x : Int) : Int := i2 fadd (i2 fand x 858993459) (i2 fand (i2 fushr x 2) 858993459)
def bq3 (x : Int) : Int := i2 fand (i2 fadd x (i2 fushr x 4)) 252645135
def bq4 (x : Int) : Int := i2 fadd x (i2 fushr x 8)
def bq5 (x : Int) : Int := i2 fadd x (i2 fushr x 16)
def bq6 (x : Int) : Int := i2 fand x 63
theorem bq_e : ∀ a : Fin 64, ∀ b : Fin 32, bq6 (bq5 (bq4 (bq3 (bq2 (bq1 ((32 * a.val + b.val : Nat) : Int)))))) = pop ((32 * a.val + b.val : Nat) : Int) := by decide +kernel
theorem c_bitCount (x : Int) (M : Mm) (h : 0 ≤ x ∧ x < 2048) : Ct 223 [vi x] M (fun q0 M' => q0 = some (vi (pop x)) ∧ M = M') := by
  refine Hx.run 8 (pc' := 10) (L' := [some (vi (bq1 x))]) (st' := []) (M' := M) rfl ?_
  refine Hx.run 10 (pc' := 24) (L' := [some (vi (bq2 (bq1 x)))]) (st' := []) (M' := M) rfl ?_
  refine Hx.run 8 (pc' := 34) (L' := [some (vi (bq3 (bq2 (bq1 x))))]) (st' := []) (M' := M) rfl ?_
  refine Hx.run 6 (pc' := 41) (L' := [some (vi (bq4 (bq3 (bq2 (bq1 x)))))]) (st' := []) (M' := M) rfl ?_
  refine Hx.run 6 (pc' := 48) (L' := [some (vi (bq5 (bq4 (bq3 (bq2 (bq1 x))))))]) (st' := []) (M' := M) rfl ?_
  refine Hx.run 3 (pc' := 52) (L' := [some (vi (bq5 (bq4 (bq3 (bq2 (bq1 x))))))]) (st' := [vi (bq6 (bq5 (bq4 (bq3 (bq2 (bq1 x))))))]) (M' := M) rfl ?_
  refine Hx.ret rfl ⟨some_vi ?_, rfl⟩
  have h2 := bq_e ⟨x.toNat / 32, by omega⟩ ⟨x.toNat % 32, by omega⟩
  have e : ((32 * (x.toNat / 32) + x.toNat % 32 : Nat) : Int) = x := by omega
  rw [e] at h2
  exact h2
/-- a step s is barred by one who owns p and bars n -/
def cvr (p s n : Int) : Bool := decide (p ≤ s ∧ s < p + n)
def ob (s n : Int) : Int := bS (fun p => decide (1 ≤ p) && cvr p s n) 11
theorem ob_e : ∀ (s : Fin 11) (n : Fin 4), 1 ≤ s.val → 1 ≤ n.val → i2 fand (i2 fshr (i2 fshl ((2 : Int) ^ n.val - 1) (s.val : Int)) ((n.val : Int) - 1)) 2046 = ob (s.val : Int) (n.val : Int) := by decide +kernel
theorem ob_0 : ∀ (s : Fin 11), 1 ≤ s.val → (0 : Int) = ob (s.val : Int) 0 := by decide +kernel
theorem bb_bit : ∀ (p s : Fin 11) (n : Fin 4), 1 ≤ p.val → (bb (p.val : Int) (n.val : Int) / 2 ^ s.val % 2 = 1 ↔ ((p.val : Int) ≤ (s.val : Int) ∧ (s.val : Int) < (p.val : Int) + (n.val : Int))) := by decide +kernel
theorem hb_bb {p s n : Int} (hp : 1 ≤ p ∧ p ≤ 10) (hs : 0 ≤ s ∧ s ≤ 10) (hn : 0 ≤ n ∧ n ≤ 3) : hb (bb p n) s ↔ (p ≤ s ∧ s < p + n) := by
  obtain ⟨a, rfl⟩ : ∃ a : Nat, p = a := ⟨p.toNat, by omega⟩
  obtain ⟨b, rfl⟩ : ∃ b : Nat, s = b := ⟨s.toNat, by omega⟩
  obtain ⟨c, rfl⟩ : ∃ c : Nat, n = c := ⟨n.toNat, by omega⟩
  exact bb_bit ⟨a, by omega⟩ ⟨b, by omega⟩ ⟨c, by omega⟩ (by show 1 ≤ a; omega)
theorem ob_rng (s n : Int) : 0 ≤ ob s n ∧ ob s n < 2048 := by
  have := bS_rng (fun p => decide (1 ≤ p) && cvr p s n) 11
  exact this
theorem ob_raw {s n : Int} (hs : 1 ≤ s ∧ s ≤ 10) (hn : 1 ≤ n ∧ n ≤ 3) : i2 fand (i2 fshr (i2 fshl (2 ^ n.toNat - 1) s) (n - 1)) 2046 = ob s n := by
  obtain ⟨b, rfl⟩ : ∃ b : Nat, s = b := ⟨s.toNat, by omega⟩
  obtain ⟨c, rfl⟩ : ∃ c : Nat, n = c := ⟨n.toNat, by omega⟩
  exact ob_e ⟨b, by omega⟩ ⟨c, by omega⟩ (by show 1 ≤ b; omega) (by show 1 ≤ c; omega)
theorem ob_none {s n : Int} (hs : 1 ≤ s ∧ s ≤ 10) (hn : 0 ≤ n ∧ n < 1) : 0 = ob s n := by
  obtain ⟨b, rfl⟩ : ∃ b : Nat, s = b := ⟨s.toNat, by omega⟩
  rw [show n = 0 by omega]
  exact ob_0 ⟨b, by omega⟩ (by show 1 ≤ b; omega)
set_option maxRecDepth 100000 in
theorem c_ownersBarring (s n : Int) (M : Mm) (hs : 1 ≤ s ∧ s ≤ 10) (hn : 0 ≤ n ∧ n ≤ 3) : Ct 126 [vi s, vi n] M (fun q0 M' => q0 = some (vi (ob s n)) ∧ M = M') := by
  refine Hx.run 2 (pc' := 2) (L' := [some (vi s), some (vi n)]) (st' := [vi 1, vi n]) (M' := M) rfl ?_
  refine Hx.br (c := n < 1) (t := 5) (f := 7) rfl (fun h1 => ?_) (fun h1 => ?_)
  · skip
    refine Hx.run 1 (pc' := 6) (L' := [some (vi s), some (vi n)]) (st' := [vi 0]) (M' := M) rfl ?_
    refine Hx.ret rfl ?_
    first | exact ⟨some_vi (ob_raw hs (by omega)), rfl⟩ | exact ⟨some_vi (ob_none hs (by omega)), rfl⟩
  · skip
    refine Hx.run 1 (pc' := 8) (L' := [some (vi s), some (vi n)]) (st' := [vi n]) (M' := M) rfl ?_
    refine Hx.call (t := 127) (as := [vi n]) (pc' := 11) (rest := []) rfl (c_lowBits n M (by omega)) ?_
    rintro _ _ ⟨rfl, rfl⟩
    refine Hx.run 0 (pc' := 11) (L' := [some (vi s), some (vi n)]) (st' := [vi (2 ^ n.toNat - 1)]) (M' := M) rfl ?_
    refine Hx.run 4 (pc' := 15) (L' := [some (vi s), some (vi n)]) (st' := [vi 1, vi n, vi (i2 fshl (2 ^ n.toNat - 1) s)]) (M' := M) rfl ?_
    refine Hx.sub rfl (by omega) ?_
    refine Hx.run 3 (pc' := 21) (L' := [some (vi s), some (vi n)]) (st' := [vi (i2 fand (i2 fshr (i2 fshl (2 ^ n.toNat - 1) s) (n - 1)) 2046)]) (M' := M) rfl ?_
    refine Hx.ret rfl ?_
    first | exact ⟨some_vi (ob_raw hs (by omega)), rfl⟩ | exact ⟨some_vi (ob_none hs (by omega)), rfl⟩
theorem r_hasBB (p n s : Int) (M : Mm) (hp : 1 ≤ p ∧ p ≤ 10) (hn : 0 ≤ n ∧ n ≤ 3) (hs : 0 ≤ s ∧ s ≤ 10) : Ct 131 [vi (bb p n), vi s] M (fun q0 M' => ((p ≤ s ∧ s < p + n) ∧ q0 = some (vi 1) ∧ M = M') ∨ (¬ (p ≤ s ∧ s < p + n) ∧ q0 = some (vi 0) ∧ M = M')) := by
  have h := r_has (bb p n) s M ⟨(bb_rng p n).1, by have := (bb_rng p n).2; omega⟩ ⟨hs.1, by omega⟩
  rw [hb_bb hp hs hn] at h
  exact h
theorem r_hasBS (f : Nat → Bool) (n k : Nat) (M : Mm) (hk : k < n) (hn : n ≤ 11) : Ct 131 [vi (bS f n), vi (k : Int)] M (fun q0 M' => ((f k = true) ∧ q0 = some (vi 1) ∧ M = M') ∨ (¬ (f k = true) ∧ q0 = some (vi 0) ∧ M = M')) := by
  have h1 := bS_rng f n
  have h2 : (2 : Int) ^ n ≤ 2 ^ 11 := by
    have h3 : 2 ^ n ≤ 2 ^ 11 := Nat.pow_le_pow_right (by decide) hn
    have e : (2 : Int) ^ n = ((2 ^ n : Nat) : Int) := by simp
    rw [e]; omega
  have h := r_has (bS f n) (k : Int) M ⟨h1.1, by omega⟩ ⟨by omega, by omega⟩
  rw [bS_hb hk] at h
  exact h
