/-! sets as sums of bits; stuck (written by wip/whole/gen36.py) -/
theorem or32 {x : Int} {n : Nat} (hn : n < 31) (hx : 0 ≤ x ∧ x < 2 ^ n) : i2 fior x (i2 fshl 1 (n : Int)) = x + 2 ^ n := by
  obtain ⟨a, rfl⟩ : ∃ a : Nat, x = a := ⟨x.toNat, by omega⟩
  have hp : (2 : Int) ^ n = ((2 ^ n : Nat) : Int) := by simp
  have h31 : 2 ^ n < 2 ^ 31 := Nat.pow_lt_pow_right (by decide) hn
  rw [hp] at hx ⊢
  have ha : a < 2 ^ n := by omega
  have e1 : i2 fshl 1 (n : Int) = ((2 ^ n : Nat) : Int) := by
    rw [shl32 (by decide) (by omega) (by rw [show ((n : Int)).toNat = n from rfl, hp]; omega), show ((n : Int)).toNat = n from rfl, hp]; omega
  rw [e1]
  unfold i2 fior
  rw [Int32.ofInt_eq_ofNat, Int32.ofInt_eq_ofNat]
  have e2 : (Int32.ofNat a ||| Int32.ofNat (2 ^ n)) = Int32.ofNat (a + 2 ^ n) := by
    have h1 : (a ||| 2 ^ n) = a + 2 ^ n := by
      have := Nat.two_pow_add_eq_or_of_lt ha 1
      rw [Nat.mul_one] at this
      rw [Nat.or_comm, ← this]; omega
    rw [← h1]
    apply Int32.toBitVec_inj.mp
    rw [Int32.toBitVec_or]
    show BitVec.ofNat 32 a ||| BitVec.ofNat 32 (2 ^ n) = BitVec.ofNat 32 (a ||| 2 ^ n)
    rw [BitVec.ofNat_or]
  rw [e2]
  have := nI_toInt (n := a + 2 ^ n) (by
    have : 2 ^ (n + 1) ≤ 2 ^ 31 := Nat.pow_le_pow_right (by decide) (by omega)
    rw [Nat.pow_succ] at this
    omega)
  unfold nI at this
  rw [this]; omega
theorem or0 {x : Int} (hx : 0 ≤ x ∧ x < 2147483648) : i2 fior x 0 = x := by
  unfold i2 fior
  rw [show Int32.ofInt 0 = 0 from by decide, Int32.or_zero]
  exact of32 ⟨by omega, hx.2⟩
/-- the numbers below n of which f is true, as bits -/
def bS (f : Nat → Bool) : Nat → Int
  | 0 => 0
  | n + 1 => bS f n + (if f n = true then 2 ^ n else 0)
theorem bS_succ (f : Nat → Bool) (n : Nat) : bS f (n + 1) = bS f n + (if f n = true then 2 ^ n else 0) := rfl
theorem bS_rng (f : Nat → Bool) : ∀ n, 0 ≤ bS f n ∧ bS f n < 2 ^ n
  | 0 => by show (0 : Int) ≤ 0 ∧ (0 : Int) < 2 ^ 0; decide
  | n + 1 => by
    have h := bS_rng f n
    have e : (2 : Int) ^ (n + 1) = 2 ^ n + 2 ^ n := by rw [Int.pow_succ]; omega
    rw [bS_succ, e]
    split <;> omega
theorem bS_one {f : Nat → Bool} {n : Nat} (hn : n < 31) (h : f n = true) : i2 fior (bS f n) (i2 fshl 1 (n : Int)) = bS f (n + 1) := by
  rw [or32 hn (bS_rng f n), bS_succ, if_pos h]
theorem bS_no {f : Nat → Bool} {n : Nat} (h : ¬ f n = true) : bS f n = bS f (n + 1) := by
  rw [bS_succ, if_neg h]; omega
theorem bS_congr {f g : Nat → Bool} : ∀ n, (∀ m, m < n → f m = g m) → bS f n = bS g n
  | 0, _ => rfl
  | n + 1, h => by rw [bS_succ, bS_succ, bS_congr n (fun m hm => h m (by omega)), h n (by omega)]
theorem sr_sr {M : Mm} {r : Nat} {A B : Int → Int} : sr (sr M r A) r B = sr M r B := by
  funext a; simp only [sr]; split <;> rfl

