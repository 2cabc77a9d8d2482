/-! the dark of the reference: all sets of slips, and what they come to (written by wip/whole/gen59.py) -/
def rdW (c : Int) (s : Nat) : Nat → Int
  | 0 => 1
  | k + 1 => rdW c s k * (if s.testBit k = true then c else 10 - c)
def rdP (p : Int) (A : Int → Int) (s : Nat) : Nat → Int
  | 0 => p
  | k + 1 => min 11 (rdP p A s k + (A k + (if s.testBit k = true then 1 else 0)))
def rdF (b p : Int) (A : Int → Int) (s : Nat) : Nat → Bool
  | 0 => false
  | k + 1 => rdF b p A s k || bt b (rdP p A s (k + 1))
theorem rdW_succ (c : Int) (s k : Nat) : rdW c s (k + 1) = rdW c s k * (if s.testBit k = true then c else 10 - c) := rfl
theorem rdP_succ (p : Int) (A : Int → Int) (s k : Nat) : rdP p A s (k + 1) = min 11 (rdP p A s k + (A k + (if s.testBit k = true then 1 else 0))) := rfl
theorem rdF_succ (b p : Int) (A : Int → Int) (s k : Nat) : rdF b p A s (k + 1) = (rdF b p A s k || bt b (rdP p A s (k + 1))) := rfl
theorem rdW_1 {c : Int} {s k : Nat} (h : s.testBit k = true) : rdW c s (k + 1) = rdW c s k * c := by rw [rdW_succ, if_pos h]
theorem rdW_0 {c : Int} {s k : Nat} (h : ¬ s.testBit k = true) : rdW c s (k + 1) = rdW c s k * (10 - c) := by rw [rdW_succ, if_neg h]
theorem rdP_1 {p : Int} {A : Int → Int} {s k : Nat} (h : s.testBit k = true) : rdP p A s (k + 1) = min 11 (rdP p A s k + (A k + 1)) := by rw [rdP_succ, if_pos h]
theorem rdP_0 {p : Int} {A : Int → Int} {s k : Nat} (h : ¬ s.testBit k = true) : rdP p A s (k + 1) = min 11 (rdP p A s k + (A k + 0)) := by rw [rdP_succ, if_neg h]
def rdI (b p : Int) (A : Int → Int) (s k : Nat) : Int := if rdF b p A s k = true then 1 else 0
theorem rdI_01 (b p : Int) (A : Int → Int) (s k : Nat) : (rdI b p A s k = 1 ∧ rdF b p A s k = true) ∨ (rdI b p A s k = 0 ∧ ¬ rdF b p A s k = true) := by
  unfold rdI
  split <;> rename_i h
  · exact Or.inl ⟨rfl, h⟩
  · exact Or.inr ⟨rfl, h⟩
theorem rdI_on {b p : Int} {A : Int → Int} {s k : Nat} (h : ¬ rdI b p A s k = 0) : rdI b p A s (k + 1) = 1 := by
  rcases rdI_01 b p A s k with z | z
  · unfold rdI; rw [rdF_succ, z.2, Bool.true_or]; rfl
  · exact absurd z.1 h
theorem rdI_b {b p : Int} {A : Int → Int} {s k : Nat} (h : hb b (rdP p A s (k + 1))) : rdI b p A s (k + 1) = 1 := by
  unfold rdI; rw [rdF_succ, bt_1 h, Bool.or_true]; rfl
theorem rdI_n {b p : Int} {A : Int → Int} {s k : Nat} (h0 : rdI b p A s k = 0) (h : ¬ hb b (rdP p A s (k + 1))) : rdI b p A s (k + 1) = 0 := by
  rcases rdI_01 b p A s k with z | z
  · omega
  · unfold rdI; rw [rdF_succ, bt_0 h, Bool.or_false, if_neg z.2]
theorem rdP_rng {p : Int} {A : Int → Int} {s : Nat} (hp : 0 ≤ p ∧ p ≤ 11) : ∀ k : Nat, (∀ j : Nat, j < k → 0 ≤ A j) → 0 ≤ rdP p A s k ∧ rdP p A s k ≤ 11
  | 0, _ => hp
  | k + 1, h => by
    have h1 := rdP_rng (s := s) hp k (fun j hj => h j (by omega))
    have h2 := h k (by omega)
    rw [rdP_succ]
    split <;> omega
theorem rdW_rng {c : Int} (hc : 0 ≤ c ∧ c ≤ 10) (s : Nat) : ∀ k : Nat, 0 ≤ rdW c s k ∧ rdW c s k ≤ 10 ^ k
  | 0 => ⟨by show (0 : Int) ≤ 1; decide, by show (1 : Int) ≤ 10 ^ 0; decide⟩
  | k + 1 => by
    have h1 := rdW_rng hc s k
    rw [rdW_succ, Int.pow_succ]
    split
    · have h2 := Int.mul_nonneg h1.1 hc.1
      have h3 := Int.mul_le_mul_of_nonneg_left hc.2 h1.1
      omega
    · have h2 := Int.mul_nonneg h1.1 (show 0 ≤ 10 - c by omega)
      have h3 := Int.mul_le_mul_of_nonneg_left (show 10 - c ≤ 10 by omega) h1.1
      omega
theorem hb_nat {s k : Nat} : hb (s : Int) (k : Int) ↔ s.testBit k = true := by
  unfold hb
  rw [show ((k : Int)).toNat = k from rfl, Nat.testBit_eq_decide_div_mod_eq]
  have e : ((s : Int)) / 2 ^ k % 2 = ((s / 2 ^ k % 2 : Nat) : Int) := by simp
  rw [e]
  constructor
  · intro h; exact decide_eq_true (by omega)
  · intro h; have := of_decide_eq_true h; omega
theorem bit_hi {s k : Nat} (h : s < 2 ^ k) : (2 ^ k + s).testBit k = true := by
  rw [Nat.testBit_two_pow_add_eq, Nat.testBit_lt_two_pow h]; rfl
theorem rdP_hi {p : Int} {A : Int → Int} {s k : Nat} : ∀ j : Nat, j ≤ k → rdP p A (2 ^ k + s) j = rdP p A s j
  | 0, _ => rfl
  | j + 1, h => by rw [rdP_succ, rdP_succ, rdP_hi j (by omega), Nat.testBit_two_pow_add_gt (by omega)]
theorem rdW_hi {c : Int} {s k : Nat} : ∀ j : Nat, j ≤ k → rdW c (2 ^ k + s) j = rdW c s j
  | 0, _ => rfl
  | j + 1, h => by rw [rdW_succ, rdW_succ, rdW_hi j (by omega), Nat.testBit_two_pow_add_gt (by omega)]
theorem rdF_hi {b p : Int} {A : Int → Int} {s k : Nat} : ∀ j : Nat, j ≤ k → rdF b p A (2 ^ k + s) j = rdF b p A s j
  | 0, _ => rfl
  | j + 1, h => by rw [rdF_succ, rdF_succ, rdF_hi j (by omega), rdP_hi (j + 1) h]
theorem s_add {f : Nat → Int} {a : Nat} : ∀ n : Nat, sS f (a + n) = sS f a + sS (fun x => f (a + x)) n
  | 0 => by show sS f a = sS f a + 0; omega
  | n + 1 => by rw [show a + (n + 1) = (a + n) + 1 from rfl, sS_succ, sS_succ, s_add n]; omega
theorem s_plus {f g : Nat → Int} : ∀ n : Nat, sS (fun x => f x + g x) n = sS f n + sS g n
  | 0 => rfl
  | n + 1 => by rw [sS_succ, sS_succ, sS_succ, s_plus n]; omega
def rdG (b c p : Int) (A : Int → Int) (k : Nat) (g : Int → Int) : Int := sS (fun s => (if rdF b p A s k = true then 0 else rdW c s k) * g (rdP p A s k)) (2 ^ k)
theorem rd_step (b c p : Int) (A : Int → Int) (k : Nat) (g : Int → Int) : rdG b c p A (k + 1) g = rdG b c p A k (stp b c (A k) g) := by
  unfold rdG
  rw [Nat.pow_succ, Nat.mul_two, s_add, ← s_plus]
  refine sS_congr _ (fun s hs => ?_)
  have b0 : ¬ s.testBit k = true := by rw [Nat.testBit_lt_two_pow hs]; decide
  have b1 := bit_hi hs
  rw [rdP_0 b0, rdP_1 b1, rdW_0 b0, rdW_1 b1, rdF_succ, rdF_succ, rdP_0 b0, rdP_1 b1, rdP_hi k (Nat.le_refl k), rdW_hi k (Nat.le_refl k), rdF_hi k (Nat.le_refl k)]
  unfold stp
  rw [Int.add_zero, ← Int.add_assoc]
  cases hF : rdF b p A s k
  · rw [Bool.false_or, Bool.false_or, if_neg (show ¬ false = true by decide), Int.mul_add]
    cases bt b (min 11 (rdP p A s k + A k)) <;> cases bt b (min 11 (rdP p A s k + A k + 1)) <;> simp [Int.mul_assoc]
  · simp
theorem rd_all (b c p : Int) (A : Int → Int) (m : Nat) : ∀ k : Nat, k ≤ m → rdG b c p A k (dW b c A (m - k) k) = dW b c A m 0 p
  | 0, _ => by
    unfold rdG
    show 0 + (if false = true then 0 else 1) * dW b c A (m - 0) 0 p = dW b c A m 0 p
    rw [if_neg (by decide), Int.one_mul, Int.zero_add, Nat.sub_zero]
  | k + 1, h => by
    have h1 := rd_all b c p A m k (by omega)
    rw [show m - k = (m - (k + 1)) + 1 by omega, dW_succ, ← rd_step] at h1
    exact h1
theorem rd_end (b c p : Int) (A : Int → Int) (m : Nat) : sS (fun s => if rdF b p A s m = true then 0 else rdW c s m) (2 ^ m) = dW b c A m 0 p := by
  have h := rd_all b c p A m m (Nat.le_refl m)
  rw [Nat.sub_self] at h
  rw [← h]
  unfold rdG
  refine sS_congr _ (fun s _ => ?_)
  show _ = _ * 1
  rw [Int.mul_one]
theorem s_bd {f : Nat → Int} {B : Int} : ∀ n : Nat, (∀ m, m < n → 0 ≤ f m ∧ f m ≤ B) → 0 ≤ sS f n ∧ sS f n ≤ B * (n : Int)
  | 0, _ => ⟨Int.le_refl _, by show (0 : Int) ≤ B * 0; omega⟩
  | n + 1, h => by
    have h1 := s_bd n (fun m hm => h m (by omega))
    have h2 := h n (by omega)
    rw [sS_succ, Int.natCast_add_one, Int.mul_add]
    omega
theorem rd_rng {b c p : Int} {A : Int → Int} {m : Nat} (hc : 0 ≤ c ∧ c ≤ 10) (hm : m ≤ 6) (n : Nat) : 0 ≤ sS (fun s => if rdF b p A s m = true then 0 else rdW c s m) n ∧ sS (fun s => if rdF b p A s m = true then 0 else rdW c s m) n ≤ 1000000 * (n : Int) := by
  refine s_bd n (fun s _ => ?_)
  have h1 := rdW_rng hc s m
  have h2 := p10 hm
  split <;> omega
theorem sh2 {m : Nat} (hm : m ≤ 6) : i2 fshl 1 (m : Int) = ((2 ^ m : Nat) : Int) ∧ 2 ^ m ≤ 64 := by
  rcases (show m = 0 ∨ m = 1 ∨ m = 2 ∨ m = 3 ∨ m = 4 ∨ m = 5 ∨ m = 6 by omega) with rfl | rfl | rfl | rfl | rfl | rfl | rfl <;> decide
theorem r_hasN (s k : Nat) (M : Mm) (hs : s < 1000) (hk : k < 32) : Ct 131 [vi (s : Int), vi (k : Int)] M (fun q0 M' => ((s.testBit k = true) ∧ q0 = some (vi 1) ∧ M = M') ∨ (¬ (s.testBit k = true) ∧ q0 = some (vi 0) ∧ M = M')) := by
  have h := r_has (s : Int) (k : Int) M ⟨by omega, by omega⟩ ⟨by omega, by omega⟩
  rw [hb_nat] at h
  exact h
set_option maxRecDepth 100000 in
set_option maxHeartbeats 4000000 in
theorem rl_darkD (i w c b : Int) (M : Mm) (m : Nat) (hm : m ≤ 6) (hc : 0 ≤ c ∧ c ≤ 10) (hb0 : 0 ≤ b ∧ b < 2048) (hp : 0 ≤ (M 65 (28 + i)) ∧ (M 65 (28 + i)) ≤ 11) (hi : 0 ≤ i ∧ i < 6) (hA : ∀ j : Nat, j < m → 0 ≤ M 72 j ∧ M 72 j ≤ 5) (u d : Int) (s : Nat) (hs : s < 64) {P : Option PV → Mm → Prop} (hk : Hx 211 311 [some (vr 64), some (vi i), some (vi w), some (vi c), some (vi b), some (vi (rdP (M 65 (28 + i)) (M 72) s m)), some (vi (m : Int)), some (vl u), none, some (vl d), none, some (vi (s : Int)), some (vl (rdW c s m)), none, some (vi (rdI b (M 65 (28 + i)) (M 72) s m)), some (vi (m : Int))] [] M P) : ∀ (kk : Nat) (k : Nat), k ≤ m → 7 - (k : Int) < (kk : Int) → Hx 211 221 [some (vr 64), some (vi i), some (vi w), some (vi c), some (vi b), some (vi (rdP (M 65 (28 + i)) (M 72) s k)), some (vi (m : Int)), some (vl u), none, some (vl d), none, some (vi (s : Int)), some (vl (rdW c s k)), none, some (vi (rdI b (M 65 (28 + i)) (M 72) s k)), some (vi (k : Int))] [] M P := by
  intro kk
  induction kk with
  | zero => intro k _ hkk; exact absurd hkk (by omega)
  | succ kk ih =>
    intro k hkm hkk
    have q1 := rdP_rng (A := (M 72)) (s := s) hp k (fun j hj => (hA j (by omega)).1)
    have q2 : k < m → 0 ≤ M 72 (k : Int) ∧ M 72 (k : Int) ≤ 5 := fun z => hA k z
    have q3 := rdW_rng hc s k
    have q4 := p10 (k := k) (by omega)
    have q5 := Int.mul_nonneg q3.1 hc.1
    have q6 := Int.mul_le_mul_of_nonneg_left hc.2 q3.1
    have q7 := Int.mul_nonneg q3.1 (show 0 ≤ 10 - c by omega)
    have q8 := Int.mul_le_mul_of_nonneg_left (show 10 - c ≤ 10 by omega) q3.1
    refine Hx.run 2 (pc' := 225) (L' := [some (vr 64), some (vi i), some (vi w), some (vi c), some (vi b), some (vi (rdP (M 65 (28 + i)) (M 72) s k)), some (vi (m : Int)), some (vl u), none, some (vl d), none, some (vi (s : Int)), some (vl (rdW c s k)), none, some (vi (rdI b (M 65 (28 + i)) (M 72) s k)), some (vi (k : Int))]) (st' := [vi (m : Int), vi (k : Int)]) (M' := M) rfl ?_
    refine Hx.br (c := (k : Int) < (m : Int)) (t := 228) (f := 311) rfl (fun h1 => ?_) (fun h1 => ?_)
    · skip
      refine Hx.run 3 (pc' := 234) (L' := [some (vr 64), some (vi i), some (vi w), some (vi c), some (vi b), some (vi (rdP (M 65 (28 + i)) (M 72) s k)), some (vi (m : Int)), some (vl u), none, some (vl d), none, some (vi (s : Int)), some (vl (rdW c s k)), none, some (vi (rdI b (M 65 (28 + i)) (M 72) s k)), some (vi (k : Int))]) (st' := [vi (k : Int), vi (s : Int), vl (rdW c s k)]) (M' := M) rfl ?_
      refine Hx.call (t := 131) (as := [vi (s : Int), vi (k : Int)]) (pc' := 237) (rest := [vl (rdW c s k)]) rfl (r_hasN s k M (by omega) (by omega)) ?_
      rintro _ _ (⟨q134, rfl, rfl⟩ | ⟨q134, rfl, rfl⟩)
      · skip
        refine Hx.run 4 (pc' := 250) (L' := [some (vr 64), some (vi i), some (vi w), some (vi c), some (vi b), some (vi (rdP (M 65 (28 + i)) (M 72) s k)), some (vi (m : Int)), some (vl u), none, some (vl d), none, some (vi (s : Int)), some (vl (rdW c s k)), none, some (vi (rdI b (M 65 (28 + i)) (M 72) s k)), some (vi (k : Int))]) (st' := [vl c, vl (rdW c s k)]) (M' := M) rfl ?_
        refine Hx.lmul rfl (by omega) ?_
        refine Hx.run 5 (pc' := 261) (L' := [some (vr 64), some (vi i), some (vi w), some (vi c), some (vi b), some (vi (rdP (M 65 (28 + i)) (M 72) s k)), some (vi (m : Int)), some (vl u), none, some (vl d), none, some (vi (s : Int)), some (vl ((rdW c s k) * c)), none, some (vi (rdI b (M 65 (28 + i)) (M 72) s k)), some (vi (k : Int))]) (st' := [vi (k : Int), vr 72, vi (rdP (M 65 (28 + i)) (M 72) s k)]) (M' := M) rfl ?_
        refine Hx.aldI (n := 6) rfl rfl (by omega) ?_
        refine Hx.run 2 (pc' := 266) (L' := [some (vr 64), some (vi i), some (vi w), some (vi c), some (vi b), some (vi (rdP (M 65 (28 + i)) (M 72) s k)), some (vi (m : Int)), some (vl u), none, some (vl d), none, some (vi (s : Int)), some (vl ((rdW c s k) * c)), none, some (vi (rdI b (M 65 (28 + i)) (M 72) s k)), some (vi (k : Int))]) (st' := [vi (k : Int), vi (s : Int), vi (M 72 (k : Int)), vi (rdP (M 65 (28 + i)) (M 72) s k)]) (M' := M) rfl ?_
        refine Hx.call (t := 131) (as := [vi (s : Int), vi (k : Int)]) (pc' := 269) (rest := [vi (M 72 (k : Int)), vi (rdP (M 65 (28 + i)) (M 72) s k)]) rfl (r_hasN s k M (by omega) (by omega)) ?_
        rintro _ _ (⟨q135, rfl, rfl⟩ | ⟨q135, rfl, rfl⟩)
        · skip
          refine Hx.run 3 (pc' := 277) (L' := [some (vr 64), some (vi i), some (vi w), some (vi c), some (vi b), some (vi (rdP (M 65 (28 + i)) (M 72) s k)), some (vi (m : Int)), some (vl u), none, some (vl d), none, some (vi (s : Int)), some (vl ((rdW c s k) * c)), none, some (vi (rdI b (M 65 (28 + i)) (M 72) s k)), some (vi (k : Int))]) (st' := [vi 1, vi (M 72 (k : Int)), vi (rdP (M 65 (28 + i)) (M 72) s k)]) (M' := M) rfl ?_
          refine Hx.add rfl (by omega) ?_
          refine Hx.call (t := 184) (as := [vi (rdP (M 65 (28 + i)) (M 72) s k), vi ((M 72 (k : Int)) + 1)]) (pc' := 281) (rest := []) rfl (r_stepUp (rdP (M 65 (28 + i)) (M 72) s k) ((M 72 (k : Int)) + 1) M (by omega) (by omega)) ?_
          rintro _ _ ⟨rfl, rfl⟩
          refine Hx.run 0 (pc' := 281) (L' := [some (vr 64), some (vi i), some (vi w), some (vi c), some (vi b), some (vi (rdP (M 65 (28 + i)) (M 72) s k)), some (vi (m : Int)), some (vl u), none, some (vl d), none, some (vi (s : Int)), some (vl ((rdW c s k) * c)), none, some (vi (rdI b (M 65 (28 + i)) (M 72) s k)), some (vi (k : Int))]) (st' := [vi (min 11 ((rdP (M 65 (28 + i)) (M 72) s k) + ((M 72 (k : Int)) + 1)))]) (M' := M) rfl ?_
          refine Hx.run 2 (pc' := 285) (L' := [some (vr 64), some (vi i), some (vi w), some (vi c), some (vi b), some (vi (min 11 ((rdP (M 65 (28 + i)) (M 72) s k) + ((M 72 (k : Int)) + 1)))), some (vi (m : Int)), some (vl u), none, some (vl d), none, some (vi (s : Int)), some (vl ((rdW c s k) * c)), none, some (vi (rdI b (M 65 (28 + i)) (M 72) s k)), some (vi (k : Int))]) (st' := [vi (rdI b (M 65 (28 + i)) (M 72) s k)]) (M' := M) rfl ?_
          refine Hx.br (c := (rdI b (M 65 (28 + i)) (M 72) s k) = 0) (t := 288) (f := 298) rfl (fun h2 => ?_) (fun h2 => ?_)
          · skip
            refine Hx.run 2 (pc' := 292) (L' := [some (vr 64), some (vi i), some (vi w), some (vi c), some (vi b), some (vi (min 11 ((rdP (M 65 (28 + i)) (M 72) s k) + ((M 72 (k : Int)) + 1)))), some (vi (m : Int)), some (vl u), none, some (vl d), none, some (vi (s : Int)), some (vl ((rdW c s k) * c)), none, some (vi (rdI b (M 65 (28 + i)) (M 72) s k)), some (vi (k : Int))]) (st' := [vi (min 11 ((rdP (M 65 (28 + i)) (M 72) s k) + ((M 72 (k : Int)) + 1))), vi b]) (M' := M) rfl ?_
            refine Hx.call (t := 131) (as := [vi b, vi (min 11 ((rdP (M 65 (28 + i)) (M 72) s k) + ((M 72 (k : Int)) + 1)))]) (pc' := 295) (rest := []) rfl (r_has b (min 11 ((rdP (M 65 (28 + i)) (M 72) s k) + ((M 72 (k : Int)) + 1))) M (by omega) (by omega)) ?_
            rintro _ _ (⟨q136, rfl, rfl⟩ | ⟨q136, rfl, rfl⟩)
            · skip
              refine Hx.run 4 (pc' := 305) (L' := [some (vr 64), some (vi i), some (vi w), some (vi c), some (vi b), some (vi (min 11 ((rdP (M 65 (28 + i)) (M 72) s k) + ((M 72 (k : Int)) + 1)))), some (vi (m : Int)), some (vl u), none, some (vl d), none, some (vi (s : Int)), some (vl ((rdW c s k) * c)), none, some (vi 1), some (vi (k : Int))]) (st' := []) (M' := M) rfl ?_
              refine Hx.inc rfl rfl (by omega) ?_
              refine Hx.run 0 (pc' := 308) (L' := [some (vr 64), some (vi i), some (vi w), some (vi c), some (vi b), some (vi (min 11 ((rdP (M 65 (28 + i)) (M 72) s k) + ((M 72 (k : Int)) + 1)))), some (vi (m : Int)), some (vl u), none, some (vl d), none, some (vi (s : Int)), some (vl ((rdW c s k) * c)), none, some (vi 1), some (vi ((k : Int) + 1))]) (st' := []) (M' := M) rfl ?_
              refine Hx.run 1 (pc' := 221) (L' := [some (vr 64), some (vi i), some (vi w), some (vi c), some (vi b), some (vi (min 11 ((rdP (M 65 (28 + i)) (M 72) s k) + ((M 72 (k : Int)) + 1)))), some (vi (m : Int)), some (vl u), none, some (vl d), none, some (vi (s : Int)), some (vl ((rdW c s k) * c)), none, some (vi 1), some (vi ((k : Int) + 1))]) (st' := []) (M' := M) rfl ?_
              first
                | contradiction
                | (have e1 : (rdP (M 65 (28 + i)) (M 72) s (k + 1)) = (min 11 ((rdP (M 65 (28 + i)) (M 72) s k) + ((M 72 (k : Int)) + 1))) := by first | exact rdP_1 (by assumption) | exact rdP_0 (by assumption)
                   have e2 : (rdW c s (k + 1)) = ((rdW c s k) * c) := by first | exact rdW_1 (by assumption) | exact rdW_0 (by assumption)
                   have e3 : (rdI b (M 65 (28 + i)) (M 72) s (k + 1)) = 1 := by first | exact rdI_on (by assumption) | exact rdI_b (by rw [e1]; assumption) | exact rdI_n (by assumption) (by rw [e1]; assumption)
                   have h9 := ih (k + 1) (by omega) (by omega)
                   rw [e1, e2, e3] at h9
                   exact h9)
            · skip
              refine Hx.run 3 (pc' := 305) (L' := [some (vr 64), some (vi i), some (vi w), some (vi c), some (vi b), some (vi (min 11 ((rdP (M 65 (28 + i)) (M 72) s k) + ((M 72 (k : Int)) + 1)))), some (vi (m : Int)), some (vl u), none, some (vl d), none, some (vi (s : Int)), some (vl ((rdW c s k) * c)), none, some (vi 0), some (vi (k : Int))]) (st' := []) (M' := M) rfl ?_
              refine Hx.inc rfl rfl (by omega) ?_
              refine Hx.run 0 (pc' := 308) (L' := [some (vr 64), some (vi i), some (vi w), some (vi c), some (vi b), some (vi (min 11 ((rdP (M 65 (28 + i)) (M 72) s k) + ((M 72 (k : Int)) + 1)))), some (vi (m : Int)), some (vl u), none, some (vl d), none, some (vi (s : Int)), some (vl ((rdW c s k) * c)), none, some (vi 0), some (vi ((k : Int) + 1))]) (st' := []) (M' := M) rfl ?_
              refine Hx.run 1 (pc' := 221) (L' := [some (vr 64), some (vi i), some (vi w), some (vi c), some (vi b), some (vi (min 11 ((rdP (M 65 (28 + i)) (M 72) s k) + ((M 72 (k : Int)) + 1)))), some (vi (m : Int)), some (vl u), none, some (vl d), none, some (vi (s : Int)), some (vl ((rdW c s k) * c)), none, some (vi 0), some (vi ((k : Int) + 1))]) (st' := []) (M' := M) rfl ?_
              first
                | contradiction
                | (have e1 : (rdP (M 65 (28 + i)) (M 72) s (k + 1)) = (min 11 ((rdP (M 65 (28 + i)) (M 72) s k) + ((M 72 (k : Int)) + 1))) := by first | exact rdP_1 (by assumption) | exact rdP_0 (by assumption)
                   have e2 : (rdW c s (k + 1)) = ((rdW c s k) * c) := by first | exact rdW_1 (by assumption) | exact rdW_0 (by assumption)
                   have e3 : (rdI b (M 65 (28 + i)) (M 72) s (k + 1)) = 0 := by first | exact rdI_on (by assumption) | exact rdI_b (by rw [e1]; assumption) | exact rdI_n (by assumption) (by rw [e1]; assumption)
                   have h9 := ih (k + 1) (by omega) (by omega)
                   rw [e1, e2, e3] at h9
                   exact h9)
          · skip
            refine Hx.run 3 (pc' := 305) (L' := [some (vr 64), some (vi i), some (vi w), some (vi c), some (vi b), some (vi (min 11 ((rdP (M 65 (28 + i)) (M 72) s k) + ((M 72 (k : Int)) + 1)))), some (vi (m : Int)), some (vl u), none, some (vl d), none, some (vi (s : Int)), some (vl ((rdW c s k) * c)), none, some (vi 1), some (vi (k : Int))]) (st' := []) (M' := M) rfl ?_
            refine Hx.inc rfl rfl (by omega) ?_
            refine Hx.run 0 (pc' := 308) (L' := [some (vr 64), some (vi i), some (vi w), some (vi c), some (vi b), some (vi (min 11 ((rdP (M 65 (28 + i)) (M 72) s k) + ((M 72 (k : Int)) + 1)))), some (vi (m : Int)), some (vl u), none, some (vl d), none, some (vi (s : Int)), some (vl ((rdW c s k) * c)), none, some (vi 1), some (vi ((k : Int) + 1))]) (st' := []) (M' := M) rfl ?_
            refine Hx.run 1 (pc' := 221) (L' := [some (vr 64), some (vi i), some (vi w), some (vi c), some (vi b), some (vi (min 11 ((rdP (M 65 (28 + i)) (M 72) s k) + ((M 72 (k : Int)) + 1)))), some (vi (m : Int)), some (vl u), none, some (vl d), none, some (vi (s : Int)), some (vl ((rdW c s k) * c)), none, some (vi 1), some (vi ((k : Int) + 1))]) (st' := []) (M' := M) rfl ?_
            first
              | contradiction
              | (have e1 : (rdP (M 65 (28 + i)) (M 72) s (k + 1)) = (min 11 ((rdP (M 65 (28 + i)) (M 72) s k) + ((M 72 (k : Int)) + 1))) := by first | exact rdP_1 (by assumption) | exact rdP_0 (by assumption)
                 have e2 : (rdW c s (k + 1)) = ((rdW c s k) * c) := by first | exact rdW_1 (by assumption) | exact rdW_0 (by assumption)
                 have e3 : (rdI b (M 65 (28 + i)) (M 72) s (k + 1)) = 1 := by first | exact rdI_on (by assumption) | exact rdI_b (by rw [e1]; assumption) | exact rdI_n (by assumption) (by rw [e1]; assumption)
                 have h9 := ih (k + 1) (by omega) (by omega)
                 rw [e1, e2, e3] at h9
                 exact h9)
        · skip
          refine Hx.run 2 (pc' := 277) (L' := [some (vr 64), some (vi i), some (vi w), some (vi c), some (vi b), some (vi (rdP (M 65 (28 + i)) (M 72) s k)), some (vi (m : Int)), some (vl u), none, some (vl d), none, some (vi (s : Int)), some (vl ((rdW c s k) * c)), none, some (vi (rdI b (M 65 (28 + i)) (M 72) s k)), some (vi (k : Int))]) (st' := [vi 0, vi (M 72 (k : Int)), vi (rdP (M 65 (28 + i)) (M 72) s k)]) (M' := M) rfl ?_
          refine Hx.add rfl (by omega) ?_
          refine Hx.call (t := 184) (as := [vi (rdP (M 65 (28 + i)) (M 72) s k), vi ((M 72 (k : Int)) + 0)]) (pc' := 281) (rest := []) rfl (r_stepUp (rdP (M 65 (28 + i)) (M 72) s k) ((M 72 (k : Int)) + 0) M (by omega) (by omega)) ?_
          rintro _ _ ⟨rfl, rfl⟩
          refine Hx.run 0 (pc' := 281) (L' := [some (vr 64), some (vi i), some (vi w), some (vi c), some (vi b), some (vi (rdP (M 65 (28 + i)) (M 72) s k)), some (vi (m : Int)), some (vl u), none, some (vl d), none, some (vi (s : Int)), some (vl ((rdW c s k) * c)), none, some (vi (rdI b (M 65 (28 + i)) (M 72) s k)), some (vi (k : Int))]) (st' := [vi (min 11 ((rdP (M 65 (28 + i)) (M 72) s k) + ((M 72 (k : Int)) + 0)))]) (M' := M) rfl ?_
          refine Hx.run 2 (pc' := 285) (L' := [some (vr 64), some (vi i), some (vi w), some (vi c), some (vi b), some (vi (min 11 ((rdP (M 65 (28 + i)) (M 72) s k) + ((M 72 (k : Int)) + 0)))), some (vi (m : Int)), some (vl u), none, some (vl d), none, some (vi (s : Int)), some (vl ((rdW c s k) * c)), none, some (vi (rdI b (M 65 (28 + i)) (M 72) s k)), some (vi (k : Int))]) (st' := [vi (rdI b (M 65 (28 + i)) (M 72) s k)]) (M' := M) rfl ?_
          refine Hx.br (c := (rdI b (M 65 (28 + i)) (M 72) s k) = 0) (t := 288) (f := 298) rfl (fun h3 => ?_) (fun h3 => ?_)
          · skip
            refine Hx.run 2 (pc' := 292) (L' := [some (vr 64), some (vi i), some (vi w), some (vi c), some (vi b), some (vi (min 11 ((rdP (M 65 (28 + i)) (M 72) s k) + ((M 72 (k : Int)) + 0)))), some (vi (m : Int)), some (vl u), none, some (vl d), none, some (vi (s : Int)), some (vl ((rdW c s k) * c)), none, some (vi (rdI b (M 65 (28 + i)) (M 72) s k)), some (vi (k : Int))]) (st' := [vi (min 11 ((rdP (M 65 (28 + i)) (M 72) s k) + ((M 72 (k : Int)) + 0))), vi b]) (M' := M) rfl ?_
            refine Hx.call (t := 131) (as := [vi b, vi (min 11 ((rdP (M 65 (28 + i)) (M 72) s k) + ((M 72 (k : Int)) + 0)))]) (pc' := 295) (rest := []) rfl (r_has b (min 11 ((rdP (M 65 (28 + i)) (M 72) s k) + ((M 72 (k : Int)) + 0))) M (by omega) (by omega)) ?_
            rintro _ _ (⟨q137, rfl, rfl⟩ | ⟨q137, rfl, rfl⟩)
            · skip
              refine Hx.run 4 (pc' := 305) (L' := [some (vr 64), some (vi i), some (vi w), some (vi c), some (vi b), some (vi (min 11 ((rdP (M 65 (28 + i)) (M 72) s k) + ((M 72 (k : Int)) + 0)))), some (vi (m : Int)), some (vl u), none, some (vl d), none, some (vi (s : Int)), some (vl ((rdW c s k) * c)), none, some (vi 1), some (vi (k : Int))]) (st' := []) (M' := M) rfl ?_
              refine Hx.inc rfl rfl (by omega) ?_
              refine Hx.run 0 (pc' := 308) (L' := [some (vr 64), some (vi i), some (vi w), some (vi c), some (vi b), some (vi (min 11 ((rdP (M 65 (28 + i)) (M 72) s k) + ((M 72 (k : Int)) + 0)))), some (vi (m : Int)), some (vl u), none, some (vl d), none, some (vi (s : Int)), some (vl ((rdW c s k) * c)), none, some (vi 1), some (vi ((k : Int) + 1))]) (st' := []) (M' := M) rfl ?_
              refine Hx.run 1 (pc' := 221) (L' := [some (vr 64), some (vi i), some (vi w), some (vi c), some (vi b), some (vi (min 11 ((rdP (M 65 (28 + i)) (M 72) s k) + ((M 72 (k : Int)) + 0)))), some (vi (m : Int)), some (vl u), none, some (vl d), none, some (vi (s : Int)), some (vl ((rdW c s k) * c)), none, some (vi 1), some (vi ((k : Int) + 1))]) (st' := []) (M' := M) rfl ?_
              first
                | contradiction
                | (have e1 : (rdP (M 65 (28 + i)) (M 72) s (k + 1)) = (min 11 ((rdP (M 65 (28 + i)) (M 72) s k) + ((M 72 (k : Int)) + 0))) := by first | exact rdP_1 (by assumption) | exact rdP_0 (by assumption)
                   have e2 : (rdW c s (k + 1)) = ((rdW c s k) * c) := by first | exact rdW_1 (by assumption) | exact rdW_0 (by assumption)
                   have e3 : (rdI b (M 65 (28 + i)) (M 72) s (k + 1)) = 1 := by first | exact rdI_on (by assumption) | exact rdI_b (by rw [e1]; assumption) | exact rdI_n (by assumption) (by rw [e1]; assumption)
                   have h9 := ih (k + 1) (by omega) (by omega)
                   rw [e1, e2, e3] at h9
                   exact h9)
            · skip
              refine Hx.run 3 (pc' := 305) (L' := [some (vr 64), some (vi i), some (vi w), some (vi c), some (vi b), some (vi (min 11 ((rdP (M 65 (28 + i)) (M 72) s k) + ((M 72 (k : Int)) + 0)))), some (vi (m : Int)), some (vl u), none, some (vl d), none, some (vi (s : Int)), some (vl ((rdW c s k) * c)), none, some (vi 0), some (vi (k : Int))]) (st' := []) (M' := M) rfl ?_
              refine Hx.inc rfl rfl (by omega) ?_
              refine Hx.run 0 (pc' := 308) (L' := [some (vr 64), some (vi i), some (vi w), some (vi c), some (vi b), some (vi (min 11 ((rdP (M 65 (28 + i)) (M 72) s k) + ((M 72 (k : Int)) + 0)))), some (vi (m : Int)), some (vl u), none, some (vl d), none, some (vi (s : Int)), some (vl ((rdW c s k) * c)), none, some (vi 0), some (vi ((k : Int) + 1))]) (st' := []) (M' := M) rfl ?_
              refine Hx.run 1 (pc' := 221) (L' := [some (vr 64), some (vi i), some (vi w), some (vi c), some (vi b), some (vi (min 11 ((rdP (M 65 (28 + i)) (M 72) s k) + ((M 72 (k : Int)) + 0)))), some (vi (m : Int)), some (vl u), none, some (vl d), none, some (vi (s : Int)), some (vl ((rdW c s k) * c)), none, some (vi 0), some (vi ((k : Int) + 1))]) (st' := []) (M' := M) rfl ?_
              first
                | contradiction
                | (have e1 : (rdP (M 65 (28 + i)) (M 72) s (k + 1)) = (min 11 ((rdP (M 65 (28 + i)) (M 72) s k) + ((M 72 (k : Int)) + 0))) := by first | exact rdP_1 (by assumption) | exact rdP_0 (by assumption)
                   have e2 : (rdW c s (k + 1)) = ((rdW c s k) * c) := by first | exact rdW_1 (by assumption) | exact rdW_0 (by assumption)
                   have e3 : (rdI b (M 65 (28 + i)) (M 72) s (k + 1)) = 0 := by first | exact rdI_on (by assumption) | exact rdI_b (by rw [e1]; assumption) | exact rdI_n (by assumption) (by rw [e1]; assumption)
                   have h9 := ih (k + 1) (by omega) (by omega)
                   rw [e1, e2, e3] at h9
                   exact h9)
          · skip
            refine Hx.run 3 (pc' := 305) (L' := [some (vr 64), some (vi i), some (vi w), some (vi c), some (vi b), some (vi (min 11 ((rdP (M 65 (28 + i)) (M 72) s k) + ((M 72 (k : Int)) + 0)))), some (vi (m : Int)), some (vl u), none, some (vl d), none, some (vi (s : Int)), some (vl ((rdW c s k) * c)), none, some (vi 1), some (vi (k : Int))]) (st' := []) (M' := M) rfl ?_
            refine Hx.inc rfl rfl (by omega) ?_
            refine Hx.run 0 (pc' := 308) (L' := [some (vr 64), some (vi i), some (vi w), some (vi c), some (vi b), some (vi (min 11 ((rdP (M 65 (28 + i)) (M 72) s k) + ((M 72 (k : Int)) + 0)))), some (vi (m : Int)), some (vl u), none, some (vl d), none, some (vi (s : Int)), some (vl ((rdW c s k) * c)), none, some (vi 1), some (vi ((k : Int) + 1))]) (st' := []) (M' := M) rfl ?_
            refine Hx.run 1 (pc' := 221) (L' := [some (vr 64), some (vi i), some (vi w), some (vi c), some (vi b), some (vi (min 11 ((rdP (M 65 (28 + i)) (M 72) s k) + ((M 72 (k : Int)) + 0)))), some (vi (m : Int)), some (vl u), none, some (vl d), none, some (vi (s : Int)), some (vl ((rdW c s k) * c)), none, some (vi 1), some (vi ((k : Int) + 1))]) (st' := []) (M' := M) rfl ?_
            first
              | contradiction
              | (have e1 : (rdP (M 65 (28 + i)) (M 72) s (k + 1)) = (min 11 ((rdP (M 65 (28 + i)) (M 72) s k) + ((M 72 (k : Int)) + 0))) := by first | exact rdP_1 (by assumption) | exact rdP_0 (by assumption)
                 have e2 : (rdW c s (k + 1)) = ((rdW c s k) * c) := by first | exact rdW_1 (by assumption) | exact rdW_0 (by assumption)
                 have e3 : (rdI b (M 65 (28 + i)) (M 72) s (k + 1)) = 1 := by first | exact rdI_on (by assumption) | exact rdI_b (by rw [e1]; assumption) | exact rdI_n (by assumption) (by rw [e1]; assumption)
                 have h9 := ih (k + 1) (by omega) (by omega)
                 rw [e1, e2, e3] at h9
                 exact h9)
      · skip
        refine Hx.run 3 (pc' := 248) (L' := [some (vr 64), some (vi i), some (vi w), some (vi c), some (vi b), some (vi (rdP (M 65 (28 + i)) (M 72) s k)), some (vi (m : Int)), some (vl u), none, some (vl d), none, some (vi (s : Int)), some (vl (rdW c s k)), none, some (vi (rdI b (M 65 (28 + i)) (M 72) s k)), some (vi (k : Int))]) (st' := [vi c, vi 10, vl (rdW c s k)]) (M' := M) rfl ?_
        refine Hx.sub rfl (by omega) ?_
        refine Hx.run 1 (pc' := 250) (L' := [some (vr 64), some (vi i), some (vi w), some (vi c), some (vi b), some (vi (rdP (M 65 (28 + i)) (M 72) s k)), some (vi (m : Int)), some (vl u), none, some (vl d), none, some (vi (s : Int)), some (vl (rdW c s k)), none, some (vi (rdI b (M 65 (28 + i)) (M 72) s k)), some (vi (k : Int))]) (st' := [vl (10 - c), vl (rdW c s k)]) (M' := M) rfl ?_
        refine Hx.lmul rfl (by omega) ?_
        refine Hx.run 5 (pc' := 261) (L' := [some (vr 64), some (vi i), some (vi w), some (vi c), some (vi b), some (vi (rdP (M 65 (28 + i)) (M 72) s k)), some (vi (m : Int)), some (vl u), none, some (vl d), none, some (vi (s : Int)), some (vl ((rdW c s k) * (10 - c))), none, some (vi (rdI b (M 65 (28 + i)) (M 72) s k)), some (vi (k : Int))]) (st' := [vi (k : Int), vr 72, vi (rdP (M 65 (28 + i)) (M 72) s k)]) (M' := M) rfl ?_
        refine Hx.aldI (n := 6) rfl rfl (by omega) ?_
        refine Hx.run 2 (pc' := 266) (L' := [some (vr 64), some (vi i), some (vi w), some (vi c), some (vi b), some (vi (rdP (M 65 (28 + i)) (M 72) s k)), some (vi (m : Int)), some (vl u), none, some (vl d), none, some (vi (s : Int)), some (vl ((rdW c s k) * (10 - c))), none, some (vi (rdI b (M 65 (28 + i)) (M 72) s k)), some (vi (k : Int))]) (st' := [vi (k : Int), vi (s : Int), vi (M 72 (k : Int)), vi (rdP (M 65 (28 + i)) (M 72) s k)]) (M' := M) rfl ?_
        refine Hx.call (t := 131) (as := [vi (s : Int), vi (k : Int)]) (pc' := 269) (rest := [vi (M 72 (k : Int)), vi (rdP (M 65 (28 + i)) (M 72) s k)]) rfl (r_hasN s k M (by omega) (by omega)) ?_
        rintro _ _ (⟨q138, rfl, rfl⟩ | ⟨q138, rfl, rfl⟩)
        · skip
          refine Hx.run 3 (pc' := 277) (L' := [some (vr 64), some (vi i), some (vi w), some (vi c), some (vi b), some (vi (rdP (M 65 (28 + i)) (M 72) s k)), some (vi (m : Int)), some (vl u), none, some (vl d), none, some (vi (s : Int)), some (vl ((rdW c s k) * (10 - c))), none, some (vi (rdI b (M 65 (28 + i)) (M 72) s k)), some (vi (k : Int))]) (st' := [vi 1, vi (M 72 (k : Int)), vi (rdP (M 65 (28 + i)) (M 72) s k)]) (M' := M) rfl ?_
          refine Hx.add rfl (by omega) ?_
          refine Hx.call (t := 184) (as := [vi (rdP (M 65 (28 + i)) (M 72) s k), vi ((M 72 (k : Int)) + 1)]) (pc' := 281) (rest := []) rfl (r_stepUp (rdP (M 65 (28 + i)) (M 72) s k) ((M 72 (k : Int)) + 1) M (by omega) (by omega)) ?_
          rintro _ _ ⟨rfl, rfl⟩
          refine Hx.run 0 (pc' := 281) (L' := [some (vr 64), some (vi i), some (vi w), some (vi c), some (vi b), some (vi (rdP (M 65 (28 + i)) (M 72) s k)), some (vi (m : Int)), some (vl u), none, some (vl d), none, some (vi (s : Int)), some (vl ((rdW c s k) * (10 - c))), none, some (vi (rdI b (M 65 (28 + i)) (M 72) s k)), some (vi (k : Int))]) (st' := [vi (min 11 ((rdP (M 65 (28 + i)) (M 72) s k) + ((M 72 (k : Int)) + 1)))]) (M' := M) rfl ?_
          refine Hx.run 2 (pc' := 285) (L' := [some (vr 64), some (vi i), some (vi w), some (vi c), some (vi b), some (vi (min 11 ((rdP (M 65 (28 + i)) (M 72) s k) + ((M 72 (k : Int)) + 1)))), some (vi (m : Int)), some (vl u), none, some (vl d), none, some (vi (s : Int)), some (vl ((rdW c s k) * (10 - c))), none, some (vi (rdI b (M 65 (28 + i)) (M 72) s k)), some (vi (k : Int))]) (st' := [vi (rdI b (M 65 (28 + i)) (M 72) s k)]) (M' := M) rfl ?_
          refine Hx.br (c := (rdI b (M 65 (28 + i)) (M 72) s k) = 0) (t := 288) (f := 298) rfl (fun h4 => ?_) (fun h4 => ?_)
          · skip
            refine Hx.run 2 (pc' := 292) (L' := [some (vr 64), some (vi i), some (vi w), some (vi c), some (vi b), some (vi (min 11 ((rdP (M 65 (28 + i)) (M 72) s k) + ((M 72 (k : Int)) + 1)))), some (vi (m : Int)), some (vl u), none, some (vl d), none, some (vi (s : Int)), some (vl ((rdW c s k) * (10 - c))), none, some (vi (rdI b (M 65 (28 + i)) (M 72) s k)), some (vi (k : Int))]) (st' := [vi (min 11 ((rdP (M 65 (28 + i)) (M 72) s k) + ((M 72 (k : Int)) + 1))), vi b]) (M' := M) rfl ?_
            refine Hx.call (t := 131) (as := [vi b, vi (min 11 ((rdP (M 65 (28 + i)) (M 72) s k) + ((M 72 (k : Int)) + 1)))]) (pc' := 295) (rest := []) rfl (r_has b (min 11 ((rdP (M 65 (28 + i)) (M 72) s k) + ((M 72 (k : Int)) + 1))) M (by omega) (by omega)) ?_
            rintro _ _ (⟨q139, rfl, rfl⟩ | ⟨q139, rfl, rfl⟩)
            · skip
              refine Hx.run 4 (pc' := 305) (L' := [some (vr 64), some (vi i), some (vi w), some (vi c), some (vi b), some (vi (min 11 ((rdP (M 65 (28 + i)) (M 72) s k) + ((M 72 (k : Int)) + 1)))), some (vi (m : Int)), some (vl u), none, some (vl d), none, some (vi (s : Int)), some (vl ((rdW c s k) * (10 - c))), none, some (vi 1), some (vi (k : Int))]) (st' := []) (M' := M) rfl ?_
              refine Hx.inc rfl rfl (by omega) ?_
              refine Hx.run 0 (pc' := 308) (L' := [some (vr 64), some (vi i), some (vi w), some (vi c), some (vi b), some (vi (min 11 ((rdP (M 65 (28 + i)) (M 72) s k) + ((M 72 (k : Int)) + 1)))), some (vi (m : Int)), some (vl u), none, some (vl d), none, some (vi (s : Int)), some (vl ((rdW c s k) * (10 - c))), none, some (vi 1), some (vi ((k : Int) + 1))]) (st' := []) (M' := M) rfl ?_
              refine Hx.run 1 (pc' := 221) (L' := [some (vr 64), some (vi i), some (vi w), some (vi c), some (vi b), some (vi (min 11 ((rdP (M 65 (28 + i)) (M 72) s k) + ((M 72 (k : Int)) + 1)))), some (vi (m : Int)), some (vl u), none, some (vl d), none, some (vi (s : Int)), some (vl ((rdW c s k) * (10 - c))), none, some (vi 1), some (vi ((k : Int) + 1))]) (st' := []) (M' := M) rfl ?_
              first
                | contradiction
                | (have e1 : (rdP (M 65 (28 + i)) (M 72) s (k + 1)) = (min 11 ((rdP (M 65 (28 + i)) (M 72) s k) + ((M 72 (k : Int)) + 1))) := by first | exact rdP_1 (by assumption) | exact rdP_0 (by assumption)
                   have e2 : (rdW c s (k + 1)) = ((rdW c s k) * (10 - c)) := by first | exact rdW_1 (by assumption) | exact rdW_0 (by assumption)
                   have e3 : (rdI b (M 65 (28 + i)) (M 72) s (k + 1)) = 1 := by first | exact rdI_on (by assumption) | exact rdI_b (by rw [e1]; assumption) | exact rdI_n (by assumption) (by rw [e1]; assumption)
                   have h9 := ih (k + 1) (by omega) (by omega)
                   rw [e1, e2, e3] at h9
                   exact h9)
            · skip
              refine Hx.run 3 (pc' := 305) (L' := [some (vr 64), some (vi i), some (vi w), some (vi c), some (vi b), some (vi (min 11 ((rdP (M 65 (28 + i)) (M 72) s k) + ((M 72 (k : Int)) + 1)))), some (vi (m : Int)), some (vl u), none, some (vl d), none, some (vi (s : Int)), some (vl ((rdW c s k) * (10 - c))), none, some (vi 0), some (vi (k : Int))]) (st' := []) (M' := M) rfl ?_
              refine Hx.inc rfl rfl (by omega) ?_
              refine Hx.run 0 (pc' := 308) (L' := [some (vr 64), some (vi i), some (vi w), some (vi c), some (vi b), some (vi (min 11 ((rdP (M 65 (28 + i)) (M 72) s k) + ((M 72 (k : Int)) + 1)))), some (vi (m : Int)), some (vl u), none, some (vl d), none, some (vi (s : Int)), some (vl ((rdW c s k) * (10 - c))), none, some (vi 0), some (vi ((k : Int) + 1))]) (st' := []) (M' := M) rfl ?_
              refine Hx.run 1 (pc' := 221) (L' := [some (vr 64), some (vi i), some (vi w), some (vi c), some (vi b), some (vi (min 11 ((rdP (M 65 (28 + i)) (M 72) s k) + ((M 72 (k : Int)) + 1)))), some (vi (m : Int)), some (vl u), none, some (vl d), none, some (vi (s : Int)), some (vl ((rdW c s k) * (10 - c))), none, some (vi 0), some (vi ((k : Int) + 1))]) (st' := []) (M' := M) rfl ?_
              first
                | contradiction
                | (have e1 : (rdP (M 65 (28 + i)) (M 72) s (k + 1)) = (min 11 ((rdP (M 65 (28 + i)) (M 72) s k) + ((M 72 (k : Int)) + 1))) := by first | exact rdP_1 (by assumption) | exact rdP_0 (by assumption)
                   have e2 : (rdW c s (k + 1)) = ((rdW c s k) * (10 - c)) := by first | exact rdW_1 (by assumption) | exact rdW_0 (by assumption)
                   have e3 : (rdI b (M 65 (28 + i)) (M 72) s (k + 1)) = 0 := by first | exact rdI_on (by assumption) | exact rdI_b (by rw [e1]; assumption) | exact rdI_n (by assumption) (by rw [e1]; assumption)
                   have h9 := ih (k + 1) (by omega) (by omega)
                   rw [e1, e2, e3] at h9
                   exact h9)
          · skip
            refine Hx.run 3 (pc' := 305) (L' := [some (vr 64), some (vi i), some (vi w), some (vi c), some (vi b), some (vi (min 11 ((rdP (M 65 (28 + i)) (M 72) s k) + ((M 72 (k : Int)) + 1)))), some (vi (m : Int)), some (vl u), none, some (vl d), none, some (vi (s : Int)), some (vl ((rdW c s k) * (10 - c))), none, some (vi 1), some (vi (k : Int))]) (st' := []) (M' := M) rfl ?_
            refine Hx.inc rfl rfl (by omega) ?_
            refine Hx.run 0 (pc' := 308) (L' := [some (vr 64), some (vi i), some (vi w), some (vi c), some (vi b), some (vi (min 11 ((rdP (M 65 (28 + i)) (M 72) s k) + ((M 72 (k : Int)) + 1)))), some (vi (m : Int)), some (vl u), none, some (vl d), none, some (vi (s : Int)), some (vl ((rdW c s k) * (10 - c))), none, some (vi 1), some (vi ((k : Int) + 1))]) (st' := []) (M' := M) rfl ?_
            refine Hx.run 1 (pc' := 221) (L' := [some (vr 64), some (vi i), some (vi w), some (vi c), some (vi b), some (vi (min 11 ((rdP (M 65 (28 + i)) (M 72) s k) + ((M 72 (k : Int)) + 1)))), some (vi (m : Int)), some (vl u), none, some (vl d), none, some (vi (s : Int)), some (vl ((rdW c s k) * (10 - c))), none, some (vi 1), some (vi ((k : Int) + 1))]) (st' := []) (M' := M) rfl ?_
            first
              | contradiction
              | (have e1 : (rdP (M 65 (28 + i)) (M 72) s (k + 1)) = (min 11 ((rdP (M 65 (28 + i)) (M 72) s k) + ((M 72 (k : Int)) + 1))) := by first | exact rdP_1 (by assumption) | exact rdP_0 (by assumption)
                 have e2 : (rdW c s (k + 1)) = ((rdW c s k) * (10 - c)) := by first | exact rdW_1 (by assumption) | exact rdW_0 (by assumption)
                 have e3 : (rdI b (M 65 (28 + i)) (M 72) s (k + 1)) = 1 := by first | exact rdI_on (by assumption) | exact rdI_b (by rw [e1]; assumption) | exact rdI_n (by assumption) (by rw [e1]; assumption)
                 have h9 := ih (k + 1) (by omega) (by omega)
                 rw [e1, e2, e3] at h9
                 exact h9)
        · skip
          refine Hx.run 2 (pc' := 277) (L' := [some (vr 64), some (vi i), some (vi w), some (vi c), some (vi b), some (vi (rdP (M 65 (28 + i)) (M 72) s k)), some (vi (m : Int)), some (vl u), none, some (vl d), none, some (vi (s : Int)), some (vl ((rdW c s k) * (10 - c))), none, some (vi (rdI b (M 65 (28 + i)) (M 72) s k)), some (vi (k : Int))]) (st' := [vi 0, vi (M 72 (k : Int)), vi (rdP (M 65 (28 + i)) (M 72) s k)]) (M' := M) rfl ?_
          refine Hx.add rfl (by omega) ?_
          refine Hx.call (t := 184) (as := [vi (rdP (M 65 (28 + i)) (M 72) s k), vi ((M 72 (k : Int)) + 0)]) (pc' := 281) (rest := []) rfl (r_stepUp (rdP (M 65 (28 + i)) (M 72) s k) ((M 72 (k : Int)) + 0) M (by omega) (by omega)) ?_
          rintro _ _ ⟨rfl, rfl⟩
          refine Hx.run 0 (pc' := 281) (L' := [some (vr 64), some (vi i), some (vi w), some (vi c), some (vi b), some (vi (rdP (M 65 (28 + i)) (M 72) s k)), some (vi (m : Int)), some (vl u), none, some (vl d), none, some (vi (s : Int)), some (vl ((rdW c s k) * (10 - c))), none, some (vi (rdI b (M 65 (28 + i)) (M 72) s k)), some (vi (k : Int))]) (st' := [vi (min 11 ((rdP (M 65 (28 + i)) (M 72) s k) + ((M 72 (k : Int)) + 0)))]) (M' := M) rfl ?_
          refine Hx.run 2 (pc' := 285) (L' := [some (vr 64), some (vi i), some (vi w), some (vi c), some (vi b), some (vi (min 11 ((rdP (M 65 (28 + i)) (M 72) s k) + ((M 72 (k : Int)) + 0)))), some (vi (m : Int)), some (vl u), none, some (vl d), none, some (vi (s : Int)), some (vl ((rdW c s k) * (10 - c))), none, some (vi (rdI b (M 65 (28 + i)) (M 72) s k)), some (vi (k : Int))]) (st' := [vi (rdI b (M 65 (28 + i)) (M 72) s k)]) (M' := M) rfl ?_
          refine Hx.br (c := (rdI b (M 65 (28 + i)) (M 72) s k) = 0) (t := 288) (f := 298) rfl (fun h5 => ?_) (fun h5 => ?_)
          · skip
            refine Hx.run 2 (pc' := 292) (L' := [some (vr 64), some (vi i), some (vi w), some (vi c), some (vi b), some (vi (min 11 ((rdP (M 65 (28 + i)) (M 72) s k) + ((M 72 (k : Int)) + 0)))), some (vi (m : Int)), some (vl u), none, some (vl d), none, some (vi (s : Int)), some (vl ((rdW c s k) * (10 - c))), none, some (vi (rdI b (M 65 (28 + i)) (M 72) s k)), some (vi (k : Int))]) (st' := [vi (min 11 ((rdP (M 65 (28 + i)) (M 72) s k) + ((M 72 (k : Int)) + 0))), vi b]) (M' := M) rfl ?_
            refine Hx.call (t := 131) (as := [vi b, vi (min 11 ((rdP (M 65 (28 + i)) (M 72) s k) + ((M 72 (k : Int)) + 0)))]) (pc' := 295) (rest := []) rfl (r_has b (min 11 ((rdP (M 65 (28 + i)) (M 72) s k) + ((M 72 (k : Int)) + 0))) M (by omega) (by omega)) ?_
            rintro _ _ (⟨q140, rfl, rfl⟩ | ⟨q140, rfl, rfl⟩)
            · skip
              refine Hx.run 4 (pc' := 305) (L' := [some (vr 64), some (vi i), some (vi w), some (vi c), some (vi b), some (vi (min 11 ((rdP (M 65 (28 + i)) (M 72) s k) + ((M 72 (k : Int)) + 0)))), some (vi (m : Int)), some (vl u), none, some (vl d), none, some (vi (s : Int)), some (vl ((rdW c s k) * (10 - c))), none, some (vi 1), some (vi (k : Int))]) (st' := []) (M' := M) rfl ?_
              refine Hx.inc rfl rfl (by omega) ?_
              refine Hx.run 0 (pc' := 308) (L' := [some (vr 64), some (vi i), some (vi w), some (vi c), some (vi b), some (vi (min 11 ((rdP (M 65 (28 + i)) (M 72) s k) + ((M 72 (k : Int)) + 0)))), some (vi (m : Int)), some (vl u), none, some (vl d), none, some (vi (s : Int)), some (vl ((rdW c s k) * (10 - c))), none, some (vi 1), some (vi ((k : Int) + 1))]) (st' := []) (M' := M) rfl ?_
              refine Hx.run 1 (pc' := 221) (L' := [some (vr 64), some (vi i), some (vi w), some (vi c), some (vi b), some (vi (min 11 ((rdP (M 65 (28 + i)) (M 72) s k) + ((M 72 (k : Int)) + 0)))), some (vi (m : Int)), some (vl u), none, some (vl d), none, some (vi (s : Int)), some (vl ((rdW c s k) * (10 - c))), none, some (vi 1), some (vi ((k : Int) + 1))]) (st' := []) (M' := M) rfl ?_
              first
                | contradiction
                | (have e1 : (rdP (M 65 (28 + i)) (M 72) s (k + 1)) = (min 11 ((rdP (M 65 (28 + i)) (M 72) s k) + ((M 72 (k : Int)) + 0))) := by first | exact rdP_1 (by assumption) | exact rdP_0 (by assumption)
                   have e2 : (rdW c s (k + 1)) = ((rdW c s k) * (10 - c)) := by first | exact rdW_1 (by assumption) | exact rdW_0 (by assumption)
                   have e3 : (rdI b (M 65 (28 + i)) (M 72) s (k + 1)) = 1 := by first | exact rdI_on (by assumption) | exact rdI_b (by rw [e1]; assumption) | exact rdI_n (by assumption) (by rw [e1]; assumption)
                   have h9 := ih (k + 1) (by omega) (by omega)
                   rw [e1, e2, e3] at h9
                   exact h9)
            · skip
              refine Hx.run 3 (pc' := 305) (L' := [some (vr 64), some (vi i), some (vi w), some (vi c), some (vi b), some (vi (min 11 ((rdP (M 65 (28 + i)) (M 72) s k) + ((M 72 (k : Int)) + 0)))), some (vi (m : Int)), some (vl u), none, some (vl d), none, some (vi (s : Int)), some (vl ((rdW c s k) * (10 - c))), none, some (vi 0), some (vi (k : Int))]) (st' := []) (M' := M) rfl ?_
              refine Hx.inc rfl rfl (by omega) ?_
              refine Hx.run 0 (pc' := 308) (L' := [some (vr 64), some (vi i), some (vi w), some (vi c), some (vi b), some (vi (min 11 ((rdP (M 65 (28 + i)) (M 72) s k) + ((M 72 (k : Int)) + 0)))), some (vi (m : Int)), some (vl u), none, some (vl d), none, some (vi (s : Int)), some (vl ((rdW c s k) * (10 - c))), none, some (vi 0), some (vi ((k : Int) + 1))]) (st' := []) (M' := M) rfl ?_
              refine Hx.run 1 (pc' := 221) (L' := [some (vr 64), some (vi i), some (vi w), some (vi c), some (vi b), some (vi (min 11 ((rdP (M 65 (28 + i)) (M 72) s k) + ((M 72 (k : Int)) + 0)))), some (vi (m : Int)), some (vl u), none, some (vl d), none, some (vi (s : Int)), some (vl ((rdW c s k) * (10 - c))), none, some (vi 0), some (vi ((k : Int) + 1))]) (st' := []) (M' := M) rfl ?_
              first
                | contradiction
                | (have e1 : (rdP (M 65 (28 + i)) (M 72) s (k + 1)) = (min 11 ((rdP (M 65 (28 + i)) (M 72) s k) + ((M 72 (k : Int)) + 0))) := by first | exact rdP_1 (by assumption) | exact rdP_0 (by assumption)
                   have e2 : (rdW c s (k + 1)) = ((rdW c s k) * (10 - c)) := by first | exact rdW_1 (by assumption) | exact rdW_0 (by assumption)
                   have e3 : (rdI b (M 65 (28 + i)) (M 72) s (k + 1)) = 0 := by first | exact rdI_on (by assumption) | exact rdI_b (by rw [e1]; assumption) | exact rdI_n (by assumption) (by rw [e1]; assumption)
                   have h9 := ih (k + 1) (by omega) (by omega)
                   rw [e1, e2, e3] at h9
                   exact h9)
          · skip
            refine Hx.run 3 (pc' := 305) (L' := [some (vr 64), some (vi i), some (vi w), some (vi c), some (vi b), some (vi (min 11 ((rdP (M 65 (28 + i)) (M 72) s k) + ((M 72 (k : Int)) + 0)))), some (vi (m : Int)), some (vl u), none, some (vl d), none, some (vi (s : Int)), some (vl ((rdW c s k) * (10 - c))), none, some (vi 1), some (vi (k : Int))]) (st' := []) (M' := M) rfl ?_
            refine Hx.inc rfl rfl (by omega) ?_
            refine Hx.run 0 (pc' := 308) (L' := [some (vr 64), some (vi i), some (vi w), some (vi c), some (vi b), some (vi (min 11 ((rdP (M 65 (28 + i)) (M 72) s k) + ((M 72 (k : Int)) + 0)))), some (vi (m : Int)), some (vl u), none, some (vl d), none, some (vi (s : Int)), some (vl ((rdW c s k) * (10 - c))), none, some (vi 1), some (vi ((k : Int) + 1))]) (st' := []) (M' := M) rfl ?_
            refine Hx.run 1 (pc' := 221) (L' := [some (vr 64), some (vi i), some (vi w), some (vi c), some (vi b), some (vi (min 11 ((rdP (M 65 (28 + i)) (M 72) s k) + ((M 72 (k : Int)) + 0)))), some (vi (m : Int)), some (vl u), none, some (vl d), none, some (vi (s : Int)), some (vl ((rdW c s k) * (10 - c))), none, some (vi 1), some (vi ((k : Int) + 1))]) (st' := []) (M' := M) rfl ?_
            first
              | contradiction
              | (have e1 : (rdP (M 65 (28 + i)) (M 72) s (k + 1)) = (min 11 ((rdP (M 65 (28 + i)) (M 72) s k) + ((M 72 (k : Int)) + 0))) := by first | exact rdP_1 (by assumption) | exact rdP_0 (by assumption)
                 have e2 : (rdW c s (k + 1)) = ((rdW c s k) * (10 - c)) := by first | exact rdW_1 (by assumption) | exact rdW_0 (by assumption)
                 have e3 : (rdI b (M 65 (28 + i)) (M 72) s (k + 1)) = 1 := by first | exact rdI_on (by assumption) | exact rdI_b (by rw [e1]; assumption) | exact rdI_n (by assumption) (by rw [e1]; assumption)
                 have h9 := ih (k + 1) (by omega) (by omega)
                 rw [e1, e2, e3] at h9
                 exact h9)
    · skip
      refine Hx.run 0 (pc' := 311) (L' := [some (vr 64), some (vi i), some (vi w), some (vi c), some (vi b), some (vi (rdP (M 65 (28 + i)) (M 72) s k)), some (vi (m : Int)), some (vl u), none, some (vl d), none, some (vi (s : Int)), some (vl (rdW c s k)), none, some (vi (rdI b (M 65 (28 + i)) (M 72) s k)), some (vi (k : Int))]) (st' := []) (M' := M) rfl ?_
      have e : k = m := by omega
      subst e
      exact hk
set_option maxRecDepth 100000 in
set_option maxHeartbeats 4000000 in
theorem rl_darkC (i w c b : Int) (M : Mm) (m : Nat) (hm : m ≤ 6) (hc : 0 ≤ c ∧ c ≤ 10) (hb0 : 0 ≤ b ∧ b < 2048) (hp : 0 ≤ (M 65 (28 + i)) ∧ (M 65 (28 + i)) ≤ 11) (hi : 0 ≤ i ∧ i < 6) (hA : ∀ j : Nat, j < m → 0 ≤ M 72 j ∧ M 72 j ≤ 5) (X : Nat) (hXU : (dW b c (M 72) m 0 (M 65 (28 + i))) = (X : Int)) : ∀ (kk : Nat) (s : Nat) (j5 : Option PV) (j12 : Option PV) (j13 : Option PV) (j14 : Option PV) (j15 : Option PV), s ≤ 2 ^ m → ((2 ^ m : Nat) : Int) - (s : Int) < (kk : Int) → Hx 211 192 [some (vr 64), some (vi i), some (vi w), some (vi c), some (vi b), j5, some (vi (m : Int)), some (vl (sS (fun s => if rdF b (M 65 (28 + i)) (M 72) s m = true then 0 else rdW c s m) s)), none, some (vl (10 ^ m)), none, some (vi (s : Int)), j12, j13, j14, j15] [] M (fun q0 M' => q0 = some (vi 1) ∧ up (up M 64 4 (frA X (10 ^ m))) 64 5 (frB X (10 ^ m)) = M') := by
  intro kk
  induction kk with
  | zero => intro s j5 j12 j13 j14 j15 _ hkk; exact absurd hkk (by omega)
  | succ kk ih =>
    intro s j5 j12 j13 j14 j15 hs hkk
    have ur := rd_rng (b := b) (p := (M 65 (28 + i))) (A := (M 72)) hc hm s
    have ss := sh2 hm
    have wr := rdW_rng hc s m
    have wt := p10 hm
    have i01 := rdI_01 b (M 65 (28 + i)) (M 72) s m
    have pn := p10n hm
    have hX : s = 2 ^ m → (sS (fun s => if rdF b (M 65 (28 + i)) (M 72) s m = true then 0 else rdW c s m) s) = (X : Int) := fun z => by rw [z, rd_end]; exact hXU
    have hX6 := rd_rng (b := b) (p := (M 65 (28 + i))) (A := (M 72)) hc hm (2 ^ m)
    rw [rd_end, hXU] at hX6
    refine Hx.run 4 (pc' := 198) (L' := [some (vr 64), some (vi i), some (vi w), some (vi c), some (vi b), j5, some (vi (m : Int)), some (vl (sS (fun s => if rdF b (M 65 (28 + i)) (M 72) s m = true then 0 else rdW c s m) s)), none, some (vl (10 ^ m)), none, some (vi (s : Int)), j12, j13, j14, j15]) (st' := [vi (i2 fshl 1 (m : Int)), vi (s : Int)]) (M' := M) rfl ?_
    refine Hx.br (c := (s : Int) < (i2 fshl 1 (m : Int))) (t := 201) (f := 333) rfl (fun h1 => ?_) (fun h1 => ?_)
    · skip
      refine Hx.run 8 (pc' := 214) (L' := [some (vr 64), some (vi i), some (vi w), some (vi c), some (vi b), j5, some (vi (m : Int)), some (vl (sS (fun s => if rdF b (M 65 (28 + i)) (M 72) s m = true then 0 else rdW c s m) s)), none, some (vl (10 ^ m)), none, some (vi (s : Int)), some (vl 1), none, some (vi 0), j15]) (st' := [vi i, vi 28, vr 65]) (M' := M) rfl ?_
      refine Hx.add rfl (by omega) ?_
      refine Hx.aldI (n := 1032) rfl rfl (by omega) ?_
      refine Hx.run 3 (pc' := 221) (L' := [some (vr 64), some (vi i), some (vi w), some (vi c), some (vi b), some (vi (M 65 (28 + i))), some (vi (m : Int)), some (vl (sS (fun s => if rdF b (M 65 (28 + i)) (M 72) s m = true then 0 else rdW c s m) s)), none, some (vl (10 ^ m)), none, some (vi (s : Int)), some (vl 1), none, some (vi 0), some (vi 0)]) (st' := []) (M' := M) rfl ?_
      have ss := sh2 hm
      refine rl_darkD i w c b M m hm hc hb0 hp hi hA (sS (fun s => if rdF b (M 65 (28 + i)) (M 72) s m = true then 0 else rdW c s m) s) (10 ^ m) s (by omega) ?_ 10 0 (by omega) (by omega)
      refine Hx.run 2 (pc' := 315) (L' := [some (vr 64), some (vi i), some (vi w), some (vi c), some (vi b), some (vi (rdP (M 65 (28 + i)) (M 72) s m)), some (vi (m : Int)), some (vl (sS (fun s => if rdF b (M 65 (28 + i)) (M 72) s m = true then 0 else rdW c s m) s)), none, some (vl (10 ^ m)), none, some (vi (s : Int)), some (vl (rdW c s m)), none, some (vi (rdI b (M 65 (28 + i)) (M 72) s m)), some (vi (m : Int))]) (st' := [vi (rdI b (M 65 (28 + i)) (M 72) s m), vl (sS (fun s => if rdF b (M 65 (28 + i)) (M 72) s m = true then 0 else rdW c s m) s)]) (M' := M) rfl ?_
      refine Hx.br (c := (rdI b (M 65 (28 + i)) (M 72) s m) = 0) (t := 322) (f := 318) rfl (fun h2 => ?_) (fun h2 => ?_)
      · skip
        refine Hx.run 1 (pc' := 324) (L' := [some (vr 64), some (vi i), some (vi w), some (vi c), some (vi b), some (vi (rdP (M 65 (28 + i)) (M 72) s m)), some (vi (m : Int)), some (vl (sS (fun s => if rdF b (M 65 (28 + i)) (M 72) s m = true then 0 else rdW c s m) s)), none, some (vl (10 ^ m)), none, some (vi (s : Int)), some (vl (rdW c s m)), none, some (vi (rdI b (M 65 (28 + i)) (M 72) s m)), some (vi (m : Int))]) (st' := [vl (rdW c s m), vl (sS (fun s => if rdF b (M 65 (28 + i)) (M 72) s m = true then 0 else rdW c s m) s)]) (M' := M) rfl ?_
        refine Hx.ladd rfl (by omega) ?_
        refine Hx.run 1 (pc' := 327) (L' := [some (vr 64), some (vi i), some (vi w), some (vi c), some (vi b), some (vi (rdP (M 65 (28 + i)) (M 72) s m)), some (vi (m : Int)), some (vl ((sS (fun s => if rdF b (M 65 (28 + i)) (M 72) s m = true then 0 else rdW c s m) s) + (rdW c s m))), none, some (vl (10 ^ m)), none, some (vi (s : Int)), some (vl (rdW c s m)), none, some (vi (rdI b (M 65 (28 + i)) (M 72) s m)), some (vi (m : Int))]) (st' := []) (M' := M) rfl ?_
        refine Hx.inc rfl rfl (by omega) ?_
        refine Hx.run 0 (pc' := 330) (L' := [some (vr 64), some (vi i), some (vi w), some (vi c), some (vi b), some (vi (rdP (M 65 (28 + i)) (M 72) s m)), some (vi (m : Int)), some (vl ((sS (fun s => if rdF b (M 65 (28 + i)) (M 72) s m = true then 0 else rdW c s m) s) + (rdW c s m))), none, some (vl (10 ^ m)), none, some (vi ((s : Int) + 1)), some (vl (rdW c s m)), none, some (vi (rdI b (M 65 (28 + i)) (M 72) s m)), some (vi (m : Int))]) (st' := []) (M' := M) rfl ?_
        refine Hx.run 1 (pc' := 192) (L' := [some (vr 64), some (vi i), some (vi w), some (vi c), some (vi b), some (vi (rdP (M 65 (28 + i)) (M 72) s m)), some (vi (m : Int)), some (vl ((sS (fun s => if rdF b (M 65 (28 + i)) (M 72) s m = true then 0 else rdW c s m) s) + (rdW c s m))), none, some (vl (10 ^ m)), none, some (vi ((s : Int) + 1)), some (vl (rdW c s m)), none, some (vi (rdI b (M 65 (28 + i)) (M 72) s m)), some (vi (m : Int))]) (st' := []) (M' := M) rfl ?_
        have e : (sS (fun s => if rdF b (M 65 (28 + i)) (M 72) s m = true then 0 else rdW c s m) (s + 1)) = ((sS (fun s => if rdF b (M 65 (28 + i)) (M 72) s m = true then 0 else rdW c s m) s) + (rdW c s m)) := by
          rw [sS_succ]
          rcases rdI_01 b (M 65 (28 + i)) (M 72) s m with z | z
          · rw [if_pos z.2] <;> omega
          · rw [if_neg z.2] <;> omega
        have h9 := ih (s + 1) (some (vi (rdP (M 65 (28 + i)) (M 72) s m))) (some (vl (rdW c s m))) none (some (vi (rdI b (M 65 (28 + i)) (M 72) s m))) (some (vi (m : Int))) (by omega) (by omega)
        rw [e] at h9
        exact h9
      · skip
        refine Hx.run 2 (pc' := 324) (L' := [some (vr 64), some (vi i), some (vi w), some (vi c), some (vi b), some (vi (rdP (M 65 (28 + i)) (M 72) s m)), some (vi (m : Int)), some (vl (sS (fun s => if rdF b (M 65 (28 + i)) (M 72) s m = true then 0 else rdW c s m) s)), none, some (vl (10 ^ m)), none, some (vi (s : Int)), some (vl (rdW c s m)), none, some (vi (rdI b (M 65 (28 + i)) (M 72) s m)), some (vi (m : Int))]) (st' := [vl 0, vl (sS (fun s => if rdF b (M 65 (28 + i)) (M 72) s m = true then 0 else rdW c s m) s)]) (M' := M) rfl ?_
        refine Hx.ladd rfl (by omega) ?_
        refine Hx.run 1 (pc' := 327) (L' := [some (vr 64), some (vi i), some (vi w), some (vi c), some (vi b), some (vi (rdP (M 65 (28 + i)) (M 72) s m)), some (vi (m : Int)), some (vl ((sS (fun s => if rdF b (M 65 (28 + i)) (M 72) s m = true then 0 else rdW c s m) s) + 0)), none, some (vl (10 ^ m)), none, some (vi (s : Int)), some (vl (rdW c s m)), none, some (vi (rdI b (M 65 (28 + i)) (M 72) s m)), some (vi (m : Int))]) (st' := []) (M' := M) rfl ?_
        refine Hx.inc rfl rfl (by omega) ?_
        refine Hx.run 0 (pc' := 330) (L' := [some (vr 64), some (vi i), some (vi w), some (vi c), some (vi b), some (vi (rdP (M 65 (28 + i)) (M 72) s m)), some (vi (m : Int)), some (vl ((sS (fun s => if rdF b (M 65 (28 + i)) (M 72) s m = true then 0 else rdW c s m) s) + 0)), none, some (vl (10 ^ m)), none, some (vi ((s : Int) + 1)), some (vl (rdW c s m)), none, some (vi (rdI b (M 65 (28 + i)) (M 72) s m)), some (vi (m : Int))]) (st' := []) (M' := M) rfl ?_
        refine Hx.run 1 (pc' := 192) (L' := [some (vr 64), some (vi i), some (vi w), some (vi c), some (vi b), some (vi (rdP (M 65 (28 + i)) (M 72) s m)), some (vi (m : Int)), some (vl ((sS (fun s => if rdF b (M 65 (28 + i)) (M 72) s m = true then 0 else rdW c s m) s) + 0)), none, some (vl (10 ^ m)), none, some (vi ((s : Int) + 1)), some (vl (rdW c s m)), none, some (vi (rdI b (M 65 (28 + i)) (M 72) s m)), some (vi (m : Int))]) (st' := []) (M' := M) rfl ?_
        have e : (sS (fun s => if rdF b (M 65 (28 + i)) (M 72) s m = true then 0 else rdW c s m) (s + 1)) = ((sS (fun s => if rdF b (M 65 (28 + i)) (M 72) s m = true then 0 else rdW c s m) s) + 0) := by
          rw [sS_succ]
          rcases rdI_01 b (M 65 (28 + i)) (M 72) s m with z | z
          · rw [if_pos z.2] <;> omega
          · rw [if_neg z.2] <;> omega
        have h9 := ih (s + 1) (some (vi (rdP (M 65 (28 + i)) (M 72) s m))) (some (vl (rdW c s m))) none (some (vi (rdI b (M 65 (28 + i)) (M 72) s m))) (some (vi (m : Int))) (by omega) (by omega)
        rw [e] at h9
        exact h9
    · skip
      have hX := hX (by omega)
      refine Hx.run 3 (pc' := 338) (L' := [some (vr 64), some (vi i), some (vi w), some (vi c), some (vi b), j5, some (vi (m : Int)), some (vl (sS (fun s => if rdF b (M 65 (28 + i)) (M 72) s m = true then 0 else rdW c s m) s)), none, some (vl (10 ^ m)), none, some (vi (s : Int)), j12, j13, j14, j15]) (st' := [vl (10 ^ m), vl (sS (fun s => if rdF b (M 65 (28 + i)) (M 72) s m = true then 0 else rdW c s m) s), vr 64]) (M' := M) rfl ?_
      refine Hx.call (t := 210) (as := [vr 64, vl (sS (fun s => if rdF b (M 65 (28 + i)) (M 72) s m = true then 0 else rdW c s m) s), vl (10 ^ m)]) (pc' := 341) (rest := []) rfl ((show Ct 210 [vr 64, vl (sS (fun s => if rdF b (M 65 (28 + i)) (M 72) s m = true then 0 else rdW c s m) s), vl (10 ^ m)] M _ from by rw [hX, show (10 : Int) ^ m = ((10 ^ m : Nat) : Int) from rfl]; exact r_tells X (10 ^ m) M (by omega) (by omega) (by omega))) ?_
      rintro _ _ ⟨rfl, rfl⟩
      refine Hx.run 0 (pc' := 341) (L' := [some (vr 64), some (vi i), some (vi w), some (vi c), some (vi b), j5, some (vi (m : Int)), some (vl (sS (fun s => if rdF b (M 65 (28 + i)) (M 72) s m = true then 0 else rdW c s m) s)), none, some (vl (10 ^ m)), none, some (vi (s : Int)), j12, j13, j14, j15]) (st' := [vi 1]) (M' := (up (up M 64 4 (frA X (10 ^ m))) 64 5 (frB X (10 ^ m)))) rfl ?_
      refine Hx.ret rfl ?_
      exact ⟨rfl, rfl⟩
set_option maxRecDepth 100000 in
theorem rl_darkB (i w c b : Int) (M : Mm) (m : Nat) (hm : m ≤ 6) (hc : 0 ≤ c ∧ c ≤ 10) (hb0 : 0 ≤ b ∧ b < 2048) (hp : 0 ≤ (M 65 (28 + i)) ∧ (M 65 (28 + i)) ≤ 11) (hi : 0 ≤ i ∧ i < 6) (hA : ∀ j : Nat, j < m → 0 ≤ M 72 j ∧ M 72 j ≤ 5) (X : Nat) (hXU : (dW b c (M 72) m 0 (M 65 (28 + i))) = (X : Int)) (j5 : Option PV) : ∀ (kk : Nat) (k : Nat), k ≤ m → 7 - (k : Int) < (kk : Int) → Hx 211 168 [some (vr 64), some (vi i), some (vi w), some (vi c), some (vi b), j5, some (vi (m : Int)), some (vl 0), none, some (vl (10 ^ k)), none, some (vi (k : Int)), none, none, none, none] [] M (fun q0 M' => q0 = some (vi 1) ∧ up (up M 64 4 (frA X (10 ^ m))) 64 5 (frB X (10 ^ m)) = M') := by
  intro kk
  induction kk with
  | zero => intro k _ hkk; exact absurd hkk (by omega)
  | succ kk ih =>
    intro k hkm hkk
    have q1 := p10 (k := k) (by omega)
    refine Hx.run 2 (pc' := 172) (L' := [some (vr 64), some (vi i), some (vi w), some (vi c), some (vi b), j5, some (vi (m : Int)), some (vl 0), none, some (vl (10 ^ k)), none, some (vi (k : Int)), none, none, none, none]) (st' := [vi (m : Int), vi (k : Int)]) (M' := M) rfl ?_
    refine Hx.br (c := (k : Int) < (m : Int)) (t := 175) (f := 189) rfl (fun h1 => ?_) (fun h1 => ?_)
    · skip
      refine Hx.run 2 (pc' := 180) (L' := [some (vr 64), some (vi i), some (vi w), some (vi c), some (vi b), j5, some (vi (m : Int)), some (vl 0), none, some (vl (10 ^ k)), none, some (vi (k : Int)), none, none, none, none]) (st' := [vl 10, vl (10 ^ k)]) (M' := M) rfl ?_
      refine Hx.lmul rfl (by omega) ?_
      refine Hx.run 1 (pc' := 183) (L' := [some (vr 64), some (vi i), some (vi w), some (vi c), some (vi b), j5, some (vi (m : Int)), some (vl 0), none, some (vl ((10 ^ k) * 10)), none, some (vi (k : Int)), none, none, none, none]) (st' := []) (M' := M) rfl ?_
      refine Hx.inc rfl rfl (by omega) ?_
      refine Hx.run 0 (pc' := 186) (L' := [some (vr 64), some (vi i), some (vi w), some (vi c), some (vi b), j5, some (vi (m : Int)), some (vl 0), none, some (vl ((10 ^ k) * 10)), none, some (vi ((k : Int) + 1)), none, none, none, none]) (st' := []) (M' := M) rfl ?_
      refine Hx.run 1 (pc' := 168) (L' := [some (vr 64), some (vi i), some (vi w), some (vi c), some (vi b), j5, some (vi (m : Int)), some (vl 0), none, some (vl ((10 ^ k) * 10)), none, some (vi ((k : Int) + 1)), none, none, none, none]) (st' := []) (M' := M) rfl ?_
      have e : (10 : Int) ^ (k + 1) = 10 ^ k * 10 := Int.pow_succ _ _
      have h9 := ih (k + 1) (by omega) (by omega)
      rw [e] at h9
      exact h9
    · skip
      refine Hx.run 0 (pc' := 189) (L' := [some (vr 64), some (vi i), some (vi w), some (vi c), some (vi b), j5, some (vi (m : Int)), some (vl 0), none, some (vl (10 ^ k)), none, some (vi (k : Int)), none, none, none, none]) (st' := []) (M' := M) rfl ?_
      have e : k = m := by omega
      subst e
      refine Hx.run 2 (pc' := 192) (L' := [some (vr 64), some (vi i), some (vi w), some (vi c), some (vi b), j5, some (vi (k : Int)), some (vl 0), none, some (vl (10 ^ k)), none, some (vi 0), none, none, none, none]) (st' := []) (M' := M) rfl ?_
      exact rl_darkC i w c b M k hm hc hb0 hp hi hA X hXU (2 ^ k + 5) 0 j5 none none none none (Nat.zero_le _) (by have := sh2 hm; omega)
