/-! the way of places, as the reference lays it: a row of n + 1 places (written by wip/whole/gen45.py) -/
def WP (far b p : Int) (A : Int → Int) (n : Nat) : Prop := A 0 = p ∧ ∀ m : Nat, m < n → (A m = 11 ∧ A ((m : Int) + 1) = 11) ∨ (A m ≤ 10 ∧ ∃ k, IsF far b (A m) k ∧ A ((m : Int) + 1) = A m + k)
theorem WP_one {far b p : Int} {f : Nat → Int} {A : Int → Int} {n : Nat} (h1 : IsW far b p f) (h2 : WP far b p A n) : ∀ m : Nat, m ≤ n → f m = A m
  | 0, _ => by rw [h1.1]; exact h2.1.symm
  | m + 1, hm => by
    have e := WP_one h1 h2 m (by omega)
    have hc : A ((m + 1 : Nat) : Int) = A ((m : Int) + 1) := rfl
    rw [hc]
    rcases h1.2 m with ⟨a1, a2⟩ | ⟨a1, k, a2, a3⟩
    · rcases h2.2 m (by omega) with ⟨c1, c2⟩ | ⟨c1, k2, c2, c3⟩
      · omega
      · omega
    · rcases h2.2 m (by omega) with ⟨c1, c2⟩ | ⟨c1, k2, c2, c3⟩
      · omega
      · rw [← e] at c2
        have := IsF_one a2 c2
        omega
theorem WP_rng {far b p : Int} {A : Int → Int} {n : Nat} (hp : 0 ≤ p ∧ p ≤ 11) (h : WP far b p A n) : ∀ m : Nat, m ≤ n → 0 ≤ A m ∧ A m ≤ 11
  | 0, _ => by show 0 ≤ A 0 ∧ A 0 ≤ 11; rw [h.1]; exact hp
  | m + 1, hm => by
    have e := WP_rng hp h m (by omega)
    show 0 ≤ A ((m : Int) + 1) ∧ A ((m : Int) + 1) ≤ 11
    rcases h.2 m (by omega) with ⟨a1, a2⟩ | ⟨a1, k, a2, a3⟩
    · omega
    · have h3 := a2.1
      have h4 := a2.2.2.1
      omega
theorem WP_st1 {far b p : Int} {A : Int → Int} {n : Nat} {v : Int} (h : WP far b p A n) (hv : (A n = 11 ∧ v = 11) ∨ (A n ≤ 10 ∧ ∃ k, IsF far b (A n) k ∧ v = A n + k)) : WP far b p (st1 A ((n : Int) + 1) v) (n + 1) := by
  refine ⟨by rw [st1_ne (by omega)]; exact h.1, fun m hm => ?_⟩
  by_cases e : m = n
  · subst e
    rw [st1_at, st1_ne (by omega)]
    exact hv
  · rw [st1_ne (by omega), st1_ne (by omega)]
    exact h.2 m (by omega)

