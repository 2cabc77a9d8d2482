/-! the way of places (written by wip/whole/gen43.py) -/
/-- f n is the place after n strides of the first row from p; it rests at 11 -/
def IsW (far b p : Int) (f : Nat → Int) : Prop := f 0 = p ∧ ∀ n, (f n = 11 ∧ f (n + 1) = 11) ∨ (f n ≤ 10 ∧ ∃ k, IsF far b (f n) k ∧ f (n + 1) = f n + k)
theorem IsW_one {far b p : Int} {f g : Nat → Int} (h1 : IsW far b p f) (h2 : IsW far b p g) : ∀ n, f n = g n
  | 0 => by rw [h1.1, h2.1]
  | n + 1 => by
    have e := IsW_one h1 h2 n
    rcases h1.2 n with ⟨a1, a2⟩ | ⟨a1, k, a2, a3⟩
    · rcases h2.2 n with ⟨c1, c2⟩ | ⟨c1, k2, c2, c3⟩
      · omega
      · omega
    · rcases h2.2 n with ⟨c1, c2⟩ | ⟨c1, k2, c2, c3⟩
      · omega
      · rw [← e] at c2
        have := IsF_one a2 c2
        omega
theorem IsW_rng {far b p : Int} {f : Nat → Int} (hp : 0 ≤ p ∧ p ≤ 11) (h : IsW far b p f) : ∀ n, 0 ≤ f n ∧ f n ≤ 11
  | 0 => by rw [h.1]; exact hp
  | n + 1 => by
    have e := IsW_rng hp h n
    rcases h.2 n with ⟨a1, a2⟩ | ⟨a1, k, a2, a3⟩
    · omega
    · have h3 := a2.1
      have h4 := a2.2.2.1
      omega
theorem plc_le {p : Int} {A : Int → Int} {T : Int} : ∀ n : Nat, (n : Int) ≤ T → plc p A T n = p + psum A n
  | 0, _ => by show p = p + 0; omega
  | n + 1, h => by rw [plc_succ, psum_succ, plc_le n (by omega), if_pos (by omega)]; omega
theorem plc_ge {p : Int} {A : Int → Int} {t : Nat} : ∀ n : Nat, t ≤ n → plc p A (t : Int) n = p + psum A t
  | 0, h => by rw [show t = 0 by omega]; show p = p + 0; omega
  | n + 1, h => by
    by_cases e : t = n + 1
    · rw [← e]; exact plc_le t (by omega)
    · rw [plc_succ, plc_ge n (by omega), if_neg (by omega)]; omega
theorem plc_IsW {far b p : Int} {A : Int → Int} (hp : 0 ≤ p ∧ p ≤ 11) (hT : TV far b p < 1000000) (hR : RowP far b p A (TV far b p).toNat) : IsW far b p (plc p A (dc (TV far b p))) := by
  have hr := TV_rng (far := far) (b := b) (x := p) hp.1 hp.2
  have hd : dc (TV far b p) = ((TV far b p).toNat : Int) := by
    have := dc_cases (TV far b p)
    omega
  rw [hd]
  refine ⟨rfl, fun n => ?_⟩
  by_cases hn : n < (TV far b p).toNat
  · right
    have h1 := RowP_pos hp n (fun m hm => hR m (by omega))
    have h2 := hR n hn
    rw [plc_succ, plc_le n (by omega), if_pos (by omega)]
    refine ⟨?_, A n, h2, rfl⟩
    have h3 := h2.1
    have h4 := h2.2.2.1
    omega
  · left
    have h1 := RowP_pos hp _ hR
    have e : p + psum A (TV far b p).toNat = 11 := by
      rcases Int.lt_or_le 10 (p + psum A (TV far b p).toNat) with q | q
      · omega
      · have := TV_pos (far := far) (b := b) (s := p + psum A (TV far b p).toNat) (by omega)
        omega
    rw [plc_ge n (by omega), plc_ge (n + 1) (by omega)]
    exact ⟨e, e⟩

