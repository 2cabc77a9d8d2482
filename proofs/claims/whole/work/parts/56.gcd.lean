/-! fractions: the greatest common divisor, both sides (written by wip/whole/gen56.py) -/
theorem gcd_step (x y : Nat) : Nat.gcd y (x % y) = Nat.gcd x y := by
  rw [Nat.gcd_comm y (x % y), Nat.gcd_comm x y, Nat.gcd_rec y x]
theorem half_step {x y e : Nat} (hy : 0 < y) (hle : y ≤ x) (h : x * y < 2 ^ e) : ∃ d, e = d + 1 ∧ y * (x % y) < 2 ^ d ∧ x % y ≤ y := by
  have hx : 0 < x := by omega
  have hp : 0 < x * y := Nat.mul_pos hx hy
  cases e with
  | zero => rw [Nat.pow_zero] at h; omega
  | succ d =>
    refine ⟨d, rfl, ?_, Nat.le_of_lt (Nat.mod_lt x hy)⟩
    have h1 := Nat.mod_lt x hy
    have h2 : 2 * (x % y) ≤ x := by
      have h3 := Nat.div_add_mod x y
      have h4 : 1 ≤ x / y := (Nat.one_le_div_iff hy).mpr hle
      have h5 : y * 1 ≤ y * (x / y) := Nat.mul_le_mul_left y h4
      omega
    have h6 : y * (2 * (x % y)) ≤ y * x := Nat.mul_le_mul_left y h2
    rw [Nat.pow_succ] at h
    have h7 : y * (2 * (x % y)) = 2 * (y * (x % y)) := by rw [Nat.mul_left_comm]
    have h8 : y * x = x * y := Nat.mul_comm y x
    omega
theorem first_step {x y e : Nat} (hy : 0 < y) (h : x * y < 2 ^ e) : y * (x % y) < 2 ^ e ∧ x % y ≤ y := by
  have h1 := Nat.mod_lt x hy
  have h2 := Nat.mod_le x y
  have h3 : y * (x % y) ≤ y * x := Nat.mul_le_mul_left y h2
  rw [Nat.mul_comm y x] at h3
  omega
set_option maxRecDepth 100000 in
set_option maxHeartbeats 1000000 in
theorem cl_gcd (a b : Int) (M : Mm) : ∀ (kk : Nat) (x : Nat) (y : Nat) (t : Nat) (e : Nat) (j9 : Option PV) (j10 : Option PV), (x * y < 2 ^ e ∧ x < 2 ^ 62 ∧ y < 2 ^ 62 ∧ ((y ≤ x ∧ e + t ≤ 99) ∨ (t = 0 ∧ e ≤ 90))) → 100 - (t : Int) < (kk : Int) → Hx 104 9 [some (vl a), none, some (vl b), none, some (vl (x : Int)), none, some (vl (y : Int)), none, some (vi (t : Int)), j9, j10] [] M (fun q0 M' => q0 = some (vl ((Nat.gcd x y : Nat) : Int)) ∧ M = M') := by
  intro kk
  induction kk with
  | zero => intro x y t e j9 j10 _ hkk; exact absurd hkk (by omega)
  | succ kk ih =>
    intro x y t e j9 j10 hI hkk
    refine Hx.run 2 (pc' := 13) (L' := [some (vl a), none, some (vl b), none, some (vl (x : Int)), none, some (vl (y : Int)), none, some (vi (t : Int)), j9, j10]) (st' := [vi 100, vi (t : Int)]) (M' := M) rfl ?_
    refine Hx.br (c := (t : Int) < 100) (t := 16) (f := 44) rfl (fun h1 => ?_) (fun h1 => ?_)
    · skip
      refine Hx.run 3 (pc' := 20) (L' := [some (vl a), none, some (vl b), none, some (vl (x : Int)), none, some (vl (y : Int)), none, some (vi (t : Int)), j9, j10]) (st' := [vi (lc (y : Int) 0)]) (M' := M) rfl ?_
      refine Hx.br (c := 0 < (lc (y : Int) 0)) (t := 23) (f := 44) rfl (fun h2 => ?_) (fun h2 => ?_)
      · skip
        rw [lc_gt] at h2
        refine Hx.run 2 (pc' := 27) (L' := [some (vl a), none, some (vl b), none, some (vl (x : Int)), none, some (vl (y : Int)), none, some (vi (t : Int)), j9, j10]) (st' := [vl (y : Int), vl (x : Int)]) (M' := M) rfl ?_
        refine Hx.lrem rfl (by omega) ?_
        refine Hx.run 5 (pc' := 38) (L' := [some (vl a), none, some (vl b), none, some (vl (y : Int)), none, some (vl ((x : Int) % (y : Int))), none, some (vi (t : Int)), some (vl ((x : Int) % (y : Int))), none]) (st' := []) (M' := M) rfl ?_
        refine Hx.inc rfl rfl (by omega) ?_
        refine Hx.run 0 (pc' := 41) (L' := [some (vl a), none, some (vl b), none, some (vl (y : Int)), none, some (vl ((x : Int) % (y : Int))), none, some (vi ((t : Int) + 1)), some (vl ((x : Int) % (y : Int))), none]) (st' := []) (M' := M) rfl ?_
        refine Hx.run 1 (pc' := 9) (L' := [some (vl a), none, some (vl b), none, some (vl (y : Int)), none, some (vl ((x : Int) % (y : Int))), none, some (vi ((t : Int) + 1)), some (vl ((x : Int) % (y : Int))), none]) (st' := []) (M' := M) rfl ?_
        have hy : 0 < y := by omega
        have hm := Nat.mod_lt x hy
        have hlt : ((x % y : Nat) : Int) = (x : Int) % (y : Int) := rfl
        have h9 : ∃ e2 : Nat, (y * (x % y) < 2 ^ e2 ∧ y < 2 ^ 62 ∧ x % y < 2 ^ 62 ∧ ((x % y ≤ y ∧ e2 + (t + 1) ≤ 99) ∨ (t + 1 = 0 ∧ e2 ≤ 90))) := by
          rcases hI.2.2.2 with z | z
          · obtain ⟨d, d1, d2, d3⟩ := half_step hy z.1 hI.1
            exact ⟨d, d2, by omega, by omega, Or.inl ⟨d3, by omega⟩⟩
          · obtain ⟨d2, d3⟩ := first_step hy hI.1
            exact ⟨e, d2, by omega, by omega, Or.inl ⟨d3, by omega⟩⟩
        obtain ⟨e2, h9⟩ := h9
        have h10 := ih y (x % y) (t + 1) e2 (some (vl ((x : Int) % (y : Int)))) none h9 (by omega)
        rw [gcd_step] at h10
        exact h10
      · skip
        rw [lc_gt] at h2
        refine Hx.run 1 (pc' := 46) (L' := [some (vl a), none, some (vl b), none, some (vl (x : Int)), none, some (vl (y : Int)), none, some (vi (t : Int)), j9, j10]) (st' := [vl (x : Int)]) (M' := M) rfl ?_
        refine Hx.ret rfl ?_
        first
          | (exfalso; omega)
          | (have e0 : y = 0 := by omega
             subst e0
             exact ⟨by rw [Nat.gcd_zero_right], rfl⟩)
    · skip
      refine Hx.run 1 (pc' := 46) (L' := [some (vl a), none, some (vl b), none, some (vl (x : Int)), none, some (vl (y : Int)), none, some (vi (t : Int)), j9, j10]) (st' := [vl (x : Int)]) (M' := M) rfl ?_
      refine Hx.ret rfl ?_
      first
        | (exfalso; omega)
        | (have e0 : y = 0 := by omega
           subst e0
           exact ⟨by rw [Nat.gcd_zero_right], rfl⟩)
set_option maxRecDepth 100000 in
theorem c_gcd (x y : Nat) (M : Mm) (k1 : x * y < 2 ^ 80) (k2 : x < 2 ^ 62) (k3 : y < 2 ^ 62) : Ct 104 [vl (x : Int), vl (y : Int)] M (fun q0 M' => q0 = some (vl ((Nat.gcd x y : Nat) : Int)) ∧ M = M') := by
  refine Hx.run 6 (pc' := 9) (L' := [some (vl (x : Int)), none, some (vl (y : Int)), none, some (vl (x : Int)), none, some (vl (y : Int)), none, some (vi 0), none, none]) (st' := []) (M' := M) rfl ?_
  exact cl_gcd (x : Int) (y : Int) M 200 x y 0 80 none none ⟨k1, k2, k3, Or.inr ⟨rfl, by omega⟩⟩ (by omega)
set_option maxRecDepth 100000 in
theorem c_setFraction (x y : Nat) (M : Mm) (k1 : x * y < 2 ^ 80) (k2 : x < 2 ^ 62) (k3 : y < 2 ^ 62) (k4 : 0 < y) : Ct 103 [vr 0, vl (x : Int), vl (y : Int)] M (fun q0 M' => q0 = none ∧ up (up M 0 12 ((x : Int) / ((Nat.gcd x y : Nat) : Int))) 0 13 ((y : Int) / ((Nat.gcd x y : Nat) : Int)) = M') := by
  have g1 := Nat.gcd_pos_of_pos_right x k4
  have g2 := Nat.gcd_le_right x k4
  refine Hx.run 2 (pc' := 2) (L' := [some (vr 0), some (vl (x : Int)), none, some (vl (y : Int)), none, none, none]) (st' := [vl (y : Int), vl (x : Int)]) (M' := M) rfl ?_
  refine Hx.call (t := 104) (as := [vl (x : Int), vl (y : Int)]) (pc' := 5) (rest := []) rfl (c_gcd x y M k1 k2 k3) ?_
  rintro _ _ ⟨rfl, rfl⟩
  refine Hx.run 0 (pc' := 5) (L' := [some (vr 0), some (vl (x : Int)), none, some (vl (y : Int)), none, none, none]) (st' := [vl ((Nat.gcd x y : Nat) : Int)]) (M' := M) rfl ?_
  refine Hx.run 4 (pc' := 11) (L' := [some (vr 0), some (vl (x : Int)), none, some (vl (y : Int)), none, some (vl ((Nat.gcd x y : Nat) : Int)), none]) (st' := [vi (lc ((Nat.gcd x y : Nat) : Int) 1)]) (M' := M) rfl ?_
  refine Hx.br (c := (lc ((Nat.gcd x y : Nat) : Int) 1) < 0) (t := 14) (f := 15) rfl (fun h1 => ?_) (fun h1 => ?_)
  · skip
    rw [lc_lt] at h1
    refine Hx.ret rfl ?_
    first | (exfalso; omega) | exact ⟨rfl, rfl⟩
  · skip
    rw [lc_lt] at h1
    refine Hx.run 3 (pc' := 19) (L' := [some (vr 0), some (vl (x : Int)), none, some (vl (y : Int)), none, some (vl ((Nat.gcd x y : Nat) : Int)), none]) (st' := [vl ((Nat.gcd x y : Nat) : Int), vl (x : Int), vr 0]) (M' := M) rfl ?_
    refine Hx.ldiv rfl (by omega) ?_
    refine Hx.run 4 (pc' := 27) (L' := [some (vr 0), some (vl (x : Int)), none, some (vl (y : Int)), none, some (vl ((Nat.gcd x y : Nat) : Int)), none]) (st' := [vl ((Nat.gcd x y : Nat) : Int), vl (y : Int), vr 0]) (M' := (up M 0 12 ((x : Int) / ((Nat.gcd x y : Nat) : Int)))) rfl ?_
    refine Hx.ldiv rfl (by omega) ?_
    refine Hx.run 1 (pc' := 31) (L' := [some (vr 0), some (vl (x : Int)), none, some (vl (y : Int)), none, some (vl ((Nat.gcd x y : Nat) : Int)), none]) (st' := []) (M' := (up (up M 0 12 ((x : Int) / ((Nat.gcd x y : Nat) : Int))) 0 13 ((y : Int) / ((Nat.gcd x y : Nat) : Int)))) rfl ?_
    refine Hx.ret rfl ?_
    first | (exfalso; omega) | exact ⟨rfl, rfl⟩
set_option maxRecDepth 100000 in
theorem rl_tells (a b : Int) (M : Mm) (g : Nat) {P : Option PV → Mm → Prop} (hk : ∀ (j9 j10 : Option PV), Hx 210 31 [some (vr 64), some (vl a), none, some (vl b), none, some (vl ((g : Nat) : Int)), none, some (vl 0), none, j9, j10] [] M P) : ∀ (kk : Nat) (x : Nat) (y : Nat) (j9 : Option PV) (j10 : Option PV), x < 2 ^ 62 ∧ y < 2 ^ 62 → Nat.gcd x y = g → (y : Int) < (kk : Int) → Hx 210 6 [some (vr 64), some (vl a), none, some (vl b), none, some (vl (x : Int)), none, some (vl (y : Int)), none, j9, j10] [] M P := by
  intro kk
  induction kk with
  | zero => intro x y j9 j10 _ _ hkk; exact absurd hkk (by omega)
  | succ kk ih =>
    intro x y j9 j10 hb hg hkk
    refine Hx.run 3 (pc' := 10) (L' := [some (vr 64), some (vl a), none, some (vl b), none, some (vl (x : Int)), none, some (vl (y : Int)), none, j9, j10]) (st' := [vi (lc (y : Int) 0)]) (M' := M) rfl ?_
    refine Hx.br (c := (lc (y : Int) 0) = 0) (t := 31) (f := 13) rfl (fun h1 => ?_) (fun h1 => ?_)
    · skip
      rw [lc_eq] at h1
      refine Hx.run 0 (pc' := 31) (L' := [some (vr 64), some (vl a), none, some (vl b), none, some (vl (x : Int)), none, some (vl (y : Int)), none, j9, j10]) (st' := []) (M' := M) rfl ?_
      have e0 : y = 0 := by omega
      subst e0
      rw [Nat.gcd_zero_right] at hg
      subst hg
      exact hk j9 j10
    · skip
      rw [lc_eq] at h1
      refine Hx.run 2 (pc' := 17) (L' := [some (vr 64), some (vl a), none, some (vl b), none, some (vl (x : Int)), none, some (vl (y : Int)), none, j9, j10]) (st' := [vl (y : Int), vl (x : Int)]) (M' := M) rfl ?_
      refine Hx.lrem rfl (by omega) ?_
      refine Hx.run 6 (pc' := 6) (L' := [some (vr 64), some (vl a), none, some (vl b), none, some (vl (y : Int)), none, some (vl ((x : Int) % (y : Int))), none, some (vl ((x : Int) % (y : Int))), none]) (st' := []) (M' := M) rfl ?_
      have hy : 0 < y := by omega
      have hm := Nat.mod_lt x hy
      exact ih y (x % y) (some (vl ((x : Int) % (y : Int)))) none (by omega) (by rw [gcd_step]; exact hg) (by omega)
set_option maxRecDepth 100000 in
theorem r_tells (x y : Nat) (M : Mm) (k2 : x < 2 ^ 62) (k3 : y < 2 ^ 62) (k4 : 0 < y) : Ct 210 [vr 64, vl (x : Int), vl (y : Int)] M (fun q0 M' => q0 = some (vi 1) ∧ up (up M 64 4 ((x : Int) / ((Nat.gcd x y : Nat) : Int))) 64 5 ((y : Int) / ((Nat.gcd x y : Nat) : Int)) = M') := by
  have g1 := Nat.gcd_pos_of_pos_right x k4
  have g2 := Nat.gcd_le_right x k4
  refine Hx.run 4 (pc' := 6) (L' := [some (vr 64), some (vl (x : Int)), none, some (vl (y : Int)), none, some (vl (x : Int)), none, some (vl (y : Int)), none, none, none]) (st' := []) (M' := M) rfl ?_
  refine rl_tells (x : Int) (y : Int) M (Nat.gcd x y) (fun j9 j10 => ?_) (y + 1) x y none none ⟨k2, k3⟩ rfl (by omega)
  refine Hx.run 3 (pc' := 35) (L' := [some (vr 64), some (vl (x : Int)), none, some (vl (y : Int)), none, some (vl ((Nat.gcd x y : Nat) : Int)), none, some (vl 0), none, j9, j10]) (st' := [vl ((Nat.gcd x y : Nat) : Int), vl (x : Int), vr 64]) (M' := M) rfl ?_
  refine Hx.ldiv rfl (by omega) ?_
  refine Hx.run 4 (pc' := 43) (L' := [some (vr 64), some (vl (x : Int)), none, some (vl (y : Int)), none, some (vl ((Nat.gcd x y : Nat) : Int)), none, some (vl 0), none, j9, j10]) (st' := [vl ((Nat.gcd x y : Nat) : Int), vl (y : Int), vr 64]) (M' := (up M 64 4 ((x : Int) / ((Nat.gcd x y : Nat) : Int)))) rfl ?_
  refine Hx.ldiv rfl (by omega) ?_
  refine Hx.run 2 (pc' := 48) (L' := [some (vr 64), some (vl (x : Int)), none, some (vl (y : Int)), none, some (vl ((Nat.gcd x y : Nat) : Int)), none, some (vl 0), none, j9, j10]) (st' := [vi 1]) (M' := (up (up M 64 4 ((x : Int) / ((Nat.gcd x y : Nat) : Int))) 64 5 ((y : Int) / ((Nat.gcd x y : Nat) : Int)))) rfl ?_
  refine Hx.ret rfl ?_
  exact ⟨rfl, rfl⟩
