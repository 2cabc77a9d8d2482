/-! the fewest strides: the reference's table (written by wip/whole/gen29.py) -/
/-- row r is A -/
def sr (M : Mm) (r : Nat) (A : Int → Int) : Mm := fun a => if a = r then A else M a
def st1 (A : Int → Int) (s v : Int) : Int → Int := fun x => if x = s then v else A x
theorem sr_at {M : Mm} {r : Nat} {A : Int → Int} : sr M r A r = A := if_pos rfl
theorem sr_ne {M : Mm} {r a : Nat} {A : Int → Int} (h : a ≠ r) : sr M r A a = M a := if_neg h
theorem sr_up {M : Mm} {r : Nat} {A : Int → Int} {s v : Int} : up (sr M r A) r s v = sr M r (st1 A s v) := by
  funext a b
  simp only [up, sr, st1]
  by_cases ha : a = r
  · subst ha
    by_cases hb : b = s
    · simp [hb, st1]
    · simp [hb, st1]
  · simp [ha]
theorem sr_self {M : Mm} {r : Nat} : sr M r (M r) = M := by
  funext a
  simp only [sr]
  split
  · rename_i h; rw [h]
  · rfl
theorem st1_at {A : Int → Int} {s v : Int} : st1 A s v s = v := if_pos rfl
theorem st1_ne {A : Int → Int} {s v x : Int} (h : x ≠ s) : st1 A s v x = A x := if_neg h
theorem st1_st1 {A : Int → Int} {s v w : Int} : st1 (st1 A s v) s w = st1 A s w := by
  funext x; simp only [st1]; split <;> rfl
/-- the number at s behind j looks: A has the numbers above s -/
def lin (A : Int → Int) (b s : Int) : Nat → Int
  | 0 => 1000000
  | j + 1 => if ¬ b / 2 ^ (min 11 (s + (j + 1))).toNat % 2 = 1 ∧ A (min 11 (s + (j + 1))) + 1 < lin A b s j then A (min 11 (s + (j + 1))) + 1 else lin A b s j
theorem lin_succ (A : Int → Int) (b s : Int) (j : Nat) : lin A b s (j + 1) = if ¬ b / 2 ^ (min 11 (s + ((j : Int) + 1))).toNat % 2 = 1 ∧ A (min 11 (s + ((j : Int) + 1))) + 1 < lin A b s j then A (min 11 (s + ((j : Int) + 1))) + 1 else lin A b s j := rfl
theorem lin_rng {A : Int → Int} {b s : Int} (hs : 0 ≤ s ∧ s ≤ 10) (hA : ∀ x, s < x → x ≤ 11 → 0 ≤ A x ∧ A x ≤ 1000000) : ∀ j, 1 ≤ lin A b s j ∧ lin A b s j ≤ 1000000
  | 0 => by show (1 : Int) ≤ 1000000 ∧ (1000000 : Int) ≤ 1000000; decide
  | j + 1 => by
    have h := lin_rng hs hA (b := b) j
    have h2 := hA (min 11 (s + ((j : Int) + 1))) (by omega) (by omega)
    rw [lin_succ]
    split <;> omega
/-- the table behind n steps from the top down -/
def tbl (far : Nat) (b : Int) (A0 : Int → Int) : Nat → Int → Int
  | 0 => st1 A0 11 0
  | n + 1 => st1 (tbl far b A0 n) (10 - n) (lin (tbl far b A0 n) b (10 - n) far)
theorem tbl_succ (far : Nat) (b : Int) (A0 : Int → Int) (n : Nat) : tbl far b A0 (n + 1) = st1 (tbl far b A0 n) (10 - n) (lin (tbl far b A0 n) b (10 - n) far) := rfl
theorem tbl_rng (far : Nat) (b : Int) (A0 : Int → Int) : ∀ n : Nat, n ≤ 11 → ∀ x : Int, 10 - n < x → x ≤ 11 → 0 ≤ tbl far b A0 n x ∧ tbl far b A0 n x ≤ 1000000
  | 0, _, x, h1, h2 => by
    have e : x = 11 := by omega
    subst e
    show 0 ≤ st1 A0 11 0 11 ∧ _
    rw [show tbl far b A0 0 11 = 0 from st1_at]
    rw [st1_at]; decide
  | n + 1, hn, x, h1, h2 => by
    have ih := tbl_rng far b A0 n (by omega)
    rw [tbl_succ]
    by_cases hx : x = 10 - n
    · subst hx
      rw [st1_at]
      have := lin_rng (A := tbl far b A0 n) (b := b) (s := 10 - n) (by omega) ih far
      omega
    · rw [st1_ne hx]
      exact ih x (by omega) h2
set_option maxRecDepth 100000 in
theorem rl_lays1 (far b s : Int) (A : Int → Int) (M : Mm) (hfar : 1 ≤ far ∧ far ≤ 5) (hb0 : 0 ≤ b ∧ b < 2048) (hs : 0 ≤ s ∧ s ≤ 10) (hA : ∀ x, s < x → x ≤ 11 → 0 ≤ A x ∧ A x ≤ 1000000) {P : Option PV → Mm → Prop} (hk : ∀ (j : Nat), (j : Int) = far → ∀ jt : Option PV, Hx 182 109 [some (vr 64), some (vi far), some (vi b), some (vi s), some (vi ((j : Int) + 1)), jt] [] (sr M 69 (st1 A s (lin A b s j))) P) : ∀ (kk : Nat) (j : Nat) (jt : Option PV), (j : Int) ≤ far → far - j < (kk : Int) → Hx 182 26 [some (vr 64), some (vi far), some (vi b), some (vi s), some (vi ((j : Int) + 1)), jt] [] (sr M 69 (st1 A s (lin A b s j))) P := by
  intro kk
  induction kk with
  | zero => intro j jt _ hkk; exact absurd hkk (by omega)
  | succ kk ih =>
    intro j jt hj hkk
    have hl := lin_rng hs hA (b := b) j
    have a11 : (sr M 69 (st1 A s (lin A b s j))) 69 11 = A 11 := by rw [sr_at, st1_ne (by omega)]
    have as : (sr M 69 (st1 A s (lin A b s j))) 69 s = lin A b s j := by rw [sr_at, st1_at]
    have ato : s + ((j : Int) + 1) ≤ 11 → (sr M 69 (st1 A s (lin A b s j))) 69 (s + ((j : Int) + 1)) = A (s + ((j : Int) + 1)) := fun _ => by rw [sr_at, st1_ne (by omega)]
    have r11 := hA 11 (by omega) (by omega)
    have rto : s + ((j : Int) + 1) ≤ 11 → 0 ≤ A (s + ((j : Int) + 1)) ∧ A (s + ((j : Int) + 1)) ≤ 1000000 := fun h => hA _ (by omega) h
    refine Hx.run 2 (pc' := 29) (L' := [some (vr 64), some (vi far), some (vi b), some (vi s), some (vi ((j : Int) + 1)), jt]) (st' := [vi far, vi ((j : Int) + 1)]) (M' := (sr M 69 (st1 A s (lin A b s j)))) rfl ?_
    refine Hx.br (c := far < ((j : Int) + 1)) (t := 109) (f := 32) rfl (fun h1 => ?_) (fun h1 => ?_)
    · skip
      refine Hx.run 0 (pc' := 109) (L' := [some (vr 64), some (vi far), some (vi b), some (vi s), some (vi ((j : Int) + 1)), jt]) (st' := []) (M' := (sr M 69 (st1 A s (lin A b s j)))) rfl ?_
      exact hk _ (by omega) _
    · skip
      refine Hx.run 2 (pc' := 35) (L' := [some (vr 64), some (vi far), some (vi b), some (vi s), some (vi ((j : Int) + 1)), jt]) (st' := [vi ((j : Int) + 1), vi s]) (M' := (sr M 69 (st1 A s (lin A b s j)))) rfl ?_
      refine Hx.add rfl (by omega) ?_
      refine Hx.run 1 (pc' := 38) (L' := [some (vr 64), some (vi far), some (vi b), some (vi s), some (vi ((j : Int) + 1)), jt]) (st' := [vi 11, vi (s + ((j : Int) + 1))]) (M' := (sr M 69 (st1 A s (lin A b s j)))) rfl ?_
      refine Hx.br (c := 11 < (s + ((j : Int) + 1))) (t := 41) (f := 46) rfl (fun h2 => ?_) (fun h2 => ?_)
      · skip
        refine Hx.run 8 (pc' := 60) (L' := [some (vr 64), some (vi far), some (vi b), some (vi s), some (vi ((j : Int) + 1)), some (vi 11)]) (st' := [vi 11, vi b, vi s, vr 69]) (M' := (sr M 69 (st1 A s (lin A b s j)))) rfl ?_
        refine Hx.call (t := 131) (as := [vi b, vi 11]) (pc' := 63) (rest := [vi s, vr 69]) rfl (r_has b 11 (sr M 69 (st1 A s (lin A b s j))) (by omega) (by omega)) ?_
        rintro _ _ (⟨q82, rfl, rfl⟩ | ⟨q82, rfl, rfl⟩)
        · skip
          refine Hx.run 4 (pc' := 101) (L' := [some (vr 64), some (vi far), some (vi b), some (vi s), some (vi ((j : Int) + 1)), some (vi 11)]) (st' := [vi s, vr 69, vi s, vr 69]) (M' := (sr M 69 (st1 A s (lin A b s j)))) rfl ?_
          refine Hx.aldI (n := 12) rfl rfl (by omega) ?_
          refine Hx.astI (n := 12) rfl rfl (by omega) ?_
          refine Hx.inc rfl rfl (by omega) ?_
          refine Hx.run 0 (pc' := 106) (L' := [some (vr 64), some (vi far), some (vi b), some (vi s), some (vi (((j : Int) + 1) + 1)), some (vi 11)]) (st' := []) (M' := (up (sr M 69 (st1 A s (lin A b s j))) 69 s ((sr M 69 (st1 A s (lin A b s j))) 69 s))) rfl ?_
          refine Hx.run 1 (pc' := 26) (L' := [some (vr 64), some (vi far), some (vi b), some (vi s), some (vi (((j : Int) + 1) + 1)), some (vi 11)]) (st' := []) (M' := (up (sr M 69 (st1 A s (lin A b s j))) 69 s ((sr M 69 (st1 A s (lin A b s j))) 69 s))) rfl ?_
          have e : lin A b s (j + 1) = ((sr M 69 (st1 A s (lin A b s j))) 69 s) := by
            rw [lin_succ, show min 11 (s + ((j : Int) + 1)) = 11 by omega]
            simp only [sr_at] at *
            rw [st1_at] at *
            first | (rw [if_pos (by rw [st1_ne (by omega)] at *; exact ⟨by assumption, by omega⟩)]; rw [st1_ne (by omega)]) | (rw [if_neg (by rw [st1_ne (by omega)] at *; omega)]) | (rw [if_neg (fun q => q.1 (by assumption))])
          have h9 := ih (j + 1) (some (vi 11)) (by omega) (by omega)
          rw [e] at h9
          rw [sr_up, st1_st1]
          exact h9
        · skip
          refine Hx.run 6 (pc' := 74) (L' := [some (vr 64), some (vi far), some (vi b), some (vi s), some (vi ((j : Int) + 1)), some (vi 11)]) (st' := [vi 1, vi ((sr M 69 (st1 A s (lin A b s j))) 69 11), vi s, vr 69]) (M' := (sr M 69 (st1 A s (lin A b s j)))) rfl ?_
          refine Hx.add rfl (by omega) ?_
          refine Hx.run 3 (pc' := 80) (L' := [some (vr 64), some (vi far), some (vi b), some (vi s), some (vi ((j : Int) + 1)), some (vi 11)]) (st' := [vi s, vr 69, vi (((sr M 69 (st1 A s (lin A b s j))) 69 11) + 1), vi s, vr 69]) (M' := (sr M 69 (st1 A s (lin A b s j)))) rfl ?_
          refine Hx.aldI (n := 12) rfl rfl (by omega) ?_
          refine Hx.br (c := (((sr M 69 (st1 A s (lin A b s j))) 69 11) + 1) < ((sr M 69 (st1 A s (lin A b s j))) 69 s)) (t := 84) (f := 96) rfl (fun h3 => ?_) (fun h3 => ?_)
          · skip
            refine Hx.run 5 (pc' := 92) (L' := [some (vr 64), some (vi far), some (vi b), some (vi s), some (vi ((j : Int) + 1)), some (vi 11)]) (st' := [vi 1, vi ((sr M 69 (st1 A s (lin A b s j))) 69 11), vi s, vr 69]) (M' := (sr M 69 (st1 A s (lin A b s j)))) rfl ?_
            refine Hx.add rfl (by omega) ?_
            refine Hx.run 1 (pc' := 102) (L' := [some (vr 64), some (vi far), some (vi b), some (vi s), some (vi ((j : Int) + 1)), some (vi 11)]) (st' := [vi (((sr M 69 (st1 A s (lin A b s j))) 69 11) + 1), vi s, vr 69]) (M' := (sr M 69 (st1 A s (lin A b s j)))) rfl ?_
            refine Hx.astI (n := 12) rfl rfl (by omega) ?_
            refine Hx.inc rfl rfl (by omega) ?_
            refine Hx.run 0 (pc' := 106) (L' := [some (vr 64), some (vi far), some (vi b), some (vi s), some (vi (((j : Int) + 1) + 1)), some (vi 11)]) (st' := []) (M' := (up (sr M 69 (st1 A s (lin A b s j))) 69 s (((sr M 69 (st1 A s (lin A b s j))) 69 11) + 1))) rfl ?_
            refine Hx.run 1 (pc' := 26) (L' := [some (vr 64), some (vi far), some (vi b), some (vi s), some (vi (((j : Int) + 1) + 1)), some (vi 11)]) (st' := []) (M' := (up (sr M 69 (st1 A s (lin A b s j))) 69 s (((sr M 69 (st1 A s (lin A b s j))) 69 11) + 1))) rfl ?_
            have e : lin A b s (j + 1) = (((sr M 69 (st1 A s (lin A b s j))) 69 11) + 1) := by
              rw [lin_succ, show min 11 (s + ((j : Int) + 1)) = 11 by omega]
              simp only [sr_at] at *
              rw [st1_at] at *
              first | (rw [if_pos (by rw [st1_ne (by omega)] at *; exact ⟨by assumption, by omega⟩)]; rw [st1_ne (by omega)]) | (rw [if_neg (by rw [st1_ne (by omega)] at *; omega)]) | (rw [if_neg (fun q => q.1 (by assumption))])
            have h9 := ih (j + 1) (some (vi 11)) (by omega) (by omega)
            rw [e] at h9
            rw [sr_up, st1_st1]
            exact h9
          · skip
            refine Hx.run 3 (pc' := 101) (L' := [some (vr 64), some (vi far), some (vi b), some (vi s), some (vi ((j : Int) + 1)), some (vi 11)]) (st' := [vi s, vr 69, vi s, vr 69]) (M' := (sr M 69 (st1 A s (lin A b s j)))) rfl ?_
            refine Hx.aldI (n := 12) rfl rfl (by omega) ?_
            refine Hx.astI (n := 12) rfl rfl (by omega) ?_
            refine Hx.inc rfl rfl (by omega) ?_
            refine Hx.run 0 (pc' := 106) (L' := [some (vr 64), some (vi far), some (vi b), some (vi s), some (vi (((j : Int) + 1) + 1)), some (vi 11)]) (st' := []) (M' := (up (sr M 69 (st1 A s (lin A b s j))) 69 s ((sr M 69 (st1 A s (lin A b s j))) 69 s))) rfl ?_
            refine Hx.run 1 (pc' := 26) (L' := [some (vr 64), some (vi far), some (vi b), some (vi s), some (vi (((j : Int) + 1) + 1)), some (vi 11)]) (st' := []) (M' := (up (sr M 69 (st1 A s (lin A b s j))) 69 s ((sr M 69 (st1 A s (lin A b s j))) 69 s))) rfl ?_
            have e : lin A b s (j + 1) = ((sr M 69 (st1 A s (lin A b s j))) 69 s) := by
              rw [lin_succ, show min 11 (s + ((j : Int) + 1)) = 11 by omega]
              simp only [sr_at] at *
              rw [st1_at] at *
              first | (rw [if_pos (by rw [st1_ne (by omega)] at *; exact ⟨by assumption, by omega⟩)]; rw [st1_ne (by omega)]) | (rw [if_neg (by rw [st1_ne (by omega)] at *; omega)]) | (rw [if_neg (fun q => q.1 (by assumption))])
            have h9 := ih (j + 1) (some (vi 11)) (by omega) (by omega)
            rw [e] at h9
            rw [sr_up, st1_st1]
            exact h9
      · skip
        refine Hx.run 2 (pc' := 49) (L' := [some (vr 64), some (vi far), some (vi b), some (vi s), some (vi ((j : Int) + 1)), jt]) (st' := [vi ((j : Int) + 1), vi s]) (M' := (sr M 69 (st1 A s (lin A b s j)))) rfl ?_
        refine Hx.add rfl (by omega) ?_
        refine Hx.run 6 (pc' := 60) (L' := [some (vr 64), some (vi far), some (vi b), some (vi s), some (vi ((j : Int) + 1)), some (vi (s + ((j : Int) + 1)))]) (st' := [vi (s + ((j : Int) + 1)), vi b, vi s, vr 69]) (M' := (sr M 69 (st1 A s (lin A b s j)))) rfl ?_
        refine Hx.call (t := 131) (as := [vi b, vi (s + ((j : Int) + 1))]) (pc' := 63) (rest := [vi s, vr 69]) rfl (r_has b (s + ((j : Int) + 1)) (sr M 69 (st1 A s (lin A b s j))) (by omega) (by omega)) ?_
        rintro _ _ (⟨q83, rfl, rfl⟩ | ⟨q83, rfl, rfl⟩)
        · skip
          refine Hx.run 4 (pc' := 101) (L' := [some (vr 64), some (vi far), some (vi b), some (vi s), some (vi ((j : Int) + 1)), some (vi (s + ((j : Int) + 1)))]) (st' := [vi s, vr 69, vi s, vr 69]) (M' := (sr M 69 (st1 A s (lin A b s j)))) rfl ?_
          refine Hx.aldI (n := 12) rfl rfl (by omega) ?_
          refine Hx.astI (n := 12) rfl rfl (by omega) ?_
          refine Hx.inc rfl rfl (by omega) ?_
          refine Hx.run 0 (pc' := 106) (L' := [some (vr 64), some (vi far), some (vi b), some (vi s), some (vi (((j : Int) + 1) + 1)), some (vi (s + ((j : Int) + 1)))]) (st' := []) (M' := (up (sr M 69 (st1 A s (lin A b s j))) 69 s ((sr M 69 (st1 A s (lin A b s j))) 69 s))) rfl ?_
          refine Hx.run 1 (pc' := 26) (L' := [some (vr 64), some (vi far), some (vi b), some (vi s), some (vi (((j : Int) + 1) + 1)), some (vi (s + ((j : Int) + 1)))]) (st' := []) (M' := (up (sr M 69 (st1 A s (lin A b s j))) 69 s ((sr M 69 (st1 A s (lin A b s j))) 69 s))) rfl ?_
          have e : lin A b s (j + 1) = ((sr M 69 (st1 A s (lin A b s j))) 69 s) := by
            rw [lin_succ, show min 11 (s + ((j : Int) + 1)) = (s + ((j : Int) + 1)) by omega]
            simp only [sr_at] at *
            rw [st1_at] at *
            first | (rw [if_pos (by rw [st1_ne (by omega)] at *; exact ⟨by assumption, by omega⟩)]; rw [st1_ne (by omega)]) | (rw [if_neg (by rw [st1_ne (by omega)] at *; omega)]) | (rw [if_neg (fun q => q.1 (by assumption))])
          have h9 := ih (j + 1) (some (vi (s + ((j : Int) + 1)))) (by omega) (by omega)
          rw [e] at h9
          rw [sr_up, st1_st1]
          exact h9
        · skip
          refine Hx.run 4 (pc' := 72) (L' := [some (vr 64), some (vi far), some (vi b), some (vi s), some (vi ((j : Int) + 1)), some (vi (s + ((j : Int) + 1)))]) (st' := [vi (s + ((j : Int) + 1)), vr 69, vi s, vr 69]) (M' := (sr M 69 (st1 A s (lin A b s j)))) rfl ?_
          refine Hx.aldI (n := 12) rfl rfl (by omega) ?_
          refine Hx.run 1 (pc' := 74) (L' := [some (vr 64), some (vi far), some (vi b), some (vi s), some (vi ((j : Int) + 1)), some (vi (s + ((j : Int) + 1)))]) (st' := [vi 1, vi ((sr M 69 (st1 A s (lin A b s j))) 69 (s + ((j : Int) + 1))), vi s, vr 69]) (M' := (sr M 69 (st1 A s (lin A b s j)))) rfl ?_
          refine Hx.add rfl (by omega) ?_
          refine Hx.run 3 (pc' := 80) (L' := [some (vr 64), some (vi far), some (vi b), some (vi s), some (vi ((j : Int) + 1)), some (vi (s + ((j : Int) + 1)))]) (st' := [vi s, vr 69, vi (((sr M 69 (st1 A s (lin A b s j))) 69 (s + ((j : Int) + 1))) + 1), vi s, vr 69]) (M' := (sr M 69 (st1 A s (lin A b s j)))) rfl ?_
          refine Hx.aldI (n := 12) rfl rfl (by omega) ?_
          refine Hx.br (c := (((sr M 69 (st1 A s (lin A b s j))) 69 (s + ((j : Int) + 1))) + 1) < ((sr M 69 (st1 A s (lin A b s j))) 69 s)) (t := 84) (f := 96) rfl (fun h4 => ?_) (fun h4 => ?_)
          · skip
            refine Hx.run 3 (pc' := 90) (L' := [some (vr 64), some (vi far), some (vi b), some (vi s), some (vi ((j : Int) + 1)), some (vi (s + ((j : Int) + 1)))]) (st' := [vi (s + ((j : Int) + 1)), vr 69, vi s, vr 69]) (M' := (sr M 69 (st1 A s (lin A b s j)))) rfl ?_
            refine Hx.aldI (n := 12) rfl rfl (by omega) ?_
            refine Hx.run 1 (pc' := 92) (L' := [some (vr 64), some (vi far), some (vi b), some (vi s), some (vi ((j : Int) + 1)), some (vi (s + ((j : Int) + 1)))]) (st' := [vi 1, vi ((sr M 69 (st1 A s (lin A b s j))) 69 (s + ((j : Int) + 1))), vi s, vr 69]) (M' := (sr M 69 (st1 A s (lin A b s j)))) rfl ?_
            refine Hx.add rfl (by omega) ?_
            refine Hx.run 1 (pc' := 102) (L' := [some (vr 64), some (vi far), some (vi b), some (vi s), some (vi ((j : Int) + 1)), some (vi (s + ((j : Int) + 1)))]) (st' := [vi (((sr M 69 (st1 A s (lin A b s j))) 69 (s + ((j : Int) + 1))) + 1), vi s, vr 69]) (M' := (sr M 69 (st1 A s (lin A b s j)))) rfl ?_
            refine Hx.astI (n := 12) rfl rfl (by omega) ?_
            refine Hx.inc rfl rfl (by omega) ?_
            refine Hx.run 0 (pc' := 106) (L' := [some (vr 64), some (vi far), some (vi b), some (vi s), some (vi (((j : Int) + 1) + 1)), some (vi (s + ((j : Int) + 1)))]) (st' := []) (M' := (up (sr M 69 (st1 A s (lin A b s j))) 69 s (((sr M 69 (st1 A s (lin A b s j))) 69 (s + ((j : Int) + 1))) + 1))) rfl ?_
            refine Hx.run 1 (pc' := 26) (L' := [some (vr 64), some (vi far), some (vi b), some (vi s), some (vi (((j : Int) + 1) + 1)), some (vi (s + ((j : Int) + 1)))]) (st' := []) (M' := (up (sr M 69 (st1 A s (lin A b s j))) 69 s (((sr M 69 (st1 A s (lin A b s j))) 69 (s + ((j : Int) + 1))) + 1))) rfl ?_
            have e : lin A b s (j + 1) = (((sr M 69 (st1 A s (lin A b s j))) 69 (s + ((j : Int) + 1))) + 1) := by
              rw [lin_succ, show min 11 (s + ((j : Int) + 1)) = (s + ((j : Int) + 1)) by omega]
              simp only [sr_at] at *
              rw [st1_at] at *
              first | (rw [if_pos (by rw [st1_ne (by omega)] at *; exact ⟨by assumption, by omega⟩)]; rw [st1_ne (by omega)]) | (rw [if_neg (by rw [st1_ne (by omega)] at *; omega)]) | (rw [if_neg (fun q => q.1 (by assumption))])
            have h9 := ih (j + 1) (some (vi (s + ((j : Int) + 1)))) (by omega) (by omega)
            rw [e] at h9
            rw [sr_up, st1_st1]
            exact h9
          · skip
            refine Hx.run 3 (pc' := 101) (L' := [some (vr 64), some (vi far), some (vi b), some (vi s), some (vi ((j : Int) + 1)), some (vi (s + ((j : Int) + 1)))]) (st' := [vi s, vr 69, vi s, vr 69]) (M' := (sr M 69 (st1 A s (lin A b s j)))) rfl ?_
            refine Hx.aldI (n := 12) rfl rfl (by omega) ?_
            refine Hx.astI (n := 12) rfl rfl (by omega) ?_
            refine Hx.inc rfl rfl (by omega) ?_
            refine Hx.run 0 (pc' := 106) (L' := [some (vr 64), some (vi far), some (vi b), some (vi s), some (vi (((j : Int) + 1) + 1)), some (vi (s + ((j : Int) + 1)))]) (st' := []) (M' := (up (sr M 69 (st1 A s (lin A b s j))) 69 s ((sr M 69 (st1 A s (lin A b s j))) 69 s))) rfl ?_
            refine Hx.run 1 (pc' := 26) (L' := [some (vr 64), some (vi far), some (vi b), some (vi s), some (vi (((j : Int) + 1) + 1)), some (vi (s + ((j : Int) + 1)))]) (st' := []) (M' := (up (sr M 69 (st1 A s (lin A b s j))) 69 s ((sr M 69 (st1 A s (lin A b s j))) 69 s))) rfl ?_
            have e : lin A b s (j + 1) = ((sr M 69 (st1 A s (lin A b s j))) 69 s) := by
              rw [lin_succ, show min 11 (s + ((j : Int) + 1)) = (s + ((j : Int) + 1)) by omega]
              simp only [sr_at] at *
              rw [st1_at] at *
              first | (rw [if_pos (by rw [st1_ne (by omega)] at *; exact ⟨by assumption, by omega⟩)]; rw [st1_ne (by omega)]) | (rw [if_neg (by rw [st1_ne (by omega)] at *; omega)]) | (rw [if_neg (fun q => q.1 (by assumption))])
            have h9 := ih (j + 1) (some (vi (s + ((j : Int) + 1)))) (by omega) (by omega)
            rw [e] at h9
            rw [sr_up, st1_st1]
            exact h9
set_option maxRecDepth 100000 in
theorem rl_lays2 (far b : Int) (M : Mm) (hfar : 1 ≤ far ∧ far ≤ 5) (hb0 : 0 ≤ b ∧ b < 2048) : ∀ (kk : Nat) (n : Nat) (jk : Option PV) (jt : Option PV), n ≤ 11 → 11 - (n : Int) < (kk : Int) → Hx 182 11 [some (vr 64), some (vi far), some (vi b), some (vi (10 - (n : Int))), jk, jt] [] (sr M 69 (tbl far.toNat b (M 69) n)) (fun q0 M' => q0 = none ∧ sr M 69 (tbl far.toNat b (M 69) 11) = M') := by
  intro kk
  induction kk with
  | zero => intro n jk jt _ hkk; exact absurd hkk (by omega)
  | succ kk ih =>
    intro n jk jt hn hkk
    refine Hx.run 1 (pc' := 12) (L' := [some (vr 64), some (vi far), some (vi b), some (vi (10 - (n : Int))), jk, jt]) (st' := [vi (10 - (n : Int))]) (M' := (sr M 69 (tbl far.toNat b (M 69) n))) rfl ?_
    refine Hx.br (c := (10 - (n : Int)) < 0) (t := 115) (f := 15) rfl (fun h1 => ?_) (fun h1 => ?_)
    · skip
      refine Hx.ret rfl ?_
      have e : n = 11 := by omega
      subst e
      exact ⟨rfl, rfl⟩
    · skip
      refine Hx.run 4 (pc' := 22) (L' := [some (vr 64), some (vi far), some (vi b), some (vi (10 - (n : Int))), jk, jt]) (st' := [vi 1000000, vi (10 - (n : Int)), vr 69]) (M' := (sr M 69 (tbl far.toNat b (M 69) n))) rfl ?_
      refine Hx.astI (n := 12) rfl rfl (by omega) ?_
      refine Hx.run 2 (pc' := 26) (L' := [some (vr 64), some (vi far), some (vi b), some (vi (10 - (n : Int))), some (vi 1), jt]) (st' := []) (M' := (up (sr M 69 (tbl far.toNat b (M 69) n)) 69 (10 - (n : Int)) 1000000)) rfl ?_
      rw [sr_up]
      have hT := tbl_rng far.toNat b (M 69) n (by omega)
      refine rl_lays1 far b (10 - (n : Int)) (tbl far.toNat b (M 69) n) M hfar hb0 (by omega) hT ?_ 10 0 _ (by omega) (by omega)
      intro j hj jt2
      rw [show j = far.toNat by omega, ← tbl_succ]
      refine Hx.inc rfl rfl (by omega) ?_
      refine Hx.run 0 (pc' := 112) (L' := [some (vr 64), some (vi far), some (vi b), some (vi ((10 - (n : Int)) + (-1))), some (vi ((far.toNat : Int) + 1)), jt2]) (st' := []) (M' := (sr M 69 (tbl far.toNat b (M 69) (n + 1)))) rfl ?_
      refine Hx.run 1 (pc' := 11) (L' := [some (vr 64), some (vi far), some (vi b), some (vi ((10 - (n : Int)) + (-1))), some (vi ((far.toNat : Int) + 1)), jt2]) (st' := []) (M' := (sr M 69 (tbl far.toNat b (M 69) (n + 1)))) rfl ?_
      have h9 := ih (n + 1) (some (vi ((far.toNat : Int) + 1))) jt2 (by omega) (by omega)
      rw [show (10 - ((n + 1 : Nat) : Int)) = 10 - (n : Int) + (-1) by omega] at h9
      exact h9
set_option maxRecDepth 100000 in
theorem r_laysLeft (far b : Int) (M : Mm) (hfar : 1 ≤ far ∧ far ≤ 5) (hb0 : 0 ≤ b ∧ b < 2048) : Ct 182 [vr 64, vi far, vi b] M (fun q0 M' => q0 = none ∧ sr M 69 (tbl far.toNat b (M 69) 11) = M') := by
  refine Hx.run 4 (pc' := 7) (L' := [some (vr 64), some (vi far), some (vi b), none, none, none]) (st' := [vi 0, vi 11, vr 69]) (M' := M) rfl ?_
  refine Hx.astI (n := 12) rfl rfl (by omega) ?_
  refine Hx.run 2 (pc' := 11) (L' := [some (vr 64), some (vi far), some (vi b), some (vi 10), none, none]) (st' := []) (M' := (up M 69 11 0)) rfl ?_
  have h0 := rl_lays2 far b M hfar hb0 20 0 none none (by omega) (by omega)
  rw [show tbl far.toNat b (M 69) 0 = st1 (M 69) 11 0 from rfl, ← sr_up, sr_self] at h0
  exact h0
