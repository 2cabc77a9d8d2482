/-! the fewest strides: one table for both; the class's (written by wip/whole/gen30.py) -/
theorem lin_congr {A B : Int → Int} {b s : Int} (hs : 0 ≤ s ∧ s ≤ 10) (h : ∀ x, s < x → x ≤ 11 → A x = B x) : ∀ j, lin A b s j = lin B b s j
  | 0 => rfl
  | j + 1 => by
    rw [lin_succ, lin_succ, lin_congr hs h j, h (min 11 (s + ((j : Int) + 1))) (by omega) (by omega)]
theorem tbl_ind (far : Nat) (b : Int) (A0 A1 : Int → Int) : ∀ n : Nat, n ≤ 11 → ∀ x : Int, 10 - n < x → x ≤ 11 → tbl far b A0 n x = tbl far b A1 n x
  | 0, _, x, h1, h2 => by
    have e : x = 11 := by omega
    subst e
    exact (st1_at (A := A0)).trans (st1_at (A := A1)).symm
  | n + 1, hn, x, h1, h2 => by
    have ih := tbl_ind far b A0 A1 n (by omega)
    rw [tbl_succ, tbl_succ]
    by_cases hx : x = 10 - n
    · subst hx
      rw [st1_at, st1_at]
      exact lin_congr (by omega) ih far
    · rw [st1_ne hx, st1_ne hx]
      exact ih x (by omega) h2
theorem tbl_mono (far : Nat) (b : Int) (A0 : Int → Int) (n : Nat) : ∀ m : Nat, n ≤ m → m ≤ 11 → ∀ x : Int, 10 - n < x → x ≤ 11 → tbl far b A0 m x = tbl far b A0 n x := by
  intro m hm
  induction hm with
  | refl => intro _ x _ _; rfl
  | step hm ih =>
    rename_i m
    intro h x h1 h2
    rw [tbl_succ, st1_ne (by have : n ≤ m := hm; omega)]
    exact ih (by omega) x h1 h2
/-- the fewest strides from s (1000000: none), by strides up to far, bars b -/
def TV (far b s : Int) : Int := tbl far.toNat b (fun _ => 0) 11 s
theorem TV_tbl {far b : Int} {A0 : Int → Int} {n : Nat} (hn : n ≤ 11) {x : Int} (h1 : 10 - n < x) (h2 : x ≤ 11) : tbl far.toNat b A0 n x = TV far b x := by
  unfold TV
  rw [tbl_mono far.toNat b (fun _ => 0) n 11 hn (by omega) x h1 h2]
  exact tbl_ind _ _ _ _ n hn x h1 h2
theorem TV_rng {far b x : Int} (h1 : 0 ≤ x) (h2 : x ≤ 11) : 0 ≤ TV far b x ∧ TV far b x ≤ 1000000 := tbl_rng far.toNat b _ 11 (by omega) x (by omega) h2
theorem TV_11 {far b : Int} : TV far b 11 = 0 := by
  rw [← TV_tbl (A0 := fun _ => 0) (n := 0) (by omega) (by omega) (by omega)]
  exact st1_at
theorem TV_eq {far b s : Int} (hs : 0 ≤ s ∧ s ≤ 10) : TV far b s = lin (TV far b) b s far.toNat := by
  obtain ⟨n, hn⟩ : ∃ n : Nat, s = 10 - n := ⟨(10 - s).toNat, by omega⟩
  rw [← TV_tbl (A0 := fun _ => 0) (n := n + 1) (by omega) (by omega) (by omega), tbl_succ, hn, st1_at]
  exact lin_congr (by omega) (fun x h1 h2 => TV_tbl (by omega) (by omega) h2) _
theorem TV_pos {far b s : Int} (hs : 0 ≤ s ∧ s ≤ 10) : 1 ≤ TV far b s := by
  rw [TV_eq hs]
  exact (lin_rng hs (fun x h1 h2 => TV_rng (by omega) h2) _).1
theorem bit11 {b : Int} (h : 0 ≤ b ∧ b < 2048) : ¬ b / 2 ^ (11 : Int).toNat % 2 = 1 := by
  show ¬ b / 2048 % 2 = 1
  omega
/-- behind the look at the top nothing changes -/
theorem lin_top {far b s : Int} (hb0 : 0 ≤ b ∧ b < 2048) (hs : 0 ≤ s ∧ s ≤ 10) : ∀ j : Nat, 11 - s ≤ (j : Int) → lin (TV far b) b s j = 1
  | 0, h => absurd h (by omega)
  | j + 1, h => by
    have hr := lin_rng hs (A := TV far b) (b := b) (fun x h1 h2 => TV_rng (by omega) h2) j
    rw [lin_succ, show min 11 (s + ((j : Int) + 1)) = 11 by omega, TV_11]
    by_cases hj : 11 - s ≤ (j : Int)
    · rw [lin_top hb0 hs j hj, if_neg (fun q => by omega)]
    · by_cases h1 : (0 : Int) + 1 < lin (TV far b) b s j
      · rw [if_pos ⟨bit11 hb0, h1⟩]; rfl
      · rw [if_neg (fun q => h1 q.2)]; omega
/-- as the class writes it: -1 for none -/
def dc (x : Int) : Int := if 1000000 ≤ x then -1 else x
set_option maxRecDepth 100000 in
theorem c_restBehind_53 (p b : Int) (M : Mm) (hp : 0 ≤ p ∧ p ≤ 11) (hb0 : 0 ≤ b ∧ b < 2048) : Ct 1 [vr 53, vi p, vi b] M (fun q0 M' => (hb b p ∧ q0 = some (vi (-1)) ∧ M = M') ∨ (¬ hb b p ∧ q0 = some (vi (M 54 p)) ∧ M = M')) := by
  refine Hx.run 2 (pc' := 2) (L' := [some (vr 53), some (vi p), some (vi b)]) (st' := [vi p, vi b]) (M' := M) rfl ?_
  refine Hx.call (t := 128) (as := [vi b, vi p]) (pc' := 5) (rest := []) rfl (c_isBarred b p M (by omega) (by omega)) ?_
  rintro _ _ (⟨q82, rfl, rfl⟩ | ⟨q82, rfl, rfl⟩)
  · skip
    refine Hx.run 3 (pc' := 20) (L' := [some (vr 53), some (vi p), some (vi b)]) (st' := [vi (-1)]) (M' := M) rfl ?_
    refine Hx.ret rfl ?_
    first | exact Or.inl ⟨by assumption, rfl, rfl⟩ | exact Or.inr ⟨by assumption, rfl, rfl⟩
  · skip
    refine Hx.run 4 (pc' := 17) (L' := [some (vr 53), some (vi p), some (vi b)]) (st' := [vi p, vr 54]) (M' := M) rfl ?_
    refine Hx.call (t := 121) (as := [vr 54, vi p]) (pc' := 20) (rest := []) rfl (c_at (r := 54) (n := 12) rfl (by decide) (i := p) (by omega) M) ?_
    rintro _ _ ⟨rfl, rfl⟩
    refine Hx.run 0 (pc' := 20) (L' := [some (vr 53), some (vi p), some (vi b)]) (st' := [vi (M 54 p)]) (M' := M) rfl ?_
    refine Hx.ret rfl ?_
    first | exact Or.inl ⟨by assumption, rfl, rfl⟩ | exact Or.inr ⟨by assumption, rfl, rfl⟩
set_option maxRecDepth 100000 in
theorem c_restBehind_56 (p b : Int) (M : Mm) (hp : 0 ≤ p ∧ p ≤ 11) (hb0 : 0 ≤ b ∧ b < 2048) : Ct 1 [vr 56, vi p, vi b] M (fun q0 M' => (hb b p ∧ q0 = some (vi (-1)) ∧ M = M') ∨ (¬ hb b p ∧ q0 = some (vi (M 57 p)) ∧ M = M')) := by
  refine Hx.run 2 (pc' := 2) (L' := [some (vr 56), some (vi p), some (vi b)]) (st' := [vi p, vi b]) (M' := M) rfl ?_
  refine Hx.call (t := 128) (as := [vi b, vi p]) (pc' := 5) (rest := []) rfl (c_isBarred b p M (by omega) (by omega)) ?_
  rintro _ _ (⟨q83, rfl, rfl⟩ | ⟨q83, rfl, rfl⟩)
  · skip
    refine Hx.run 3 (pc' := 20) (L' := [some (vr 56), some (vi p), some (vi b)]) (st' := [vi (-1)]) (M' := M) rfl ?_
    refine Hx.ret rfl ?_
    first | exact Or.inl ⟨by assumption, rfl, rfl⟩ | exact Or.inr ⟨by assumption, rfl, rfl⟩
  · skip
    refine Hx.run 4 (pc' := 17) (L' := [some (vr 56), some (vi p), some (vi b)]) (st' := [vi p, vr 57]) (M' := M) rfl ?_
    refine Hx.call (t := 121) (as := [vr 57, vi p]) (pc' := 20) (rest := []) rfl (c_at (r := 57) (n := 12) rfl (by decide) (i := p) (by omega) M) ?_
    rintro _ _ ⟨rfl, rfl⟩
    refine Hx.run 0 (pc' := 20) (L' := [some (vr 56), some (vi p), some (vi b)]) (st' := [vi (M 57 p)]) (M' := M) rfl ?_
    refine Hx.ret rfl ?_
    first | exact Or.inl ⟨by assumption, rfl, rfl⟩ | exact Or.inr ⟨by assumption, rfl, rfl⟩
