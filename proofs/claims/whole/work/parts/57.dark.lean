/-! the dark: ways, and a stride of the class (written by wip/whole/gen57.py) -/
def bt (b p : Int) : Bool := decide (b / 2 ^ p.toNat % 2 = 1)
theorem bt_1 {b p : Int} (h : hb b p) : bt b p = true := decide_eq_true h
theorem bt_0 {b p : Int} (h : ¬ hb b p) : bt b p = false := decide_eq_false h
/-- what a stride of k gives of what is told behind it -/
def stp (b c k : Int) (g : Int → Int) (p : Int) : Int := (if bt b (min 11 (p + k)) = true then 0 else (10 - c) * g (min 11 (p + k))) + (if bt b (min 11 (p + k + 1)) = true then 0 else c * g (min 11 (p + k + 1)))
/-- the ways from a place that don't fall: r strides more, the next one is A k -/
def dW (b c : Int) (A : Int → Int) : Nat → Nat → Int → Int
  | 0, _, _ => 1
  | r + 1, k, p => stp b c (A k) (dW b c A r (k + 1)) p
theorem dW_succ (b c : Int) (A : Int → Int) (r k : Nat) : dW b c A (r + 1) k = stp b c (A k) (dW b c A r (k + 1)) := rfl
theorem dW_congr {b c : Int} {A B : Int → Int} : ∀ (r k : Nat), (∀ m : Nat, k ≤ m → m < k + r → A m = B m) → dW b c A r k = dW b c B r k
  | 0, _, _ => rfl
  | r + 1, k, h => by rw [dW_succ, dW_succ, dW_congr r (k + 1) (fun m h1 h2 => h m (by omega) (by omega)), h k (by omega) (by omega)]
def w12 (B g : Int → Int) : Int := sS (fun x => B x * g x) 12
def cd (b q m : Int) (D : Int → Int) : Int → Int := if bt b q = true then D else st1 D q (D q + m)
theorem w_st1 {D g : Int → Int} {m : Int} (k : Nat) : ∀ n : Nat, sS (fun x => st1 D k (D k + m) x * g x) n = sS (fun x => D x * g x) n + (if k < n then m * g k else 0)
  | 0 => by rw [if_neg (by omega)]; rfl
  | n + 1 => by
    rw [sS_succ, sS_succ, w_st1 k n]
    by_cases e : k = n
    · subst e
      rw [if_neg (by omega), if_pos (by omega), st1_at, Int.add_mul]
      omega
    · rw [st1_ne (by omega)]
      by_cases h : k < n
      · rw [if_pos h, if_pos (by omega)]; omega
      · rw [if_neg h, if_neg (by omega)]; omega
theorem w_cd {b q m : Int} {D g : Int → Int} (hq : 0 ≤ q ∧ q ≤ 11) : w12 (cd b q m D) g = w12 D g + (if bt b q = true then 0 else m * g q) := by
  unfold cd w12
  split
  · omega
  · obtain ⟨k, rfl⟩ : ∃ k : Nat, q = k := ⟨q.toNat, by omega⟩
    have h := w_st1 (D := D) (g := g) (m := m) k 12
    rw [if_pos (by omega)] at h
    exact h
theorem cd_nn {b q m : Int} {D : Int → Int} (hm : 0 ≤ m) (hD : ∀ x, 0 ≤ x → x ≤ 11 → 0 ≤ D x) : ∀ x, 0 ≤ x → x ≤ 11 → 0 ≤ cd b q m D x := by
  intro x h0 h1
  unfold cd
  split
  · exact hD x h0 h1
  · by_cases e : x = q
    · subst e; rw [st1_at]; have := hD x h0 h1; omega
    · rw [st1_ne e]; exact hD x h0 h1
theorem cd_le {b q m : Int} {D : Int → Int} (hm : 0 ≤ m) (x : Int) : cd b q m D x ≤ D x + m := by
  unfold cd
  split
  · omega
  · by_cases e : x = q
    · subst e; rw [st1_at]; omega
    · rw [st1_ne e]; omega
theorem s_nn {f : Nat → Int} : ∀ n : Nat, (∀ m, m < n → 0 ≤ f m) → 0 ≤ sS f n
  | 0, _ => Int.le_refl _
  | n + 1, h => by
    have h1 := s_nn n (fun m hm => h m (by omega))
    have h2 := h n (by omega)
    rw [sS_succ]; omega
theorem s_one {f : Nat → Int} {k : Nat} : ∀ n : Nat, (∀ m, m < n → 0 ≤ f m) → k < n → f k ≤ sS f n
  | 0, _, h => absurd h (by omega)
  | n + 1, h, hk => by
    have h2 := h n (by omega)
    rw [sS_succ]
    by_cases e : k = n
    · subst e
      have h1 := s_nn k (fun m hm => h m (by omega))
      omega
    · have h1 := s_one (k := k) n (fun m hm => h m (by omega)) (by omega)
      omega
theorem s_le {f g : Nat → Int} : ∀ n : Nat, (∀ m, m < n → f m ≤ g m) → sS f n ≤ sS g n
  | 0, _ => Int.le_refl _
  | n + 1, h => by
    have h1 := s_le n (fun m hm => h m (by omega))
    have h2 := h n (by omega)
    rw [sS_succ, sS_succ]; omega
theorem s_mul {f : Nat → Int} {c : Int} : ∀ n : Nat, sS (fun m => c * f m) n = c * sS f n
  | 0 => by show (0 : Int) = c * 0; rw [Int.mul_zero]
  | n + 1 => by rw [sS_succ, sS_succ, s_mul n, Int.mul_add]
theorem w12_1 (B : Int → Int) : w12 B (fun _ => 1) = sS (fun x => B x) 12 := by
  unfold w12
  exact sS_congr 12 (fun m _ => Int.mul_one _)
theorem w12_one {D : Int → Int} (hD : ∀ x, 0 ≤ x → x ≤ 11 → 0 ≤ D x) {q : Int} (hq : 0 ≤ q ∧ q ≤ 11) : D q ≤ w12 D (fun _ => 1) := by
  rw [w12_1]
  obtain ⟨k, rfl⟩ : ∃ k : Nat, q = k := ⟨q.toNat, by omega⟩
  exact s_one (f := fun x => D (x : Int)) 12 (fun m hm => hD m (by omega) (by omega)) (by omega)
theorem stp1 {b c k p : Int} (hc : 0 ≤ c ∧ c ≤ 10) : 0 ≤ stp b c k (fun _ => 1) p ∧ stp b c k (fun _ => 1) p ≤ 10 := by
  unfold stp
  simp only [Int.mul_one]
  split <;> split <;> omega
/-- the sum over the first n places of B of what a stride makes of it is at most ten times B's -/
theorem s_stp {b c k : Int} {B : Int → Int} (hc : 0 ≤ c ∧ c ≤ 10) (hB : ∀ x, 0 ≤ x → x ≤ 11 → 0 ≤ B x) {n : Nat} (hn : n ≤ 12) : sS (fun x => B x * stp b c k (fun _ => 1) x) n ≤ 10 * w12 B (fun _ => 1) := by
  have h1 : sS (fun x => B x * stp b c k (fun _ => 1) x) n ≤ sS (fun x : Nat => 10 * B x) n := s_le n (fun m hm => by
    have h2 := hB m (by omega) (by omega)
    have h3 := stp1 (b := b) (k := k) (p := m) hc
    have h4 := Int.mul_le_mul_of_nonneg_left h3.2 h2
    omega)
  have h5 : sS (fun x : Nat => B x) n ≤ sS (fun x : Nat => B x) 12 := by
    have key : ∀ d : Nat, n + d ≤ 12 → sS (fun x : Nat => B x) n ≤ sS (fun x : Nat => B x) (n + d) := by
      intro d
      induction d with
      | zero => intro _; exact Int.le_refl _
      | succ d ih =>
        intro hd
        have h6 := ih (by omega)
        have h7 := hB ((n + d : Nat) : Int) (by omega) (by omega)
        have h8 : sS (fun x : Nat => B x) (n + (d + 1)) = sS (fun x : Nat => B x) (n + d) + B ((n + d : Nat) : Int) := rfl
        omega
    have := key (12 - n) (by omega)
    rw [show n + (12 - n) = 12 by omega] at this
    exact this
  rw [s_mul] at h1
  rw [w12_1]
  omega
theorem cp_sr {M : Mm} {rs rd : Nat} {sp dp n : Int} : cp M rs sp rd dp n = sr M rd (fun b => if dp ≤ b ∧ b < dp + n then M rs (sp + (b - dp)) else M rd b) := by
  funext a b
  simp only [cp, sr]
  by_cases h : a = rd
  · subst h; simp
  · simp [h]
set_option maxRecDepth 100000 in
theorem c_comeDown (q m b : Int) (M : Mm) (hq : 0 ≤ q ∧ q ≤ 11) (hb0 : 0 ≤ b ∧ b < 2048) (hr : -2147483648 ≤ M 61 q + m ∧ M 61 q + m < 2147483648) : Ct 101 [vr 0, vi q, vi m, vi b] M (fun q0 M' => q0 = none ∧ sr M 61 (cd b q m (M 61)) = M') := by
  refine Hx.run 2 (pc' := 2) (L' := [some (vr 0), some (vi q), some (vi m), some (vi b)]) (st' := [vi q, vi b]) (M' := M) rfl ?_
  refine Hx.call (t := 128) (as := [vi b, vi q]) (pc' := 5) (rest := []) rfl (c_isBarred b q M (by omega) (by omega)) ?_
  rintro _ _ (⟨q132, rfl, rfl⟩ | ⟨q132, rfl, rfl⟩)
  · skip
    refine Hx.run 1 (pc' := 26) (L' := [some (vr 0), some (vi q), some (vi m), some (vi b)]) (st' := []) (M' := M) rfl ?_
    refine Hx.ret rfl ?_
    exact ⟨rfl, by rw [show cd b q m (M 61) = M 61 from if_pos (bt_1 (by assumption)), sr_self]⟩
  · skip
    refine Hx.run 7 (pc' := 18) (L' := [some (vr 0), some (vi q), some (vi m), some (vi b)]) (st' := [vi q, vr 61, vi q, vr 61]) (M' := M) rfl ?_
    refine Hx.call (t := 121) (as := [vr 61, vi q]) (pc' := 21) (rest := [vi q, vr 61]) rfl (c_at (r := 61) (n := 12) rfl (by decide) (i := q) (by omega) M) ?_
    rintro _ _ ⟨rfl, rfl⟩
    refine Hx.run 0 (pc' := 21) (L' := [some (vr 0), some (vi q), some (vi m), some (vi b)]) (st' := [vi (M 61 q), vi q, vr 61]) (M' := M) rfl ?_
    refine Hx.run 1 (pc' := 22) (L' := [some (vr 0), some (vi q), some (vi m), some (vi b)]) (st' := [vi m, vi (M 61 q), vi q, vr 61]) (M' := M) rfl ?_
    refine Hx.add rfl (by omega) ?_
    refine Hx.call (t := 122) (as := [vr 61, vi q, vi ((M 61 q) + m)]) (pc' := 26) (rest := []) rfl (c_put (r := 61) (n := 12) rfl (by decide) (i := q) (by omega) ((M 61 q) + m) M) ?_
    rintro _ _ ⟨rfl, rfl⟩
    refine Hx.run 0 (pc' := 26) (L' := [some (vr 0), some (vi q), some (vi m), some (vi b)]) (st' := []) (M' := (up M 61 q ((M 61 q) + m))) rfl ?_
    refine Hx.ret rfl ?_
    exact ⟨rfl, by rw [show cd b q m (M 61) = st1 (M 61) q (M 61 q + m) from if_neg (by rw [bt_0 (by assumption)]; decide), ← sr_up, sr_self]⟩
set_option maxRecDepth 100000 in
set_option maxHeartbeats 2000000 in
theorem cl_sid (k c b : Int) (M : Mm) (B C : Int → Int) (hk : 0 ≤ k ∧ k ≤ 11) (hc : 0 ≤ c ∧ c ≤ 10) (hb0 : 0 ≤ b ∧ b < 2048) (hB : ∀ x, 0 ≤ x → x ≤ 11 → 0 ≤ B x) (hT : w12 B (fun _ => 1) ≤ 1000000) (hC : ∀ x, 0 ≤ x → x ≤ 11 → C x = B x) : ∀ (kk : Nat) (n : Nat) (D : Int → Int) (j5 : Option PV), n ≤ 12 → (∀ g, w12 D g = sS (fun x => B x * stp b c k g x) n) → (∀ x, 0 ≤ x → x ≤ 11 → 0 ≤ D x) → 12 - (n : Int) < (kk : Int) → Hx 100 22 [some (vr 0), some (vi k), some (vi c), some (vi b), some (vi (n : Int)), j5] [] (sr (sr M 62 C) 61 D) (fun q0 M' => q0 = none ∧ ∃ D : Int → Int, (∀ g, w12 D g = w12 B (stp b c k g)) ∧ (∀ x, 0 ≤ x → x ≤ 11 → 0 ≤ D x) ∧ sr (sr M 62 C) 61 D = M') := by
  intro kk
  induction kk with
  | zero => intro n D j5 _ _ _ hkk; exact absurd hkk (by omega)
  | succ kk ih =>
    intro n D j5 hn hD hN hkk
    have z0 : n < 12 → 0 ≤ B (n : Int) := fun z => hB _ (by omega) (by omega)
    have z1 : n < 12 → C (n : Int) = B (n : Int) := fun z => hC _ (by omega) (by omega)
    by_cases hlt : n < 12
    · have hCn := z1 hlt
      have hB0 := z0 hlt
      have hB1 := w12_one hB (q := (n : Int)) (by omega)
      have hd1 : w12 D (fun _ => 1) ≤ 10 * w12 B (fun _ => 1) := by rw [hD]; exact s_stp hc hB (by omega)
      have y1 := w12_one hN (q := (min 11 ((n : Int) + k))) (by omega)
      have y2 := w12_one hN (q := (min 11 (((n : Int) + k) + 1))) (by omega)
      have x1 := hN (min 11 ((n : Int) + k)) (by omega) (by omega)
      have x2 := hN (min 11 (((n : Int) + k) + 1)) (by omega) (by omega)
      have u1 : 0 ≤ ((C (n : Int)) * (10 - c)) := by rw [hCn]; exact Int.mul_nonneg hB0 (by omega)
      have u2 : 0 ≤ ((C (n : Int)) * c) := by rw [hCn]; exact Int.mul_nonneg hB0 (by omega)
      have v1 : ((C (n : Int)) * (10 - c)) ≤ 10000000 := by rw [hCn]; have := Int.mul_le_mul_of_nonneg_left (show 10 - c ≤ 10 by omega) hB0; omega
      have v2 : ((C (n : Int)) * c) ≤ 10000000 := by rw [hCn]; have := Int.mul_le_mul_of_nonneg_left (show c ≤ 10 by omega) hB0; omega
      have t2 := cd_le (b := b) (q := (min 11 ((n : Int) + k))) (D := D) u1 (min 11 (((n : Int) + k) + 1))
      have s2 := cd_nn (b := b) (q := (min 11 ((n : Int) + k))) u1 hN (min 11 (((n : Int) + k) + 1)) (by omega) (by omega)
      refine Hx.run 2 (pc' := 26) (L' := [some (vr 0), some (vi k), some (vi c), some (vi b), some (vi (n : Int)), j5]) (st' := [vi 11, vi (n : Int)]) (M' := (sr (sr M 62 C) 61 D)) rfl ?_
      refine Hx.br (c := 11 < (n : Int)) (t := 87) (f := 29) rfl (fun h1 => ?_) (fun h1 => ?_)
      · skip
        refine Hx.ret rfl ?_
        have e : n = 12 := by omega
        subst e
        exact ⟨rfl, D, hD, hN, rfl⟩
      · skip
        refine Hx.run 3 (pc' := 35) (L' := [some (vr 0), some (vi k), some (vi c), some (vi b), some (vi (n : Int)), j5]) (st' := [vi (n : Int), vr 62]) (M' := (sr (sr M 62 C) 61 D)) rfl ?_
        refine Hx.call (t := 121) (as := [vr 62, vi (n : Int)]) (pc' := 38) (rest := []) rfl (c_at (r := 62) (n := 12) rfl (by decide) (i := (n : Int)) (by omega) (sr (sr M 62 C) 61 D)) ?_
        rintro _ _ ⟨rfl, rfl⟩
        refine Hx.run 0 (pc' := 38) (L' := [some (vr 0), some (vi k), some (vi c), some (vi b), some (vi (n : Int)), j5]) (st' := [vi (C (n : Int))]) (M' := (sr (sr M 62 C) 61 D)) rfl ?_
        refine Hx.run 5 (pc' := 46) (L' := [some (vr 0), some (vi k), some (vi c), some (vi b), some (vi (n : Int)), some (vi (C (n : Int)))]) (st' := [vi k, vi (n : Int), vi 11, vr 0]) (M' := (sr (sr M 62 C) 61 D)) rfl ?_
        refine Hx.add rfl (by omega) ?_
        refine Hx.call (t := 226) (as := [vi 11, vi ((n : Int) + k)]) (pc' := 50) (rest := [vr 0]) rfl (c_min 11 ((n : Int) + k) (sr (sr M 62 C) 61 D)) ?_
        rintro _ _ ⟨rfl, rfl⟩
        refine Hx.run 0 (pc' := 50) (L' := [some (vr 0), some (vi k), some (vi c), some (vi b), some (vi (n : Int)), some (vi (C (n : Int)))]) (st' := [vi (min 11 ((n : Int) + k)), vr 0]) (M' := (sr (sr M 62 C) 61 D)) rfl ?_
        refine Hx.run 3 (pc' := 55) (L' := [some (vr 0), some (vi k), some (vi c), some (vi b), some (vi (n : Int)), some (vi (C (n : Int)))]) (st' := [vi c, vi 10, vi (C (n : Int)), vi (min 11 ((n : Int) + k)), vr 0]) (M' := (sr (sr M 62 C) 61 D)) rfl ?_
        refine Hx.sub rfl (by omega) ?_
        refine Hx.mul rfl (by omega) ?_
        refine Hx.run 1 (pc' := 58) (L' := [some (vr 0), some (vi k), some (vi c), some (vi b), some (vi (n : Int)), some (vi (C (n : Int)))]) (st' := [vi b, vi ((C (n : Int)) * (10 - c)), vi (min 11 ((n : Int) + k)), vr 0]) (M' := (sr (sr M 62 C) 61 D)) rfl ?_
        refine Hx.call (t := 101) (as := [vr 0, vi (min 11 ((n : Int) + k)), vi ((C (n : Int)) * (10 - c)), vi b]) (pc' := 61) (rest := []) rfl (c_comeDown (min 11 ((n : Int) + k)) ((C (n : Int)) * (10 - c)) b (sr (sr M 62 C) 61 D) (by omega) (by omega) (by show -2147483648 ≤ D (min 11 ((n : Int) + k)) + ((C (n : Int)) * (10 - c)) ∧ D (min 11 ((n : Int) + k)) + ((C (n : Int)) * (10 - c)) < 2147483648; omega)) ?_
        rintro _ _ ⟨rfl, rfl⟩
        rw [sr_sr]
        refine Hx.run 0 (pc' := 61) (L' := [some (vr 0), some (vi k), some (vi c), some (vi b), some (vi (n : Int)), some (vi (C (n : Int)))]) (st' := []) (M' := (sr (sr M 62 C) 61 (cd b (min 11 ((n : Int) + k)) ((C (n : Int)) * (10 - c)) D))) rfl ?_
        refine Hx.run 4 (pc' := 67) (L' := [some (vr 0), some (vi k), some (vi c), some (vi b), some (vi (n : Int)), some (vi (C (n : Int)))]) (st' := [vi k, vi (n : Int), vi 11, vr 0]) (M' := (sr (sr M 62 C) 61 (cd b (min 11 ((n : Int) + k)) ((C (n : Int)) * (10 - c)) D))) rfl ?_
        refine Hx.add rfl (by omega) ?_
        refine Hx.run 1 (pc' := 69) (L' := [some (vr 0), some (vi k), some (vi c), some (vi b), some (vi (n : Int)), some (vi (C (n : Int)))]) (st' := [vi 1, vi ((n : Int) + k), vi 11, vr 0]) (M' := (sr (sr M 62 C) 61 (cd b (min 11 ((n : Int) + k)) ((C (n : Int)) * (10 - c)) D))) rfl ?_
        refine Hx.add rfl (by omega) ?_
        refine Hx.call (t := 226) (as := [vi 11, vi (((n : Int) + k) + 1)]) (pc' := 73) (rest := [vr 0]) rfl (c_min 11 (((n : Int) + k) + 1) (sr (sr M 62 C) 61 (cd b (min 11 ((n : Int) + k)) ((C (n : Int)) * (10 - c)) D))) ?_
        rintro _ _ ⟨rfl, rfl⟩
        refine Hx.run 0 (pc' := 73) (L' := [some (vr 0), some (vi k), some (vi c), some (vi b), some (vi (n : Int)), some (vi (C (n : Int)))]) (st' := [vi (min 11 (((n : Int) + k) + 1)), vr 0]) (M' := (sr (sr M 62 C) 61 (cd b (min 11 ((n : Int) + k)) ((C (n : Int)) * (10 - c)) D))) rfl ?_
        refine Hx.run 2 (pc' := 76) (L' := [some (vr 0), some (vi k), some (vi c), some (vi b), some (vi (n : Int)), some (vi (C (n : Int)))]) (st' := [vi c, vi (C (n : Int)), vi (min 11 (((n : Int) + k) + 1)), vr 0]) (M' := (sr (sr M 62 C) 61 (cd b (min 11 ((n : Int) + k)) ((C (n : Int)) * (10 - c)) D))) rfl ?_
        refine Hx.mul rfl (by omega) ?_
        refine Hx.run 1 (pc' := 78) (L' := [some (vr 0), some (vi k), some (vi c), some (vi b), some (vi (n : Int)), some (vi (C (n : Int)))]) (st' := [vi b, vi ((C (n : Int)) * c), vi (min 11 (((n : Int) + k) + 1)), vr 0]) (M' := (sr (sr M 62 C) 61 (cd b (min 11 ((n : Int) + k)) ((C (n : Int)) * (10 - c)) D))) rfl ?_
        refine Hx.call (t := 101) (as := [vr 0, vi (min 11 (((n : Int) + k) + 1)), vi ((C (n : Int)) * c), vi b]) (pc' := 81) (rest := []) rfl (c_comeDown (min 11 (((n : Int) + k) + 1)) ((C (n : Int)) * c) b (sr (sr M 62 C) 61 (cd b (min 11 ((n : Int) + k)) ((C (n : Int)) * (10 - c)) D)) (by omega) (by omega) (by show -2147483648 ≤ (cd b (min 11 ((n : Int) + k)) ((C (n : Int)) * (10 - c)) D) (min 11 (((n : Int) + k) + 1)) + ((C (n : Int)) * c) ∧ (cd b (min 11 ((n : Int) + k)) ((C (n : Int)) * (10 - c)) D) (min 11 (((n : Int) + k) + 1)) + ((C (n : Int)) * c) < 2147483648; omega)) ?_
        rintro _ _ ⟨rfl, rfl⟩
        rw [sr_sr]
        refine Hx.run 0 (pc' := 81) (L' := [some (vr 0), some (vi k), some (vi c), some (vi b), some (vi (n : Int)), some (vi (C (n : Int)))]) (st' := []) (M' := (sr (sr M 62 C) 61 (cd b (min 11 (((n : Int) + k) + 1)) ((C (n : Int)) * c) (cd b (min 11 ((n : Int) + k)) ((C (n : Int)) * (10 - c)) D)))) rfl ?_
        refine Hx.inc rfl rfl (by omega) ?_
        refine Hx.run 0 (pc' := 84) (L' := [some (vr 0), some (vi k), some (vi c), some (vi b), some (vi ((n : Int) + 1)), some (vi (C (n : Int)))]) (st' := []) (M' := (sr (sr M 62 C) 61 (cd b (min 11 (((n : Int) + k) + 1)) ((C (n : Int)) * c) (cd b (min 11 ((n : Int) + k)) ((C (n : Int)) * (10 - c)) D)))) rfl ?_
        refine Hx.run 1 (pc' := 22) (L' := [some (vr 0), some (vi k), some (vi c), some (vi b), some (vi ((n : Int) + 1)), some (vi (C (n : Int)))]) (st' := []) (M' := (sr (sr M 62 C) 61 (cd b (min 11 (((n : Int) + k) + 1)) ((C (n : Int)) * c) (cd b (min 11 ((n : Int) + k)) ((C (n : Int)) * (10 - c)) D)))) rfl ?_
        exact ih (n + 1) (cd b (min 11 (((n : Int) + k) + 1)) ((C (n : Int)) * c) (cd b (min 11 ((n : Int) + k)) ((C (n : Int)) * (10 - c)) D)) (some (vi (C (n : Int)))) (by omega) (fun g => by rw [w_cd (by omega), w_cd (by omega), hD g, sS_succ, hCn]; unfold stp; rw [Int.mul_add]; split <;> split <;> simp only [Int.mul_zero, Int.mul_assoc] <;> omega) (cd_nn (by omega) (cd_nn (by omega) hN)) (by omega)
    · skip
      refine Hx.run 2 (pc' := 26) (L' := [some (vr 0), some (vi k), some (vi c), some (vi b), some (vi (n : Int)), j5]) (st' := [vi 11, vi (n : Int)]) (M' := (sr (sr M 62 C) 61 D)) rfl ?_
      refine Hx.br (c := 11 < (n : Int)) (t := 87) (f := 29) rfl (fun h1 => ?_) (fun h1 => ?_)
      · skip
        refine Hx.ret rfl ?_
        have e : n = 12 := by omega
        subst e
        exact ⟨rfl, D, hD, hN, rfl⟩
      · skip
        omega
set_option maxRecDepth 100000 in
theorem c_sid (k c b : Int) (M : Mm) (hk : 0 ≤ k ∧ k ≤ 11) (hc : 0 ≤ c ∧ c ≤ 10) (hb0 : 0 ≤ b ∧ b < 2048) (hB : ∀ x, 0 ≤ x → x ≤ 11 → 0 ≤ M 61 x) (hT : w12 (M 61) (fun _ => 1) ≤ 1000000) : Ct 100 [vr 0, vi k, vi c, vi b] M (fun q0 M' => q0 = none ∧ ∃ C D : Int → Int, (∀ g, w12 D g = w12 (M 61) (stp b c k g)) ∧ (∀ x, 0 ≤ x → x ≤ 11 → 0 ≤ D x) ∧ sr (sr M 62 C) 61 D = M') := by
  refine Hx.run 4 (pc' := 8) (L' := [some (vr 0), some (vi k), some (vi c), some (vi b), none, none]) (st' := [vr 61, vr 62]) (M' := M) rfl ?_
  refine Hx.call (t := 123) (as := [vr 62, vr 61]) (pc' := 11) (rest := []) rfl (c_copyInto (rd := 62) (rs := 61) (n := 12) rfl rfl (by decide) (by decide) (by decide) M) ?_
  rintro _ _ ⟨rfl, rfl⟩
  refine Hx.run 0 (pc' := 11) (L' := [some (vr 0), some (vi k), some (vi c), some (vi b), none, none]) (st' := []) (M' := (cp M 61 0 62 0 12)) rfl ?_
  refine Hx.run 3 (pc' := 16) (L' := [some (vr 0), some (vi k), some (vi c), some (vi b), none, none]) (st' := [vi 0, vr 61]) (M' := (cp M 61 0 62 0 12)) rfl ?_
  refine Hx.call (t := 224) (as := [vr 61, vi 0]) (pc' := 19) (rest := []) rfl (c_fill (r := 61) (n := 12) rfl (by decide) (by decide) 0 (cp M 61 0 62 0 12)) ?_
  rintro _ _ ⟨rfl, rfl⟩
  refine Hx.run 0 (pc' := 19) (L' := [some (vr 0), some (vi k), some (vi c), some (vi b), none, none]) (st' := []) (M' := (fl (cp M 61 0 62 0 12) 61 0 12 0)) rfl ?_
  refine Hx.run 2 (pc' := 22) (L' := [some (vr 0), some (vi k), some (vi c), some (vi b), some (vi 0), none]) (st' := []) (M' := (fl (cp M 61 0 62 0 12) 61 0 12 0)) rfl ?_
  rw [cp_sr, fl_sr]
  refine Hx.imp (cl_sid k c b M (M 61) (fun x => if 0 ≤ x ∧ x < 0 + 12 then M 61 (0 + (x - 0)) else M 62 x) hk hc hb0 hB hT (fun x h1 h2 => by rw [if_pos (by omega), show 0 + (x - 0) = x by omega]) 20 0 _ none (by omega) (fun g => ?_) (fun x h1 h2 => by rw [if_pos (by omega)]; exact Int.le_refl _) (by omega)) (fun r M' h => ⟨h.1, _, h.2⟩)
  show sS _ 12 = 0
  rw [sS_congr (g := fun _ => 0) 12 (fun m hm => by dsimp only; rw [if_pos (by omega), Int.zero_mul])]
  rfl
set_option maxRecDepth 100000 in
theorem cl_sum (M : Mm) (hB : ∀ x, 0 ≤ x → x ≤ 11 → 0 ≤ M 61 x) (hT : sS (fun x => M 61 x) 12 ≤ 100000000) : ∀ (kk : Nat) (n : Nat), n ≤ 12 → 12 - (n : Int) < (kk : Int) → Hx 102 4 [some (vr 61), some (vi (sS (fun x => M 61 x) n)), some (vi (n : Int))] [] M (fun q0 M' => q0 = some (vi (sS (fun x => M 61 x) 12)) ∧ M = M') := by
  intro kk
  induction kk with
  | zero => intro n _ hkk; exact absurd hkk (by omega)
  | succ kk ih =>
    intro n hn hkk
    have z0 : n < 12 → 0 ≤ M 61 (n : Int) := fun z => hB _ (by omega) (by omega)
    have z1 : n < 12 → M 61 (n : Int) ≤ 100000000 := fun z => by
      have := s_one (f := fun x => M 61 (x : Int)) (k := n) 12 (fun m hm => hB m (by omega) (by omega)) z
      omega
    have z2 : 0 ≤ sS (fun x => M 61 x) n := s_nn n (fun m hm => hB m (by omega) (by omega))
    have z3 : sS (fun x => M 61 x) n ≤ 1200000000 := by
      have h1 : sS (fun x => M 61 x) n ≤ sS (fun _ => 100000000) n := s_le n (fun m hm => by
        have := s_one (f := fun x => M 61 (x : Int)) (k := m) 12 (fun m hm => hB m (by omega) (by omega)) (by omega)
        omega)
      have h2 : ∀ j : Nat, sS (fun _ => 100000000) j = 100000000 * (j : Int) := by
        intro j
        induction j with
        | zero => rfl
        | succ j ij => rw [sS_succ, ij]; omega
      rw [h2] at h1
      omega
    refine Hx.run 3 (pc' := 7) (L' := [some (vr 61), some (vi (sS (fun x => M 61 x) n)), some (vi (n : Int))]) (st' := [vi 12, vi (n : Int)]) (M' := M) rfl ?_
    refine Hx.br (c := (n : Int) < 12) (t := 10) (f := 22) rfl (fun h1 => ?_) (fun h1 => ?_)
    · skip
      refine Hx.run 3 (pc' := 13) (L' := [some (vr 61), some (vi (sS (fun x => M 61 x) n)), some (vi (n : Int))]) (st' := [vi (n : Int), vr 61, vi (sS (fun x => M 61 x) n)]) (M' := M) rfl ?_
      refine Hx.aldI (n := 12) rfl rfl (by omega) ?_
      refine Hx.add rfl (by omega) ?_
      refine Hx.run 1 (pc' := 16) (L' := [some (vr 61), some (vi ((sS (fun x => M 61 x) n) + (M 61 (n : Int)))), some (vi (n : Int))]) (st' := []) (M' := M) rfl ?_
      refine Hx.inc rfl rfl (by omega) ?_
      refine Hx.run 0 (pc' := 19) (L' := [some (vr 61), some (vi ((sS (fun x => M 61 x) n) + (M 61 (n : Int)))), some (vi ((n : Int) + 1))]) (st' := []) (M' := M) rfl ?_
      refine Hx.run 1 (pc' := 4) (L' := [some (vr 61), some (vi ((sS (fun x => M 61 x) n) + (M 61 (n : Int)))), some (vi ((n : Int) + 1))]) (st' := []) (M' := M) rfl ?_
      exact ih (n + 1) (by omega) (by omega)
    · skip
      refine Hx.run 1 (pc' := 23) (L' := [some (vr 61), some (vi (sS (fun x => M 61 x) n)), some (vi (n : Int))]) (st' := [vi (sS (fun x => M 61 x) n)]) (M' := M) rfl ?_
      refine Hx.ret rfl ?_
      exact ⟨by rw [show n = 12 by omega], rfl⟩
set_option maxRecDepth 100000 in
theorem c_sum (M : Mm) (hB : ∀ x, 0 ≤ x → x ≤ 11 → 0 ≤ M 61 x) (hT : sS (fun x => M 61 x) 12 ≤ 100000000) : Ct 102 [vr 61] M (fun q0 M' => q0 = some (vi (sS (fun x => M 61 x) 12)) ∧ M = M') := by
  refine Hx.run 4 (pc' := 4) (L' := [some (vr 61), some (vi 0), some (vi 0)]) (st' := []) (M' := M) rfl ?_
  exact cl_sum M hB hT 20 0 (by omega) (by omega)
