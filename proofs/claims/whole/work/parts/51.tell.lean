/-! tell, both sides (written by wip/whole/gen51.py) -/
/-- the first least of n numbers, by its label (-1, 1000000: none) -/
def am4 (lab g : Nat → Int) : Nat → Int × Int
  | 0 => (-1, 1000000)
  | n + 1 => if g n < (am4 lab g n).2 then (lab n, g n) else am4 lab g n
theorem am4_succ (lab g : Nat → Int) (n : Nat) : am4 lab g (n + 1) = if g n < (am4 lab g n).2 then (lab n, g n) else am4 lab g n := rfl
theorem am4_rng {lab g : Nat → Int} (h : ∀ n, 0 ≤ g n ∧ g n ≤ 1000) (hl : ∀ n, 0 ≤ lab n ∧ lab n ≤ 100000) : ∀ n, ((am4 lab g n).1 = -1 ∧ (am4 lab g n).2 = 1000000) ∨ (0 ≤ (am4 lab g n).1 ∧ 0 ≤ (am4 lab g n).2 ∧ (am4 lab g n).2 ≤ 1000)
  | 0 => Or.inl ⟨rfl, rfl⟩
  | n + 1 => by
    have h1 := am4_rng h hl n
    have h2 := h n
    have h3 := hl n
    rw [am4_succ]
    split
    · dsimp only; omega
    · omega
theorem am4_congr {lab f g : Nat → Int} : ∀ n, (∀ m, m < n → f m = g m) → am4 lab f n = am4 lab g n
  | 0, _ => rfl
  | n + 1, h => by rw [am4_succ, am4_succ, am4_congr n (fun m hm => h m (by omega)), h n (by omega)]
def tlY (g : Nat → Bool) (k s t : Int) (p : Nat) : Int := if g p = true ∧ ((p : Int) ≤ s ∧ s < (p : Int) + bcF k t) then 1 else 0
def tlN (g : Nat → Bool) (k s t : Int) (p : Nat) : Int := if g p = true ∧ ¬ ((p : Int) ≤ s ∧ s < (p : Int) + bcF k t) then 1 else 0
theorem tlY_1 {g : Nat → Bool} {k s t : Int} {p : Nat} (h : g p = true) (h2 : (p : Int) ≤ s ∧ s < (p : Int) + bcF k t) : tlY g k s t p = 1 := if_pos ⟨h, h2⟩
theorem tlY_0 {g : Nat → Bool} {k s t : Int} {p : Nat} (h : ¬ g p = true) : tlY g k s t p = 0 := if_neg (fun z => h z.1)
theorem tlY_n {g : Nat → Bool} {k s t : Int} {p : Nat} (h : ¬ ((p : Int) ≤ s ∧ s < (p : Int) + bcF k t)) : tlY g k s t p = 0 := if_neg (fun z => h z.2)
theorem tlN_1 {g : Nat → Bool} {k s t : Int} {p : Nat} (h : g p = true) (h2 : ¬ ((p : Int) ≤ s ∧ s < (p : Int) + bcF k t)) : tlN g k s t p = 1 := if_pos ⟨h, h2⟩
theorem tlN_0 {g : Nat → Bool} {k s t : Int} {p : Nat} (h : ¬ g p = true) : tlN g k s t p = 0 := if_neg (fun z => h z.1)
theorem tlN_n {g : Nat → Bool} {k s t : Int} {p : Nat} (h : (p : Int) ≤ s ∧ s < (p : Int) + bcF k t) : tlN g k s t p = 0 := if_neg (fun z => z.2 h)
theorem tlY_rng (g : Nat → Bool) (k s t : Int) (n : Nat) : 0 ≤ sS (tlY g k s t) n ∧ sS (tlY g k s t) n ≤ 20 * (n : Int) := sS_rng (fun m => by unfold tlY; split <;> omega) n
theorem tlN_rng (g : Nat → Bool) (k s t : Int) (n : Nat) : 0 ≤ sS (tlN g k s t) n ∧ sS (tlN g k s t) n ≤ 20 * (n : Int) := sS_rng (fun m => by unfold tlN; split <;> omega) n
theorem tl_sub (g : Nat → Bool) (k s t : Int) : ∀ n, sS (fun p => if g p = true then 1 else 0) n - sS (tlY g k s t) n = sS (tlN g k s t) n
  | 0 => rfl
  | n + 1 => by
    have h := tl_sub g k s t n
    rw [sS_succ, sS_succ, sS_succ]
    by_cases h1 : g n = true
    · rw [if_pos h1]
      by_cases h2 : (n : Int) ≤ s ∧ s < (n : Int) + bcF k t
      · rw [tlY_1 h1 h2, tlN_n h2]; omega
      · rw [tlY_n h2, tlN_1 h1 h2]; omega
    · rw [if_neg h1, tlY_0 h1, tlN_0 h1]; omega
theorem pop_Y {g : Nat → Bool} (h0 : g 0 = false) (k s t : Int) : pop (i2 fand (bS g 11) (ob s (bcF k t))) = sS (tlY g k s t) 11 := by
  unfold ob
  rw [and_bS, pop_bS]
  refine sS_congr 11 (fun m _ => ?_)
  by_cases h1 : g m = true
  · have hm : 1 ≤ m := by
      rcases Nat.eq_zero_or_pos m with z | z
      · rw [z, h0] at h1; cases h1
      · exact z
    by_cases h2 : (m : Int) ≤ s ∧ s < (m : Int) + bcF k t
    · rw [tlY_1 h1 h2, h1, decide_eq_true hm, show cvr m s (bcF k t) = true from decide_eq_true h2]; rfl
    · rw [tlY_n h2, show cvr m s (bcF k t) = false from decide_eq_false h2, Bool.and_false, Bool.and_false]; rfl
  · rw [tlY_0 h1, show g m = false from by simpa using h1, Bool.false_and]; rfl
theorem pop_N {g : Nat → Bool} (h0 : g 0 = false) (k s t : Int) : pop (bS g 11) - pop (i2 fand (bS g 11) (ob s (bcF k t))) = sS (tlN g k s t) 11 := by
  rw [pop_Y h0, pop_bS, tl_sub]
theorem and_rng (g : Nat → Bool) (s n : Int) : 0 ≤ i2 fand (bS g 11) (ob s n) ∧ i2 fand (bS g 11) (ob s n) < 2048 := by
  unfold ob
  rw [and_bS]
  exact bS_rng _ 11
def tlV (g : Nat → Bool) (k : Int) (m : Nat) : Int := max (sS (tlY g k (((m / 24 : Nat) : Int) + 1) ((m % 24 : Nat) : Int)) 11) (sS (tlN g k (((m / 24 : Nat) : Int) + 1) ((m % 24 : Nat) : Int)) 11)
def tlL (m : Nat) : Int := 100 * (((m / 24 : Nat) : Int) + 1) + ((m % 24 : Nat) : Int)
theorem tlV_e (g : Nat → Bool) (k : Int) (a t : Nat) (ht : t < 24) : tlV g k (24 * a + t) = max (sS (tlY g k ((a : Int) + 1) (t : Int)) 11) (sS (tlN g k ((a : Int) + 1) (t : Int)) 11) := by
  unfold tlV
  rw [show (24 * a + t) / 24 = a by omega, show (24 * a + t) % 24 = t by omega]
theorem tlL_e (a t : Nat) (ht : t < 24) : tlL (24 * a + t) = 100 * ((a : Int) + 1) + (t : Int) := by
  unfold tlL
  rw [show (24 * a + t) / 24 = a by omega, show (24 * a + t) % 24 = t by omega]
theorem tlV_rng (g : Nat → Bool) (k : Int) (m : Nat) : 0 ≤ tlV g k m ∧ tlV g k m ≤ 1000 := by
  unfold tlV
  have h1 := tlY_rng g k (((m / 24 : Nat) : Int) + 1) ((m % 24 : Nat) : Int) 11
  have h2 := tlN_rng g k (((m / 24 : Nat) : Int) + 1) ((m % 24 : Nat) : Int) 11
  omega
def gC (M : Mm) (f : Int) (p : Nat) : Bool := decide (1 ≤ p) && cbB (qC M) f (M 2 f) p (M 8 3).toNat
theorem whs_gC (M : Mm) (f : Int) : whs (qC M) f (M 2 f) (M 8 3).toNat = bS (gC M f) 11 := rfl
theorem gC_0 (M : Mm) (f : Int) : gC M f 0 = false := rfl
theorem gR_00 (M : Mm) (f : Int) : gR M f 0 = false := rfl
theorem tlY_g0 {g : Nat → Bool} (h : g 0 = false) (k s t : Int) : sS (tlY g k s t) 1 = 0 := by
  rw [sS_succ, tlY_0 (by rw [h]; decide)]; rfl
theorem tlN_g0 {g : Nat → Bool} (h : g 0 = false) (k s t : Int) : sS (tlN g k s t) 1 = 0 := by
  rw [sS_succ, tlN_0 (by rw [h]; decide)]; rfl
theorem am4_rngT (g : Nat → Bool) (k : Int) (n : Nat) (hn : n ≤ 240) : ((am4 tlL (tlV g k) n).1 = -1 ∧ (am4 tlL (tlV g k) n).2 = 1000000) ∨ (0 ≤ (am4 tlL (tlV g k) n).1 ∧ 0 ≤ (am4 tlL (tlV g k) n).2 ∧ (am4 tlL (tlV g k) n).2 ≤ 1000) := by
  induction n with
  | zero => exact Or.inl ⟨rfl, rfl⟩
  | succ n ih =>
    have h1 := ih (by omega)
    have h2 := tlV_rng g k n
    have h3 : 0 ≤ tlL n := by unfold tlL; omega
    rw [am4_succ]
    split
    · dsimp only; omega
    · omega
theorem c_fitting2 (f : Int) (M : Mm) (hI : HI M 1) (hf : 0 ≤ f ∧ f < M 1 0) : Ct 81 [vr 0, vi f] M (fun q0 M' => q0 = some (vi (bS (gC M f) 11)) ∧ M = M') := c_fitting f M hI hf
theorem r_whoseOf2 (f : Int) (M : Mm) (hI : RI M 0) (hS : ∀ n : Int, 0 ≤ n → n < M 65 40 → (1 ≤ M 65 (41 + 4 * n + 1) ∧ M 65 (41 + 4 * n + 1) ≤ 10) ∧ (0 ≤ M 65 (41 + 4 * n + 2) ∧ M 65 (41 + 4 * n + 2) ≤ 23)) (hf : 0 ≤ f ∧ f < M 65 0) : Ct 194 [vr 64, vi f] M (fun q0 M' => q0 = some (vi (bS (gR M f) 11)) ∧ M = M') := r_whoseOf f M hI hS hf
set_option maxRecDepth 100000 in
set_option maxHeartbeats 2000000 in
theorem cl_tell1 (f : Int) (M : Mm) (hI : HI M 1) (hf : 0 ≤ f ∧ f < M 1 0) (a : Nat) (ha : a < 10) {P : Option PV → Mm → Prop} (hk : ∀ (j7 j8 : Option PV), Hx 80 127 [some (vr 0), some (vi f), some (vi (bS (gC M f) 11)), some (vi (am4 tlL (tlV (gC M f) (M 2 f)) (24 * a + 24)).1), some (vi (dc (am4 tlL (tlV (gC M f) (M 2 f)) (24 * a + 24)).2)), some (vi ((a : Int) + 1)), some (vi 24), j7, j8] [] M P) : ∀ (kk : Nat) (t : Nat) (j7 : Option PV) (j8 : Option PV), t ≤ 24 → 24 - (t : Int) < (kk : Int) → Hx 80 46 [some (vr 0), some (vi f), some (vi (bS (gC M f) 11)), some (vi (am4 tlL (tlV (gC M f) (M 2 f)) (24 * a + t)).1), some (vi (dc (am4 tlL (tlV (gC M f) (M 2 f)) (24 * a + t)).2)), some (vi ((a : Int) + 1)), some (vi (t : Int)), j7, j8] [] M P := by
  intro kk
  induction kk with
  | zero => intro t j7 j8 _ hkk; exact absurd hkk (by omega)
  | succ kk ih =>
    intro t j7 j8 ht hkk
    obtain ⟨iF, iG, iK, iH, iFa, aF, aG, lS, lN, lM, rS, rN, rM, aK⟩ := (show (0 ≤ M 1 0 ∧ M 1 0 ≤ 3) ∧ (0 ≤ M 1 1 ∧ M 1 1 ≤ 6) ∧ (0 ≤ M 1 2 ∧ M 1 2 ≤ 8) ∧ (0 ≤ M 6 16 ∧ M 6 16 ≤ 9999) ∧ (0 ≤ M 6 15 ∧ M 6 15 ≤ 9000) ∧ (∀ f : Int, 0 ≤ f → f < M 1 0 → (0 ≤ M 2 f ∧ M 2 f ≤ 5) ∧ (1 ≤ M 6 (12 + f) ∧ M 6 (12 + f) ≤ 10)) ∧ (∀ i : Int, 0 ≤ i → i < M 1 1 → (0 ≤ M 3 i ∧ M 3 i ≤ 5) ∧ (1 ≤ M 4 i ∧ M 4 i ≤ 4) ∧ (0 ≤ M 5 i ∧ M 5 i < M 1 0) ∧ (0 ≤ M 6 i ∧ M 6 i ≤ 11) ∧ (0 ≤ M 6 (6 + i) ∧ M 6 (6 + i) ≤ 9)) ∧ (M 8 0 = 4 ∧ M 8 1 = 5 ∧ 0 ≤ M 8 3 ∧ M 8 3 ≤ 5) ∧ (M 10 0 = 3 ∧ M 10 1 = 6 ∧ 0 ≤ M 10 3 ∧ M 10 3 ≤ 6) ∧ (M 12 0 = 5 ∧ M 12 1 = 6 ∧ 0 ≤ M 12 3 ∧ M 12 3 ≤ 6) ∧ (∀ n : Int, 0 ≤ n → n < M 8 3 → (0 ≤ M 9 (n * 4 + 0) ∧ M 9 (n * 4 + 0) ≤ 2) ∧ (1 ≤ M 9 (n * 4 + 1) ∧ M 9 (n * 4 + 1) ≤ 10) ∧ (0 ≤ M 9 (n * 4 + 2) ∧ M 9 (n * 4 + 2) ≤ 23) ∧ (0 ≤ M 9 (n * 4 + 3) ∧ M 9 (n * 4 + 3) ≤ 1)) ∧ (∀ n : Int, 0 ≤ n → n < M 10 3 → (0 ≤ M 11 (n * 3 + 0) ∧ M 11 (n * 3 + 0) ≤ 2) ∧ (0 ≤ M 11 (n * 3 + 1) ∧ M 11 (n * 3 + 1) ≤ 23) ∧ (0 ≤ M 11 (n * 3 + 2) ∧ M 11 (n * 3 + 2) ≤ 9)) ∧ (∀ n : Int, 0 ≤ n → n < M 12 3 → (0 ≤ M 13 (n * 5 + 0) ∧ M 13 (n * 5 + 0) ≤ 5) ∧ (1 ≤ M 13 (n * 5 + 1) ∧ M 13 (n * 5 + 1) ≤ 4) ∧ (0 ≤ M 13 (n * 5 + 2) ∧ M 13 (n * 5 + 2) ≤ 9) ∧ (0 ≤ M 13 (n * 5 + 3) ∧ M 13 (n * 5 + 3) ≤ 23) ∧ (0 ≤ M 13 (n * 5 + 4) ∧ M 13 (n * 5 + 4) ≤ 9)) ∧ (∀ k : Int, 0 ≤ k → k < M 1 2 → (0 ≤ M 7 (k * 17 + 16) ∧ M 7 (k * 17 + 16) ≤ 9999) ∧ (0 ≤ M 7 (k * 17 + 15) ∧ M 7 (k * 17 + 15) ≤ 9000) ∧ (∀ f : Int, 0 ≤ f → f < M 1 0 → (1 ≤ M 7 (k * 17 + (12 + f)) ∧ M 7 (k * 17 + (12 + f)) ≤ 10)) ∧ (∀ i : Int, 0 ≤ i → i < M 1 1 → (0 ≤ M 7 (k * 17 + i) ∧ M 7 (k * 17 + i) ≤ 11) ∧ (0 ≤ M 7 (k * 17 + (6 + i)) ∧ M 7 (k * 17 + (6 + i)) ≤ 9))) from hI)
    have gF := aF f (by omega) (by omega)
    have bq := bcF_rng (k := M 2 f) (t := (t : Int))
    have q1 := and_rng (gC M f) ((a : Int) + 1) (bcF (M 2 f) (t : Int))
    have q2 := bS_rng (gC M f) 11
    have q3 := pop_Y (gC_0 M f) (M 2 f) ((a : Int) + 1) (t : Int)
    have q4 := pop_N (gC_0 M f) (M 2 f) ((a : Int) + 1) (t : Int)
    have q5 := tlY_rng (gC M f) (M 2 f) ((a : Int) + 1) (t : Int) 11
    have q6 := tlN_rng (gC M f) (M 2 f) ((a : Int) + 1) (t : Int) 11
    have am := am4_rngT (gC M f) (M 2 f) (24 * a + t) (by omega)
    have ad := dc_cases (am4 tlL (tlV (gC M f) (M 2 f)) (24 * a + t)).2
    have hV : t < 24 → tlV (gC M f) (M 2 f) (24 * a + t) = max (sS (tlY (gC M f) (M 2 f) ((a : Int) + 1) (t : Int)) 11) (sS (tlN (gC M f) (M 2 f) ((a : Int) + 1) (t : Int)) 11) := tlV_e _ _ a t
    have hL : t < 24 → tlL (24 * a + t) = 100 * ((a : Int) + 1) + (t : Int) := tlL_e a t
    have ddc : dc (tlV (gC M f) (M 2 f) (24 * a + t)) = tlV (gC M f) (M 2 f) (24 * a + t) := by
      have := dc_cases (tlV (gC M f) (M 2 f) (24 * a + t))
      have := tlV_rng (gC M f) (M 2 f) (24 * a + t)
      omega
    refine Hx.run 2 (pc' := 50) (L' := [some (vr 0), some (vi f), some (vi (bS (gC M f) 11)), some (vi (am4 tlL (tlV (gC M f) (M 2 f)) (24 * a + t)).1), some (vi (dc (am4 tlL (tlV (gC M f) (M 2 f)) (24 * a + t)).2)), some (vi ((a : Int) + 1)), some (vi (t : Int)), j7, j8]) (st' := [vi 24, vi (t : Int)]) (M' := M) rfl ?_
    refine Hx.br (c := (t : Int) < 24) (t := 53) (f := 127) rfl (fun h1 => ?_) (fun h1 => ?_)
    · skip
      refine Hx.run 5 (pc' := 61) (L' := [some (vr 0), some (vi f), some (vi (bS (gC M f) 11)), some (vi (am4 tlL (tlV (gC M f) (M 2 f)) (24 * a + t)).1), some (vi (dc (am4 tlL (tlV (gC M f) (M 2 f)) (24 * a + t)).2)), some (vi ((a : Int) + 1)), some (vi (t : Int)), j7, j8]) (st' := [vi f, vr 1, vi ((a : Int) + 1), vi (bS (gC M f) 11)]) (M' := M) rfl ?_
      refine Hx.call (t := 13) (as := [vr 1, vi f]) (pc' := 64) (rest := [vi ((a : Int) + 1), vi (bS (gC M f) 11)]) rfl (c_ownerKind_1 f (by omega) M) ?_
      rintro _ _ ⟨rfl, rfl⟩
      refine Hx.run 0 (pc' := 64) (L' := [some (vr 0), some (vi f), some (vi (bS (gC M f) 11)), some (vi (am4 tlL (tlV (gC M f) (M 2 f)) (24 * a + t)).1), some (vi (dc (am4 tlL (tlV (gC M f) (M 2 f)) (24 * a + t)).2)), some (vi ((a : Int) + 1)), some (vi (t : Int)), j7, j8]) (st' := [vi (M 2 f), vi ((a : Int) + 1), vi (bS (gC M f) 11)]) (M' := M) rfl ?_
      refine Hx.run 1 (pc' := 66) (L' := [some (vr 0), some (vi f), some (vi (bS (gC M f) 11)), some (vi (am4 tlL (tlV (gC M f) (M 2 f)) (24 * a + t)).1), some (vi (dc (am4 tlL (tlV (gC M f) (M 2 f)) (24 * a + t)).2)), some (vi ((a : Int) + 1)), some (vi (t : Int)), j7, j8]) (st' := [vi (t : Int), vi (M 2 f), vi ((a : Int) + 1), vi (bS (gC M f) 11)]) (M' := M) rfl ?_
      refine Hx.call (t := 124) (as := [vi (M 2 f), vi (t : Int)]) (pc' := 69) (rest := [vi ((a : Int) + 1), vi (bS (gC M f) 11)]) rfl (c_barCount (M 2 f) (t : Int) M (by omega) (by omega)) ?_
      rintro _ _ ⟨rfl, rfl⟩
      refine Hx.run 0 (pc' := 69) (L' := [some (vr 0), some (vi f), some (vi (bS (gC M f) 11)), some (vi (am4 tlL (tlV (gC M f) (M 2 f)) (24 * a + t)).1), some (vi (dc (am4 tlL (tlV (gC M f) (M 2 f)) (24 * a + t)).2)), some (vi ((a : Int) + 1)), some (vi (t : Int)), j7, j8]) (st' := [vi (bcF (M 2 f) (t : Int)), vi ((a : Int) + 1), vi (bS (gC M f) 11)]) (M' := M) rfl ?_
      refine Hx.call (t := 126) (as := [vi ((a : Int) + 1), vi (bcF (M 2 f) (t : Int))]) (pc' := 72) (rest := [vi (bS (gC M f) 11)]) rfl (c_ownersBarring ((a : Int) + 1) (bcF (M 2 f) (t : Int)) M (by omega) (by omega)) ?_
      rintro _ _ ⟨rfl, rfl⟩
      refine Hx.run 0 (pc' := 72) (L' := [some (vr 0), some (vi f), some (vi (bS (gC M f) 11)), some (vi (am4 tlL (tlV (gC M f) (M 2 f)) (24 * a + t)).1), some (vi (dc (am4 tlL (tlV (gC M f) (M 2 f)) (24 * a + t)).2)), some (vi ((a : Int) + 1)), some (vi (t : Int)), j7, j8]) (st' := [vi (ob ((a : Int) + 1) (bcF (M 2 f) (t : Int))), vi (bS (gC M f) 11)]) (M' := M) rfl ?_
      refine Hx.run 1 (pc' := 73) (L' := [some (vr 0), some (vi f), some (vi (bS (gC M f) 11)), some (vi (am4 tlL (tlV (gC M f) (M 2 f)) (24 * a + t)).1), some (vi (dc (am4 tlL (tlV (gC M f) (M 2 f)) (24 * a + t)).2)), some (vi ((a : Int) + 1)), some (vi (t : Int)), j7, j8]) (st' := [vi (i2 fand (bS (gC M f) 11) (ob ((a : Int) + 1) (bcF (M 2 f) (t : Int))))]) (M' := M) rfl ?_
      refine Hx.call (t := 223) (as := [vi (i2 fand (bS (gC M f) 11) (ob ((a : Int) + 1) (bcF (M 2 f) (t : Int))))]) (pc' := 76) (rest := []) rfl (c_bitCount (i2 fand (bS (gC M f) 11) (ob ((a : Int) + 1) (bcF (M 2 f) (t : Int)))) M (by omega)) ?_
      rintro _ _ ⟨rfl, rfl⟩
      refine Hx.run 0 (pc' := 76) (L' := [some (vr 0), some (vi f), some (vi (bS (gC M f) 11)), some (vi (am4 tlL (tlV (gC M f) (M 2 f)) (24 * a + t)).1), some (vi (dc (am4 tlL (tlV (gC M f) (M 2 f)) (24 * a + t)).2)), some (vi ((a : Int) + 1)), some (vi (t : Int)), j7, j8]) (st' := [vi (pop (i2 fand (bS (gC M f) 11) (ob ((a : Int) + 1) (bcF (M 2 f) (t : Int)))))]) (M' := M) rfl ?_
      refine Hx.run 3 (pc' := 81) (L' := [some (vr 0), some (vi f), some (vi (bS (gC M f) 11)), some (vi (am4 tlL (tlV (gC M f) (M 2 f)) (24 * a + t)).1), some (vi (dc (am4 tlL (tlV (gC M f) (M 2 f)) (24 * a + t)).2)), some (vi ((a : Int) + 1)), some (vi (t : Int)), some (vi (pop (i2 fand (bS (gC M f) 11) (ob ((a : Int) + 1) (bcF (M 2 f) (t : Int)))))), j8]) (st' := [vi (bS (gC M f) 11), vi (pop (i2 fand (bS (gC M f) 11) (ob ((a : Int) + 1) (bcF (M 2 f) (t : Int)))))]) (M' := M) rfl ?_
      refine Hx.call (t := 223) (as := [vi (bS (gC M f) 11)]) (pc' := 84) (rest := [vi (pop (i2 fand (bS (gC M f) 11) (ob ((a : Int) + 1) (bcF (M 2 f) (t : Int)))))]) rfl (c_bitCount (bS (gC M f) 11) M (by omega)) ?_
      rintro _ _ ⟨rfl, rfl⟩
      refine Hx.run 0 (pc' := 84) (L' := [some (vr 0), some (vi f), some (vi (bS (gC M f) 11)), some (vi (am4 tlL (tlV (gC M f) (M 2 f)) (24 * a + t)).1), some (vi (dc (am4 tlL (tlV (gC M f) (M 2 f)) (24 * a + t)).2)), some (vi ((a : Int) + 1)), some (vi (t : Int)), some (vi (pop (i2 fand (bS (gC M f) 11) (ob ((a : Int) + 1) (bcF (M 2 f) (t : Int)))))), j8]) (st' := [vi (pop (bS (gC M f) 11)), vi (pop (i2 fand (bS (gC M f) 11) (ob ((a : Int) + 1) (bcF (M 2 f) (t : Int)))))]) (M' := M) rfl ?_
      refine Hx.run 1 (pc' := 86) (L' := [some (vr 0), some (vi f), some (vi (bS (gC M f) 11)), some (vi (am4 tlL (tlV (gC M f) (M 2 f)) (24 * a + t)).1), some (vi (dc (am4 tlL (tlV (gC M f) (M 2 f)) (24 * a + t)).2)), some (vi ((a : Int) + 1)), some (vi (t : Int)), some (vi (pop (i2 fand (bS (gC M f) 11) (ob ((a : Int) + 1) (bcF (M 2 f) (t : Int)))))), j8]) (st' := [vi (pop (i2 fand (bS (gC M f) 11) (ob ((a : Int) + 1) (bcF (M 2 f) (t : Int))))), vi (pop (bS (gC M f) 11)), vi (pop (i2 fand (bS (gC M f) 11) (ob ((a : Int) + 1) (bcF (M 2 f) (t : Int)))))]) (M' := M) rfl ?_
      refine Hx.sub rfl (by omega) ?_
      refine Hx.call (t := 225) (as := [vi (pop (i2 fand (bS (gC M f) 11) (ob ((a : Int) + 1) (bcF (M 2 f) (t : Int))))), vi ((pop (bS (gC M f) 11)) - (pop (i2 fand (bS (gC M f) 11) (ob ((a : Int) + 1) (bcF (M 2 f) (t : Int))))))]) (pc' := 90) (rest := []) rfl (c_max (pop (i2 fand (bS (gC M f) 11) (ob ((a : Int) + 1) (bcF (M 2 f) (t : Int))))) ((pop (bS (gC M f) 11)) - (pop (i2 fand (bS (gC M f) 11) (ob ((a : Int) + 1) (bcF (M 2 f) (t : Int)))))) M) ?_
      rintro _ _ ⟨rfl, rfl⟩
      refine Hx.run 0 (pc' := 90) (L' := [some (vr 0), some (vi f), some (vi (bS (gC M f) 11)), some (vi (am4 tlL (tlV (gC M f) (M 2 f)) (24 * a + t)).1), some (vi (dc (am4 tlL (tlV (gC M f) (M 2 f)) (24 * a + t)).2)), some (vi ((a : Int) + 1)), some (vi (t : Int)), some (vi (pop (i2 fand (bS (gC M f) 11) (ob ((a : Int) + 1) (bcF (M 2 f) (t : Int)))))), j8]) (st' := [vi (max (pop (i2 fand (bS (gC M f) 11) (ob ((a : Int) + 1) (bcF (M 2 f) (t : Int))))) ((pop (bS (gC M f) 11)) - (pop (i2 fand (bS (gC M f) 11) (ob ((a : Int) + 1) (bcF (M 2 f) (t : Int)))))))]) (M' := M) rfl ?_
      refine Hx.run 3 (pc' := 95) (L' := [some (vr 0), some (vi f), some (vi (bS (gC M f) 11)), some (vi (am4 tlL (tlV (gC M f) (M 2 f)) (24 * a + t)).1), some (vi (dc (am4 tlL (tlV (gC M f) (M 2 f)) (24 * a + t)).2)), some (vi ((a : Int) + 1)), some (vi (t : Int)), some (vi (pop (i2 fand (bS (gC M f) 11) (ob ((a : Int) + 1) (bcF (M 2 f) (t : Int)))))), some (vi (max (pop (i2 fand (bS (gC M f) 11) (ob ((a : Int) + 1) (bcF (M 2 f) (t : Int))))) ((pop (bS (gC M f) 11)) - (pop (i2 fand (bS (gC M f) 11) (ob ((a : Int) + 1) (bcF (M 2 f) (t : Int))))))))]) (st' := [vi (-1), vi (dc (am4 tlL (tlV (gC M f) (M 2 f)) (24 * a + t)).2)]) (M' := M) rfl ?_
      refine Hx.br (c := (dc (am4 tlL (tlV (gC M f) (M 2 f)) (24 * a + t)).2) = (-1)) (t := 108) (f := 98) rfl (fun h2 => ?_) (fun h2 => ?_)
      · skip
        refine Hx.run 4 (pc' := 116) (L' := [some (vr 0), some (vi f), some (vi (bS (gC M f) 11)), some (vi (am4 tlL (tlV (gC M f) (M 2 f)) (24 * a + t)).1), some (vi (max (pop (i2 fand (bS (gC M f) 11) (ob ((a : Int) + 1) (bcF (M 2 f) (t : Int))))) ((pop (bS (gC M f) 11)) - (pop (i2 fand (bS (gC M f) 11) (ob ((a : Int) + 1) (bcF (M 2 f) (t : Int)))))))), some (vi ((a : Int) + 1)), some (vi (t : Int)), some (vi (pop (i2 fand (bS (gC M f) 11) (ob ((a : Int) + 1) (bcF (M 2 f) (t : Int)))))), some (vi (max (pop (i2 fand (bS (gC M f) 11) (ob ((a : Int) + 1) (bcF (M 2 f) (t : Int))))) ((pop (bS (gC M f) 11)) - (pop (i2 fand (bS (gC M f) 11) (ob ((a : Int) + 1) (bcF (M 2 f) (t : Int))))))))]) (st' := [vi ((a : Int) + 1), vi 100]) (M' := M) rfl ?_
        refine Hx.mul rfl (by omega) ?_
        refine Hx.run 1 (pc' := 119) (L' := [some (vr 0), some (vi f), some (vi (bS (gC M f) 11)), some (vi (am4 tlL (tlV (gC M f) (M 2 f)) (24 * a + t)).1), some (vi (max (pop (i2 fand (bS (gC M f) 11) (ob ((a : Int) + 1) (bcF (M 2 f) (t : Int))))) ((pop (bS (gC M f) 11)) - (pop (i2 fand (bS (gC M f) 11) (ob ((a : Int) + 1) (bcF (M 2 f) (t : Int)))))))), some (vi ((a : Int) + 1)), some (vi (t : Int)), some (vi (pop (i2 fand (bS (gC M f) 11) (ob ((a : Int) + 1) (bcF (M 2 f) (t : Int)))))), some (vi (max (pop (i2 fand (bS (gC M f) 11) (ob ((a : Int) + 1) (bcF (M 2 f) (t : Int))))) ((pop (bS (gC M f) 11)) - (pop (i2 fand (bS (gC M f) 11) (ob ((a : Int) + 1) (bcF (M 2 f) (t : Int))))))))]) (st' := [vi (t : Int), vi (100 * ((a : Int) + 1))]) (M' := M) rfl ?_
        refine Hx.add rfl (by omega) ?_
        refine Hx.run 1 (pc' := 121) (L' := [some (vr 0), some (vi f), some (vi (bS (gC M f) 11)), some (vi ((100 * ((a : Int) + 1)) + (t : Int))), some (vi (max (pop (i2 fand (bS (gC M f) 11) (ob ((a : Int) + 1) (bcF (M 2 f) (t : Int))))) ((pop (bS (gC M f) 11)) - (pop (i2 fand (bS (gC M f) 11) (ob ((a : Int) + 1) (bcF (M 2 f) (t : Int)))))))), some (vi ((a : Int) + 1)), some (vi (t : Int)), some (vi (pop (i2 fand (bS (gC M f) 11) (ob ((a : Int) + 1) (bcF (M 2 f) (t : Int)))))), some (vi (max (pop (i2 fand (bS (gC M f) 11) (ob ((a : Int) + 1) (bcF (M 2 f) (t : Int))))) ((pop (bS (gC M f) 11)) - (pop (i2 fand (bS (gC M f) 11) (ob ((a : Int) + 1) (bcF (M 2 f) (t : Int))))))))]) (st' := []) (M' := M) rfl ?_
        refine Hx.inc rfl rfl (by omega) ?_
        refine Hx.run 0 (pc' := 124) (L' := [some (vr 0), some (vi f), some (vi (bS (gC M f) 11)), some (vi ((100 * ((a : Int) + 1)) + (t : Int))), some (vi (max (pop (i2 fand (bS (gC M f) 11) (ob ((a : Int) + 1) (bcF (M 2 f) (t : Int))))) ((pop (bS (gC M f) 11)) - (pop (i2 fand (bS (gC M f) 11) (ob ((a : Int) + 1) (bcF (M 2 f) (t : Int)))))))), some (vi ((a : Int) + 1)), some (vi ((t : Int) + 1)), some (vi (pop (i2 fand (bS (gC M f) 11) (ob ((a : Int) + 1) (bcF (M 2 f) (t : Int)))))), some (vi (max (pop (i2 fand (bS (gC M f) 11) (ob ((a : Int) + 1) (bcF (M 2 f) (t : Int))))) ((pop (bS (gC M f) 11)) - (pop (i2 fand (bS (gC M f) 11) (ob ((a : Int) + 1) (bcF (M 2 f) (t : Int))))))))]) (st' := []) (M' := M) rfl ?_
        refine Hx.run 1 (pc' := 46) (L' := [some (vr 0), some (vi f), some (vi (bS (gC M f) 11)), some (vi ((100 * ((a : Int) + 1)) + (t : Int))), some (vi (max (pop (i2 fand (bS (gC M f) 11) (ob ((a : Int) + 1) (bcF (M 2 f) (t : Int))))) ((pop (bS (gC M f) 11)) - (pop (i2 fand (bS (gC M f) 11) (ob ((a : Int) + 1) (bcF (M 2 f) (t : Int)))))))), some (vi ((a : Int) + 1)), some (vi ((t : Int) + 1)), some (vi (pop (i2 fand (bS (gC M f) 11) (ob ((a : Int) + 1) (bcF (M 2 f) (t : Int)))))), some (vi (max (pop (i2 fand (bS (gC M f) 11) (ob ((a : Int) + 1) (bcF (M 2 f) (t : Int))))) ((pop (bS (gC M f) 11)) - (pop (i2 fand (bS (gC M f) 11) (ob ((a : Int) + 1) (bcF (M 2 f) (t : Int))))))))]) (st' := []) (M' := M) rfl ?_
        have e1 : (am4 tlL (tlV (gC M f) (M 2 f)) (24 * a + (t + 1))).1 = ((100 * ((a : Int) + 1)) + (t : Int)) := by rw [show 24 * a + (t + 1) = 24 * a + t + 1 from rfl, am4_succ]; split <;> first | rfl | omega | (dsimp only; omega)
        have e2 : dc (am4 tlL (tlV (gC M f) (M 2 f)) (24 * a + (t + 1))).2 = (max (pop (i2 fand (bS (gC M f) 11) (ob ((a : Int) + 1) (bcF (M 2 f) (t : Int))))) ((pop (bS (gC M f) 11)) - (pop (i2 fand (bS (gC M f) 11) (ob ((a : Int) + 1) (bcF (M 2 f) (t : Int))))))) := by rw [show 24 * a + (t + 1) = 24 * a + t + 1 from rfl, am4_succ]; split <;> first | rfl | omega | (dsimp only; omega)
        have h9 := ih (t + 1) (some (vi (pop (i2 fand (bS (gC M f) 11) (ob ((a : Int) + 1) (bcF (M 2 f) (t : Int))))))) (some (vi (max (pop (i2 fand (bS (gC M f) 11) (ob ((a : Int) + 1) (bcF (M 2 f) (t : Int))))) ((pop (bS (gC M f) 11)) - (pop (i2 fand (bS (gC M f) 11) (ob ((a : Int) + 1) (bcF (M 2 f) (t : Int))))))))) (by omega) (by omega)
        rw [e1, e2] at h9
        exact h9
      · skip
        refine Hx.run 2 (pc' := 102) (L' := [some (vr 0), some (vi f), some (vi (bS (gC M f) 11)), some (vi (am4 tlL (tlV (gC M f) (M 2 f)) (24 * a + t)).1), some (vi (dc (am4 tlL (tlV (gC M f) (M 2 f)) (24 * a + t)).2)), some (vi ((a : Int) + 1)), some (vi (t : Int)), some (vi (pop (i2 fand (bS (gC M f) 11) (ob ((a : Int) + 1) (bcF (M 2 f) (t : Int)))))), some (vi (max (pop (i2 fand (bS (gC M f) 11) (ob ((a : Int) + 1) (bcF (M 2 f) (t : Int))))) ((pop (bS (gC M f) 11)) - (pop (i2 fand (bS (gC M f) 11) (ob ((a : Int) + 1) (bcF (M 2 f) (t : Int))))))))]) (st' := [vi (dc (am4 tlL (tlV (gC M f) (M 2 f)) (24 * a + t)).2), vi (max (pop (i2 fand (bS (gC M f) 11) (ob ((a : Int) + 1) (bcF (M 2 f) (t : Int))))) ((pop (bS (gC M f) 11)) - (pop (i2 fand (bS (gC M f) 11) (ob ((a : Int) + 1) (bcF (M 2 f) (t : Int)))))))]) (M' := M) rfl ?_
        refine Hx.br (c := (max (pop (i2 fand (bS (gC M f) 11) (ob ((a : Int) + 1) (bcF (M 2 f) (t : Int))))) ((pop (bS (gC M f) 11)) - (pop (i2 fand (bS (gC M f) 11) (ob ((a : Int) + 1) (bcF (M 2 f) (t : Int))))))) < (dc (am4 tlL (tlV (gC M f) (M 2 f)) (24 * a + t)).2)) (t := 108) (f := 105) rfl (fun h3 => ?_) (fun h3 => ?_)
        · skip
          refine Hx.run 4 (pc' := 116) (L' := [some (vr 0), some (vi f), some (vi (bS (gC M f) 11)), some (vi (am4 tlL (tlV (gC M f) (M 2 f)) (24 * a + t)).1), some (vi (max (pop (i2 fand (bS (gC M f) 11) (ob ((a : Int) + 1) (bcF (M 2 f) (t : Int))))) ((pop (bS (gC M f) 11)) - (pop (i2 fand (bS (gC M f) 11) (ob ((a : Int) + 1) (bcF (M 2 f) (t : Int)))))))), some (vi ((a : Int) + 1)), some (vi (t : Int)), some (vi (pop (i2 fand (bS (gC M f) 11) (ob ((a : Int) + 1) (bcF (M 2 f) (t : Int)))))), some (vi (max (pop (i2 fand (bS (gC M f) 11) (ob ((a : Int) + 1) (bcF (M 2 f) (t : Int))))) ((pop (bS (gC M f) 11)) - (pop (i2 fand (bS (gC M f) 11) (ob ((a : Int) + 1) (bcF (M 2 f) (t : Int))))))))]) (st' := [vi ((a : Int) + 1), vi 100]) (M' := M) rfl ?_
          refine Hx.mul rfl (by omega) ?_
          refine Hx.run 1 (pc' := 119) (L' := [some (vr 0), some (vi f), some (vi (bS (gC M f) 11)), some (vi (am4 tlL (tlV (gC M f) (M 2 f)) (24 * a + t)).1), some (vi (max (pop (i2 fand (bS (gC M f) 11) (ob ((a : Int) + 1) (bcF (M 2 f) (t : Int))))) ((pop (bS (gC M f) 11)) - (pop (i2 fand (bS (gC M f) 11) (ob ((a : Int) + 1) (bcF (M 2 f) (t : Int)))))))), some (vi ((a : Int) + 1)), some (vi (t : Int)), some (vi (pop (i2 fand (bS (gC M f) 11) (ob ((a : Int) + 1) (bcF (M 2 f) (t : Int)))))), some (vi (max (pop (i2 fand (bS (gC M f) 11) (ob ((a : Int) + 1) (bcF (M 2 f) (t : Int))))) ((pop (bS (gC M f) 11)) - (pop (i2 fand (bS (gC M f) 11) (ob ((a : Int) + 1) (bcF (M 2 f) (t : Int))))))))]) (st' := [vi (t : Int), vi (100 * ((a : Int) + 1))]) (M' := M) rfl ?_
          refine Hx.add rfl (by omega) ?_
          refine Hx.run 1 (pc' := 121) (L' := [some (vr 0), some (vi f), some (vi (bS (gC M f) 11)), some (vi ((100 * ((a : Int) + 1)) + (t : Int))), some (vi (max (pop (i2 fand (bS (gC M f) 11) (ob ((a : Int) + 1) (bcF (M 2 f) (t : Int))))) ((pop (bS (gC M f) 11)) - (pop (i2 fand (bS (gC M f) 11) (ob ((a : Int) + 1) (bcF (M 2 f) (t : Int)))))))), some (vi ((a : Int) + 1)), some (vi (t : Int)), some (vi (pop (i2 fand (bS (gC M f) 11) (ob ((a : Int) + 1) (bcF (M 2 f) (t : Int)))))), some (vi (max (pop (i2 fand (bS (gC M f) 11) (ob ((a : Int) + 1) (bcF (M 2 f) (t : Int))))) ((pop (bS (gC M f) 11)) - (pop (i2 fand (bS (gC M f) 11) (ob ((a : Int) + 1) (bcF (M 2 f) (t : Int))))))))]) (st' := []) (M' := M) rfl ?_
          refine Hx.inc rfl rfl (by omega) ?_
          refine Hx.run 0 (pc' := 124) (L' := [some (vr 0), some (vi f), some (vi (bS (gC M f) 11)), some (vi ((100 * ((a : Int) + 1)) + (t : Int))), some (vi (max (pop (i2 fand (bS (gC M f) 11) (ob ((a : Int) + 1) (bcF (M 2 f) (t : Int))))) ((pop (bS (gC M f) 11)) - (pop (i2 fand (bS (gC M f) 11) (ob ((a : Int) + 1) (bcF (M 2 f) (t : Int)))))))), some (vi ((a : Int) + 1)), some (vi ((t : Int) + 1)), some (vi (pop (i2 fand (bS (gC M f) 11) (ob ((a : Int) + 1) (bcF (M 2 f) (t : Int)))))), some (vi (max (pop (i2 fand (bS (gC M f) 11) (ob ((a : Int) + 1) (bcF (M 2 f) (t : Int))))) ((pop (bS (gC M f) 11)) - (pop (i2 fand (bS (gC M f) 11) (ob ((a : Int) + 1) (bcF (M 2 f) (t : Int))))))))]) (st' := []) (M' := M) rfl ?_
          refine Hx.run 1 (pc' := 46) (L' := [some (vr 0), some (vi f), some (vi (bS (gC M f) 11)), some (vi ((100 * ((a : Int) + 1)) + (t : Int))), some (vi (max (pop (i2 fand (bS (gC M f) 11) (ob ((a : Int) + 1) (bcF (M 2 f) (t : Int))))) ((pop (bS (gC M f) 11)) - (pop (i2 fand (bS (gC M f) 11) (ob ((a : Int) + 1) (bcF (M 2 f) (t : Int)))))))), some (vi ((a : Int) + 1)), some (vi ((t : Int) + 1)), some (vi (pop (i2 fand (bS (gC M f) 11) (ob ((a : Int) + 1) (bcF (M 2 f) (t : Int)))))), some (vi (max (pop (i2 fand (bS (gC M f) 11) (ob ((a : Int) + 1) (bcF (M 2 f) (t : Int))))) ((pop (bS (gC M f) 11)) - (pop (i2 fand (bS (gC M f) 11) (ob ((a : Int) + 1) (bcF (M 2 f) (t : Int))))))))]) (st' := []) (M' := M) rfl ?_
          have e1 : (am4 tlL (tlV (gC M f) (M 2 f)) (24 * a + (t + 1))).1 = ((100 * ((a : Int) + 1)) + (t : Int)) := by rw [show 24 * a + (t + 1) = 24 * a + t + 1 from rfl, am4_succ]; split <;> first | rfl | omega | (dsimp only; omega)
          have e2 : dc (am4 tlL (tlV (gC M f) (M 2 f)) (24 * a + (t + 1))).2 = (max (pop (i2 fand (bS (gC M f) 11) (ob ((a : Int) + 1) (bcF (M 2 f) (t : Int))))) ((pop (bS (gC M f) 11)) - (pop (i2 fand (bS (gC M f) 11) (ob ((a : Int) + 1) (bcF (M 2 f) (t : Int))))))) := by rw [show 24 * a + (t + 1) = 24 * a + t + 1 from rfl, am4_succ]; split <;> first | rfl | omega | (dsimp only; omega)
          have h9 := ih (t + 1) (some (vi (pop (i2 fand (bS (gC M f) 11) (ob ((a : Int) + 1) (bcF (M 2 f) (t : Int))))))) (some (vi (max (pop (i2 fand (bS (gC M f) 11) (ob ((a : Int) + 1) (bcF (M 2 f) (t : Int))))) ((pop (bS (gC M f) 11)) - (pop (i2 fand (bS (gC M f) 11) (ob ((a : Int) + 1) (bcF (M 2 f) (t : Int))))))))) (by omega) (by omega)
          rw [e1, e2] at h9
          exact h9
        · skip
          refine Hx.run 1 (pc' := 121) (L' := [some (vr 0), some (vi f), some (vi (bS (gC M f) 11)), some (vi (am4 tlL (tlV (gC M f) (M 2 f)) (24 * a + t)).1), some (vi (dc (am4 tlL (tlV (gC M f) (M 2 f)) (24 * a + t)).2)), some (vi ((a : Int) + 1)), some (vi (t : Int)), some (vi (pop (i2 fand (bS (gC M f) 11) (ob ((a : Int) + 1) (bcF (M 2 f) (t : Int)))))), some (vi (max (pop (i2 fand (bS (gC M f) 11) (ob ((a : Int) + 1) (bcF (M 2 f) (t : Int))))) ((pop (bS (gC M f) 11)) - (pop (i2 fand (bS (gC M f) 11) (ob ((a : Int) + 1) (bcF (M 2 f) (t : Int))))))))]) (st' := []) (M' := M) rfl ?_
          refine Hx.inc rfl rfl (by omega) ?_
          refine Hx.run 0 (pc' := 124) (L' := [some (vr 0), some (vi f), some (vi (bS (gC M f) 11)), some (vi (am4 tlL (tlV (gC M f) (M 2 f)) (24 * a + t)).1), some (vi (dc (am4 tlL (tlV (gC M f) (M 2 f)) (24 * a + t)).2)), some (vi ((a : Int) + 1)), some (vi ((t : Int) + 1)), some (vi (pop (i2 fand (bS (gC M f) 11) (ob ((a : Int) + 1) (bcF (M 2 f) (t : Int)))))), some (vi (max (pop (i2 fand (bS (gC M f) 11) (ob ((a : Int) + 1) (bcF (M 2 f) (t : Int))))) ((pop (bS (gC M f) 11)) - (pop (i2 fand (bS (gC M f) 11) (ob ((a : Int) + 1) (bcF (M 2 f) (t : Int))))))))]) (st' := []) (M' := M) rfl ?_
          refine Hx.run 1 (pc' := 46) (L' := [some (vr 0), some (vi f), some (vi (bS (gC M f) 11)), some (vi (am4 tlL (tlV (gC M f) (M 2 f)) (24 * a + t)).1), some (vi (dc (am4 tlL (tlV (gC M f) (M 2 f)) (24 * a + t)).2)), some (vi ((a : Int) + 1)), some (vi ((t : Int) + 1)), some (vi (pop (i2 fand (bS (gC M f) 11) (ob ((a : Int) + 1) (bcF (M 2 f) (t : Int)))))), some (vi (max (pop (i2 fand (bS (gC M f) 11) (ob ((a : Int) + 1) (bcF (M 2 f) (t : Int))))) ((pop (bS (gC M f) 11)) - (pop (i2 fand (bS (gC M f) 11) (ob ((a : Int) + 1) (bcF (M 2 f) (t : Int))))))))]) (st' := []) (M' := M) rfl ?_
          have e1 : (am4 tlL (tlV (gC M f) (M 2 f)) (24 * a + (t + 1))).1 = (am4 tlL (tlV (gC M f) (M 2 f)) (24 * a + t)).1 := by rw [show 24 * a + (t + 1) = 24 * a + t + 1 from rfl, am4_succ]; split <;> first | rfl | omega | (dsimp only; omega)
          have e2 : dc (am4 tlL (tlV (gC M f) (M 2 f)) (24 * a + (t + 1))).2 = (dc (am4 tlL (tlV (gC M f) (M 2 f)) (24 * a + t)).2) := by rw [show 24 * a + (t + 1) = 24 * a + t + 1 from rfl, am4_succ]; split <;> first | rfl | omega | (dsimp only; omega)
          have h9 := ih (t + 1) (some (vi (pop (i2 fand (bS (gC M f) 11) (ob ((a : Int) + 1) (bcF (M 2 f) (t : Int))))))) (some (vi (max (pop (i2 fand (bS (gC M f) 11) (ob ((a : Int) + 1) (bcF (M 2 f) (t : Int))))) ((pop (bS (gC M f) 11)) - (pop (i2 fand (bS (gC M f) 11) (ob ((a : Int) + 1) (bcF (M 2 f) (t : Int))))))))) (by omega) (by omega)
          rw [e1, e2] at h9
          exact h9
    · skip
      refine Hx.run 0 (pc' := 127) (L' := [some (vr 0), some (vi f), some (vi (bS (gC M f) 11)), some (vi (am4 tlL (tlV (gC M f) (M 2 f)) (24 * a + t)).1), some (vi (dc (am4 tlL (tlV (gC M f) (M 2 f)) (24 * a + t)).2)), some (vi ((a : Int) + 1)), some (vi (t : Int)), j7, j8]) (st' := []) (M' := M) rfl ?_
      have e : t = 24 := by omega
      subst e
      exact hk j7 j8
set_option maxRecDepth 100000 in
theorem cl_tell2 (f : Int) (M : Mm) (hI : HI M 1) (hf : 0 ≤ f ∧ f < M 1 0) : ∀ (kk : Nat) (a : Nat) (j6 : Option PV) (j7 : Option PV) (j8 : Option PV), a ≤ 10 → 10 - (a : Int) < (kk : Int) → Hx 80 36 [some (vr 0), some (vi f), some (vi (bS (gC M f) 11)), some (vi (am4 tlL (tlV (gC M f) (M 2 f)) (24 * a)).1), some (vi (dc (am4 tlL (tlV (gC M f) (M 2 f)) (24 * a)).2)), some (vi ((a : Int) + 1)), j6, j7, j8] [] M (fun q0 M' => q0 = some (vi (am4 tlL (tlV (gC M f) (M 2 f)) 240).1) ∧ M = M') := by
  intro kk
  induction kk with
  | zero => intro a j6 j7 j8 _ hkk; exact absurd hkk (by omega)
  | succ kk ih =>
    intro a j6 j7 j8 ha hkk
    refine Hx.run 2 (pc' := 40) (L' := [some (vr 0), some (vi f), some (vi (bS (gC M f) 11)), some (vi (am4 tlL (tlV (gC M f) (M 2 f)) (24 * a)).1), some (vi (dc (am4 tlL (tlV (gC M f) (M 2 f)) (24 * a)).2)), some (vi ((a : Int) + 1)), j6, j7, j8]) (st' := [vi 10, vi ((a : Int) + 1)]) (M' := M) rfl ?_
    refine Hx.br (c := 10 < ((a : Int) + 1)) (t := 133) (f := 43) rfl (fun h1 => ?_) (fun h1 => ?_)
    · skip
      refine Hx.run 1 (pc' := 134) (L' := [some (vr 0), some (vi f), some (vi (bS (gC M f) 11)), some (vi (am4 tlL (tlV (gC M f) (M 2 f)) (24 * a)).1), some (vi (dc (am4 tlL (tlV (gC M f) (M 2 f)) (24 * a)).2)), some (vi ((a : Int) + 1)), j6, j7, j8]) (st' := [vi (am4 tlL (tlV (gC M f) (M 2 f)) (24 * a)).1]) (M' := M) rfl ?_
      refine Hx.ret rfl ?_
      have e : a = 10 := by omega
      subst e
      exact ⟨rfl, rfl⟩
    · skip
      refine Hx.run 2 (pc' := 46) (L' := [some (vr 0), some (vi f), some (vi (bS (gC M f) 11)), some (vi (am4 tlL (tlV (gC M f) (M 2 f)) (24 * a)).1), some (vi (dc (am4 tlL (tlV (gC M f) (M 2 f)) (24 * a)).2)), some (vi ((a : Int) + 1)), some (vi 0), j7, j8]) (st' := []) (M' := M) rfl ?_
      refine cl_tell1 f M hI hf a (by omega) (fun k7 k8 => ?_) 30 0 j7 j8 (by omega) (by omega)
      refine Hx.inc rfl rfl (by omega) ?_
      refine Hx.run 0 (pc' := 130) (L' := [some (vr 0), some (vi f), some (vi (bS (gC M f) 11)), some (vi (am4 tlL (tlV (gC M f) (M 2 f)) (24 * a + 24)).1), some (vi (dc (am4 tlL (tlV (gC M f) (M 2 f)) (24 * a + 24)).2)), some (vi (((a : Int) + 1) + 1)), some (vi 24), k7, k8]) (st' := []) (M' := M) rfl ?_
      refine Hx.run 1 (pc' := 36) (L' := [some (vr 0), some (vi f), some (vi (bS (gC M f) 11)), some (vi (am4 tlL (tlV (gC M f) (M 2 f)) (24 * a + 24)).1), some (vi (dc (am4 tlL (tlV (gC M f) (M 2 f)) (24 * a + 24)).2)), some (vi (((a : Int) + 1) + 1)), some (vi 24), k7, k8]) (st' := []) (M' := M) rfl ?_
      exact ih (a + 1) (some (vi 24)) k7 k8 (by omega) (by omega)
set_option maxRecDepth 100000 in
theorem C_tell (f : Int) (M : Mm) (hI : HI M 1) (hs : (0 ≤ M 0 14 ∧ M 0 14 ≤ 600) ∧ (0 ≤ M 0 15 ∧ M 0 15 ≤ 600) ∧ (0 ≤ M 0 16 ∧ M 0 16 ≤ 600)) : Ct 80 [vr 0, vi f] M (fun q0 M' => (¬ (0 ≤ f ∧ f < M 1 0) ∧ q0 = some (vi (-2)) ∧ up M 0 14 (M 0 14 + 1) = M') ∨ ((0 ≤ f ∧ f < M 1 0) ∧ q0 = some (vi (if bS (gC M f) 11 = 0 then -1 else (am4 tlL (tlV (gC M f) (M 2 f)) 240).1)) ∧ M = M')) := by
  obtain ⟨iF, iG, iK, iH, iFa, aF, aG, lS, lN, lM, rS, rN, rM, aK⟩ := (show (0 ≤ M 1 0 ∧ M 1 0 ≤ 3) ∧ (0 ≤ M 1 1 ∧ M 1 1 ≤ 6) ∧ (0 ≤ M 1 2 ∧ M 1 2 ≤ 8) ∧ (0 ≤ M 6 16 ∧ M 6 16 ≤ 9999) ∧ (0 ≤ M 6 15 ∧ M 6 15 ≤ 9000) ∧ (∀ f : Int, 0 ≤ f → f < M 1 0 → (0 ≤ M 2 f ∧ M 2 f ≤ 5) ∧ (1 ≤ M 6 (12 + f) ∧ M 6 (12 + f) ≤ 10)) ∧ (∀ i : Int, 0 ≤ i → i < M 1 1 → (0 ≤ M 3 i ∧ M 3 i ≤ 5) ∧ (1 ≤ M 4 i ∧ M 4 i ≤ 4) ∧ (0 ≤ M 5 i ∧ M 5 i < M 1 0) ∧ (0 ≤ M 6 i ∧ M 6 i ≤ 11) ∧ (0 ≤ M 6 (6 + i) ∧ M 6 (6 + i) ≤ 9)) ∧ (M 8 0 = 4 ∧ M 8 1 = 5 ∧ 0 ≤ M 8 3 ∧ M 8 3 ≤ 5) ∧ (M 10 0 = 3 ∧ M 10 1 = 6 ∧ 0 ≤ M 10 3 ∧ M 10 3 ≤ 6) ∧ (M 12 0 = 5 ∧ M 12 1 = 6 ∧ 0 ≤ M 12 3 ∧ M 12 3 ≤ 6) ∧ (∀ n : Int, 0 ≤ n → n < M 8 3 → (0 ≤ M 9 (n * 4 + 0) ∧ M 9 (n * 4 + 0) ≤ 2) ∧ (1 ≤ M 9 (n * 4 + 1) ∧ M 9 (n * 4 + 1) ≤ 10) ∧ (0 ≤ M 9 (n * 4 + 2) ∧ M 9 (n * 4 + 2) ≤ 23) ∧ (0 ≤ M 9 (n * 4 + 3) ∧ M 9 (n * 4 + 3) ≤ 1)) ∧ (∀ n : Int, 0 ≤ n → n < M 10 3 → (0 ≤ M 11 (n * 3 + 0) ∧ M 11 (n * 3 + 0) ≤ 2) ∧ (0 ≤ M 11 (n * 3 + 1) ∧ M 11 (n * 3 + 1) ≤ 23) ∧ (0 ≤ M 11 (n * 3 + 2) ∧ M 11 (n * 3 + 2) ≤ 9)) ∧ (∀ n : Int, 0 ≤ n → n < M 12 3 → (0 ≤ M 13 (n * 5 + 0) ∧ M 13 (n * 5 + 0) ≤ 5) ∧ (1 ≤ M 13 (n * 5 + 1) ∧ M 13 (n * 5 + 1) ≤ 4) ∧ (0 ≤ M 13 (n * 5 + 2) ∧ M 13 (n * 5 + 2) ≤ 9) ∧ (0 ≤ M 13 (n * 5 + 3) ∧ M 13 (n * 5 + 3) ≤ 23) ∧ (0 ≤ M 13 (n * 5 + 4) ∧ M 13 (n * 5 + 4) ≤ 9)) ∧ (∀ k : Int, 0 ≤ k → k < M 1 2 → (0 ≤ M 7 (k * 17 + 16) ∧ M 7 (k * 17 + 16) ≤ 9999) ∧ (0 ≤ M 7 (k * 17 + 15) ∧ M 7 (k * 17 + 15) ≤ 9000) ∧ (∀ f : Int, 0 ≤ f → f < M 1 0 → (1 ≤ M 7 (k * 17 + (12 + f)) ∧ M 7 (k * 17 + (12 + f)) ≤ 10)) ∧ (∀ i : Int, 0 ≤ i → i < M 1 1 → (0 ≤ M 7 (k * 17 + i) ∧ M 7 (k * 17 + i) ≤ 11) ∧ (0 ≤ M 7 (k * 17 + (6 + i)) ∧ M 7 (k * 17 + (6 + i)) ≤ 9))) from hI)
  refine Hx.run 3 (pc' := 5) (L' := [some (vr 0), some (vi f), none, none, none, none, none, none, none]) (st' := [vi f, vr 1]) (M' := M) rfl ?_
  refine Hx.call (t := 7) (as := [vr 1, vi f]) (pc' := 8) (rest := []) rfl (c_hasFlight_1 f M) ?_
  rintro _ _ (⟨q109, rfl, rfl⟩ | ⟨q109, rfl, rfl⟩)
  · skip
    have fq109 := aF f q109.1 q109.2
    refine Hx.run 3 (pc' := 18) (L' := [some (vr 0), some (vi f), none, none, none, none, none, none, none]) (st' := [vi f, vr 0]) (M' := M) rfl ?_
    refine Hx.call (t := 81) (as := [vr 0, vi f]) (pc' := 21) (rest := []) rfl (c_fitting2 f M hI (by omega)) ?_
    rintro _ _ ⟨rfl, rfl⟩
    refine Hx.run 0 (pc' := 21) (L' := [some (vr 0), some (vi f), none, none, none, none, none, none, none]) (st' := [vi (bS (gC M f) 11)]) (M' := M) rfl ?_
    refine Hx.run 2 (pc' := 23) (L' := [some (vr 0), some (vi f), some (vi (bS (gC M f) 11)), none, none, none, none, none, none]) (st' := [vi (bS (gC M f) 11)]) (M' := M) rfl ?_
    refine Hx.br (c := (bS (gC M f) 11) = 0) (t := 26) (f := 28) rfl (fun h1 => ?_) (fun h1 => ?_)
    · skip
      refine Hx.run 1 (pc' := 27) (L' := [some (vr 0), some (vi f), some (vi (bS (gC M f) 11)), none, none, none, none, none, none]) (st' := [vi (-1)]) (M' := M) rfl ?_
      refine Hx.ret rfl ?_
      first | exact Or.inl ⟨by omega, rfl, rfl⟩ | exact Or.inr ⟨by omega, by rw [if_pos (by assumption)], rfl⟩
    · skip
      refine Hx.run 6 (pc' := 36) (L' := [some (vr 0), some (vi f), some (vi (bS (gC M f) 11)), some (vi (-1)), some (vi (-1)), some (vi 1), none, none, none]) (st' := []) (M' := M) rfl ?_
      have h0 := cl_tell2 f M hI (by omega) 20 0 none none none (by omega) (by omega)
      rw [show dc (am4 tlL (tlV (gC M f) (M 2 f)) (24 * 0)).2 = -1 from rfl, show (am4 tlL (tlV (gC M f) (M 2 f)) (24 * 0)).1 = -1 from rfl] at h0
      exact Hx.imp h0 (fun r M' h => Or.inr ⟨by omega, by rw [if_neg (by assumption)]; exact h.1, h.2⟩)
  · skip
    refine Hx.run 2 (pc' := 12) (L' := [some (vr 0), some (vi f), none, none, none, none, none, none, none]) (st' := [vr 0]) (M' := M) rfl ?_
    refine Hx.call (t := 114) (as := [vr 0]) (pc' := 15) (rest := []) rfl (c_bad M (by omega)) ?_
    rintro _ _ ⟨rfl, rfl⟩
    refine Hx.run 0 (pc' := 15) (L' := [some (vr 0), some (vi f), none, none, none, none, none, none, none]) (st' := [vi (-2)]) (M' := (up M 0 14 ((M 0 14) + 1))) rfl ?_
    refine Hx.ret rfl ?_
    first | exact Or.inl ⟨by omega, rfl, rfl⟩ | exact Or.inr ⟨by omega, by rw [if_pos (by assumption)], rfl⟩
