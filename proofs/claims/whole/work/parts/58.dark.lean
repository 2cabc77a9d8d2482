/-! dark of the class (written by wip/whole/gen58.py) -/
theorem p10 {k : Nat} (h : k ≤ 6) : (1 : Int) ≤ 10 ^ k ∧ (10 : Int) ^ k ≤ 1000000 := by
  rcases (show k = 0 ∨ k = 1 ∨ k = 2 ∨ k = 3 ∨ k = 4 ∨ k = 5 ∨ k = 6 by omega) with rfl | rfl | rfl | rfl | rfl | rfl | rfl <;> decide
theorem p10n {k : Nat} (h : k ≤ 6) : 1 ≤ 10 ^ k ∧ 10 ^ k ≤ 1000000 := by
  rcases (show k = 0 ∨ k = 1 ∨ k = 2 ∨ k = 3 ∨ k = 4 ∨ k = 5 ∨ k = 6 by omega) with rfl | rfl | rfl | rfl | rfl | rfl | rfl <;> decide
def frA (x y : Nat) : Int := (x : Int) / ((Nat.gcd x y : Nat) : Int)
def frB (x y : Nat) : Int := (y : Int) / ((Nat.gcd x y : Nat) : Int)
/-- the fraction that is told: X ways of Y -/
def DkR (far b p w c : Int) (X Y : Nat) : Prop := (1000000 ≤ TV far b p ∧ X = 0 ∧ Y = 1) ∨ (TV far b p < 1000000 ∧ ∃ (A : Int → Int) (m : Nat), RowP far b p A m ∧ (m : Int) = min w (TV far b p) ∧ (X : Int) = dW b c A m 0 p ∧ Y = 10 ^ m)
theorem RowP_one {far b p : Int} {A B : Int → Int} : ∀ n : Nat, RowP far b p A n → RowP far b p B n → (psum A n = psum B n) ∧ ∀ m : Nat, m < n → A m = B m
  | 0, _, _ => ⟨rfl, fun m hm => absurd hm (by omega)⟩
  | n + 1, h1, h2 => by
    obtain ⟨e1, e2⟩ := RowP_one n (fun m hm => h1 m (by omega)) (fun m hm => h2 m (by omega))
    have f1 := h1 n (by omega)
    have f2 := h2 n (by omega)
    rw [← e1] at f2
    have e3 := IsF_one f1 f2
    refine ⟨by rw [psum_succ, psum_succ, e1, e3], fun m hm => ?_⟩
    by_cases e : m = n
    · subst e; exact e3
    · exact e2 m (by omega)
theorem DkR_one {far b p w c : Int} {X Y X' Y' : Nat} (h : DkR far b p w c X Y) (h' : DkR far b p w c X' Y') : X = X' ∧ Y = Y' := by
  rcases h with ⟨a1, a2, a3⟩ | ⟨a1, A, m, a2, a3, a4, a5⟩
  · rcases h' with ⟨c1, c2, c3⟩ | ⟨c1, _⟩
    · omega
    · omega
  · rcases h' with ⟨c1, _⟩ | ⟨c1, B, m', c2, c3, c4, c5⟩
    · omega
    · have e : m' = m := by omega
      subst e
      have e2 := (RowP_one m' a2 c2).2
      rw [dW_congr (B := B) m' 0 (fun k _ hk => e2 k (by omega))] at a4
      exact ⟨by omega, by rw [a5, c5]⟩
theorem up_row {M : Mm} {r : Nat} {i v : Int} : up M r i v r = st1 (M r) i v := by
  funext j
  simp [up, st1]
theorem sr4 {M : Mm} {C D C2 D2 : Int → Int} : sr (sr (sr (sr M 62 C) 61 D) 62 C2) 61 D2 = sr (sr M 62 C2) 61 D2 := by
  funext a
  simp only [sr]
  split
  · rfl
  · split <;> simp_all
theorem c_strideIn (n : Int) (M : Mm) (hn : 0 ≤ n) (hl : M 53 2 ≤ 11) (hlt : n < M 53 2) : Ct 4 [vr 53, vi n] M (fun q0 M' => q0 = some (vi (M 55 n)) ∧ M = M') := by
  refine Ct.imp (c_strideAt_53 n M hn hl) ?_
  rintro q0 M' (⟨h1, h2, h3⟩ | ⟨h1, h2, h3⟩)
  · exact ⟨h2, h3⟩
  · exact absurd hlt h1
set_option maxRecDepth 100000 in
theorem cl_dark (i w c b : Int) (M : Mm) (m : Nat) (U : Int) (hw : 0 ≤ w ∧ w ≤ 6) (hc : 0 ≤ c ∧ c ≤ 10) (hb0 : 0 ≤ b ∧ b < 2048) (hlen : 0 ≤ M 53 2 ∧ M 53 2 ≤ 11) (hm : (m : Int) = min w (M 53 2)) (hA : ∀ k : Nat, k < m → 0 ≤ M 55 k ∧ M 55 k ≤ 11) {P : Option PV → Mm → Prop} (hk : ∀ C D : Int → Int, w12 D (fun _ => 1) = U → (∀ x, 0 ≤ x → x ≤ 11 → 0 ≤ D x) → w12 D (fun _ => 1) ≤ 1000000 → Hx 99 167 [some (vr 0), some (vi i), some (vi w), some (vi c), some (vi b), some (vi (10 ^ m)), some (vi (m : Int))] [] (sr (sr M 62 C) 61 D) P) : ∀ (kk : Nat) (k : Nat) (C : Int → Int) (D : Int → Int), k ≤ m → w12 D (dW b c (M 55) (m - k) k) = U → (∀ x, 0 ≤ x → x ≤ 11 → 0 ≤ D x) → w12 D (fun _ => 1) ≤ 10 ^ k → 7 - (k : Int) < (kk : Int) → Hx 99 120 [some (vr 0), some (vi i), some (vi w), some (vi c), some (vi b), some (vi (10 ^ k)), some (vi (k : Int))] [] (sr (sr M 62 C) 61 D) P := by
  intro kk
  induction kk with
  | zero => intro k C D _ _ _ _ hkk; exact absurd hkk (by omega)
  | succ kk ih =>
    intro k C D hkm hW hN hS hkk
    have q1 := p10 (k := k) (by omega)
    have q2 : (k : Int) < m → 0 ≤ M 55 (k : Int) ∧ M 55 (k : Int) ≤ 11 := fun z => hA k (by omega)
    refine Hx.run 2 (pc' := 123) (L' := [some (vr 0), some (vi i), some (vi w), some (vi c), some (vi b), some (vi (10 ^ k)), some (vi (k : Int))]) (st' := [vi w, vi (k : Int)]) (M' := (sr (sr M 62 C) 61 D)) rfl ?_
    refine Hx.br (c := (k : Int) < w) (t := 126) (f := 167) rfl (fun h1 => ?_) (fun h1 => ?_)
    · skip
      refine Hx.run 4 (pc' := 135) (L' := [some (vr 0), some (vi i), some (vi w), some (vi c), some (vi b), some (vi (10 ^ k)), some (vi (k : Int))]) (st' := [vi (M 53 2), vi (k : Int)]) (M' := (sr (sr M 62 C) 61 D)) rfl ?_
      refine Hx.br (c := (k : Int) < (M 53 2)) (t := 138) (f := 167) rfl (fun h2 => ?_) (fun h2 => ?_)
      · skip
        refine Hx.run 4 (pc' := 145) (L' := [some (vr 0), some (vi i), some (vi w), some (vi c), some (vi b), some (vi (10 ^ k)), some (vi (k : Int))]) (st' := [vi (k : Int), vr 53, vr 0]) (M' := (sr (sr M 62 C) 61 D)) rfl ?_
        refine Hx.call (t := 4) (as := [vr 53, vi (k : Int)]) (pc' := 148) (rest := [vr 0]) rfl (c_strideIn (k : Int) (sr (sr M 62 C) 61 D) (by omega) (by show M 53 2 ≤ 11; omega) (by show (k : Int) < M 53 2; omega)) ?_
        rintro _ _ ⟨rfl, rfl⟩
        refine Hx.run 0 (pc' := 148) (L' := [some (vr 0), some (vi i), some (vi w), some (vi c), some (vi b), some (vi (10 ^ k)), some (vi (k : Int))]) (st' := [vi (M 55 (k : Int)), vr 0]) (M' := (sr (sr M 62 C) 61 D)) rfl ?_
        refine Hx.run 2 (pc' := 151) (L' := [some (vr 0), some (vi i), some (vi w), some (vi c), some (vi b), some (vi (10 ^ k)), some (vi (k : Int))]) (st' := [vi b, vi c, vi (M 55 (k : Int)), vr 0]) (M' := (sr (sr M 62 C) 61 D)) rfl ?_
        refine Hx.call (t := 100) (as := [vr 0, vi (M 55 (k : Int)), vi c, vi b]) (pc' := 154) (rest := []) rfl (c_sid (M 55 (k : Int)) c b (sr (sr M 62 C) 61 D) (by omega) (by omega) (by omega) (by show ∀ x, 0 ≤ x → x ≤ 11 → 0 ≤ D x; exact hN) (by show w12 D (fun _ => 1) ≤ 1000000; omega)) ?_
        rintro _ _ ⟨rfl, C2, D2, hD2, hN2, rfl⟩
        rw [sr4]
        have hD3 : ∀ g, w12 D2 g = w12 D (stp b c (M 55 (k : Int)) g) := hD2
        refine Hx.run 0 (pc' := 154) (L' := [some (vr 0), some (vi i), some (vi w), some (vi c), some (vi b), some (vi (10 ^ k)), some (vi (k : Int))]) (st' := []) (M' := (sr (sr M 62 C2) 61 D2)) rfl ?_
        refine Hx.run 2 (pc' := 158) (L' := [some (vr 0), some (vi i), some (vi w), some (vi c), some (vi b), some (vi (10 ^ k)), some (vi (k : Int))]) (st' := [vi 10, vi (10 ^ k)]) (M' := (sr (sr M 62 C2) 61 D2)) rfl ?_
        refine Hx.mul rfl (by omega) ?_
        refine Hx.run 1 (pc' := 161) (L' := [some (vr 0), some (vi i), some (vi w), some (vi c), some (vi b), some (vi ((10 ^ k) * 10)), some (vi (k : Int))]) (st' := []) (M' := (sr (sr M 62 C2) 61 D2)) rfl ?_
        refine Hx.inc rfl rfl (by omega) ?_
        refine Hx.run 0 (pc' := 164) (L' := [some (vr 0), some (vi i), some (vi w), some (vi c), some (vi b), some (vi ((10 ^ k) * 10)), some (vi ((k : Int) + 1))]) (st' := []) (M' := (sr (sr M 62 C2) 61 D2)) rfl ?_
        refine Hx.run 1 (pc' := 120) (L' := [some (vr 0), some (vi i), some (vi w), some (vi c), some (vi b), some (vi ((10 ^ k) * 10)), some (vi ((k : Int) + 1))]) (st' := []) (M' := (sr (sr M 62 C2) 61 D2)) rfl ?_
        refine ih (k + 1) C2 D2 (by omega) ?_ hN2 ?_ (by omega)
        · rw [hD3]
          have hW2 := hW
          rw [show m - k = (m - (k + 1)) + 1 by omega, dW_succ] at hW2
          exact hW2
        · rw [hD3]
          have h5 : w12 D (stp b c (M 55 (k : Int)) (fun _ => 1)) ≤ 10 * w12 D (fun _ => 1) := s_stp hc hN (Nat.le_refl 12)
          rw [Int.pow_succ]
          omega
      · skip
        refine Hx.run 0 (pc' := 167) (L' := [some (vr 0), some (vi i), some (vi w), some (vi c), some (vi b), some (vi (10 ^ k)), some (vi (k : Int))]) (st' := []) (M' := (sr (sr M 62 C) 61 D)) rfl ?_
        have e : k = m := by omega
        subst e
        rw [Nat.sub_self] at hW
        exact hk C D hW hN (by omega)
    · skip
      refine Hx.run 0 (pc' := 167) (L' := [some (vr 0), some (vi i), some (vi w), some (vi c), some (vi b), some (vi (10 ^ k)), some (vi (k : Int))]) (st' := []) (M' := (sr (sr M 62 C) 61 D)) rfl ?_
      have e : k = m := by omega
      subst e
      rw [Nat.sub_self] at hW
      exact hk C D hW hN (by omega)
set_option maxRecDepth 100000 in
theorem c_darkEnd (i w c b : Int) (jk : Option PV) (M : Mm) (m X : Nat) (hm6 : m ≤ 6) (hB : ∀ x, 0 ≤ x → x ≤ 11 → 0 ≤ M 61 x) (hX : sS (fun x => M 61 x) 12 = (X : Int)) (hX6 : X ≤ 1000000) : Hx 99 167 [some (vr 0), some (vi i), some (vi w), some (vi c), some (vi b), some (vi (10 ^ m)), jk] [] M (fun q0 M' => q0 = some (vi 1) ∧ up (up M 0 12 (frA X (10 ^ m))) 0 13 (frB X (10 ^ m)) = M') := by
  have hp := p10n hm6
  have hT : sS (fun x => M 61 x) 12 ≤ 100000000 := by omega
  have hXY : X * 10 ^ m < 2 ^ 80 := by
    have h1 : X * 10 ^ m ≤ 1000000 * 1000000 := Nat.mul_le_mul hX6 hp.2
    omega
  refine Hx.run 3 (pc' := 172) (L' := [some (vr 0), some (vi i), some (vi w), some (vi c), some (vi b), some (vi (10 ^ m)), jk]) (st' := [vr 61, vr 0]) (M' := M) rfl ?_
  refine Hx.call (t := 102) (as := [vr 61]) (pc' := 175) (rest := [vr 0]) rfl (c_sum M hB hT) ?_
  rintro _ _ ⟨rfl, rfl⟩
  refine Hx.run 0 (pc' := 175) (L' := [some (vr 0), some (vi i), some (vi w), some (vi c), some (vi b), some (vi (10 ^ m)), jk]) (st' := [vi (sS (fun x => M 61 x) 12), vr 0]) (M' := M) rfl ?_
  refine Hx.run 3 (pc' := 179) (L' := [some (vr 0), some (vi i), some (vi w), some (vi c), some (vi b), some (vi (10 ^ m)), jk]) (st' := [vl (10 ^ m), vl (sS (fun x => M 61 x) 12), vr 0]) (M' := M) rfl ?_
  refine Hx.call (t := 103) (as := [vr 0, vl (sS (fun x => M 61 x) 12), vl (10 ^ m)]) (pc' := 182) (rest := []) rfl ((show Ct 103 [vr 0, vl (sS (fun x => M 61 x) 12), vl (10 ^ m)] M _ from by rw [hX, show (10 : Int) ^ m = ((10 ^ m : Nat) : Int) from rfl]; exact c_setFraction X (10 ^ m) M hXY (by omega) (by omega) (by omega))) ?_
  rintro _ _ ⟨rfl, rfl⟩
  refine Hx.run 0 (pc' := 182) (L' := [some (vr 0), some (vi i), some (vi w), some (vi c), some (vi b), some (vi (10 ^ m)), jk]) (st' := []) (M' := (up (up M 0 12 (frA X (10 ^ m))) 0 13 (frB X (10 ^ m)))) rfl ?_
  refine Hx.run 1 (pc' := 183) (L' := [some (vr 0), some (vi i), some (vi w), some (vi c), some (vi b), some (vi (10 ^ m)), jk]) (st' := [vi 1]) (M' := (up (up M 0 12 (frA X (10 ^ m))) 0 13 (frB X (10 ^ m)))) rfl ?_
  refine Hx.ret rfl ?_
  exact ⟨rfl, rfl⟩
set_option maxRecDepth 100000 in
set_option maxHeartbeats 4000000 in
theorem C_dark (i w c : Int) (M : Mm) (hI : HI M 1) (hs : (0 ≤ M 0 14 ∧ M 0 14 ≤ 600) ∧ (0 ≤ M 0 15 ∧ M 0 15 ≤ 600) ∧ (0 ≤ M 0 16 ∧ M 0 16 ≤ 600)) : Ct 99 [vr 0, vi i, vi w, vi c] M (fun q0 M' => (¬ ((0 ≤ i ∧ i < M 1 1) ∧ (0 ≤ w ∧ w ≤ 6) ∧ (0 ≤ c ∧ c ≤ 10)) ∧ q0 = some (vi (-2)) ∧ up M 0 14 (M 0 14 + 1) = M') ∨ (((0 ≤ i ∧ i < M 1 1) ∧ (0 ≤ w ∧ w ≤ 6) ∧ (0 ≤ c ∧ c ≤ 10)) ∧ q0 = some (vi 1) ∧ ∃ X Y : Nat, DkR (sfF (M 3 i) (M 4 i) (M 6 (6 + i)) ((M 6 16) % 24)) (bb (M 6 (12 + (M 5 i))) (bcF (M 2 (M 5 i)) ((M 6 16) % 24))) (M 6 i) w c X Y ∧ M' 0 = st1 (st1 (M 0) 12 (frA X Y)) 13 (frB X Y) ∧ ∀ r, r ≠ 0 → r ≠ 53 → r ≠ 54 → r ≠ 55 → r ≠ 61 → r ≠ 62 → M r = M' r)) := by
  obtain ⟨iF, iG, iK, iH, iFa, aF, aG, lS, lN, lM, rS, rN, rM, aK⟩ := (show (0 ≤ M 1 0 ∧ M 1 0 ≤ 3) ∧ (0 ≤ M 1 1 ∧ M 1 1 ≤ 6) ∧ (0 ≤ M 1 2 ∧ M 1 2 ≤ 8) ∧ (0 ≤ M 6 16 ∧ M 6 16 ≤ 9999) ∧ (0 ≤ M 6 15 ∧ M 6 15 ≤ 9000) ∧ (∀ f : Int, 0 ≤ f → f < M 1 0 → (0 ≤ M 2 f ∧ M 2 f ≤ 5) ∧ (1 ≤ M 6 (12 + f) ∧ M 6 (12 + f) ≤ 10)) ∧ (∀ i : Int, 0 ≤ i → i < M 1 1 → (0 ≤ M 3 i ∧ M 3 i ≤ 5) ∧ (1 ≤ M 4 i ∧ M 4 i ≤ 4) ∧ (0 ≤ M 5 i ∧ M 5 i < M 1 0) ∧ (0 ≤ M 6 i ∧ M 6 i ≤ 11) ∧ (0 ≤ M 6 (6 + i) ∧ M 6 (6 + i) ≤ 9)) ∧ (M 8 0 = 4 ∧ M 8 1 = 5 ∧ 0 ≤ M 8 3 ∧ M 8 3 ≤ 5) ∧ (M 10 0 = 3 ∧ M 10 1 = 6 ∧ 0 ≤ M 10 3 ∧ M 10 3 ≤ 6) ∧ (M 12 0 = 5 ∧ M 12 1 = 6 ∧ 0 ≤ M 12 3 ∧ M 12 3 ≤ 6) ∧ (∀ n : Int, 0 ≤ n → n < M 8 3 → (0 ≤ M 9 (n * 4 + 0) ∧ M 9 (n * 4 + 0) ≤ 2) ∧ (1 ≤ M 9 (n * 4 + 1) ∧ M 9 (n * 4 + 1) ≤ 10) ∧ (0 ≤ M 9 (n * 4 + 2) ∧ M 9 (n * 4 + 2) ≤ 23) ∧ (0 ≤ M 9 (n * 4 + 3) ∧ M 9 (n * 4 + 3) ≤ 1)) ∧ (∀ n : Int, 0 ≤ n → n < M 10 3 → (0 ≤ M 11 (n * 3 + 0) ∧ M 11 (n * 3 + 0) ≤ 2) ∧ (0 ≤ M 11 (n * 3 + 1) ∧ M 11 (n * 3 + 1) ≤ 23) ∧ (0 ≤ M 11 (n * 3 + 2) ∧ M 11 (n * 3 + 2) ≤ 9)) ∧ (∀ n : Int, 0 ≤ n → n < M 12 3 → (0 ≤ M 13 (n * 5 + 0) ∧ M 13 (n * 5 + 0) ≤ 5) ∧ (1 ≤ M 13 (n * 5 + 1) ∧ M 13 (n * 5 + 1) ≤ 4) ∧ (0 ≤ M 13 (n * 5 + 2) ∧ M 13 (n * 5 + 2) ≤ 9) ∧ (0 ≤ M 13 (n * 5 + 3) ∧ M 13 (n * 5 + 3) ≤ 23) ∧ (0 ≤ M 13 (n * 5 + 4) ∧ M 13 (n * 5 + 4) ≤ 9)) ∧ (∀ k : Int, 0 ≤ k → k < M 1 2 → (0 ≤ M 7 (k * 17 + 16) ∧ M 7 (k * 17 + 16) ≤ 9999) ∧ (0 ≤ M 7 (k * 17 + 15) ∧ M 7 (k * 17 + 15) ≤ 9000) ∧ (∀ f : Int, 0 ≤ f → f < M 1 0 → (1 ≤ M 7 (k * 17 + (12 + f)) ∧ M 7 (k * 17 + (12 + f)) ≤ 10)) ∧ (∀ i : Int, 0 ≤ i → i < M 1 1 → (0 ≤ M 7 (k * 17 + i) ∧ M 7 (k * 17 + i) ≤ 11) ∧ (0 ≤ M 7 (k * 17 + (6 + i)) ∧ M 7 (k * 17 + (6 + i)) ≤ 9))) from hI)
  refine Hx.run 3 (pc' := 5) (L' := [some (vr 0), some (vi i), some (vi w), some (vi c), none, none, none]) (st' := [vi i, vr 1]) (M' := M) rfl ?_
  refine Hx.call (t := 8) (as := [vr 1, vi i]) (pc' := 8) (rest := []) rfl (c_hasGoer_1 i M) ?_
  rintro _ _ (⟨q133, rfl, rfl⟩ | ⟨q133, rfl, rfl⟩)
  · skip
    have gq133 := aG i q133.1 q133.2
    have fq133 := aF (M 5 i) (by omega) (by omega)
    have sR := sfF_rng (k := M 3 i) (l := M 4 i) (x := M 6 (6 + i)) (t := M 6 16 % 24) (by omega) (by omega)
    have bR := bb_rng (M 6 (12 + (M 5 i))) (bcF (M 2 (M 5 i)) (M 6 16 % 24))
    refine Hx.run 2 (pc' := 12) (L' := [some (vr 0), some (vi i), some (vi w), some (vi c), none, none, none]) (st' := [vi w]) (M' := M) rfl ?_
    refine Hx.br (c := w < 0) (t := 31) (f := 15) rfl (fun h1 => ?_) (fun h1 => ?_)
    · skip
      refine Hx.run 1 (pc' := 32) (L' := [some (vr 0), some (vi i), some (vi w), some (vi c), none, none, none]) (st' := [vr 0]) (M' := M) rfl ?_
      refine Hx.call (t := 114) (as := [vr 0]) (pc' := 35) (rest := []) rfl (c_bad M (by (first | omega | (simp [sr, up] <;> omega)))) ?_
      rintro _ _ ⟨rfl, rfl⟩
      refine Hx.run 0 (pc' := 35) (L' := [some (vr 0), some (vi i), some (vi w), some (vi c), none, none, none]) (st' := [vi (-2)]) (M' := (up M 0 14 ((M 0 14) + 1))) rfl ?_
      refine Hx.ret rfl ?_
      first
        | exact Or.inl ⟨by omega, rfl, rfl⟩
        | (refine Or.inr ⟨by omega, rfl, 0, 1, Or.inl ⟨by omega, rfl, rfl⟩, ?_, ?_⟩
           · rw [up_row, up_row]; rfl
           · intro r h0 h53 h54 h55 h61 h62; funext j; simp [up, sr, fl, h0, h53, h54, h55, h61, h62])
    · skip
      refine Hx.run 2 (pc' := 18) (L' := [some (vr 0), some (vi i), some (vi w), some (vi c), none, none, none]) (st' := [vi 6, vi w]) (M' := M) rfl ?_
      refine Hx.br (c := 6 < w) (t := 31) (f := 21) rfl (fun h2 => ?_) (fun h2 => ?_)
      · skip
        refine Hx.run 1 (pc' := 32) (L' := [some (vr 0), some (vi i), some (vi w), some (vi c), none, none, none]) (st' := [vr 0]) (M' := M) rfl ?_
        refine Hx.call (t := 114) (as := [vr 0]) (pc' := 35) (rest := []) rfl (c_bad M (by (first | omega | (simp [sr, up] <;> omega)))) ?_
        rintro _ _ ⟨rfl, rfl⟩
        refine Hx.run 0 (pc' := 35) (L' := [some (vr 0), some (vi i), some (vi w), some (vi c), none, none, none]) (st' := [vi (-2)]) (M' := (up M 0 14 ((M 0 14) + 1))) rfl ?_
        refine Hx.ret rfl ?_
        first
          | exact Or.inl ⟨by omega, rfl, rfl⟩
          | (refine Or.inr ⟨by omega, rfl, 0, 1, Or.inl ⟨by omega, rfl, rfl⟩, ?_, ?_⟩
             · rw [up_row, up_row]; rfl
             · intro r h0 h53 h54 h55 h61 h62; funext j; simp [up, sr, fl, h0, h53, h54, h55, h61, h62])
      · skip
        refine Hx.run 1 (pc' := 22) (L' := [some (vr 0), some (vi i), some (vi w), some (vi c), none, none, none]) (st' := [vi c]) (M' := M) rfl ?_
        refine Hx.br (c := c < 0) (t := 31) (f := 25) rfl (fun h3 => ?_) (fun h3 => ?_)
        · skip
          refine Hx.run 1 (pc' := 32) (L' := [some (vr 0), some (vi i), some (vi w), some (vi c), none, none, none]) (st' := [vr 0]) (M' := M) rfl ?_
          refine Hx.call (t := 114) (as := [vr 0]) (pc' := 35) (rest := []) rfl (c_bad M (by (first | omega | (simp [sr, up] <;> omega)))) ?_
          rintro _ _ ⟨rfl, rfl⟩
          refine Hx.run 0 (pc' := 35) (L' := [some (vr 0), some (vi i), some (vi w), some (vi c), none, none, none]) (st' := [vi (-2)]) (M' := (up M 0 14 ((M 0 14) + 1))) rfl ?_
          refine Hx.ret rfl ?_
          first
            | exact Or.inl ⟨by omega, rfl, rfl⟩
            | (refine Or.inr ⟨by omega, rfl, 0, 1, Or.inl ⟨by omega, rfl, rfl⟩, ?_, ?_⟩
               · rw [up_row, up_row]; rfl
               · intro r h0 h53 h54 h55 h61 h62; funext j; simp [up, sr, fl, h0, h53, h54, h55, h61, h62])
        · skip
          refine Hx.run 2 (pc' := 28) (L' := [some (vr 0), some (vi i), some (vi w), some (vi c), none, none, none]) (st' := [vi 10, vi c]) (M' := M) rfl ?_
          refine Hx.br (c := 10 < c) (t := 31) (f := 36) rfl (fun h4 => ?_) (fun h4 => ?_)
          · skip
            refine Hx.run 1 (pc' := 32) (L' := [some (vr 0), some (vi i), some (vi w), some (vi c), none, none, none]) (st' := [vr 0]) (M' := M) rfl ?_
            refine Hx.call (t := 114) (as := [vr 0]) (pc' := 35) (rest := []) rfl (c_bad M (by (first | omega | (simp [sr, up] <;> omega)))) ?_
            rintro _ _ ⟨rfl, rfl⟩
            refine Hx.run 0 (pc' := 35) (L' := [some (vr 0), some (vi i), some (vi w), some (vi c), none, none, none]) (st' := [vi (-2)]) (M' := (up M 0 14 ((M 0 14) + 1))) rfl ?_
            refine Hx.ret rfl ?_
            first
              | exact Or.inl ⟨by omega, rfl, rfl⟩
              | (refine Or.inr ⟨by omega, rfl, 0, 1, Or.inl ⟨by omega, rfl, rfl⟩, ?_, ?_⟩
                 · rw [up_row, up_row]; rfl
                 · intro r h0 h53 h54 h55 h61 h62; funext j; simp [up, sr, fl, h0, h53, h54, h55, h61, h62])
          · skip
            refine Hx.run 3 (pc' := 41) (L' := [some (vr 0), some (vi i), some (vi w), some (vi c), none, none, none]) (st' := [vi i, vr 1]) (M' := M) rfl ?_
            refine Hx.call (t := 29) (as := [vr 1, vi i]) (pc' := 44) (rest := []) rfl (c_barsFor_1 i M (by (first | omega | (simp [sr, up] <;> omega))) (by (first | omega | (simp [sr, up] <;> omega))) (by (first | omega | (simp [sr, up] <;> omega)))) ?_
            rintro _ _ ⟨rfl, rfl⟩
            refine Hx.run 0 (pc' := 44) (L' := [some (vr 0), some (vi i), some (vi w), some (vi c), none, none, none]) (st' := [vi (bb (M 6 (12 + (M 5 i))) (bcF (M 2 (M 5 i)) ((M 6 16) % 24)))]) (M' := M) rfl ?_
            refine Hx.run 6 (pc' := 55) (L' := [some (vr 0), some (vi i), some (vi w), some (vi c), some (vi (bb (M 6 (12 + (M 5 i))) (bcF (M 2 (M 5 i)) ((M 6 16) % 24)))), none, none]) (st' := [vi i, vr 1, vr 53]) (M' := M) rfl ?_
            refine Hx.call (t := 18) (as := [vr 1, vi i]) (pc' := 58) (rest := [vr 53]) rfl (c_stepOf_1 i (by (first | omega | (simp [sr, up] <;> omega))) M) ?_
            rintro _ _ ⟨rfl, rfl⟩
            refine Hx.run 0 (pc' := 58) (L' := [some (vr 0), some (vi i), some (vi w), some (vi c), some (vi (bb (M 6 (12 + (M 5 i))) (bcF (M 2 (M 5 i)) ((M 6 16) % 24)))), none, none]) (st' := [vi (M 6 i), vr 53]) (M' := M) rfl ?_
            refine Hx.run 3 (pc' := 63) (L' := [some (vr 0), some (vi i), some (vi w), some (vi c), some (vi (bb (M 6 (12 + (M 5 i))) (bcF (M 2 (M 5 i)) ((M 6 16) % 24)))), none, none]) (st' := [vi i, vr 1, vi (M 6 i), vr 53]) (M' := M) rfl ?_
            refine Hx.call (t := 30) (as := [vr 1, vi i]) (pc' := 66) (rest := [vi (M 6 i), vr 53]) rfl (c_reach_1 i M (by (first | omega | (simp [sr, up] <;> omega))) (by (first | omega | (simp [sr, up] <;> omega)))) ?_
            rintro _ _ ⟨rfl, rfl⟩
            refine Hx.run 0 (pc' := 66) (L' := [some (vr 0), some (vi i), some (vi w), some (vi c), some (vi (bb (M 6 (12 + (M 5 i))) (bcF (M 2 (M 5 i)) ((M 6 16) % 24)))), none, none]) (st' := [vi (sfF (M 3 i) (M 4 i) (M 6 (6 + i)) ((M 6 16) % 24)), vi (M 6 i), vr 53]) (M' := M) rfl ?_
            refine Hx.run 1 (pc' := 68) (L' := [some (vr 0), some (vi i), some (vi w), some (vi c), some (vi (bb (M 6 (12 + (M 5 i))) (bcF (M 2 (M 5 i)) ((M 6 16) % 24)))), none, none]) (st' := [vi (bb (M 6 (12 + (M 5 i))) (bcF (M 2 (M 5 i)) ((M 6 16) % 24))), vi (sfF (M 3 i) (M 4 i) (M 6 (6 + i)) ((M 6 16) % 24)), vi (M 6 i), vr 53]) (M' := M) rfl ?_
            refine Hx.call (t := 2) (as := [vr 53, vi (M 6 i), vi (sfF (M 3 i) (M 4 i) (M 6 (6 + i)) ((M 6 16) % 24)), vi (bb (M 6 (12 + (M 5 i))) (bcF (M 2 (M 5 i)) ((M 6 16) % 24)))]) (pc' := 71) (rest := []) rfl (c_find_53 (M 6 i) (sfF (M 3 i) (M 4 i) (M 6 (6 + i)) ((M 6 16) % 24)) (bb (M 6 (12 + (M 5 i))) (bcF (M 2 (M 5 i)) ((M 6 16) % 24))) M (by (first | omega | (simp [sr, up] <;> omega))) (by (first | omega | (simp [sr, up] <;> omega))) (by (first | omega | (simp [sr, up] <;> omega)))) ?_
            rintro _ _ ⟨rfl, F53, A53, rfl, hRow53⟩
            have dF53 := dc_cases (TV (sfF (M 3 i) (M 4 i) (M 6 (6 + i)) ((M 6 16) % 24)) (bb (M 6 (12 + (M 5 i))) (bcF (M 2 (M 5 i)) ((M 6 16) % 24))) (M 6 i))
            have fF53 := TV_fin (far := (sfF (M 3 i) (M 4 i) (M 6 (6 + i)) ((M 6 16) % 24))) (b := (bb (M 6 (12 + (M 5 i))) (bcF (M 2 (M 5 i)) ((M 6 16) % 24)))) (x := (M 6 i)) (by omega) (by omega)
            refine Hx.run 0 (pc' := 71) (L' := [some (vr 0), some (vi i), some (vi w), some (vi c), some (vi (bb (M 6 (12 + (M 5 i))) (bcF (M 2 (M 5 i)) ((M 6 16) % 24)))), none, none]) (st' := []) (M' := (sr (up (sr M 54 F53) 53 2 (dc (TV (sfF (M 3 i) (M 4 i) (M 6 (6 + i)) ((M 6 16) % 24)) (bb (M 6 (12 + (M 5 i))) (bcF (M 2 (M 5 i)) ((M 6 16) % 24))) (M 6 i)))) 55 A53)) rfl ?_
            refine Hx.run 4 (pc' := 79) (L' := [some (vr 0), some (vi i), some (vi w), some (vi c), some (vi (bb (M 6 (12 + (M 5 i))) (bcF (M 2 (M 5 i)) ((M 6 16) % 24)))), none, none]) (st' := [vi (-1), vi (dc (TV (sfF (M 3 i) (M 4 i) (M 6 (6 + i)) ((M 6 16) % 24)) (bb (M 6 (12 + (M 5 i))) (bcF (M 2 (M 5 i)) ((M 6 16) % 24))) (M 6 i)))]) (M' := (sr (up (sr M 54 F53) 53 2 (dc (TV (sfF (M 3 i) (M 4 i) (M 6 (6 + i)) ((M 6 16) % 24)) (bb (M 6 (12 + (M 5 i))) (bcF (M 2 (M 5 i)) ((M 6 16) % 24))) (M 6 i)))) 55 A53)) rfl ?_
            refine Hx.br (c := (dc (TV (sfF (M 3 i) (M 4 i) (M 6 (6 + i)) ((M 6 16) % 24)) (bb (M 6 (12 + (M 5 i))) (bcF (M 2 (M 5 i)) ((M 6 16) % 24))) (M 6 i))) = (-1)) (t := 82) (f := 90) rfl (fun h5 => ?_) (fun h5 => ?_)
            · skip
              refine Hx.run 3 (pc' := 85) (L' := [some (vr 0), some (vi i), some (vi w), some (vi c), some (vi (bb (M 6 (12 + (M 5 i))) (bcF (M 2 (M 5 i)) ((M 6 16) % 24)))), none, none]) (st' := [vl 1, vl 0, vr 0]) (M' := (sr (up (sr M 54 F53) 53 2 (dc (TV (sfF (M 3 i) (M 4 i) (M 6 (6 + i)) ((M 6 16) % 24)) (bb (M 6 (12 + (M 5 i))) (bcF (M 2 (M 5 i)) ((M 6 16) % 24))) (M 6 i)))) 55 A53)) rfl ?_
              refine Hx.call (t := 103) (as := [vr 0, vl 0, vl 1]) (pc' := 88) (rest := []) rfl (c_setFraction 0 1 (sr (up (sr M 54 F53) 53 2 (dc (TV (sfF (M 3 i) (M 4 i) (M 6 (6 + i)) ((M 6 16) % 24)) (bb (M 6 (12 + (M 5 i))) (bcF (M 2 (M 5 i)) ((M 6 16) % 24))) (M 6 i)))) 55 A53) (by decide) (by decide) (by decide) (by decide)) ?_
              rintro _ _ ⟨rfl, rfl⟩
              refine Hx.run 0 (pc' := 88) (L' := [some (vr 0), some (vi i), some (vi w), some (vi c), some (vi (bb (M 6 (12 + (M 5 i))) (bcF (M 2 (M 5 i)) ((M 6 16) % 24)))), none, none]) (st' := []) (M' := (up (up (sr (up (sr M 54 F53) 53 2 (dc (TV (sfF (M 3 i) (M 4 i) (M 6 (6 + i)) ((M 6 16) % 24)) (bb (M 6 (12 + (M 5 i))) (bcF (M 2 (M 5 i)) ((M 6 16) % 24))) (M 6 i)))) 55 A53) 0 12 (frA 0 1)) 0 13 (frB 0 1))) rfl ?_
              refine Hx.run 1 (pc' := 89) (L' := [some (vr 0), some (vi i), some (vi w), some (vi c), some (vi (bb (M 6 (12 + (M 5 i))) (bcF (M 2 (M 5 i)) ((M 6 16) % 24)))), none, none]) (st' := [vi 1]) (M' := (up (up (sr (up (sr M 54 F53) 53 2 (dc (TV (sfF (M 3 i) (M 4 i) (M 6 (6 + i)) ((M 6 16) % 24)) (bb (M 6 (12 + (M 5 i))) (bcF (M 2 (M 5 i)) ((M 6 16) % 24))) (M 6 i)))) 55 A53) 0 12 (frA 0 1)) 0 13 (frB 0 1))) rfl ?_
              refine Hx.ret rfl ?_
              first
                | exact Or.inl ⟨by omega, rfl, rfl⟩
                | (refine Or.inr ⟨by omega, rfl, 0, 1, Or.inl ⟨by omega, rfl, rfl⟩, ?_, ?_⟩
                   · rw [up_row, up_row]; rfl
                   · intro r h0 h53 h54 h55 h61 h62; funext j; simp [up, sr, fl, h0, h53, h54, h55, h61, h62])
            · skip
              refine Hx.run 3 (pc' := 95) (L' := [some (vr 0), some (vi i), some (vi w), some (vi c), some (vi (bb (M 6 (12 + (M 5 i))) (bcF (M 2 (M 5 i)) ((M 6 16) % 24)))), none, none]) (st' := [vi 0, vr 61]) (M' := (sr (up (sr M 54 F53) 53 2 (dc (TV (sfF (M 3 i) (M 4 i) (M 6 (6 + i)) ((M 6 16) % 24)) (bb (M 6 (12 + (M 5 i))) (bcF (M 2 (M 5 i)) ((M 6 16) % 24))) (M 6 i)))) 55 A53)) rfl ?_
              refine Hx.call (t := 224) (as := [vr 61, vi 0]) (pc' := 98) (rest := []) rfl (c_fill (r := 61) (n := 12) rfl (by decide) (by decide) 0 (sr (up (sr M 54 F53) 53 2 (dc (TV (sfF (M 3 i) (M 4 i) (M 6 (6 + i)) ((M 6 16) % 24)) (bb (M 6 (12 + (M 5 i))) (bcF (M 2 (M 5 i)) ((M 6 16) % 24))) (M 6 i)))) 55 A53)) ?_
              rintro _ _ ⟨rfl, rfl⟩
              refine Hx.run 0 (pc' := 98) (L' := [some (vr 0), some (vi i), some (vi w), some (vi c), some (vi (bb (M 6 (12 + (M 5 i))) (bcF (M 2 (M 5 i)) ((M 6 16) % 24)))), none, none]) (st' := []) (M' := (fl (sr (up (sr M 54 F53) 53 2 (dc (TV (sfF (M 3 i) (M 4 i) (M 6 (6 + i)) ((M 6 16) % 24)) (bb (M 6 (12 + (M 5 i))) (bcF (M 2 (M 5 i)) ((M 6 16) % 24))) (M 6 i)))) 55 A53) 61 0 12 0)) rfl ?_
              refine Hx.run 5 (pc' := 107) (L' := [some (vr 0), some (vi i), some (vi w), some (vi c), some (vi (bb (M 6 (12 + (M 5 i))) (bcF (M 2 (M 5 i)) ((M 6 16) % 24)))), none, none]) (st' := [vi i, vr 1, vr 61]) (M' := (fl (sr (up (sr M 54 F53) 53 2 (dc (TV (sfF (M 3 i) (M 4 i) (M 6 (6 + i)) ((M 6 16) % 24)) (bb (M 6 (12 + (M 5 i))) (bcF (M 2 (M 5 i)) ((M 6 16) % 24))) (M 6 i)))) 55 A53) 61 0 12 0)) rfl ?_
              refine Hx.call (t := 18) (as := [vr 1, vi i]) (pc' := 110) (rest := [vr 61]) rfl (c_stepOf_1 i (by (first | omega | (simp [sr, up] <;> omega))) (fl (sr (up (sr M 54 F53) 53 2 (dc (TV (sfF (M 3 i) (M 4 i) (M 6 (6 + i)) ((M 6 16) % 24)) (bb (M 6 (12 + (M 5 i))) (bcF (M 2 (M 5 i)) ((M 6 16) % 24))) (M 6 i)))) 55 A53) 61 0 12 0)) ?_
              rintro _ _ ⟨rfl, rfl⟩
              refine Hx.run 0 (pc' := 110) (L' := [some (vr 0), some (vi i), some (vi w), some (vi c), some (vi (bb (M 6 (12 + (M 5 i))) (bcF (M 2 (M 5 i)) ((M 6 16) % 24)))), none, none]) (st' := [vi (M 6 i), vr 61]) (M' := (fl (sr (up (sr M 54 F53) 53 2 (dc (TV (sfF (M 3 i) (M 4 i) (M 6 (6 + i)) ((M 6 16) % 24)) (bb (M 6 (12 + (M 5 i))) (bcF (M 2 (M 5 i)) ((M 6 16) % 24))) (M 6 i)))) 55 A53) 61 0 12 0)) rfl ?_
              refine Hx.run 1 (pc' := 111) (L' := [some (vr 0), some (vi i), some (vi w), some (vi c), some (vi (bb (M 6 (12 + (M 5 i))) (bcF (M 2 (M 5 i)) ((M 6 16) % 24)))), none, none]) (st' := [vi 1, vi (M 6 i), vr 61]) (M' := (fl (sr (up (sr M 54 F53) 53 2 (dc (TV (sfF (M 3 i) (M 4 i) (M 6 (6 + i)) ((M 6 16) % 24)) (bb (M 6 (12 + (M 5 i))) (bcF (M 2 (M 5 i)) ((M 6 16) % 24))) (M 6 i)))) 55 A53) 61 0 12 0)) rfl ?_
              refine Hx.call (t := 122) (as := [vr 61, vi (M 6 i), vi 1]) (pc' := 114) (rest := []) rfl (c_put (r := 61) (n := 12) rfl (by decide) (i := (M 6 i)) (by (first | omega | (simp [sr, up] <;> omega))) 1 (fl (sr (up (sr M 54 F53) 53 2 (dc (TV (sfF (M 3 i) (M 4 i) (M 6 (6 + i)) ((M 6 16) % 24)) (bb (M 6 (12 + (M 5 i))) (bcF (M 2 (M 5 i)) ((M 6 16) % 24))) (M 6 i)))) 55 A53) 61 0 12 0)) ?_
              rintro _ _ ⟨rfl, rfl⟩
              refine Hx.run 0 (pc' := 114) (L' := [some (vr 0), some (vi i), some (vi w), some (vi c), some (vi (bb (M 6 (12 + (M 5 i))) (bcF (M 2 (M 5 i)) ((M 6 16) % 24)))), none, none]) (st' := []) (M' := (up (fl (sr (up (sr M 54 F53) 53 2 (dc (TV (sfF (M 3 i) (M 4 i) (M 6 (6 + i)) ((M 6 16) % 24)) (bb (M 6 (12 + (M 5 i))) (bcF (M 2 (M 5 i)) ((M 6 16) % 24))) (M 6 i)))) 55 A53) 61 0 12 0) 61 (M 6 i) 1)) rfl ?_
              refine Hx.run 4 (pc' := 120) (L' := [some (vr 0), some (vi i), some (vi w), some (vi c), some (vi (bb (M 6 (12 + (M 5 i))) (bcF (M 2 (M 5 i)) ((M 6 16) % 24)))), some (vi 1), some (vi 0)]) (st' := []) (M' := (up (fl (sr (up (sr M 54 F53) 53 2 (dc (TV (sfF (M 3 i) (M 4 i) (M 6 (6 + i)) ((M 6 16) % 24)) (bb (M 6 (12 + (M 5 i))) (bcF (M 2 (M 5 i)) ((M 6 16) % 24))) (M 6 i)))) 55 A53) 61 0 12 0) 61 (M 6 i) 1)) rfl ?_
              have hTV : (TV (sfF (M 3 i) (M 4 i) (M 6 (6 + i)) ((M 6 16) % 24)) (bb (M 6 (12 + (M 5 i))) (bcF (M 2 (M 5 i)) ((M 6 16) % 24))) (M 6 i)) < 1000000 := by omega
              have hRow := hRow53 hTV
              obtain ⟨m, hm⟩ : ∃ m : Nat, (m : Int) = min w (dc (TV (sfF (M 3 i) (M 4 i) (M 6 (6 + i)) ((M 6 16) % 24)) (bb (M 6 (12 + (M 5 i))) (bcF (M 2 (M 5 i)) ((M 6 16) % 24))) (M 6 i))) := ⟨(min w (dc (TV (sfF (M 3 i) (M 4 i) (M 6 (6 + i)) ((M 6 16) % 24)) (bb (M 6 (12 + (M 5 i))) (bcF (M 2 (M 5 i)) ((M 6 16) % 24))) (M 6 i)))).toNat, by omega⟩
              have hRm : RowP (sfF (M 3 i) (M 4 i) (M 6 (6 + i)) ((M 6 16) % 24)) (bb (M 6 (12 + (M 5 i))) (bcF (M 2 (M 5 i)) ((M 6 16) % 24))) (M 6 i) A53 m := fun j hj => hRow j (by omega)
              have hA : ∀ k : Nat, k < m → 0 ≤ (sr (up (sr M 54 F53) 53 2 (dc (TV (sfF (M 3 i) (M 4 i) (M 6 (6 + i)) ((M 6 16) % 24)) (bb (M 6 (12 + (M 5 i))) (bcF (M 2 (M 5 i)) ((M 6 16) % 24))) (M 6 i)))) 55 A53) 55 k ∧ (sr (up (sr M 54 F53) 53 2 (dc (TV (sfF (M 3 i) (M 4 i) (M 6 (6 + i)) ((M 6 16) % 24)) (bb (M 6 (12 + (M 5 i))) (bcF (M 2 (M 5 i)) ((M 6 16) % 24))) (M 6 i)))) 55 A53) 55 k ≤ 11 := fun k hk => by
                have z1 := (hRm k hk).1
                have z2 := (hRm k hk).2.1
                have z3 : 0 ≤ A53 k ∧ A53 k ≤ 11 := by omega
                exact z3
              obtain ⟨D0, hD0⟩ : ∃ D0 : Int → Int, D0 = st1 (fun b => if 0 ≤ b ∧ b < 12 then (0 : Int) else (sr (up (sr M 54 F53) 53 2 (dc (TV (sfF (M 3 i) (M 4 i) (M 6 (6 + i)) ((M 6 16) % 24)) (bb (M 6 (12 + (M 5 i))) (bcF (M 2 (M 5 i)) ((M 6 16) % 24))) (M 6 i)))) 55 A53) 61 b) (M 6 i) 1 := ⟨_, rfl⟩
              rw [fl_sr, sr_up, ← hD0]
              have d0 : ∀ g, w12 D0 g = g (M 6 i) := by
                intro g
                obtain ⟨q, hq⟩ : ∃ q : Nat, M 6 i = q := ⟨(M 6 i).toNat, by omega⟩
                have z1 := w_st1 (D := fun _ => 0) (g := g) (m := 1) q 12
                rw [if_pos (by omega)] at z1
                unfold w12
                rw [hq, ← Int.one_mul (g q)]
                have z2 : sS (fun x => (fun _ => (0 : Int)) x * g x) 12 = 0 := by
                  rw [sS_congr (g := fun _ => 0) 12 (fun m hm => Int.zero_mul _)]; rfl
                rw [z2] at z1
                simp only [Int.zero_add] at z1
                rw [← z1]
                refine sS_congr 12 (fun x hx => ?_)
                rw [hD0, hq]
                by_cases e : x = q
                · subst e; rw [st1_at, st1_at]
                · rw [st1_ne (by omega), st1_ne (by omega), if_pos (by omega)]
              have n0 : ∀ x, 0 ≤ x → x ≤ 11 → 0 ≤ D0 x := by
                intro x h0 h1
                rw [hD0]
                by_cases e : x = M 6 i
                · rw [e, st1_at]; decide
                · rw [st1_ne e, if_pos (by omega)]; exact Int.le_refl _
              have h9 := cl_dark i w c (bb (M 6 (12 + (M 5 i))) (bcF (M 2 (M 5 i)) ((M 6 16) % 24))) (sr (up (sr M 54 F53) 53 2 (dc (TV (sfF (M 3 i) (M 4 i) (M 6 (6 + i)) ((M 6 16) % 24)) (bb (M 6 (12 + (M 5 i))) (bcF (M 2 (M 5 i)) ((M 6 16) % 24))) (M 6 i)))) 55 A53) m (dW (bb (M 6 (12 + (M 5 i))) (bcF (M 2 (M 5 i)) ((M 6 16) % 24))) c A53 m 0 (M 6 i)) (by omega) (by omega) (by omega) (by show 0 ≤ dc (TV (sfF (M 3 i) (M 4 i) (M 6 (6 + i)) ((M 6 16) % 24)) (bb (M 6 (12 + (M 5 i))) (bcF (M 2 (M 5 i)) ((M 6 16) % 24))) (M 6 i)) ∧ dc (TV (sfF (M 3 i) (M 4 i) (M 6 (6 + i)) ((M 6 16) % 24)) (bb (M 6 (12 + (M 5 i))) (bcF (M 2 (M 5 i)) ((M 6 16) % 24))) (M 6 i)) ≤ 11; omega) hm hA (P := (fun q0 M' => (¬ ((0 ≤ i ∧ i < M 1 1) ∧ (0 ≤ w ∧ w ≤ 6) ∧ (0 ≤ c ∧ c ≤ 10)) ∧ q0 = some (vi (-2)) ∧ up M 0 14 (M 0 14 + 1) = M') ∨ (((0 ≤ i ∧ i < M 1 1) ∧ (0 ≤ w ∧ w ≤ 6) ∧ (0 ≤ c ∧ c ≤ 10)) ∧ q0 = some (vi 1) ∧ ∃ X Y : Nat, DkR (sfF (M 3 i) (M 4 i) (M 6 (6 + i)) ((M 6 16) % 24)) (bb (M 6 (12 + (M 5 i))) (bcF (M 2 (M 5 i)) ((M 6 16) % 24))) (M 6 i) w c X Y ∧ M' 0 = st1 (st1 (M 0) 12 (frA X Y)) 13 (frB X Y) ∧ ∀ r, r ≠ 0 → r ≠ 53 → r ≠ 54 → r ≠ 55 → r ≠ 61 → r ≠ 62 → M r = M' r))) ?_ 20 0 ((sr (up (sr M 54 F53) 53 2 (dc (TV (sfF (M 3 i) (M 4 i) (M 6 (6 + i)) ((M 6 16) % 24)) (bb (M 6 (12 + (M 5 i))) (bcF (M 2 (M 5 i)) ((M 6 16) % 24))) (M 6 i)))) 55 A53) 62) D0 (by omega) (d0 _) n0 (by rw [d0]; exact Int.le_refl _) (by omega)
              · rw [show sr (sr (up (sr M 54 F53) 53 2 (dc (TV (sfF (M 3 i) (M 4 i) (M 6 (6 + i)) ((M 6 16) % 24)) (bb (M 6 (12 + (M 5 i))) (bcF (M 2 (M 5 i)) ((M 6 16) % 24))) (M 6 i)))) 55 A53) 62 ((sr (up (sr M 54 F53) 53 2 (dc (TV (sfF (M 3 i) (M 4 i) (M 6 (6 + i)) ((M 6 16) % 24)) (bb (M 6 (12 + (M 5 i))) (bcF (M 2 (M 5 i)) ((M 6 16) % 24))) (M 6 i)))) 55 A53) 62) = (sr (up (sr M 54 F53) 53 2 (dc (TV (sfF (M 3 i) (M 4 i) (M 6 (6 + i)) ((M 6 16) % 24)) (bb (M 6 (12 + (M 5 i))) (bcF (M 2 (M 5 i)) ((M 6 16) % 24))) (M 6 i)))) 55 A53) from sr_self] at h9
                exact h9
              intro C D hU hN hS
              have hnn := s_nn (f := fun x => D (x : Int)) 12 (fun m hm => hN m (by omega) (by omega))
              rw [w12_1] at hU hS
              have hX : sS (fun x => D x) 12 = (((sS (fun x => D x) 12).toNat : Nat) : Int) := by omega
              refine Hx.imp (c_darkEnd i w c (bb (M 6 (12 + (M 5 i))) (bcF (M 2 (M 5 i)) ((M 6 16) % 24))) _ (sr (sr (sr (up (sr M 54 F53) 53 2 (dc (TV (sfF (M 3 i) (M 4 i) (M 6 (6 + i)) ((M 6 16) % 24)) (bb (M 6 (12 + (M 5 i))) (bcF (M 2 (M 5 i)) ((M 6 16) % 24))) (M 6 i)))) 55 A53) 62 C) 61 D) m (sS (fun x => D x) 12).toNat (by omega) hN hX (by omega)) ?_
              rintro q0 M' ⟨rfl, rfl⟩
              refine Or.inr ⟨by omega, rfl, (sS (fun x => D x) 12).toNat, 10 ^ m, Or.inr ⟨hTV, A53, m, hRm, by omega, by omega, rfl⟩, ?_, ?_⟩
              · rw [up_row, up_row]; rfl
              · intro r h0 h53 h54 h55 h61 h62; funext j; simp [up, sr, fl, h0, h53, h54, h55, h61, h62]
  · skip
    refine Hx.run 2 (pc' := 32) (L' := [some (vr 0), some (vi i), some (vi w), some (vi c), none, none, none]) (st' := [vr 0]) (M' := M) rfl ?_
    refine Hx.call (t := 114) (as := [vr 0]) (pc' := 35) (rest := []) rfl (c_bad M (by (first | omega | (simp [sr, up] <;> omega)))) ?_
    rintro _ _ ⟨rfl, rfl⟩
    refine Hx.run 0 (pc' := 35) (L' := [some (vr 0), some (vi i), some (vi w), some (vi c), none, none, none]) (st' := [vi (-2)]) (M' := (up M 0 14 ((M 0 14) + 1))) rfl ?_
    refine Hx.ret rfl ?_
    first
      | exact Or.inl ⟨by omega, rfl, rfl⟩
      | (refine Or.inr ⟨by omega, rfl, 0, 1, Or.inl ⟨by omega, rfl, rfl⟩, ?_, ?_⟩
         · rw [up_row, up_row]; rfl
         · intro r h0 h53 h54 h55 h61 h62; funext j; simp [up, sr, fl, h0, h53, h54, h55, h61, h62])
