/-! the class finds the first row (written by wip/whole/gen33.py) -/
def psum (A : Int → Int) : Nat → Int
  | 0 => 0
  | n + 1 => psum A n + A n
theorem psum_succ (A : Int → Int) (n : Nat) : psum A (n + 1) = psum A n + A n := rfl
theorem psum_st1 {A : Int → Int} {n : Nat} {v : Int} : ∀ m : Nat, m ≤ n → psum (st1 A n v) m = psum A m
  | 0, _ => rfl
  | m + 1, h => by
    rw [psum_succ, psum_succ, psum_st1 m (by omega), st1_ne (by omega)]
/-- A is the first row from p, of n strides -/
def RowP (far b p : Int) (A : Int → Int) (n : Nat) : Prop := ∀ m : Nat, m < n → IsF far b (p + psum A m) (A m)
theorem RowP_pos {far b p : Int} {A : Int → Int} (hp : 0 ≤ p ∧ p ≤ 11) : ∀ n : Nat, RowP far b p A n → TV far b (p + psum A n) = TV far b p - n ∧ 0 ≤ psum A n ∧ p + psum A n ≤ 11
  | 0, _ => by
    rw [show psum A 0 = 0 from rfl, Int.add_zero]
    omega
  | n + 1, h => by
    obtain ⟨h1, h2, h3⟩ := RowP_pos hp n (fun m hm => h m (by omega))
    obtain ⟨k1, k2, k3, k4, -⟩ := h n (by omega)
    have k5 := k4.2
    rw [show min 11 (p + psum A n + A n) = p + psum A n + A n by omega] at k5
    rw [psum_succ, show p + (psum A n + A n) = p + psum A n + A n by omega]
    omega
theorem RowP_st1 {far b p : Int} {A : Int → Int} {n : Nat} {k : Int} (h : RowP far b p A n) (hk : IsF far b (p + psum A n) k) : RowP far b p (st1 A n k) (n + 1) := by
  intro m hm
  by_cases e : m = n
  · subst e
    rw [psum_st1 m (Nat.le_refl m), st1_at]
    exact hk
  · rw [psum_st1 m (by omega), st1_ne (by omega)]
    exact h m (by omega)

set_option maxRecDepth 100000 in
theorem cl_find_53 (p far b : Int) (M : Mm) (hfar : 1 ≤ far ∧ far ≤ 5) (hb0 : 0 ≤ b ∧ b < 2048) (hp : 0 ≤ p ∧ p ≤ 11) (F53 : Int → Int) (hF53 : ∀ x, p ≤ x → x ≤ 11 → F53 x = dc (TV far b x)) : ∀ (kk : Nat) (n : Nat) (A : Int → Int) (jk : Option PV), ((n : Int) ≤ dc (TV far b p) ∨ n = 0) → RowP far b p A n → 20 - (n : Int) < (kk : Int) → Hx 2 17 [some (vr 53), some (vi p), some (vi far), some (vi b), some (vi (p + psum A n)), some (vi (n : Int)), jk] [] (sr (up (sr M 54 F53) 53 2 (dc (TV far b p))) 55 A) (fun q0 M' => q0 = none ∧ ∃ F A : Int → Int, sr (up (sr M 54 F) 53 2 (dc (TV far b p))) 55 A = M' ∧ (TV far b p < 1000000 → RowP far b p A (TV far b p).toNat)) := by
  intro kk
  induction kk with
  | zero =>
    intro n A jk hn hR hkk
    have d0 := dc_cases (TV far b p)
    have hfin := TV_fin (far := far) (b := b) (x := p) (by omega) (by omega)
    exact absurd hkk (by omega)
  | succ kk ih =>
    intro n A jk hn hR hkk
    have hpos := RowP_pos hp n hR
    have d0 := dc_cases (TV far b p)
    have hfin := TV_fin (far := far) (b := b) (x := p) (by omega) (by omega)
    have h11 := TV_11 (far := far) (b := b)
    have hne : (n : Int) < dc (TV far b p) → p + psum A n ≤ 10 := by
      intro hlt
      rcases Int.lt_or_le 10 (p + psum A n) with q | q
      · have e : p + psum A n = 11 := by omega
        rw [e, h11] at hpos
        omega
      · exact q
    have hlen : (sr (up (sr M 54 F53) 53 2 (dc (TV far b p))) 55 A) 53 2 = dc (TV far b p) := rfl
    refine Hx.run 3 (pc' := 23) (L' := [some (vr 53), some (vi p), some (vi far), some (vi b), some (vi (p + psum A n)), some (vi (n : Int)), jk]) (st' := [vi ((sr (up (sr M 54 F53) 53 2 (dc (TV far b p))) 55 A) 53 2), vi (n : Int)]) (M' := (sr (up (sr M 54 F53) 53 2 (dc (TV far b p))) 55 A)) rfl ?_
    refine Hx.br (c := (n : Int) < ((sr (up (sr M 54 F53) 53 2 (dc (TV far b p))) 55 A) 53 2)) (t := 26) (f := 69) rfl (fun h1 => ?_) (fun h1 => ?_)
    · skip
      refine Hx.run 7 (pc' := 37) (L' := [some (vr 53), some (vi p), some (vi far), some (vi b), some (vi (p + psum A n)), some (vi (n : Int)), jk]) (st' := [vi (n : Int), vi ((sr (up (sr M 54 F53) 53 2 (dc (TV far b p))) 55 A) 53 2), vi b, vi far, vi (p + psum A n), vr 53]) (M' := (sr (up (sr M 54 F53) 53 2 (dc (TV far b p))) 55 A)) rfl ?_
      refine Hx.sub rfl (by omega) ?_
      refine Hx.run 1 (pc' := 39) (L' := [some (vr 53), some (vi p), some (vi far), some (vi b), some (vi (p + psum A n)), some (vi (n : Int)), jk]) (st' := [vi 1, vi (((sr (up (sr M 54 F53) 53 2 (dc (TV far b p))) 55 A) 53 2) - (n : Int)), vi b, vi far, vi (p + psum A n), vr 53]) (M' := (sr (up (sr M 54 F53) 53 2 (dc (TV far b p))) 55 A)) rfl ?_
      refine Hx.sub rfl (by omega) ?_
      refine Hx.call (t := 3) (as := [vr 53, vi (p + psum A n), vi far, vi b, vi ((((sr (up (sr M 54 F53) 53 2 (dc (TV far b p))) 55 A) 53 2) - (n : Int)) - 1)]) (pc' := 43) (rest := []) rfl (by rw [show (((((sr (up (sr M 54 F53) 53 2 (dc (TV far b p))) 55 A) 53 2) - (n : Int)) - 1)) = TV far b (p + psum A n) - 1 by omega]; exact c_shortest_53 (p + psum A n) far b (sr (up (sr M 54 F53) 53 2 (dc (TV far b p))) 55 A) hfar hb0 (by omega) (by omega) (fun x h1 h2 => by rw [sr_ne (by decide), up_ne (by decide), sr_at]; exact hF53 x (by omega) h2)) ?_
      rintro _ _ ⟨k, hkF, rfl, rfl⟩
      obtain ⟨hk1, hk2, hk3, -⟩ := id hkF
      refine Hx.run 0 (pc' := 43) (L' := [some (vr 53), some (vi p), some (vi far), some (vi b), some (vi (p + psum A n)), some (vi (n : Int)), jk]) (st' := [vi k]) (M' := (sr (up (sr M 54 F53) 53 2 (dc (TV far b p))) 55 A)) rfl ?_
      refine Hx.run 5 (pc' := 53) (L' := [some (vr 53), some (vi p), some (vi far), some (vi b), some (vi (p + psum A n)), some (vi (n : Int)), some (vi k)]) (st' := [vi k, vi (n : Int), vr 55]) (M' := (sr (up (sr M 54 F53) 53 2 (dc (TV far b p))) 55 A)) rfl ?_
      refine Hx.call (t := 122) (as := [vr 55, vi (n : Int), vi k]) (pc' := 56) (rest := []) rfl (c_put (r := 55) (n := 11) rfl (by decide) (i := (n : Int)) (by omega) k (sr (up (sr M 54 F53) 53 2 (dc (TV far b p))) 55 A)) ?_
      rintro _ _ ⟨rfl, rfl⟩
      refine Hx.run 0 (pc' := 56) (L' := [some (vr 53), some (vi p), some (vi far), some (vi b), some (vi (p + psum A n)), some (vi (n : Int)), some (vi k)]) (st' := []) (M' := (up (sr (up (sr M 54 F53) 53 2 (dc (TV far b p))) 55 A) 55 (n : Int) k)) rfl ?_
      refine Hx.run 2 (pc' := 60) (L' := [some (vr 53), some (vi p), some (vi far), some (vi b), some (vi (p + psum A n)), some (vi (n : Int)), some (vi k)]) (st' := [vi k, vi (p + psum A n)]) (M' := (up (sr (up (sr M 54 F53) 53 2 (dc (TV far b p))) 55 A) 55 (n : Int) k)) rfl ?_
      refine Hx.add rfl (by omega) ?_
      refine Hx.run 1 (pc' := 63) (L' := [some (vr 53), some (vi p), some (vi far), some (vi b), some (vi ((p + psum A n) + k)), some (vi (n : Int)), some (vi k)]) (st' := []) (M' := (up (sr (up (sr M 54 F53) 53 2 (dc (TV far b p))) 55 A) 55 (n : Int) k)) rfl ?_
      refine Hx.inc rfl rfl (by omega) ?_
      refine Hx.run 0 (pc' := 66) (L' := [some (vr 53), some (vi p), some (vi far), some (vi b), some (vi ((p + psum A n) + k)), some (vi ((n : Int) + 1)), some (vi k)]) (st' := []) (M' := (up (sr (up (sr M 54 F53) 53 2 (dc (TV far b p))) 55 A) 55 (n : Int) k)) rfl ?_
      refine Hx.run 1 (pc' := 17) (L' := [some (vr 53), some (vi p), some (vi far), some (vi b), some (vi ((p + psum A n) + k)), some (vi ((n : Int) + 1)), some (vi k)]) (st' := []) (M' := (up (sr (up (sr M 54 F53) 53 2 (dc (TV far b p))) 55 A) 55 (n : Int) k)) rfl ?_
      rw [sr_up]
      have h9 := ih (n + 1) (st1 A n k) (some (vi k)) (by omega) (RowP_st1 hR hkF) (by omega)
      rw [psum_succ, psum_st1 n (Nat.le_refl n), st1_at, show p + (psum A n + k) = p + psum A n + k by omega] at h9
      exact h9
    · skip
      refine Hx.ret rfl ?_
      refine ⟨rfl, F53, A, rfl, fun hT => ?_⟩
      rw [show (TV far b p).toNat = n by omega]
      exact hR
set_option maxRecDepth 100000 in
theorem c_find_53 (p far b : Int) (M : Mm) (hfar : 1 ≤ far ∧ far ≤ 5) (hb0 : 0 ≤ b ∧ b < 2048) (hp : 0 ≤ p ∧ p ≤ 11) : Ct 2 [vr 53, vi p, vi far, vi b] M (fun q0 M' => q0 = none ∧ ∃ F A : Int → Int, sr (up (sr M 54 F) 53 2 (dc (TV far b p))) 55 A = M' ∧ (TV far b p < 1000000 → RowP far b p A (TV far b p).toNat)) := by
  refine Hx.run 5 (pc' := 5) (L' := [some (vr 53), some (vi p), some (vi far), some (vi b), none, none, none]) (st' := [vi b, vi far, vi p, vr 53, vr 53]) (M' := M) rfl ?_
  refine Hx.call (t := 0) (as := [vr 53, vi p, vi far, vi b]) (pc' := 8) (rest := [vr 53]) rfl (c_fewestFrom_53 p far b M (by omega) (by omega) (by omega)) ?_
  rintro _ _ ⟨rfl, F53, hF53, rfl⟩
  refine Hx.run 0 (pc' := 8) (L' := [some (vr 53), some (vi p), some (vi far), some (vi b), none, none, none]) (st' := [vi (dc (TV far b p)), vr 53]) (M' := (sr M 54 F53)) rfl ?_
  refine Hx.run 5 (pc' := 17) (L' := [some (vr 53), some (vi p), some (vi far), some (vi b), some (vi p), some (vi 0), none]) (st' := []) (M' := (up (sr M 54 F53) 53 2 (dc (TV far b p)))) rfl ?_
  have h0 := cl_find_53 p far b M hfar hb0 hp F53 hF53 30 0 ((up (sr M 54 F53) 53 2 (dc (TV far b p))) 55) none (Or.inr rfl) (fun m hm => absurd hm (by omega)) (by omega)
  rw [sr_self, show psum ((up (sr M 54 F53) 53 2 (dc (TV far b p))) 55) 0 = 0 from rfl, Int.add_zero] at h0
  exact h0

set_option maxRecDepth 100000 in
theorem cl_find_56 (p far b : Int) (M : Mm) (hfar : 1 ≤ far ∧ far ≤ 5) (hb0 : 0 ≤ b ∧ b < 2048) (hp : 0 ≤ p ∧ p ≤ 11) (F56 : Int → Int) (hF56 : ∀ x, p ≤ x → x ≤ 11 → F56 x = dc (TV far b x)) : ∀ (kk : Nat) (n : Nat) (A : Int → Int) (jk : Option PV), ((n : Int) ≤ dc (TV far b p) ∨ n = 0) → RowP far b p A n → 20 - (n : Int) < (kk : Int) → Hx 2 17 [some (vr 56), some (vi p), some (vi far), some (vi b), some (vi (p + psum A n)), some (vi (n : Int)), jk] [] (sr (up (sr M 57 F56) 56 2 (dc (TV far b p))) 58 A) (fun q0 M' => q0 = none ∧ ∃ F A : Int → Int, sr (up (sr M 57 F) 56 2 (dc (TV far b p))) 58 A = M' ∧ (TV far b p < 1000000 → RowP far b p A (TV far b p).toNat)) := by
  intro kk
  induction kk with
  | zero =>
    intro n A jk hn hR hkk
    have d0 := dc_cases (TV far b p)
    have hfin := TV_fin (far := far) (b := b) (x := p) (by omega) (by omega)
    exact absurd hkk (by omega)
  | succ kk ih =>
    intro n A jk hn hR hkk
    have hpos := RowP_pos hp n hR
    have d0 := dc_cases (TV far b p)
    have hfin := TV_fin (far := far) (b := b) (x := p) (by omega) (by omega)
    have h11 := TV_11 (far := far) (b := b)
    have hne : (n : Int) < dc (TV far b p) → p + psum A n ≤ 10 := by
      intro hlt
      rcases Int.lt_or_le 10 (p + psum A n) with q | q
      · have e : p + psum A n = 11 := by omega
        rw [e, h11] at hpos
        omega
      · exact q
    have hlen : (sr (up (sr M 57 F56) 56 2 (dc (TV far b p))) 58 A) 56 2 = dc (TV far b p) := rfl
    refine Hx.run 3 (pc' := 23) (L' := [some (vr 56), some (vi p), some (vi far), some (vi b), some (vi (p + psum A n)), some (vi (n : Int)), jk]) (st' := [vi ((sr (up (sr M 57 F56) 56 2 (dc (TV far b p))) 58 A) 56 2), vi (n : Int)]) (M' := (sr (up (sr M 57 F56) 56 2 (dc (TV far b p))) 58 A)) rfl ?_
    refine Hx.br (c := (n : Int) < ((sr (up (sr M 57 F56) 56 2 (dc (TV far b p))) 58 A) 56 2)) (t := 26) (f := 69) rfl (fun h1 => ?_) (fun h1 => ?_)
    · skip
      refine Hx.run 7 (pc' := 37) (L' := [some (vr 56), some (vi p), some (vi far), some (vi b), some (vi (p + psum A n)), some (vi (n : Int)), jk]) (st' := [vi (n : Int), vi ((sr (up (sr M 57 F56) 56 2 (dc (TV far b p))) 58 A) 56 2), vi b, vi far, vi (p + psum A n), vr 56]) (M' := (sr (up (sr M 57 F56) 56 2 (dc (TV far b p))) 58 A)) rfl ?_
      refine Hx.sub rfl (by omega) ?_
      refine Hx.run 1 (pc' := 39) (L' := [some (vr 56), some (vi p), some (vi far), some (vi b), some (vi (p + psum A n)), some (vi (n : Int)), jk]) (st' := [vi 1, vi (((sr (up (sr M 57 F56) 56 2 (dc (TV far b p))) 58 A) 56 2) - (n : Int)), vi b, vi far, vi (p + psum A n), vr 56]) (M' := (sr (up (sr M 57 F56) 56 2 (dc (TV far b p))) 58 A)) rfl ?_
      refine Hx.sub rfl (by omega) ?_
      refine Hx.call (t := 3) (as := [vr 56, vi (p + psum A n), vi far, vi b, vi ((((sr (up (sr M 57 F56) 56 2 (dc (TV far b p))) 58 A) 56 2) - (n : Int)) - 1)]) (pc' := 43) (rest := []) rfl (by rw [show (((((sr (up (sr M 57 F56) 56 2 (dc (TV far b p))) 58 A) 56 2) - (n : Int)) - 1)) = TV far b (p + psum A n) - 1 by omega]; exact c_shortest_56 (p + psum A n) far b (sr (up (sr M 57 F56) 56 2 (dc (TV far b p))) 58 A) hfar hb0 (by omega) (by omega) (fun x h1 h2 => by rw [sr_ne (by decide), up_ne (by decide), sr_at]; exact hF56 x (by omega) h2)) ?_
      rintro _ _ ⟨k, hkF, rfl, rfl⟩
      obtain ⟨hk1, hk2, hk3, -⟩ := id hkF
      refine Hx.run 0 (pc' := 43) (L' := [some (vr 56), some (vi p), some (vi far), some (vi b), some (vi (p + psum A n)), some (vi (n : Int)), jk]) (st' := [vi k]) (M' := (sr (up (sr M 57 F56) 56 2 (dc (TV far b p))) 58 A)) rfl ?_
      refine Hx.run 5 (pc' := 53) (L' := [some (vr 56), some (vi p), some (vi far), some (vi b), some (vi (p + psum A n)), some (vi (n : Int)), some (vi k)]) (st' := [vi k, vi (n : Int), vr 58]) (M' := (sr (up (sr M 57 F56) 56 2 (dc (TV far b p))) 58 A)) rfl ?_
      refine Hx.call (t := 122) (as := [vr 58, vi (n : Int), vi k]) (pc' := 56) (rest := []) rfl (c_put (r := 58) (n := 11) rfl (by decide) (i := (n : Int)) (by omega) k (sr (up (sr M 57 F56) 56 2 (dc (TV far b p))) 58 A)) ?_
      rintro _ _ ⟨rfl, rfl⟩
      refine Hx.run 0 (pc' := 56) (L' := [some (vr 56), some (vi p), some (vi far), some (vi b), some (vi (p + psum A n)), some (vi (n : Int)), some (vi k)]) (st' := []) (M' := (up (sr (up (sr M 57 F56) 56 2 (dc (TV far b p))) 58 A) 58 (n : Int) k)) rfl ?_
      refine Hx.run 2 (pc' := 60) (L' := [some (vr 56), some (vi p), some (vi far), some (vi b), some (vi (p + psum A n)), some (vi (n : Int)), some (vi k)]) (st' := [vi k, vi (p + psum A n)]) (M' := (up (sr (up (sr M 57 F56) 56 2 (dc (TV far b p))) 58 A) 58 (n : Int) k)) rfl ?_
      refine Hx.add rfl (by omega) ?_
      refine Hx.run 1 (pc' := 63) (L' := [some (vr 56), some (vi p), some (vi far), some (vi b), some (vi ((p + psum A n) + k)), some (vi (n : Int)), some (vi k)]) (st' := []) (M' := (up (sr (up (sr M 57 F56) 56 2 (dc (TV far b p))) 58 A) 58 (n : Int) k)) rfl ?_
      refine Hx.inc rfl rfl (by omega) ?_
      refine Hx.run 0 (pc' := 66) (L' := [some (vr 56), some (vi p), some (vi far), some (vi b), some (vi ((p + psum A n) + k)), some (vi ((n : Int) + 1)), some (vi k)]) (st' := []) (M' := (up (sr (up (sr M 57 F56) 56 2 (dc (TV far b p))) 58 A) 58 (n : Int) k)) rfl ?_
      refine Hx.run 1 (pc' := 17) (L' := [some (vr 56), some (vi p), some (vi far), some (vi b), some (vi ((p + psum A n) + k)), some (vi ((n : Int) + 1)), some (vi k)]) (st' := []) (M' := (up (sr (up (sr M 57 F56) 56 2 (dc (TV far b p))) 58 A) 58 (n : Int) k)) rfl ?_
      rw [sr_up]
      have h9 := ih (n + 1) (st1 A n k) (some (vi k)) (by omega) (RowP_st1 hR hkF) (by omega)
      rw [psum_succ, psum_st1 n (Nat.le_refl n), st1_at, show p + (psum A n + k) = p + psum A n + k by omega] at h9
      exact h9
    · skip
      refine Hx.ret rfl ?_
      refine ⟨rfl, F56, A, rfl, fun hT => ?_⟩
      rw [show (TV far b p).toNat = n by omega]
      exact hR
set_option maxRecDepth 100000 in
theorem c_find_56 (p far b : Int) (M : Mm) (hfar : 1 ≤ far ∧ far ≤ 5) (hb0 : 0 ≤ b ∧ b < 2048) (hp : 0 ≤ p ∧ p ≤ 11) : Ct 2 [vr 56, vi p, vi far, vi b] M (fun q0 M' => q0 = none ∧ ∃ F A : Int → Int, sr (up (sr M 57 F) 56 2 (dc (TV far b p))) 58 A = M' ∧ (TV far b p < 1000000 → RowP far b p A (TV far b p).toNat)) := by
  refine Hx.run 5 (pc' := 5) (L' := [some (vr 56), some (vi p), some (vi far), some (vi b), none, none, none]) (st' := [vi b, vi far, vi p, vr 56, vr 56]) (M' := M) rfl ?_
  refine Hx.call (t := 0) (as := [vr 56, vi p, vi far, vi b]) (pc' := 8) (rest := [vr 56]) rfl (c_fewestFrom_56 p far b M (by omega) (by omega) (by omega)) ?_
  rintro _ _ ⟨rfl, F56, hF56, rfl⟩
  refine Hx.run 0 (pc' := 8) (L' := [some (vr 56), some (vi p), some (vi far), some (vi b), none, none, none]) (st' := [vi (dc (TV far b p)), vr 56]) (M' := (sr M 57 F56)) rfl ?_
  refine Hx.run 5 (pc' := 17) (L' := [some (vr 56), some (vi p), some (vi far), some (vi b), some (vi p), some (vi 0), none]) (st' := []) (M' := (up (sr M 57 F56) 56 2 (dc (TV far b p)))) rfl ?_
  have h0 := cl_find_56 p far b M hfar hb0 hp F56 hF56 30 0 ((up (sr M 57 F56) 56 2 (dc (TV far b p))) 58) none (Or.inr rfl) (fun m hm => absurd hm (by omega)) (by omega)
  rw [sr_self, show psum ((up (sr M 57 F56) 56 2 (dc (TV far b p))) 58) 0 = 0 from rfl, Int.add_zero] at h0
  exact h0
