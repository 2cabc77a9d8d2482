/-! look and ask of the class (written by wip/whole/gen54.py) -/
/-- how many below n are in the set and answer x -/
def cnt (g : Nat → Bool) (v : Nat → Int) (x : Int) : Nat → Int
  | 0 => 0
  | n + 1 => cnt g v x n + (if g n = true ∧ v n = x then 1 else 0)
theorem cnt_succ (g : Nat → Bool) (v : Nat → Int) (x : Int) (n : Nat) : cnt g v x (n + 1) = cnt g v x n + (if g n = true ∧ v n = x then 1 else 0) := rfl
theorem cnt_rng (g : Nat → Bool) (v : Nat → Int) (x : Int) : ∀ n : Nat, 0 ≤ cnt g v x n ∧ cnt g v x n ≤ n
  | 0 => ⟨Int.le_refl _, Int.le_refl _⟩
  | n + 1 => by
    have h := cnt_rng g v x n
    rw [cnt_succ]
    split <;> omega
theorem cnt_mono (g : Nat → Bool) (v : Nat → Int) (x : Int) (k : Nat) : ∀ n : Nat, k ≤ n → cnt g v x k ≤ cnt g v x n
  | 0, h => by rw [show k = 0 by omega]; exact Int.le_refl _
  | n + 1, h => by
    by_cases e : k = n + 1
    · rw [e]; exact Int.le_refl _
    · have h1 := cnt_mono g v x k n (by omega)
      rw [cnt_succ]
      split <;> omega
theorem cnt_last (g : Nat → Bool) (v : Nat → Int) (x : Int) : ∀ n : Nat, 0 < cnt g v x n → ∃ k, k < n ∧ g k = true ∧ v k = x ∧ cnt g v x (k + 1) = cnt g v x n
  | 0, h => absurd h (by show ¬ (0 : Int) < 0; decide)
  | n + 1, h => by
    by_cases e : g n = true ∧ v n = x
    · exact ⟨n, by omega, e.1, e.2, rfl⟩
    · rw [cnt_succ, if_neg e, Int.add_zero] at h ⊢
      obtain ⟨k, h1, h2, h3, h4⟩ := cnt_last g v x n h
      exact ⟨k, by omega, h2, h3, h4⟩
/-- the most alike, as they come -/
def rmx (g : Nat → Bool) (v : Nat → Int) : Nat → Int
  | 0 => 0
  | n + 1 => if g n = true then max (rmx g v n) (cnt g v (v n) n + 1) else rmx g v n
theorem rmx_succ (g : Nat → Bool) (v : Nat → Int) (n : Nat) : rmx g v (n + 1) = if g n = true then max (rmx g v n) (cnt g v (v n) n + 1) else rmx g v n := rfl
theorem rmx_rng (g : Nat → Bool) (v : Nat → Int) : ∀ n : Nat, 0 ≤ rmx g v n ∧ rmx g v n ≤ n
  | 0 => ⟨Int.le_refl _, Int.le_refl _⟩
  | n + 1 => by
    have h := rmx_rng g v n
    have h2 := cnt_rng g v (v n) n
    rw [rmx_succ]
    split <;> omega
theorem rmx_ge (g : Nat → Bool) (v : Nat → Int) (k : Nat) (hk : g k = true) : ∀ n : Nat, k < n → cnt g v (v k) (k + 1) ≤ rmx g v n
  | 0, h => absurd h (by omega)
  | n + 1, h => by
    by_cases e : k = n
    · subst e
      rw [rmx_succ, if_pos hk, cnt_succ, if_pos ⟨hk, rfl⟩]
      omega
    · have h1 := rmx_ge g v k hk n (by omega)
      rw [rmx_succ]
      split <;> omega
theorem rmx_le (g : Nat → Bool) (v : Nat → Int) (B : Int) (hB : 0 ≤ B) : ∀ n : Nat, (∀ k, k < n → g k = true → cnt g v (v k) (k + 1) ≤ B) → rmx g v n ≤ B
  | 0, _ => hB
  | n + 1, h => by
    have h1 := rmx_le g v B hB n (fun k hk => h k (by omega))
    rw [rmx_succ]
    split
    · rename_i q
      have h2 := h n (by omega) q
      rw [cnt_succ, if_pos ⟨q, rfl⟩] at h2
      omega
    · exact h1
/-- the most alike among the first a, of N in all -/
def ctA (g : Nat → Bool) (v : Nat → Int) (a N : Nat) : Int := if g a = true then cnt g v (v a) N else 0
def tmx (g : Nat → Bool) (v : Nat → Int) (N : Nat) : Nat → Int
  | 0 => 0
  | a + 1 => max (tmx g v N a) (ctA g v a N)
theorem tmx_succ (g : Nat → Bool) (v : Nat → Int) (N a : Nat) : tmx g v N (a + 1) = max (tmx g v N a) (ctA g v a N) := rfl
theorem tmx_rng (g : Nat → Bool) (v : Nat → Int) (N : Nat) : ∀ a : Nat, 0 ≤ tmx g v N a ∧ tmx g v N a ≤ N
  | 0 => ⟨Int.le_refl _, by show (0 : Int) ≤ N; omega⟩
  | a + 1 => by
    have h := tmx_rng g v N a
    have h2 := cnt_rng g v (v a) N
    rw [tmx_succ]
    unfold ctA
    split <;> omega
theorem tmx_ge (g : Nat → Bool) (v : Nat → Int) (N k : Nat) (hk : g k = true) : ∀ a : Nat, k < a → cnt g v (v k) N ≤ tmx g v N a
  | 0, h => absurd h (by omega)
  | a + 1, h => by
    rw [tmx_succ]
    by_cases e : k = a
    · subst e
      rw [show ctA g v k N = cnt g v (v k) N from if_pos hk]
      omega
    · have h1 := tmx_ge g v N k hk a (by omega)
      omega
theorem tmx_le (g : Nat → Bool) (v : Nat → Int) (N : Nat) (B : Int) (hB : 0 ≤ B) : ∀ a : Nat, (∀ k, k < a → g k = true → cnt g v (v k) N ≤ B) → tmx g v N a ≤ B
  | 0, _ => hB
  | a + 1, h => by
    have h1 := tmx_le g v N B hB a (fun k hk => h k (by omega))
    rw [tmx_succ]
    unfold ctA
    split
    · rename_i q
      have h2 := h a (by omega) q
      omega
    · omega
theorem rmx_tmx (g : Nat → Bool) (v : Nat → Int) (n : Nat) : tmx g v n n = rmx g v n := by
  apply Int.le_antisymm
  · refine tmx_le g v n _ (rmx_rng g v n).1 n (fun a ha q => ?_)
    have h1 : 0 < cnt g v (v a) n := by
      have h2 := cnt_mono g v (v a) (a + 1) n (by omega)
      have h3 := cnt_rng g v (v a) a
      rw [cnt_succ, if_pos ⟨q, rfl⟩] at h2
      omega
    obtain ⟨k, k1, k2, k3, k4⟩ := cnt_last g v (v a) n h1
    rw [← k4, ← k3]
    exact rmx_ge g v k k2 n k1
  · refine rmx_le g v _ (tmx_rng g v n n).1 n (fun k hk q => ?_)
    have h1 := cnt_mono g v (v k) (k + 1) n (by omega)
    have h2 := tmx_ge g v n k q n hk
    omega
theorem cnt_congr {g g' : Nat → Bool} {v v' : Nat → Int} {x : Int} : ∀ n, (∀ m, m < n → g m = g' m ∧ v m = v' m) → cnt g v x n = cnt g' v' x n
  | 0, _ => rfl
  | n + 1, h => by rw [cnt_succ, cnt_succ, cnt_congr n (fun m hm => h m (by omega)), (h n (by omega)).1, (h n (by omega)).2]
theorem rmx_congr {g g' : Nat → Bool} {v v' : Nat → Int} : ∀ n, (∀ m, m < n → g m = g' m ∧ v m = v' m) → rmx g v n = rmx g' v' n
  | 0, _ => rfl
  | n + 1, h => by rw [rmx_succ, rmx_succ, rmx_congr n (fun m hm => h m (by omega)), (h n (by omega)).1, (h n (by omega)).2, cnt_congr n (fun m hm => h m (by omega))]
theorem fl_sr {M : Mm} {r : Nat} {lo hi v : Int} : fl M r lo hi v = sr M r (fun b => if lo ≤ b ∧ b < hi then v else M r b) := by
  funext a b
  simp only [fl, sr]
  by_cases h : a = r
  · subst h; simp
  · simp [h]
theorem bit_e {g : Nat → Bool} {n : Nat} (h : n < 6) : i2 fand (i2 fshr (bS g 6) (n : Int)) 1 = 1 ↔ g n = true := by
  have h1 := bS_rng g 6
  rw [hb_e ⟨h1.1, by have := h1.2; omega⟩ (by omega), show ((n : Int)).toNat = n from rfl, bS_bit h]
  split <;> rename_i q <;> simp [q]
theorem cnt_st1 {g : Nat → Bool} {v : Nat → Int} {n : Nat} {A : Int → Int} (h : g n = true) (hA : ∀ x, 0 ≤ x → x < 10 → A x = cnt g v x n) : ∀ x, 0 ≤ x → x < 10 → st1 A (v n) (A (v n) + 1) x = cnt g v x (n + 1) := by
  intro x h0 h1
  rw [cnt_succ]
  by_cases e : x = v n
  · rw [e, st1_at, if_pos ⟨h, rfl⟩, ← e, hA x h0 h1]
  · rw [st1_ne e, if_neg (fun z => e z.2.symm), hA x h0 h1, Int.add_zero]
theorem cnt_skip {g : Nat → Bool} {v : Nat → Int} {n : Nat} {A : Int → Int} (h : ¬ g n = true) (hA : ∀ x, 0 ≤ x → x < 10 → A x = cnt g v x n) : ∀ x, 0 ≤ x → x < 10 → A x = cnt g v x (n + 1) := by
  intro x h0 h1
  rw [cnt_succ, if_neg (fun z => h z.1), hA x h0 h1, Int.add_zero]
def vO (t : Int) (k : Nat) : Int := bcF (k : Int) t
def vG (l x t : Int) (k : Nat) : Int := sfF (k : Int) l x t
set_option maxRecDepth 100000 in
theorem c_oneMore (x : Int) (M : Mm) (hx : 0 ≤ x ∧ x < 10) (hA : 0 ≤ M 63 x ∧ M 63 x ≤ 100) : Ct 90 [vr 0, vi x] M (fun q0 M' => q0 = some (vi (M 63 x + 1)) ∧ up M 63 x (M 63 x + 1) = M') := by
  refine Hx.run 6 (pc' := 10) (L' := [some (vr 0), some (vi x)]) (st' := [vi x, vr 63, vi x, vr 63]) (M' := M) rfl ?_
  refine Hx.call (t := 121) (as := [vr 63, vi x]) (pc' := 13) (rest := [vi x, vr 63]) rfl (c_at (r := 63) (n := 10) rfl (by decide) (i := x) (by omega) M) ?_
  rintro _ _ ⟨rfl, rfl⟩
  refine Hx.run 0 (pc' := 13) (L' := [some (vr 0), some (vi x)]) (st' := [vi (M 63 x), vi x, vr 63]) (M' := M) rfl ?_
  refine Hx.run 1 (pc' := 14) (L' := [some (vr 0), some (vi x)]) (st' := [vi 1, vi (M 63 x), vi x, vr 63]) (M' := M) rfl ?_
  refine Hx.add rfl (by omega) ?_
  refine Hx.call (t := 122) (as := [vr 63, vi x, vi ((M 63 x) + 1)]) (pc' := 18) (rest := []) rfl (c_put (r := 63) (n := 10) rfl (by decide) (i := x) (by omega) ((M 63 x) + 1) M) ?_
  rintro _ _ ⟨rfl, rfl⟩
  refine Hx.run 0 (pc' := 18) (L' := [some (vr 0), some (vi x)]) (st' := []) (M' := (up M 63 x ((M 63 x) + 1))) rfl ?_
  refine Hx.run 3 (pc' := 23) (L' := [some (vr 0), some (vi x)]) (st' := [vi x, vr 63]) (M' := (up M 63 x ((M 63 x) + 1))) rfl ?_
  refine Hx.call (t := 121) (as := [vr 63, vi x]) (pc' := 26) (rest := []) rfl (c_at (r := 63) (n := 10) rfl (by decide) (i := x) (by omega) (up M 63 x ((M 63 x) + 1))) ?_
  rintro _ _ ⟨rfl, rfl⟩
  refine Hx.run 0 (pc' := 26) (L' := [some (vr 0), some (vi x)]) (st' := [vi ((up M 63 x ((M 63 x) + 1)) 63 x)]) (M' := (up M 63 x ((M 63 x) + 1))) rfl ?_
  refine Hx.ret rfl ?_
  exact ⟨some_vi (by rw [up_at]), rfl⟩
set_option maxRecDepth 100000 in
theorem cl_mostO (g : Nat → Bool) (t : Int) (ht : 0 ≤ t ∧ t < 24) (M : Mm) : ∀ (kk : Nat) (n : Nat) (A : Int → Int), n ≤ 6 → (∀ z0, 0 ≤ z0 → z0 < 10 → A z0 = cnt g (vO t) z0 n) → 6 - (n : Int) < (kk : Int) → Hx 89 13 [some (vr 0), some (vi (bS g 6)), some (vi t), some (vi (rmx g (vO t) n)), some (vi (n : Int))] [] (sr M 63 A) (fun q0 M' => q0 = some (vi (rmx g (vO t) 6)) ∧ ∃ A : Int → Int, sr M 63 A = M') := by
  intro kk
  induction kk with
  | zero => intro n A _ _ hkk; exact absurd hkk (by omega)
  | succ kk ih =>
    intro n A hn hA hkk
    have vr_ : 0 ≤ (bcF (n : Int) t) ∧ (bcF (n : Int) t) < 10 := by have := bcF_rng (k := (n : Int)) (t := t); omega
    have hA1 := hA (bcF (n : Int) t) vr_.1 vr_.2
    have cr := cnt_rng g (vO t) (bcF (n : Int) t) n
    refine Hx.run 2 (pc' := 17) (L' := [some (vr 0), some (vi (bS g 6)), some (vi t), some (vi (rmx g (vO t) n)), some (vi (n : Int))]) (st' := [vi 6, vi (n : Int)]) (M' := (sr M 63 A)) rfl ?_
    refine Hx.br (c := (n : Int) < 6) (t := 20) (f := 51) rfl (fun h1 => ?_) (fun h1 => ?_)
    · skip
      refine Hx.run 6 (pc' := 27) (L' := [some (vr 0), some (vi (bS g 6)), some (vi t), some (vi (rmx g (vO t) n)), some (vi (n : Int))]) (st' := [vi 1, vi (i2 fand (i2 fshr (bS g 6) (n : Int)) 1)]) (M' := (sr M 63 A)) rfl ?_
      refine Hx.br (c := (i2 fand (i2 fshr (bS g 6) (n : Int)) 1) = 1) (t := 30) (f := 45) rfl (fun h2 => ?_) (fun h2 => ?_)
      · skip
        refine Hx.run 4 (pc' := 35) (L' := [some (vr 0), some (vi (bS g 6)), some (vi t), some (vi (rmx g (vO t) n)), some (vi (n : Int))]) (st' := [vi t, vi (n : Int), vr 0, vi (rmx g (vO t) n)]) (M' := (sr M 63 A)) rfl ?_
        refine Hx.call (t := 124) (as := [vi (n : Int), vi t]) (pc' := 38) (rest := [vr 0, vi (rmx g (vO t) n)]) rfl (c_barCount (n : Int) t (sr M 63 A) (by (first | omega | (rw [sr_at]; omega))) (by (first | omega | (rw [sr_at]; omega)))) ?_
        rintro _ _ ⟨rfl, rfl⟩
        refine Hx.run 0 (pc' := 38) (L' := [some (vr 0), some (vi (bS g 6)), some (vi t), some (vi (rmx g (vO t) n)), some (vi (n : Int))]) (st' := [vi (bcF (n : Int) t), vr 0, vi (rmx g (vO t) n)]) (M' := (sr M 63 A)) rfl ?_
        refine Hx.call (t := 90) (as := [vr 0, vi (bcF (n : Int) t)]) (pc' := 41) (rest := [vi (rmx g (vO t) n)]) rfl (c_oneMore (bcF (n : Int) t) (sr M 63 A) (by (first | omega | (rw [sr_at]; omega))) (by (first | omega | (rw [sr_at]; omega)))) ?_
        rintro _ _ ⟨rfl, rfl⟩
        refine Hx.run 0 (pc' := 41) (L' := [some (vr 0), some (vi (bS g 6)), some (vi t), some (vi (rmx g (vO t) n)), some (vi (n : Int))]) (st' := [vi (((sr M 63 A) 63 (bcF (n : Int) t)) + 1), vi (rmx g (vO t) n)]) (M' := (up (sr M 63 A) 63 (bcF (n : Int) t) (((sr M 63 A) 63 (bcF (n : Int) t)) + 1))) rfl ?_
        refine Hx.call (t := 225) (as := [vi (rmx g (vO t) n), vi (((sr M 63 A) 63 (bcF (n : Int) t)) + 1)]) (pc' := 44) (rest := []) rfl (c_max (rmx g (vO t) n) (((sr M 63 A) 63 (bcF (n : Int) t)) + 1) (up (sr M 63 A) 63 (bcF (n : Int) t) (((sr M 63 A) 63 (bcF (n : Int) t)) + 1))) ?_
        rintro _ _ ⟨rfl, rfl⟩
        refine Hx.run 0 (pc' := 44) (L' := [some (vr 0), some (vi (bS g 6)), some (vi t), some (vi (rmx g (vO t) n)), some (vi (n : Int))]) (st' := [vi (max (rmx g (vO t) n) (((sr (up (sr M 63 A) 63 (bcF (n : Int) t) (((sr M 63 A) 63 (bcF (n : Int) t)) + 1)) 63 A) 63 (bcF (n : Int) t)) + 1))]) (M' := (up (sr M 63 A) 63 (bcF (n : Int) t) (((sr M 63 A) 63 (bcF (n : Int) t)) + 1))) rfl ?_
        refine Hx.run 1 (pc' := 45) (L' := [some (vr 0), some (vi (bS g 6)), some (vi t), some (vi (max (rmx g (vO t) n) (((sr (up (sr M 63 A) 63 (bcF (n : Int) t) (((sr M 63 A) 63 (bcF (n : Int) t)) + 1)) 63 A) 63 (bcF (n : Int) t)) + 1))), some (vi (n : Int))]) (st' := []) (M' := (up (sr M 63 A) 63 (bcF (n : Int) t) (((sr M 63 A) 63 (bcF (n : Int) t)) + 1))) rfl ?_
        refine Hx.inc rfl rfl (by (first | omega | (rw [sr_at]; omega))) ?_
        refine Hx.run 0 (pc' := 48) (L' := [some (vr 0), some (vi (bS g 6)), some (vi t), some (vi (max (rmx g (vO t) n) (((sr (up (sr M 63 A) 63 (bcF (n : Int) t) (((sr M 63 A) 63 (bcF (n : Int) t)) + 1)) 63 A) 63 (bcF (n : Int) t)) + 1))), some (vi ((n : Int) + 1))]) (st' := []) (M' := (up (sr M 63 A) 63 (bcF (n : Int) t) (((sr M 63 A) 63 (bcF (n : Int) t)) + 1))) rfl ?_
        refine Hx.run 1 (pc' := 13) (L' := [some (vr 0), some (vi (bS g 6)), some (vi t), some (vi (max (rmx g (vO t) n) (((sr (up (sr M 63 A) 63 (bcF (n : Int) t) (((sr M 63 A) 63 (bcF (n : Int) t)) + 1)) 63 A) 63 (bcF (n : Int) t)) + 1))), some (vi ((n : Int) + 1))]) (st' := []) (M' := (up (sr M 63 A) 63 (bcF (n : Int) t) (((sr M 63 A) 63 (bcF (n : Int) t)) + 1))) rfl ?_
        have hg1 : g n = true := (bit_e (by omega)).mp (by assumption)
        have e : rmx g (vO t) (n + 1) = (max (rmx g (vO t) n) (((sr (up (sr M 63 A) 63 (bcF (n : Int) t) (((sr M 63 A) 63 (bcF (n : Int) t)) + 1)) 63 A) 63 (bcF (n : Int) t)) + 1)) := by rw [rmx_succ, if_pos hg1]; show max (rmx g (vO t) n) (cnt g (vO t) (bcF (n : Int) t) n + 1) = max (rmx g (vO t) n) (A (bcF (n : Int) t) + 1); rw [hA _ (by omega) (by omega)]
        rw [sr_up]
        have h9 := ih (n + 1) (st1 A (bcF (n : Int) t) (A (bcF (n : Int) t) + 1)) (by omega) (cnt_st1 (g := g) (v := (vO t)) hg1 hA) (by omega)
        rw [e] at h9
        exact h9
      · skip
        refine Hx.inc rfl rfl (by (first | omega | (rw [sr_at]; omega))) ?_
        refine Hx.run 0 (pc' := 48) (L' := [some (vr 0), some (vi (bS g 6)), some (vi t), some (vi (rmx g (vO t) n)), some (vi ((n : Int) + 1))]) (st' := []) (M' := (sr M 63 A)) rfl ?_
        refine Hx.run 1 (pc' := 13) (L' := [some (vr 0), some (vi (bS g 6)), some (vi t), some (vi (rmx g (vO t) n)), some (vi ((n : Int) + 1))]) (st' := []) (M' := (sr M 63 A)) rfl ?_
        have hg1 : ¬ g n = true := fun z => absurd ((bit_e (by omega)).mpr z) (by assumption)
        have e : rmx g (vO t) (n + 1) = (rmx g (vO t) n) := by rw [rmx_succ, if_neg hg1]
        have h9 := ih (n + 1) A (by omega) (cnt_skip hg1 hA) (by omega)
        rw [e] at h9
        exact h9
    · skip
      refine Hx.run 1 (pc' := 52) (L' := [some (vr 0), some (vi (bS g 6)), some (vi t), some (vi (rmx g (vO t) n)), some (vi (n : Int))]) (st' := [vi (rmx g (vO t) n)]) (M' := (sr M 63 A)) rfl ?_
      refine Hx.ret rfl ?_
      exact ⟨by rw [show n = 6 by omega], A, rfl⟩
set_option maxRecDepth 100000 in
theorem c_mostO (g : Nat → Bool) (t : Int) (ht : 0 ≤ t ∧ t < 24) (M : Mm) : Ct 89 [vr 0, vi (bS g 6), vi t] M (fun q0 M' => q0 = some (vi (rmx g (vO t) 6)) ∧ ∃ A : Int → Int, sr M 63 A = M') := by
  refine Hx.run 3 (pc' := 5) (L' := [some (vr 0), some (vi (bS g 6)), some (vi t), none, none]) (st' := [vi 0, vr 63]) (M' := M) rfl ?_
  refine Hx.call (t := 224) (as := [vr 63, vi 0]) (pc' := 8) (rest := []) rfl (c_fill (r := 63) (n := 10) rfl (by decide) (by decide) 0 M) ?_
  rintro _ _ ⟨rfl, rfl⟩
  refine Hx.run 0 (pc' := 8) (L' := [some (vr 0), some (vi (bS g 6)), some (vi t), none, none]) (st' := []) (M' := (fl M 63 0 10 0)) rfl ?_
  refine Hx.run 4 (pc' := 13) (L' := [some (vr 0), some (vi (bS g 6)), some (vi t), some (vi 0), some (vi 0)]) (st' := []) (M' := (fl M 63 0 10 0)) rfl ?_
  have h0 := cl_mostO g t ht M 10 0 (fun b => if 0 ≤ b ∧ b < 10 then 0 else M 63 b) (by omega) (fun x h1 h2 => if_pos ⟨h1, h2⟩) (by omega)
  rw [← fl_sr] at h0
  exact h0
set_option maxRecDepth 100000 in
theorem cl_mostG (g : Nat → Bool) (l x t : Int) (hl : 1 ≤ l ∧ l ≤ 4) (hx : 0 ≤ x ∧ x ≤ 9) (ht : 0 ≤ t ∧ t < 24) (M : Mm) : ∀ (kk : Nat) (n : Nat) (A : Int → Int), n ≤ 6 → (∀ z0, 0 ≤ z0 → z0 < 10 → A z0 = cnt g (vG l x t) z0 n) → 6 - (n : Int) < (kk : Int) → Hx 95 14 [some (vr 0), some (vi (bS g 6)), some (vi l), some (vi x), some (vi t), some (vi (rmx g (vG l x t) n)), some (vi (n : Int))] [] (sr M 63 A) (fun q0 M' => q0 = some (vi (rmx g (vG l x t) 6)) ∧ ∃ A : Int → Int, sr M 63 A = M') := by
  intro kk
  induction kk with
  | zero => intro n A _ _ hkk; exact absurd hkk (by omega)
  | succ kk ih =>
    intro n A hn hA hkk
    have vr_ : 0 ≤ (sfF (n : Int) l x t) ∧ (sfF (n : Int) l x t) < 10 := by have := sfF_rng (k := (n : Int)) (l := l) (x := x) (t := t) hl hx; omega
    have hA1 := hA (sfF (n : Int) l x t) vr_.1 vr_.2
    have cr := cnt_rng g (vG l x t) (sfF (n : Int) l x t) n
    refine Hx.run 2 (pc' := 18) (L' := [some (vr 0), some (vi (bS g 6)), some (vi l), some (vi x), some (vi t), some (vi (rmx g (vG l x t) n)), some (vi (n : Int))]) (st' := [vi 6, vi (n : Int)]) (M' := (sr M 63 A)) rfl ?_
    refine Hx.br (c := (n : Int) < 6) (t := 21) (f := 57) rfl (fun h1 => ?_) (fun h1 => ?_)
    · skip
      refine Hx.run 6 (pc' := 28) (L' := [some (vr 0), some (vi (bS g 6)), some (vi l), some (vi x), some (vi t), some (vi (rmx g (vG l x t) n)), some (vi (n : Int))]) (st' := [vi 1, vi (i2 fand (i2 fshr (bS g 6) (n : Int)) 1)]) (M' := (sr M 63 A)) rfl ?_
      refine Hx.br (c := (i2 fand (i2 fshr (bS g 6) (n : Int)) 1) = 1) (t := 31) (f := 51) rfl (fun h2 => ?_) (fun h2 => ?_)
      · skip
        refine Hx.run 6 (pc' := 40) (L' := [some (vr 0), some (vi (bS g 6)), some (vi l), some (vi x), some (vi t), some (vi (rmx g (vG l x t) n)), some (vi (n : Int))]) (st' := [vi t, vi x, vi l, vi (n : Int), vr 0, vi (rmx g (vG l x t) n)]) (M' := (sr M 63 A)) rfl ?_
        refine Hx.call (t := 129) (as := [vi (n : Int), vi l, vi x, vi t]) (pc' := 43) (rest := [vr 0, vi (rmx g (vG l x t) n)]) rfl (c_strideOf (n : Int) l x t (sr M 63 A) (by (first | omega | (rw [sr_at]; omega))) (by (first | omega | (rw [sr_at]; omega))) (by (first | omega | (rw [sr_at]; omega))) (by (first | omega | (rw [sr_at]; omega)))) ?_
        rintro _ _ ⟨rfl, rfl⟩
        refine Hx.run 0 (pc' := 43) (L' := [some (vr 0), some (vi (bS g 6)), some (vi l), some (vi x), some (vi t), some (vi (rmx g (vG l x t) n)), some (vi (n : Int))]) (st' := [vi (sfF (n : Int) l x t), vr 0, vi (rmx g (vG l x t) n)]) (M' := (sr M 63 A)) rfl ?_
        refine Hx.call (t := 90) (as := [vr 0, vi (sfF (n : Int) l x t)]) (pc' := 46) (rest := [vi (rmx g (vG l x t) n)]) rfl (c_oneMore (sfF (n : Int) l x t) (sr M 63 A) (by (first | omega | (rw [sr_at]; omega))) (by (first | omega | (rw [sr_at]; omega)))) ?_
        rintro _ _ ⟨rfl, rfl⟩
        refine Hx.run 0 (pc' := 46) (L' := [some (vr 0), some (vi (bS g 6)), some (vi l), some (vi x), some (vi t), some (vi (rmx g (vG l x t) n)), some (vi (n : Int))]) (st' := [vi (((sr M 63 A) 63 (sfF (n : Int) l x t)) + 1), vi (rmx g (vG l x t) n)]) (M' := (up (sr M 63 A) 63 (sfF (n : Int) l x t) (((sr M 63 A) 63 (sfF (n : Int) l x t)) + 1))) rfl ?_
        refine Hx.call (t := 225) (as := [vi (rmx g (vG l x t) n), vi (((sr M 63 A) 63 (sfF (n : Int) l x t)) + 1)]) (pc' := 49) (rest := []) rfl (c_max (rmx g (vG l x t) n) (((sr M 63 A) 63 (sfF (n : Int) l x t)) + 1) (up (sr M 63 A) 63 (sfF (n : Int) l x t) (((sr M 63 A) 63 (sfF (n : Int) l x t)) + 1))) ?_
        rintro _ _ ⟨rfl, rfl⟩
        refine Hx.run 0 (pc' := 49) (L' := [some (vr 0), some (vi (bS g 6)), some (vi l), some (vi x), some (vi t), some (vi (rmx g (vG l x t) n)), some (vi (n : Int))]) (st' := [vi (max (rmx g (vG l x t) n) (((sr (up (sr M 63 A) 63 (sfF (n : Int) l x t) (((sr M 63 A) 63 (sfF (n : Int) l x t)) + 1)) 63 A) 63 (sfF (n : Int) l x t)) + 1))]) (M' := (up (sr M 63 A) 63 (sfF (n : Int) l x t) (((sr M 63 A) 63 (sfF (n : Int) l x t)) + 1))) rfl ?_
        refine Hx.run 1 (pc' := 51) (L' := [some (vr 0), some (vi (bS g 6)), some (vi l), some (vi x), some (vi t), some (vi (max (rmx g (vG l x t) n) (((sr (up (sr M 63 A) 63 (sfF (n : Int) l x t) (((sr M 63 A) 63 (sfF (n : Int) l x t)) + 1)) 63 A) 63 (sfF (n : Int) l x t)) + 1))), some (vi (n : Int))]) (st' := []) (M' := (up (sr M 63 A) 63 (sfF (n : Int) l x t) (((sr M 63 A) 63 (sfF (n : Int) l x t)) + 1))) rfl ?_
        refine Hx.inc rfl rfl (by (first | omega | (rw [sr_at]; omega))) ?_
        refine Hx.run 0 (pc' := 54) (L' := [some (vr 0), some (vi (bS g 6)), some (vi l), some (vi x), some (vi t), some (vi (max (rmx g (vG l x t) n) (((sr (up (sr M 63 A) 63 (sfF (n : Int) l x t) (((sr M 63 A) 63 (sfF (n : Int) l x t)) + 1)) 63 A) 63 (sfF (n : Int) l x t)) + 1))), some (vi ((n : Int) + 1))]) (st' := []) (M' := (up (sr M 63 A) 63 (sfF (n : Int) l x t) (((sr M 63 A) 63 (sfF (n : Int) l x t)) + 1))) rfl ?_
        refine Hx.run 1 (pc' := 14) (L' := [some (vr 0), some (vi (bS g 6)), some (vi l), some (vi x), some (vi t), some (vi (max (rmx g (vG l x t) n) (((sr (up (sr M 63 A) 63 (sfF (n : Int) l x t) (((sr M 63 A) 63 (sfF (n : Int) l x t)) + 1)) 63 A) 63 (sfF (n : Int) l x t)) + 1))), some (vi ((n : Int) + 1))]) (st' := []) (M' := (up (sr M 63 A) 63 (sfF (n : Int) l x t) (((sr M 63 A) 63 (sfF (n : Int) l x t)) + 1))) rfl ?_
        have hg1 : g n = true := (bit_e (by omega)).mp (by assumption)
        have e : rmx g (vG l x t) (n + 1) = (max (rmx g (vG l x t) n) (((sr (up (sr M 63 A) 63 (sfF (n : Int) l x t) (((sr M 63 A) 63 (sfF (n : Int) l x t)) + 1)) 63 A) 63 (sfF (n : Int) l x t)) + 1)) := by rw [rmx_succ, if_pos hg1]; show max (rmx g (vG l x t) n) (cnt g (vG l x t) (sfF (n : Int) l x t) n + 1) = max (rmx g (vG l x t) n) (A (sfF (n : Int) l x t) + 1); rw [hA _ (by omega) (by omega)]
        rw [sr_up]
        have h9 := ih (n + 1) (st1 A (sfF (n : Int) l x t) (A (sfF (n : Int) l x t) + 1)) (by omega) (cnt_st1 (g := g) (v := (vG l x t)) hg1 hA) (by omega)
        rw [e] at h9
        exact h9
      · skip
        refine Hx.inc rfl rfl (by (first | omega | (rw [sr_at]; omega))) ?_
        refine Hx.run 0 (pc' := 54) (L' := [some (vr 0), some (vi (bS g 6)), some (vi l), some (vi x), some (vi t), some (vi (rmx g (vG l x t) n)), some (vi ((n : Int) + 1))]) (st' := []) (M' := (sr M 63 A)) rfl ?_
        refine Hx.run 1 (pc' := 14) (L' := [some (vr 0), some (vi (bS g 6)), some (vi l), some (vi x), some (vi t), some (vi (rmx g (vG l x t) n)), some (vi ((n : Int) + 1))]) (st' := []) (M' := (sr M 63 A)) rfl ?_
        have hg1 : ¬ g n = true := fun z => absurd ((bit_e (by omega)).mpr z) (by assumption)
        have e : rmx g (vG l x t) (n + 1) = (rmx g (vG l x t) n) := by rw [rmx_succ, if_neg hg1]
        have h9 := ih (n + 1) A (by omega) (cnt_skip hg1 hA) (by omega)
        rw [e] at h9
        exact h9
    · skip
      refine Hx.run 1 (pc' := 59) (L' := [some (vr 0), some (vi (bS g 6)), some (vi l), some (vi x), some (vi t), some (vi (rmx g (vG l x t) n)), some (vi (n : Int))]) (st' := [vi (rmx g (vG l x t) n)]) (M' := (sr M 63 A)) rfl ?_
      refine Hx.ret rfl ?_
      exact ⟨by rw [show n = 6 by omega], A, rfl⟩
set_option maxRecDepth 100000 in
theorem c_mostG (g : Nat → Bool) (l x t : Int) (hl : 1 ≤ l ∧ l ≤ 4) (hx : 0 ≤ x ∧ x ≤ 9) (ht : 0 ≤ t ∧ t < 24) (M : Mm) : Ct 95 [vr 0, vi (bS g 6), vi l, vi x, vi t] M (fun q0 M' => q0 = some (vi (rmx g (vG l x t) 6)) ∧ ∃ A : Int → Int, sr M 63 A = M') := by
  refine Hx.run 3 (pc' := 5) (L' := [some (vr 0), some (vi (bS g 6)), some (vi l), some (vi x), some (vi t), none, none]) (st' := [vi 0, vr 63]) (M' := M) rfl ?_
  refine Hx.call (t := 224) (as := [vr 63, vi 0]) (pc' := 8) (rest := []) rfl (c_fill (r := 63) (n := 10) rfl (by decide) (by decide) 0 M) ?_
  rintro _ _ ⟨rfl, rfl⟩
  refine Hx.run 0 (pc' := 8) (L' := [some (vr 0), some (vi (bS g 6)), some (vi l), some (vi x), some (vi t), none, none]) (st' := []) (M' := (fl M 63 0 10 0)) rfl ?_
  refine Hx.run 4 (pc' := 14) (L' := [some (vr 0), some (vi (bS g 6)), some (vi l), some (vi x), some (vi t), some (vi 0), some (vi 0)]) (st' := []) (M' := (fl M 63 0 10 0)) rfl ?_
  have h0 := cl_mostG g l x t hl hx ht M 10 0 (fun b => if 0 ≤ b ∧ b < 10 then 0 else M 63 b) (by omega) (fun x h1 h2 => if_pos ⟨h1, h2⟩) (by omega)
  rw [← fl_sr] at h0
  exact h0
def lkV (g : Nat → Bool) (n : Nat) : Int := rmx g (vO (n : Int)) 6
theorem lkV_rng (g : Nat → Bool) (n : Nat) : lkV g n = 1000000 ∨ (0 ≤ lkV g n ∧ lkV g n ≤ 11) := by
  have := rmx_rng g (vO (n : Int)) 6
  unfold lkV; omega
set_option maxRecDepth 100000 in
theorem cl_look (f : Int) (M : Mm) : ∀ (kk : Nat) (n : Nat) (A : Int → Int) (j6 : Option PV), n ≤ 24 → 24 - (n : Int) < (kk : Int) → Hx 86 36 [some (vr 0), some (vi f), some (vi (bS (gO M f) 6)), some (vi (am1 (lkV (gO M f)) n).1), some (vi (dc (am1 (lkV (gO M f)) n).2)), some (vi (n : Int)), j6] [] (sr M 63 A) (fun q0 M' => q0 = some (vi (am1 (lkV (gO M f)) 24).1) ∧ ∃ A : Int → Int, sr M 63 A = M') := by
  intro kk
  induction kk with
  | zero => intro n A j6 _ hkk; exact absurd hkk (by omega)
  | succ kk ih =>
    intro n A j6 hn hkk
    have lv := rmx_rng (gO M f) (vO (n : Int)) 6
    have am := am1_rng (f := lkV (gO M f)) (lkV_rng (gO M f)) n
    have ad := dc_cases (am1 (lkV (gO M f)) n).2
    have td := dc_cases (rmx (gO M f) (vO (n : Int)) 6)
    have hsn : lkV (gO M f) n = rmx (gO M f) (vO (n : Int)) 6 := rfl
    refine Hx.run 2 (pc' := 40) (L' := [some (vr 0), some (vi f), some (vi (bS (gO M f) 6)), some (vi (am1 (lkV (gO M f)) n).1), some (vi (dc (am1 (lkV (gO M f)) n).2)), some (vi (n : Int)), j6]) (st' := [vi 24, vi (n : Int)]) (M' := (sr M 63 A)) rfl ?_
    refine Hx.br (c := (n : Int) < 24) (t := 43) (f := 81) rfl (fun h1 => ?_) (fun h1 => ?_)
    · skip
      refine Hx.run 3 (pc' := 47) (L' := [some (vr 0), some (vi f), some (vi (bS (gO M f) 6)), some (vi (am1 (lkV (gO M f)) n).1), some (vi (dc (am1 (lkV (gO M f)) n).2)), some (vi (n : Int)), j6]) (st' := [vi (n : Int), vi (bS (gO M f) 6), vr 0]) (M' := (sr M 63 A)) rfl ?_
      refine Hx.call (t := 89) (as := [vr 0, vi (bS (gO M f) 6), vi (n : Int)]) (pc' := 50) (rest := []) rfl (c_mostO (gO M f) (n : Int) (by omega) (sr M 63 A)) ?_
      rintro _ _ ⟨rfl, A9, rfl⟩
      refine Hx.run 0 (pc' := 50) (L' := [some (vr 0), some (vi f), some (vi (bS (gO M f) 6)), some (vi (am1 (lkV (gO M f)) n).1), some (vi (dc (am1 (lkV (gO M f)) n).2)), some (vi (n : Int)), j6]) (st' := [vi (rmx (gO M f) (vO (n : Int)) 6)]) (M' := (sr (sr M 63 A) 63 A9)) rfl ?_
      refine Hx.run 3 (pc' := 55) (L' := [some (vr 0), some (vi f), some (vi (bS (gO M f) 6)), some (vi (am1 (lkV (gO M f)) n).1), some (vi (dc (am1 (lkV (gO M f)) n).2)), some (vi (n : Int)), some (vi (rmx (gO M f) (vO (n : Int)) 6))]) (st' := [vi (-1), vi (dc (am1 (lkV (gO M f)) n).2)]) (M' := (sr (sr M 63 A) 63 A9)) rfl ?_
      refine Hx.br (c := (dc (am1 (lkV (gO M f)) n).2) = (-1)) (t := 68) (f := 58) rfl (fun h2 => ?_) (fun h2 => ?_)
      · skip
        refine Hx.run 4 (pc' := 75) (L' := [some (vr 0), some (vi f), some (vi (bS (gO M f) 6)), some (vi (n : Int)), some (vi (rmx (gO M f) (vO (n : Int)) 6)), some (vi (n : Int)), some (vi (rmx (gO M f) (vO (n : Int)) 6))]) (st' := []) (M' := (sr (sr M 63 A) 63 A9)) rfl ?_
        refine Hx.inc rfl rfl (by omega) ?_
        refine Hx.run 0 (pc' := 78) (L' := [some (vr 0), some (vi f), some (vi (bS (gO M f) 6)), some (vi (n : Int)), some (vi (rmx (gO M f) (vO (n : Int)) 6)), some (vi ((n : Int) + 1)), some (vi (rmx (gO M f) (vO (n : Int)) 6))]) (st' := []) (M' := (sr (sr M 63 A) 63 A9)) rfl ?_
        refine Hx.run 1 (pc' := 36) (L' := [some (vr 0), some (vi f), some (vi (bS (gO M f) 6)), some (vi (n : Int)), some (vi (rmx (gO M f) (vO (n : Int)) 6)), some (vi ((n : Int) + 1)), some (vi (rmx (gO M f) (vO (n : Int)) 6))]) (st' := []) (M' := (sr (sr M 63 A) 63 A9)) rfl ?_
        have e1 : (am1 (lkV (gO M f)) (n + 1)).1 = (n : Int) := by rw [am1_succ, hsn]; split <;> first | rfl | omega | (dsimp only; omega)
        have e2 : dc (am1 (lkV (gO M f)) (n + 1)).2 = (rmx (gO M f) (vO (n : Int)) 6) := by rw [am1_succ, hsn]; split <;> first | rfl | omega | (dsimp only; omega)
        have h9 := ih (n + 1) A9 (some (vi (rmx (gO M f) (vO (n : Int)) 6))) (by omega) (by omega)
        rw [e1, e2] at h9
        rw [sr_sr]
        exact h9
      · skip
        refine Hx.run 2 (pc' := 62) (L' := [some (vr 0), some (vi f), some (vi (bS (gO M f) 6)), some (vi (am1 (lkV (gO M f)) n).1), some (vi (dc (am1 (lkV (gO M f)) n).2)), some (vi (n : Int)), some (vi (rmx (gO M f) (vO (n : Int)) 6))]) (st' := [vi (dc (am1 (lkV (gO M f)) n).2), vi (rmx (gO M f) (vO (n : Int)) 6)]) (M' := (sr (sr M 63 A) 63 A9)) rfl ?_
        refine Hx.br (c := (rmx (gO M f) (vO (n : Int)) 6) < (dc (am1 (lkV (gO M f)) n).2)) (t := 68) (f := 65) rfl (fun h3 => ?_) (fun h3 => ?_)
        · skip
          refine Hx.run 4 (pc' := 75) (L' := [some (vr 0), some (vi f), some (vi (bS (gO M f) 6)), some (vi (n : Int)), some (vi (rmx (gO M f) (vO (n : Int)) 6)), some (vi (n : Int)), some (vi (rmx (gO M f) (vO (n : Int)) 6))]) (st' := []) (M' := (sr (sr M 63 A) 63 A9)) rfl ?_
          refine Hx.inc rfl rfl (by omega) ?_
          refine Hx.run 0 (pc' := 78) (L' := [some (vr 0), some (vi f), some (vi (bS (gO M f) 6)), some (vi (n : Int)), some (vi (rmx (gO M f) (vO (n : Int)) 6)), some (vi ((n : Int) + 1)), some (vi (rmx (gO M f) (vO (n : Int)) 6))]) (st' := []) (M' := (sr (sr M 63 A) 63 A9)) rfl ?_
          refine Hx.run 1 (pc' := 36) (L' := [some (vr 0), some (vi f), some (vi (bS (gO M f) 6)), some (vi (n : Int)), some (vi (rmx (gO M f) (vO (n : Int)) 6)), some (vi ((n : Int) + 1)), some (vi (rmx (gO M f) (vO (n : Int)) 6))]) (st' := []) (M' := (sr (sr M 63 A) 63 A9)) rfl ?_
          have e1 : (am1 (lkV (gO M f)) (n + 1)).1 = (n : Int) := by rw [am1_succ, hsn]; split <;> first | rfl | omega | (dsimp only; omega)
          have e2 : dc (am1 (lkV (gO M f)) (n + 1)).2 = (rmx (gO M f) (vO (n : Int)) 6) := by rw [am1_succ, hsn]; split <;> first | rfl | omega | (dsimp only; omega)
          have h9 := ih (n + 1) A9 (some (vi (rmx (gO M f) (vO (n : Int)) 6))) (by omega) (by omega)
          rw [e1, e2] at h9
          rw [sr_sr]
          exact h9
        · skip
          refine Hx.run 1 (pc' := 75) (L' := [some (vr 0), some (vi f), some (vi (bS (gO M f) 6)), some (vi (am1 (lkV (gO M f)) n).1), some (vi (dc (am1 (lkV (gO M f)) n).2)), some (vi (n : Int)), some (vi (rmx (gO M f) (vO (n : Int)) 6))]) (st' := []) (M' := (sr (sr M 63 A) 63 A9)) rfl ?_
          refine Hx.inc rfl rfl (by omega) ?_
          refine Hx.run 0 (pc' := 78) (L' := [some (vr 0), some (vi f), some (vi (bS (gO M f) 6)), some (vi (am1 (lkV (gO M f)) n).1), some (vi (dc (am1 (lkV (gO M f)) n).2)), some (vi ((n : Int) + 1)), some (vi (rmx (gO M f) (vO (n : Int)) 6))]) (st' := []) (M' := (sr (sr M 63 A) 63 A9)) rfl ?_
          refine Hx.run 1 (pc' := 36) (L' := [some (vr 0), some (vi f), some (vi (bS (gO M f) 6)), some (vi (am1 (lkV (gO M f)) n).1), some (vi (dc (am1 (lkV (gO M f)) n).2)), some (vi ((n : Int) + 1)), some (vi (rmx (gO M f) (vO (n : Int)) 6))]) (st' := []) (M' := (sr (sr M 63 A) 63 A9)) rfl ?_
          have e1 : (am1 (lkV (gO M f)) (n + 1)).1 = (am1 (lkV (gO M f)) n).1 := by rw [am1_succ, hsn]; split <;> first | rfl | omega | (dsimp only; omega)
          have e2 : dc (am1 (lkV (gO M f)) (n + 1)).2 = (dc (am1 (lkV (gO M f)) n).2) := by rw [am1_succ, hsn]; split <;> first | rfl | omega | (dsimp only; omega)
          have h9 := ih (n + 1) A9 (some (vi (rmx (gO M f) (vO (n : Int)) 6))) (by omega) (by omega)
          rw [e1, e2] at h9
          rw [sr_sr]
          exact h9
    · skip
      refine Hx.run 1 (pc' := 82) (L' := [some (vr 0), some (vi f), some (vi (bS (gO M f) 6)), some (vi (am1 (lkV (gO M f)) n).1), some (vi (dc (am1 (lkV (gO M f)) n).2)), some (vi (n : Int)), j6]) (st' := [vi (am1 (lkV (gO M f)) n).1]) (M' := (sr M 63 A)) rfl ?_
      refine Hx.ret rfl ?_
      exact ⟨by rw [show n = 24 by omega], A, rfl⟩
set_option maxRecDepth 100000 in
theorem C_look (f : Int) (M : Mm) (hI : HI M 1) (hs : (0 ≤ M 0 14 ∧ M 0 14 ≤ 600) ∧ (0 ≤ M 0 15 ∧ M 0 15 ≤ 600) ∧ (0 ≤ M 0 16 ∧ M 0 16 ≤ 600)) : Ct 86 [vr 0, vi f] M (fun q0 M' => (¬ (0 ≤ f ∧ f < M 1 0) ∧ q0 = some (vi (-2)) ∧ up M 0 14 (M 0 14 + 1) = M') ∨ ((0 ≤ f ∧ f < M 1 0) ∧ q0 = some (vi (if bS (gO M f) 6 = 0 then -1 else (am1 (lkV (gO M f)) 24).1)) ∧ ∃ A : Int → Int, sr M 63 A = M')) := by
  obtain ⟨iF, iG, iK, iH, iFa, aF, aG, lS, lN, lM, rS, rN, rM, aK⟩ := (show (0 ≤ M 1 0 ∧ M 1 0 ≤ 3) ∧ (0 ≤ M 1 1 ∧ M 1 1 ≤ 6) ∧ (0 ≤ M 1 2 ∧ M 1 2 ≤ 8) ∧ (0 ≤ M 6 16 ∧ M 6 16 ≤ 9999) ∧ (0 ≤ M 6 15 ∧ M 6 15 ≤ 9000) ∧ (∀ f : Int, 0 ≤ f → f < M 1 0 → (0 ≤ M 2 f ∧ M 2 f ≤ 5) ∧ (1 ≤ M 6 (12 + f) ∧ M 6 (12 + f) ≤ 10)) ∧ (∀ i : Int, 0 ≤ i → i < M 1 1 → (0 ≤ M 3 i ∧ M 3 i ≤ 5) ∧ (1 ≤ M 4 i ∧ M 4 i ≤ 4) ∧ (0 ≤ M 5 i ∧ M 5 i < M 1 0) ∧ (0 ≤ M 6 i ∧ M 6 i ≤ 11) ∧ (0 ≤ M 6 (6 + i) ∧ M 6 (6 + i) ≤ 9)) ∧ (M 8 0 = 4 ∧ M 8 1 = 5 ∧ 0 ≤ M 8 3 ∧ M 8 3 ≤ 5) ∧ (M 10 0 = 3 ∧ M 10 1 = 6 ∧ 0 ≤ M 10 3 ∧ M 10 3 ≤ 6) ∧ (M 12 0 = 5 ∧ M 12 1 = 6 ∧ 0 ≤ M 12 3 ∧ M 12 3 ≤ 6) ∧ (∀ n : Int, 0 ≤ n → n < M 8 3 → (0 ≤ M 9 (n * 4 + 0) ∧ M 9 (n * 4 + 0) ≤ 2) ∧ (1 ≤ M 9 (n * 4 + 1) ∧ M 9 (n * 4 + 1) ≤ 10) ∧ (0 ≤ M 9 (n * 4 + 2) ∧ M 9 (n * 4 + 2) ≤ 23) ∧ (0 ≤ M 9 (n * 4 + 3) ∧ M 9 (n * 4 + 3) ≤ 1)) ∧ (∀ n : Int, 0 ≤ n → n < M 10 3 → (0 ≤ M 11 (n * 3 + 0) ∧ M 11 (n * 3 + 0) ≤ 2) ∧ (0 ≤ M 11 (n * 3 + 1) ∧ M 11 (n * 3 + 1) ≤ 23) ∧ (0 ≤ M 11 (n * 3 + 2) ∧ M 11 (n * 3 + 2) ≤ 9)) ∧ (∀ n : Int, 0 ≤ n → n < M 12 3 → (0 ≤ M 13 (n * 5 + 0) ∧ M 13 (n * 5 + 0) ≤ 5) ∧ (1 ≤ M 13 (n * 5 + 1) ∧ M 13 (n * 5 + 1) ≤ 4) ∧ (0 ≤ M 13 (n * 5 + 2) ∧ M 13 (n * 5 + 2) ≤ 9) ∧ (0 ≤ M 13 (n * 5 + 3) ∧ M 13 (n * 5 + 3) ≤ 23) ∧ (0 ≤ M 13 (n * 5 + 4) ∧ M 13 (n * 5 + 4) ≤ 9)) ∧ (∀ k : Int, 0 ≤ k → k < M 1 2 → (0 ≤ M 7 (k * 17 + 16) ∧ M 7 (k * 17 + 16) ≤ 9999) ∧ (0 ≤ M 7 (k * 17 + 15) ∧ M 7 (k * 17 + 15) ≤ 9000) ∧ (∀ f : Int, 0 ≤ f → f < M 1 0 → (1 ≤ M 7 (k * 17 + (12 + f)) ∧ M 7 (k * 17 + (12 + f)) ≤ 10)) ∧ (∀ i : Int, 0 ≤ i → i < M 1 1 → (0 ≤ M 7 (k * 17 + i) ∧ M 7 (k * 17 + i) ≤ 11) ∧ (0 ≤ M 7 (k * 17 + (6 + i)) ∧ M 7 (k * 17 + (6 + i)) ≤ 9))) from hI)
  refine Hx.run 3 (pc' := 5) (L' := [some (vr 0), some (vi f), none, none, none, none, none]) (st' := [vi f, vr 1]) (M' := M) rfl ?_
  refine Hx.call (t := 7) (as := [vr 1, vi f]) (pc' := 8) (rest := []) rfl (c_hasFlight_1 f M) ?_
  rintro _ _ (⟨q124, rfl, rfl⟩ | ⟨q124, rfl, rfl⟩)
  · skip
    have fq124 := aF f q124.1 q124.2
    refine Hx.run 3 (pc' := 18) (L' := [some (vr 0), some (vi f), none, none, none, none, none]) (st' := [vi f, vr 0]) (M' := M) rfl ?_
    refine Hx.call (t := 87) (as := [vr 0, vi f]) (pc' := 21) (rest := []) rfl (c_kindsO f M hI) ?_
    rintro _ _ ⟨rfl, rfl⟩
    refine Hx.run 0 (pc' := 21) (L' := [some (vr 0), some (vi f), none, none, none, none, none]) (st' := [vi (bS (gO M f) 6)]) (M' := M) rfl ?_
    refine Hx.run 2 (pc' := 23) (L' := [some (vr 0), some (vi f), some (vi (bS (gO M f) 6)), none, none, none, none]) (st' := [vi (bS (gO M f) 6)]) (M' := M) rfl ?_
    refine Hx.br (c := (bS (gO M f) 6) = 0) (t := 26) (f := 28) rfl (fun h1 => ?_) (fun h1 => ?_)
    · skip
      refine Hx.run 1 (pc' := 27) (L' := [some (vr 0), some (vi f), some (vi (bS (gO M f) 6)), none, none, none, none]) (st' := [vi (-1)]) (M' := M) rfl ?_
      refine Hx.ret rfl ?_
      first | exact Or.inl ⟨by omega, rfl, rfl⟩ | exact Or.inr ⟨by omega, by rw [if_pos (by assumption)], M 63, sr_self⟩
    · skip
      refine Hx.run 6 (pc' := 36) (L' := [some (vr 0), some (vi f), some (vi (bS (gO M f) 6)), some (vi (-1)), some (vi (-1)), some (vi 0), none]) (st' := []) (M' := M) rfl ?_
      have h0 := cl_look f M 30 0 (M 63) none (by omega) (by omega)
      rw [sr_self, show dc (am1 (lkV (gO M f)) 0).2 = -1 from rfl, show (am1 (lkV (gO M f)) 0).1 = -1 from rfl] at h0
      exact Hx.imp h0 (fun r M' h => Or.inr ⟨by omega, by rw [if_neg (by assumption)]; exact h.1, h.2⟩)
  · skip
    refine Hx.run 2 (pc' := 12) (L' := [some (vr 0), some (vi f), none, none, none, none, none]) (st' := [vr 0]) (M' := M) rfl ?_
    refine Hx.call (t := 114) (as := [vr 0]) (pc' := 15) (rest := []) rfl (c_bad M (by omega)) ?_
    rintro _ _ ⟨rfl, rfl⟩
    refine Hx.run 0 (pc' := 15) (L' := [some (vr 0), some (vi f), none, none, none, none, none]) (st' := [vi (-2)]) (M' := (up M 0 14 ((M 0 14) + 1))) rfl ?_
    refine Hx.ret rfl ?_
    first | exact Or.inl ⟨by omega, rfl, rfl⟩ | exact Or.inr ⟨by omega, by rw [if_pos (by assumption)], M 63, sr_self⟩
def akV (g : Nat → Bool) (l : Int) (m : Nat) : Int := rmx g (vG l ((m / 24 : Nat) : Int) ((m % 24 : Nat) : Int)) 6
def akL (m : Nat) : Int := 100 * ((m / 24 : Nat) : Int) + ((m % 24 : Nat) : Int)
theorem akV_e (g : Nat → Bool) (l : Int) (a t : Nat) (ht : t < 24) : akV g l (24 * a + t) = rmx g (vG l (a : Int) (t : Int)) 6 := by
  unfold akV
  rw [show (24 * a + t) / 24 = a by omega, show (24 * a + t) % 24 = t by omega]
theorem akL_e (a t : Nat) (ht : t < 24) : akL (24 * a + t) = 100 * (a : Int) + (t : Int) := by
  unfold akL
  rw [show (24 * a + t) / 24 = a by omega, show (24 * a + t) % 24 = t by omega]
theorem akV_rng (g : Nat → Bool) (l : Int) (m : Nat) : 0 ≤ akV g l m ∧ akV g l m ≤ 1000 := by
  unfold akV
  have h1 := rmx_rng g (vG l ((m / 24 : Nat) : Int) ((m % 24 : Nat) : Int)) 6
  omega
theorem am4_rngA (g : Nat → Bool) (l : Int) (n : Nat) : ((am4 akL (akV g l) n).1 = -1 ∧ (am4 akL (akV g l) n).2 = 1000000) ∨ (0 ≤ (am4 akL (akV g l) n).1 ∧ 0 ≤ (am4 akL (akV g l) n).2 ∧ (am4 akL (akV g l) n).2 ≤ 1000) := by
  induction n with
  | zero => exact Or.inl ⟨rfl, rfl⟩
  | succ n ih =>
    have h2 := akV_rng g l n
    have h3 : 0 ≤ akL n := by unfold akL; omega
    rw [am4_succ]
    split
    · dsimp only; omega
    · omega
theorem s63_4 {M : Mm} {F : Int → Int} : sr M 63 F 4 = M 4 := sr_ne (by decide)
set_option maxRecDepth 100000 in
set_option maxHeartbeats 2000000 in
theorem cl_ask1 (f : Int) (M : Mm) (hI : HI M 1) (hf : 0 ≤ f ∧ f < M 1 1) (a : Nat) (ha : a < 10) {P : Option PV → Mm → Prop} (hk : ∀ (A : Int → Int) (j7 : Option PV), Hx 92 107 [some (vr 0), some (vi f), some (vi (bS (gG M f) 6)), some (vi (am4 akL (akV (gG M f) (M 4 f)) (24 * a + 24)).1), some (vi (dc (am4 akL (akV (gG M f) (M 4 f)) (24 * a + 24)).2)), some (vi (a : Int)), some (vi 24), j7] [] (sr M 63 A) P) : ∀ (kk : Nat) (t : Nat) (A : Int → Int) (j7 : Option PV), t ≤ 24 → 24 - (t : Int) < (kk : Int) → Hx 92 46 [some (vr 0), some (vi f), some (vi (bS (gG M f) 6)), some (vi (am4 akL (akV (gG M f) (M 4 f)) (24 * a + t)).1), some (vi (dc (am4 akL (akV (gG M f) (M 4 f)) (24 * a + t)).2)), some (vi (a : Int)), some (vi (t : Int)), j7] [] (sr M 63 A) P := by
  intro kk
  induction kk with
  | zero => intro t A j7 _ hkk; exact absurd hkk (by omega)
  | succ kk ih =>
    intro t A j7 ht hkk
    obtain ⟨iF, iG, iK, iH, iFa, aF, aG, lS, lN, lM, rS, rN, rM, aK⟩ := (show (0 ≤ M 1 0 ∧ M 1 0 ≤ 3) ∧ (0 ≤ M 1 1 ∧ M 1 1 ≤ 6) ∧ (0 ≤ M 1 2 ∧ M 1 2 ≤ 8) ∧ (0 ≤ M 6 16 ∧ M 6 16 ≤ 9999) ∧ (0 ≤ M 6 15 ∧ M 6 15 ≤ 9000) ∧ (∀ f : Int, 0 ≤ f → f < M 1 0 → (0 ≤ M 2 f ∧ M 2 f ≤ 5) ∧ (1 ≤ M 6 (12 + f) ∧ M 6 (12 + f) ≤ 10)) ∧ (∀ i : Int, 0 ≤ i → i < M 1 1 → (0 ≤ M 3 i ∧ M 3 i ≤ 5) ∧ (1 ≤ M 4 i ∧ M 4 i ≤ 4) ∧ (0 ≤ M 5 i ∧ M 5 i < M 1 0) ∧ (0 ≤ M 6 i ∧ M 6 i ≤ 11) ∧ (0 ≤ M 6 (6 + i) ∧ M 6 (6 + i) ≤ 9)) ∧ (M 8 0 = 4 ∧ M 8 1 = 5 ∧ 0 ≤ M 8 3 ∧ M 8 3 ≤ 5) ∧ (M 10 0 = 3 ∧ M 10 1 = 6 ∧ 0 ≤ M 10 3 ∧ M 10 3 ≤ 6) ∧ (M 12 0 = 5 ∧ M 12 1 = 6 ∧ 0 ≤ M 12 3 ∧ M 12 3 ≤ 6) ∧ (∀ n : Int, 0 ≤ n → n < M 8 3 → (0 ≤ M 9 (n * 4 + 0) ∧ M 9 (n * 4 + 0) ≤ 2) ∧ (1 ≤ M 9 (n * 4 + 1) ∧ M 9 (n * 4 + 1) ≤ 10) ∧ (0 ≤ M 9 (n * 4 + 2) ∧ M 9 (n * 4 + 2) ≤ 23) ∧ (0 ≤ M 9 (n * 4 + 3) ∧ M 9 (n * 4 + 3) ≤ 1)) ∧ (∀ n : Int, 0 ≤ n → n < M 10 3 → (0 ≤ M 11 (n * 3 + 0) ∧ M 11 (n * 3 + 0) ≤ 2) ∧ (0 ≤ M 11 (n * 3 + 1) ∧ M 11 (n * 3 + 1) ≤ 23) ∧ (0 ≤ M 11 (n * 3 + 2) ∧ M 11 (n * 3 + 2) ≤ 9)) ∧ (∀ n : Int, 0 ≤ n → n < M 12 3 → (0 ≤ M 13 (n * 5 + 0) ∧ M 13 (n * 5 + 0) ≤ 5) ∧ (1 ≤ M 13 (n * 5 + 1) ∧ M 13 (n * 5 + 1) ≤ 4) ∧ (0 ≤ M 13 (n * 5 + 2) ∧ M 13 (n * 5 + 2) ≤ 9) ∧ (0 ≤ M 13 (n * 5 + 3) ∧ M 13 (n * 5 + 3) ≤ 23) ∧ (0 ≤ M 13 (n * 5 + 4) ∧ M 13 (n * 5 + 4) ≤ 9)) ∧ (∀ k : Int, 0 ≤ k → k < M 1 2 → (0 ≤ M 7 (k * 17 + 16) ∧ M 7 (k * 17 + 16) ≤ 9999) ∧ (0 ≤ M 7 (k * 17 + 15) ∧ M 7 (k * 17 + 15) ≤ 9000) ∧ (∀ f : Int, 0 ≤ f → f < M 1 0 → (1 ≤ M 7 (k * 17 + (12 + f)) ∧ M 7 (k * 17 + (12 + f)) ≤ 10)) ∧ (∀ i : Int, 0 ≤ i → i < M 1 1 → (0 ≤ M 7 (k * 17 + i) ∧ M 7 (k * 17 + i) ≤ 11) ∧ (0 ≤ M 7 (k * 17 + (6 + i)) ∧ M 7 (k * 17 + (6 + i)) ≤ 9))) from hI)
    have gQ := aG f (by omega) (by omega)
    have lv := rmx_rng (gG M f) (vG (M 4 f) (a : Int) (t : Int)) 6
    have am := am4_rngA (gG M f) (M 4 f) (24 * a + t)
    have ad := dc_cases (am4 akL (akV (gG M f) (M 4 f)) (24 * a + t)).2
    have td := dc_cases (akV (gG M f) (M 4 f) (24 * a + t))
    have hV : t < 24 → akV (gG M f) (M 4 f) (24 * a + t) = rmx (gG M f) (vG (M 4 f) (a : Int) (t : Int)) 6 := akV_e _ _ a t
    have hL : t < 24 → akL (24 * a + t) = 100 * (a : Int) + (t : Int) := akL_e a t
    refine Hx.run 2 (pc' := 50) (L' := [some (vr 0), some (vi f), some (vi (bS (gG M f) 6)), some (vi (am4 akL (akV (gG M f) (M 4 f)) (24 * a + t)).1), some (vi (dc (am4 akL (akV (gG M f) (M 4 f)) (24 * a + t)).2)), some (vi (a : Int)), some (vi (t : Int)), j7]) (st' := [vi 24, vi (t : Int)]) (M' := (sr M 63 A)) rfl ?_
    refine Hx.br (c := (t : Int) < 24) (t := 53) (f := 107) rfl (fun h1 => ?_) (fun h1 => ?_)
    · skip
      refine Hx.run 5 (pc' := 60) (L' := [some (vr 0), some (vi f), some (vi (bS (gG M f) 6)), some (vi (am4 akL (akV (gG M f) (M 4 f)) (24 * a + t)).1), some (vi (dc (am4 akL (akV (gG M f) (M 4 f)) (24 * a + t)).2)), some (vi (a : Int)), some (vi (t : Int)), j7]) (st' := [vi f, vr 1, vi (bS (gG M f) 6), vr 0]) (M' := (sr M 63 A)) rfl ?_
      refine Hx.call (t := 16) (as := [vr 1, vi f]) (pc' := 63) (rest := [vi (bS (gG M f) 6), vr 0]) rfl (c_legsOf_1 f (by (first | omega | (simp only [s63_4]; omega))) (sr M 63 A)) ?_
      rintro _ _ ⟨rfl, rfl⟩
      refine Hx.run 0 (pc' := 63) (L' := [some (vr 0), some (vi f), some (vi (bS (gG M f) 6)), some (vi (am4 akL (akV (gG M f) (M 4 f)) (24 * a + t)).1), some (vi (dc (am4 akL (akV (gG M f) (M 4 f)) (24 * a + t)).2)), some (vi (a : Int)), some (vi (t : Int)), j7]) (st' := [vi (M 4 f), vi (bS (gG M f) 6), vr 0]) (M' := (sr M 63 A)) rfl ?_
      refine Hx.run 2 (pc' := 67) (L' := [some (vr 0), some (vi f), some (vi (bS (gG M f) 6)), some (vi (am4 akL (akV (gG M f) (M 4 f)) (24 * a + t)).1), some (vi (dc (am4 akL (akV (gG M f) (M 4 f)) (24 * a + t)).2)), some (vi (a : Int)), some (vi (t : Int)), j7]) (st' := [vi (t : Int), vi (a : Int), vi (M 4 f), vi (bS (gG M f) 6), vr 0]) (M' := (sr M 63 A)) rfl ?_
      refine Hx.call (t := 95) (as := [vr 0, vi (bS (gG M f) 6), vi (M 4 f), vi (a : Int), vi (t : Int)]) (pc' := 70) (rest := []) rfl (c_mostG (gG M f) (M 4 f) (a : Int) (t : Int) (by (first | omega | (simp only [s63_4]; omega))) (by (first | omega | (simp only [s63_4]; omega))) (by (first | omega | (simp only [s63_4]; omega))) (sr M 63 A)) ?_
      rintro _ _ ⟨rfl, A9, rfl⟩
      refine Hx.run 0 (pc' := 70) (L' := [some (vr 0), some (vi f), some (vi (bS (gG M f) 6)), some (vi (am4 akL (akV (gG M f) (M 4 f)) (24 * a + t)).1), some (vi (dc (am4 akL (akV (gG M f) (M 4 f)) (24 * a + t)).2)), some (vi (a : Int)), some (vi (t : Int)), j7]) (st' := [vi (rmx (gG M f) (vG (M 4 f) (a : Int) (t : Int)) 6)]) (M' := (sr (sr M 63 A) 63 A9)) rfl ?_
      refine Hx.run 3 (pc' := 75) (L' := [some (vr 0), some (vi f), some (vi (bS (gG M f) 6)), some (vi (am4 akL (akV (gG M f) (M 4 f)) (24 * a + t)).1), some (vi (dc (am4 akL (akV (gG M f) (M 4 f)) (24 * a + t)).2)), some (vi (a : Int)), some (vi (t : Int)), some (vi (rmx (gG M f) (vG (M 4 f) (a : Int) (t : Int)) 6))]) (st' := [vi (-1), vi (dc (am4 akL (akV (gG M f) (M 4 f)) (24 * a + t)).2)]) (M' := (sr (sr M 63 A) 63 A9)) rfl ?_
      refine Hx.br (c := (dc (am4 akL (akV (gG M f) (M 4 f)) (24 * a + t)).2) = (-1)) (t := 88) (f := 78) rfl (fun h2 => ?_) (fun h2 => ?_)
      · skip
        refine Hx.run 4 (pc' := 96) (L' := [some (vr 0), some (vi f), some (vi (bS (gG M f) 6)), some (vi (am4 akL (akV (gG M f) (M 4 f)) (24 * a + t)).1), some (vi (rmx (gG M f) (vG (M 4 f) (a : Int) (t : Int)) 6)), some (vi (a : Int)), some (vi (t : Int)), some (vi (rmx (gG M f) (vG (M 4 f) (a : Int) (t : Int)) 6))]) (st' := [vi (a : Int), vi 100]) (M' := (sr (sr M 63 A) 63 A9)) rfl ?_
        refine Hx.mul rfl (by (first | omega | (simp only [s63_4]; omega))) ?_
        refine Hx.run 1 (pc' := 99) (L' := [some (vr 0), some (vi f), some (vi (bS (gG M f) 6)), some (vi (am4 akL (akV (gG M f) (M 4 f)) (24 * a + t)).1), some (vi (rmx (gG M f) (vG (M 4 f) (a : Int) (t : Int)) 6)), some (vi (a : Int)), some (vi (t : Int)), some (vi (rmx (gG M f) (vG (M 4 f) (a : Int) (t : Int)) 6))]) (st' := [vi (t : Int), vi (100 * (a : Int))]) (M' := (sr (sr M 63 A) 63 A9)) rfl ?_
        refine Hx.add rfl (by (first | omega | (simp only [s63_4]; omega))) ?_
        refine Hx.run 1 (pc' := 101) (L' := [some (vr 0), some (vi f), some (vi (bS (gG M f) 6)), some (vi ((100 * (a : Int)) + (t : Int))), some (vi (rmx (gG M f) (vG (M 4 f) (a : Int) (t : Int)) 6)), some (vi (a : Int)), some (vi (t : Int)), some (vi (rmx (gG M f) (vG (M 4 f) (a : Int) (t : Int)) 6))]) (st' := []) (M' := (sr (sr M 63 A) 63 A9)) rfl ?_
        refine Hx.inc rfl rfl (by (first | omega | (simp only [s63_4]; omega))) ?_
        refine Hx.run 0 (pc' := 104) (L' := [some (vr 0), some (vi f), some (vi (bS (gG M f) 6)), some (vi ((100 * (a : Int)) + (t : Int))), some (vi (rmx (gG M f) (vG (M 4 f) (a : Int) (t : Int)) 6)), some (vi (a : Int)), some (vi ((t : Int) + 1)), some (vi (rmx (gG M f) (vG (M 4 f) (a : Int) (t : Int)) 6))]) (st' := []) (M' := (sr (sr M 63 A) 63 A9)) rfl ?_
        refine Hx.run 1 (pc' := 46) (L' := [some (vr 0), some (vi f), some (vi (bS (gG M f) 6)), some (vi ((100 * (a : Int)) + (t : Int))), some (vi (rmx (gG M f) (vG (M 4 f) (a : Int) (t : Int)) 6)), some (vi (a : Int)), some (vi ((t : Int) + 1)), some (vi (rmx (gG M f) (vG (M 4 f) (a : Int) (t : Int)) 6))]) (st' := []) (M' := (sr (sr M 63 A) 63 A9)) rfl ?_
        have e1 : (am4 akL (akV (gG M f) (M 4 f)) (24 * a + (t + 1))).1 = ((100 * (a : Int)) + (t : Int)) := by rw [show 24 * a + (t + 1) = 24 * a + t + 1 from rfl, am4_succ]; split <;> first | rfl | omega | (dsimp only; omega)
        have e2 : dc (am4 akL (akV (gG M f) (M 4 f)) (24 * a + (t + 1))).2 = (rmx (gG M f) (vG (M 4 f) (a : Int) (t : Int)) 6) := by rw [show 24 * a + (t + 1) = 24 * a + t + 1 from rfl, am4_succ]; split <;> first | rfl | omega | (dsimp only; omega)
        have h9 := ih (t + 1) A9 (some (vi (rmx (gG M f) (vG (M 4 f) (a : Int) (t : Int)) 6))) (by omega) (by omega)
        rw [e1, e2] at h9
        rw [sr_sr]
        exact h9
      · skip
        refine Hx.run 2 (pc' := 82) (L' := [some (vr 0), some (vi f), some (vi (bS (gG M f) 6)), some (vi (am4 akL (akV (gG M f) (M 4 f)) (24 * a + t)).1), some (vi (dc (am4 akL (akV (gG M f) (M 4 f)) (24 * a + t)).2)), some (vi (a : Int)), some (vi (t : Int)), some (vi (rmx (gG M f) (vG (M 4 f) (a : Int) (t : Int)) 6))]) (st' := [vi (dc (am4 akL (akV (gG M f) (M 4 f)) (24 * a + t)).2), vi (rmx (gG M f) (vG (M 4 f) (a : Int) (t : Int)) 6)]) (M' := (sr (sr M 63 A) 63 A9)) rfl ?_
        refine Hx.br (c := (rmx (gG M f) (vG (M 4 f) (a : Int) (t : Int)) 6) < (dc (am4 akL (akV (gG M f) (M 4 f)) (24 * a + t)).2)) (t := 88) (f := 85) rfl (fun h3 => ?_) (fun h3 => ?_)
        · skip
          refine Hx.run 4 (pc' := 96) (L' := [some (vr 0), some (vi f), some (vi (bS (gG M f) 6)), some (vi (am4 akL (akV (gG M f) (M 4 f)) (24 * a + t)).1), some (vi (rmx (gG M f) (vG (M 4 f) (a : Int) (t : Int)) 6)), some (vi (a : Int)), some (vi (t : Int)), some (vi (rmx (gG M f) (vG (M 4 f) (a : Int) (t : Int)) 6))]) (st' := [vi (a : Int), vi 100]) (M' := (sr (sr M 63 A) 63 A9)) rfl ?_
          refine Hx.mul rfl (by (first | omega | (simp only [s63_4]; omega))) ?_
          refine Hx.run 1 (pc' := 99) (L' := [some (vr 0), some (vi f), some (vi (bS (gG M f) 6)), some (vi (am4 akL (akV (gG M f) (M 4 f)) (24 * a + t)).1), some (vi (rmx (gG M f) (vG (M 4 f) (a : Int) (t : Int)) 6)), some (vi (a : Int)), some (vi (t : Int)), some (vi (rmx (gG M f) (vG (M 4 f) (a : Int) (t : Int)) 6))]) (st' := [vi (t : Int), vi (100 * (a : Int))]) (M' := (sr (sr M 63 A) 63 A9)) rfl ?_
          refine Hx.add rfl (by (first | omega | (simp only [s63_4]; omega))) ?_
          refine Hx.run 1 (pc' := 101) (L' := [some (vr 0), some (vi f), some (vi (bS (gG M f) 6)), some (vi ((100 * (a : Int)) + (t : Int))), some (vi (rmx (gG M f) (vG (M 4 f) (a : Int) (t : Int)) 6)), some (vi (a : Int)), some (vi (t : Int)), some (vi (rmx (gG M f) (vG (M 4 f) (a : Int) (t : Int)) 6))]) (st' := []) (M' := (sr (sr M 63 A) 63 A9)) rfl ?_
          refine Hx.inc rfl rfl (by (first | omega | (simp only [s63_4]; omega))) ?_
          refine Hx.run 0 (pc' := 104) (L' := [some (vr 0), some (vi f), some (vi (bS (gG M f) 6)), some (vi ((100 * (a : Int)) + (t : Int))), some (vi (rmx (gG M f) (vG (M 4 f) (a : Int) (t : Int)) 6)), some (vi (a : Int)), some (vi ((t : Int) + 1)), some (vi (rmx (gG M f) (vG (M 4 f) (a : Int) (t : Int)) 6))]) (st' := []) (M' := (sr (sr M 63 A) 63 A9)) rfl ?_
          refine Hx.run 1 (pc' := 46) (L' := [some (vr 0), some (vi f), some (vi (bS (gG M f) 6)), some (vi ((100 * (a : Int)) + (t : Int))), some (vi (rmx (gG M f) (vG (M 4 f) (a : Int) (t : Int)) 6)), some (vi (a : Int)), some (vi ((t : Int) + 1)), some (vi (rmx (gG M f) (vG (M 4 f) (a : Int) (t : Int)) 6))]) (st' := []) (M' := (sr (sr M 63 A) 63 A9)) rfl ?_
          have e1 : (am4 akL (akV (gG M f) (M 4 f)) (24 * a + (t + 1))).1 = ((100 * (a : Int)) + (t : Int)) := by rw [show 24 * a + (t + 1) = 24 * a + t + 1 from rfl, am4_succ]; split <;> first | rfl | omega | (dsimp only; omega)
          have e2 : dc (am4 akL (akV (gG M f) (M 4 f)) (24 * a + (t + 1))).2 = (rmx (gG M f) (vG (M 4 f) (a : Int) (t : Int)) 6) := by rw [show 24 * a + (t + 1) = 24 * a + t + 1 from rfl, am4_succ]; split <;> first | rfl | omega | (dsimp only; omega)
          have h9 := ih (t + 1) A9 (some (vi (rmx (gG M f) (vG (M 4 f) (a : Int) (t : Int)) 6))) (by omega) (by omega)
          rw [e1, e2] at h9
          rw [sr_sr]
          exact h9
        · skip
          refine Hx.run 1 (pc' := 101) (L' := [some (vr 0), some (vi f), some (vi (bS (gG M f) 6)), some (vi (am4 akL (akV (gG M f) (M 4 f)) (24 * a + t)).1), some (vi (dc (am4 akL (akV (gG M f) (M 4 f)) (24 * a + t)).2)), some (vi (a : Int)), some (vi (t : Int)), some (vi (rmx (gG M f) (vG (M 4 f) (a : Int) (t : Int)) 6))]) (st' := []) (M' := (sr (sr M 63 A) 63 A9)) rfl ?_
          refine Hx.inc rfl rfl (by (first | omega | (simp only [s63_4]; omega))) ?_
          refine Hx.run 0 (pc' := 104) (L' := [some (vr 0), some (vi f), some (vi (bS (gG M f) 6)), some (vi (am4 akL (akV (gG M f) (M 4 f)) (24 * a + t)).1), some (vi (dc (am4 akL (akV (gG M f) (M 4 f)) (24 * a + t)).2)), some (vi (a : Int)), some (vi ((t : Int) + 1)), some (vi (rmx (gG M f) (vG (M 4 f) (a : Int) (t : Int)) 6))]) (st' := []) (M' := (sr (sr M 63 A) 63 A9)) rfl ?_
          refine Hx.run 1 (pc' := 46) (L' := [some (vr 0), some (vi f), some (vi (bS (gG M f) 6)), some (vi (am4 akL (akV (gG M f) (M 4 f)) (24 * a + t)).1), some (vi (dc (am4 akL (akV (gG M f) (M 4 f)) (24 * a + t)).2)), some (vi (a : Int)), some (vi ((t : Int) + 1)), some (vi (rmx (gG M f) (vG (M 4 f) (a : Int) (t : Int)) 6))]) (st' := []) (M' := (sr (sr M 63 A) 63 A9)) rfl ?_
          have e1 : (am4 akL (akV (gG M f) (M 4 f)) (24 * a + (t + 1))).1 = (am4 akL (akV (gG M f) (M 4 f)) (24 * a + t)).1 := by rw [show 24 * a + (t + 1) = 24 * a + t + 1 from rfl, am4_succ]; split <;> first | rfl | omega | (dsimp only; omega)
          have e2 : dc (am4 akL (akV (gG M f) (M 4 f)) (24 * a + (t + 1))).2 = (dc (am4 akL (akV (gG M f) (M 4 f)) (24 * a + t)).2) := by rw [show 24 * a + (t + 1) = 24 * a + t + 1 from rfl, am4_succ]; split <;> first | rfl | omega | (dsimp only; omega)
          have h9 := ih (t + 1) A9 (some (vi (rmx (gG M f) (vG (M 4 f) (a : Int) (t : Int)) 6))) (by omega) (by omega)
          rw [e1, e2] at h9
          rw [sr_sr]
          exact h9
    · skip
      refine Hx.run 0 (pc' := 107) (L' := [some (vr 0), some (vi f), some (vi (bS (gG M f) 6)), some (vi (am4 akL (akV (gG M f) (M 4 f)) (24 * a + t)).1), some (vi (dc (am4 akL (akV (gG M f) (M 4 f)) (24 * a + t)).2)), some (vi (a : Int)), some (vi (t : Int)), j7]) (st' := []) (M' := (sr M 63 A)) rfl ?_
      have e : t = 24 := by omega
      subst e
      exact hk A j7
set_option maxRecDepth 100000 in
theorem cl_ask2 (f : Int) (M : Mm) (hI : HI M 1) (hf : 0 ≤ f ∧ f < M 1 1) : ∀ (kk : Nat) (a : Nat) (A : Int → Int) (j6 : Option PV) (j7 : Option PV), a ≤ 10 → 10 - (a : Int) < (kk : Int) → Hx 92 36 [some (vr 0), some (vi f), some (vi (bS (gG M f) 6)), some (vi (am4 akL (akV (gG M f) (M 4 f)) (24 * a)).1), some (vi (dc (am4 akL (akV (gG M f) (M 4 f)) (24 * a)).2)), some (vi (a : Int)), j6, j7] [] (sr M 63 A) (fun q0 M' => q0 = some (vi (am4 akL (akV (gG M f) (M 4 f)) (240)).1) ∧ ∃ A : Int → Int, sr M 63 A = M') := by
  intro kk
  induction kk with
  | zero => intro a A j6 j7 _ hkk; exact absurd hkk (by omega)
  | succ kk ih =>
    intro a A j6 j7 ha hkk
    refine Hx.run 2 (pc' := 40) (L' := [some (vr 0), some (vi f), some (vi (bS (gG M f) 6)), some (vi (am4 akL (akV (gG M f) (M 4 f)) (24 * a)).1), some (vi (dc (am4 akL (akV (gG M f) (M 4 f)) (24 * a)).2)), some (vi (a : Int)), j6, j7]) (st' := [vi 9, vi (a : Int)]) (M' := (sr M 63 A)) rfl ?_
    refine Hx.br (c := 9 < (a : Int)) (t := 113) (f := 43) rfl (fun h1 => ?_) (fun h1 => ?_)
    · skip
      refine Hx.run 1 (pc' := 114) (L' := [some (vr 0), some (vi f), some (vi (bS (gG M f) 6)), some (vi (am4 akL (akV (gG M f) (M 4 f)) (24 * a)).1), some (vi (dc (am4 akL (akV (gG M f) (M 4 f)) (24 * a)).2)), some (vi (a : Int)), j6, j7]) (st' := [vi (am4 akL (akV (gG M f) (M 4 f)) (24 * a)).1]) (M' := (sr M 63 A)) rfl ?_
      refine Hx.ret rfl ?_
      exact ⟨by rw [show a = 10 by omega], A, rfl⟩
    · skip
      refine Hx.run 2 (pc' := 46) (L' := [some (vr 0), some (vi f), some (vi (bS (gG M f) 6)), some (vi (am4 akL (akV (gG M f) (M 4 f)) (24 * a)).1), some (vi (dc (am4 akL (akV (gG M f) (M 4 f)) (24 * a)).2)), some (vi (a : Int)), some (vi 0), j7]) (st' := []) (M' := (sr M 63 A)) rfl ?_
      refine cl_ask1 f M hI hf a (by omega) (fun A2 k7 => ?_) 30 0 A j7 (by omega) (by omega)
      refine Hx.inc rfl rfl (by omega) ?_
      refine Hx.run 0 (pc' := 110) (L' := [some (vr 0), some (vi f), some (vi (bS (gG M f) 6)), some (vi (am4 akL (akV (gG M f) (M 4 f)) (24 * a + 24)).1), some (vi (dc (am4 akL (akV (gG M f) (M 4 f)) (24 * a + 24)).2)), some (vi ((a : Int) + 1)), some (vi 24), k7]) (st' := []) (M' := (sr M 63 A2)) rfl ?_
      refine Hx.run 1 (pc' := 36) (L' := [some (vr 0), some (vi f), some (vi (bS (gG M f) 6)), some (vi (am4 akL (akV (gG M f) (M 4 f)) (24 * a + 24)).1), some (vi (dc (am4 akL (akV (gG M f) (M 4 f)) (24 * a + 24)).2)), some (vi ((a : Int) + 1)), some (vi 24), k7]) (st' := []) (M' := (sr M 63 A2)) rfl ?_
      exact ih (a + 1) A2 (some (vi 24)) k7 (by omega) (by omega)
set_option maxRecDepth 100000 in
theorem C_ask (f : Int) (M : Mm) (hI : HI M 1) (hs : (0 ≤ M 0 14 ∧ M 0 14 ≤ 600) ∧ (0 ≤ M 0 15 ∧ M 0 15 ≤ 600) ∧ (0 ≤ M 0 16 ∧ M 0 16 ≤ 600)) : Ct 92 [vr 0, vi f] M (fun q0 M' => (¬ (0 ≤ f ∧ f < M 1 1) ∧ q0 = some (vi (-2)) ∧ up M 0 14 (M 0 14 + 1) = M') ∨ ((0 ≤ f ∧ f < M 1 1) ∧ q0 = some (vi (if bS (gG M f) 6 = 0 then -1 else (am4 akL (akV (gG M f) (M 4 f)) (240)).1)) ∧ ∃ A : Int → Int, sr M 63 A = M')) := by
  obtain ⟨iF, iG, iK, iH, iFa, aF, aG, lS, lN, lM, rS, rN, rM, aK⟩ := (show (0 ≤ M 1 0 ∧ M 1 0 ≤ 3) ∧ (0 ≤ M 1 1 ∧ M 1 1 ≤ 6) ∧ (0 ≤ M 1 2 ∧ M 1 2 ≤ 8) ∧ (0 ≤ M 6 16 ∧ M 6 16 ≤ 9999) ∧ (0 ≤ M 6 15 ∧ M 6 15 ≤ 9000) ∧ (∀ f : Int, 0 ≤ f → f < M 1 0 → (0 ≤ M 2 f ∧ M 2 f ≤ 5) ∧ (1 ≤ M 6 (12 + f) ∧ M 6 (12 + f) ≤ 10)) ∧ (∀ i : Int, 0 ≤ i → i < M 1 1 → (0 ≤ M 3 i ∧ M 3 i ≤ 5) ∧ (1 ≤ M 4 i ∧ M 4 i ≤ 4) ∧ (0 ≤ M 5 i ∧ M 5 i < M 1 0) ∧ (0 ≤ M 6 i ∧ M 6 i ≤ 11) ∧ (0 ≤ M 6 (6 + i) ∧ M 6 (6 + i) ≤ 9)) ∧ (M 8 0 = 4 ∧ M 8 1 = 5 ∧ 0 ≤ M 8 3 ∧ M 8 3 ≤ 5) ∧ (M 10 0 = 3 ∧ M 10 1 = 6 ∧ 0 ≤ M 10 3 ∧ M 10 3 ≤ 6) ∧ (M 12 0 = 5 ∧ M 12 1 = 6 ∧ 0 ≤ M 12 3 ∧ M 12 3 ≤ 6) ∧ (∀ n : Int, 0 ≤ n → n < M 8 3 → (0 ≤ M 9 (n * 4 + 0) ∧ M 9 (n * 4 + 0) ≤ 2) ∧ (1 ≤ M 9 (n * 4 + 1) ∧ M 9 (n * 4 + 1) ≤ 10) ∧ (0 ≤ M 9 (n * 4 + 2) ∧ M 9 (n * 4 + 2) ≤ 23) ∧ (0 ≤ M 9 (n * 4 + 3) ∧ M 9 (n * 4 + 3) ≤ 1)) ∧ (∀ n : Int, 0 ≤ n → n < M 10 3 → (0 ≤ M 11 (n * 3 + 0) ∧ M 11 (n * 3 + 0) ≤ 2) ∧ (0 ≤ M 11 (n * 3 + 1) ∧ M 11 (n * 3 + 1) ≤ 23) ∧ (0 ≤ M 11 (n * 3 + 2) ∧ M 11 (n * 3 + 2) ≤ 9)) ∧ (∀ n : Int, 0 ≤ n → n < M 12 3 → (0 ≤ M 13 (n * 5 + 0) ∧ M 13 (n * 5 + 0) ≤ 5) ∧ (1 ≤ M 13 (n * 5 + 1) ∧ M 13 (n * 5 + 1) ≤ 4) ∧ (0 ≤ M 13 (n * 5 + 2) ∧ M 13 (n * 5 + 2) ≤ 9) ∧ (0 ≤ M 13 (n * 5 + 3) ∧ M 13 (n * 5 + 3) ≤ 23) ∧ (0 ≤ M 13 (n * 5 + 4) ∧ M 13 (n * 5 + 4) ≤ 9)) ∧ (∀ k : Int, 0 ≤ k → k < M 1 2 → (0 ≤ M 7 (k * 17 + 16) ∧ M 7 (k * 17 + 16) ≤ 9999) ∧ (0 ≤ M 7 (k * 17 + 15) ∧ M 7 (k * 17 + 15) ≤ 9000) ∧ (∀ f : Int, 0 ≤ f → f < M 1 0 → (1 ≤ M 7 (k * 17 + (12 + f)) ∧ M 7 (k * 17 + (12 + f)) ≤ 10)) ∧ (∀ i : Int, 0 ≤ i → i < M 1 1 → (0 ≤ M 7 (k * 17 + i) ∧ M 7 (k * 17 + i) ≤ 11) ∧ (0 ≤ M 7 (k * 17 + (6 + i)) ∧ M 7 (k * 17 + (6 + i)) ≤ 9))) from hI)
  refine Hx.run 3 (pc' := 5) (L' := [some (vr 0), some (vi f), none, none, none, none, none, none]) (st' := [vi f, vr 1]) (M' := M) rfl ?_
  refine Hx.call (t := 8) (as := [vr 1, vi f]) (pc' := 8) (rest := []) rfl (c_hasGoer_1 f M) ?_
  rintro _ _ (⟨q125, rfl, rfl⟩ | ⟨q125, rfl, rfl⟩)
  · skip
    have gq125 := aG f q125.1 q125.2
    have fq125 := aF (M 5 f) (by omega) (by omega)
    have sR := sfF_rng (k := M 3 f) (l := M 4 f) (x := M 6 (6 + f)) (t := M 6 16 % 24) (by omega) (by omega)
    have bR := bb_rng (M 6 (12 + (M 5 f))) (bcF (M 2 (M 5 f)) (M 6 16 % 24))
    refine Hx.run 3 (pc' := 18) (L' := [some (vr 0), some (vi f), none, none, none, none, none, none]) (st' := [vi f, vr 0]) (M' := M) rfl ?_
    refine Hx.call (t := 93) (as := [vr 0, vi f]) (pc' := 21) (rest := []) rfl (c_kindsG f M hI) ?_
    rintro _ _ ⟨rfl, rfl⟩
    refine Hx.run 0 (pc' := 21) (L' := [some (vr 0), some (vi f), none, none, none, none, none, none]) (st' := [vi (bS (gG M f) 6)]) (M' := M) rfl ?_
    refine Hx.run 2 (pc' := 23) (L' := [some (vr 0), some (vi f), some (vi (bS (gG M f) 6)), none, none, none, none, none]) (st' := [vi (bS (gG M f) 6)]) (M' := M) rfl ?_
    refine Hx.br (c := (bS (gG M f) 6) = 0) (t := 26) (f := 28) rfl (fun h1 => ?_) (fun h1 => ?_)
    · skip
      refine Hx.run 1 (pc' := 27) (L' := [some (vr 0), some (vi f), some (vi (bS (gG M f) 6)), none, none, none, none, none]) (st' := [vi (-1)]) (M' := M) rfl ?_
      refine Hx.ret rfl ?_
      first | exact Or.inl ⟨by omega, rfl, rfl⟩ | exact Or.inr ⟨by omega, by rw [if_pos (by assumption)], M 63, sr_self⟩
    · skip
      refine Hx.run 6 (pc' := 36) (L' := [some (vr 0), some (vi f), some (vi (bS (gG M f) 6)), some (vi (-1)), some (vi (-1)), some (vi 0), none, none]) (st' := []) (M' := M) rfl ?_
      have h0 := cl_ask2 f M hI (by omega) 20 0 (M 63) none none (by omega) (by omega)
      rw [sr_self, show dc (am4 akL (akV (gG M f) (M 4 f)) (24 * 0)).2 = -1 from rfl, show (am4 akL (akV (gG M f) (M 4 f)) (24 * 0)).1 = -1 from rfl] at h0
      exact Hx.imp h0 (fun r M' h => Or.inr ⟨by omega, by rw [if_neg (by assumption)]; exact h.1, h.2⟩)
  · skip
    refine Hx.run 2 (pc' := 12) (L' := [some (vr 0), some (vi f), none, none, none, none, none, none]) (st' := [vr 0]) (M' := M) rfl ?_
    refine Hx.call (t := 114) (as := [vr 0]) (pc' := 15) (rest := []) rfl (c_bad M (by omega)) ?_
    rintro _ _ ⟨rfl, rfl⟩
    refine Hx.run 0 (pc' := 15) (L' := [some (vr 0), some (vi f), none, none, none, none, none, none]) (st' := [vi (-2)]) (M' := (up M 0 14 ((M 0 14) + 1))) rfl ?_
    refine Hx.ret rfl ?_
    first | exact Or.inl ⟨by omega, rfl, rfl⟩ | exact Or.inr ⟨by omega, by rw [if_pos (by assumption)], M 63, sr_self⟩
