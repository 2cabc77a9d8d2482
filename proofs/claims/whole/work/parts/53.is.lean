/-! is and kinds, both sides (written by wip/whole/gen53.py) -/
def alB (c : Nat → Bool) : Nat → Bool
  | 0 => true
  | n + 1 => alB c n && c n
theorem alB_succ (c : Nat → Bool) (n : Nat) : alB c (n + 1) = (alB c n && c n) := rfl
theorem alB_congr {c d : Nat → Bool} : ∀ n, (∀ m, m < n → c m = d m) → alB c n = alB d n
  | 0, _ => rfl
  | n + 1, h => by rw [alB_succ, alB_succ, alB_congr n (fun m hm => h m (by omega)), h n (by omega)]
theorem alB_miss {c : Nat → Bool} {n : Nat} (h : c n = false) : ∀ m, n < m → ¬ alB c m = true
  | 0, h1 => absurd h1 (by omega)
  | m + 1, h1 => by
    rw [alB_succ]
    intro q
    have q2 := Bool.and_eq_true_iff.mp q
    by_cases e : m = n
    · rw [e, h] at q2; exact absurd q2.2 (by decide)
    · exact alB_miss h m (by omega) q2.1
theorem alB_step {c : Nat → Bool} {n : Nat} (h : alB c n = true) (h1 : c n = true) : alB c (n + 1) = true := by rw [alB_succ, h, h1]; rfl
def alI (c : Nat → Bool) (n : Nat) : Int := if alB c n = true then 1 else 0
theorem alI_01 (c : Nat → Bool) (n : Nat) : (alI c n = 1 ∧ alB c n = true) ∨ (alI c n = 0 ∧ ¬ alB c n = true) := by
  unfold alI
  split <;> rename_i h
  · exact Or.inl ⟨rfl, h⟩
  · exact Or.inr ⟨rfl, h⟩
theorem alI_off {c : Nat → Bool} {n : Nat} (h : alI c n = 0) : alI c (n + 1) = 0 := by
  unfold alI at h ⊢
  rw [alB_succ]
  cases e : alB c n
  · rfl
  · rw [e] at h; simp at h
theorem alI_keep {c : Nat → Bool} {n : Nat} (h : c n = true) : alI c (n + 1) = alI c n := by
  unfold alI
  rw [alB_succ, h, Bool.and_true]
theorem alI_no {c : Nat → Bool} {n : Nat} (h : c n = false) : alI c (n + 1) = 0 := by
  unfold alI
  rw [alB_succ, h, Bool.and_false]; rfl
def cO (q : Nat → Int → Int) (f k : Int) (m : Nat) : Bool := decide (q m 0 ≠ f) || decide (bcF k (q m 1) = q m 2)
def cG (q : Nat → Int → Int) (f k : Int) (m : Nat) : Bool := decide (q m 0 ≠ f) || decide (sfF k (q m 1) (q m 2) (q m 3) = q m 4)
theorem cO_skip {q : Nat → Int → Int} {f k : Int} {m : Nat} (h : ¬ q m 0 = f) : cO q f k m = true := by unfold cO; rw [decide_eq_true h]; rfl
theorem cG_skip {q : Nat → Int → Int} {f k : Int} {m : Nat} (h : ¬ q m 0 = f) : cG q f k m = true := by unfold cG; rw [decide_eq_true h]; rfl
theorem cO_eq {q : Nat → Int → Int} {f k : Int} {m : Nat} (h : bcF k (q m 1) = q m 2) : cO q f k m = true := by unfold cO; rw [decide_eq_true h, Bool.or_true]
theorem cG_eq {q : Nat → Int → Int} {f k : Int} {m : Nat} (h : sfF k (q m 1) (q m 2) (q m 3) = q m 4) : cG q f k m = true := by unfold cG; rw [decide_eq_true h, Bool.or_true]
theorem cO_no {q : Nat → Int → Int} {f k : Int} {m : Nat} (h0 : q m 0 = f) (h : ¬ bcF k (q m 1) = q m 2) : cO q f k m = false := by unfold cO; rw [decide_eq_false h, decide_eq_false (p := q m 0 ≠ f) (fun z => z h0)]; rfl
theorem cG_no {q : Nat → Int → Int} {f k : Int} {m : Nat} (h0 : q m 0 = f) (h : ¬ sfF k (q m 1) (q m 2) (q m 3) = q m 4) : cG q f k m = false := by unfold cG; rw [decide_eq_false h, decide_eq_false (p := q m 0 ≠ f) (fun z => z h0)]; rfl
def qN (M : Mm) (m : Nat) (c : Int) : Int := M 11 ((m : Int) * 3 + c)
def qM (M : Mm) (m : Nat) (c : Int) : Int := M 13 ((m : Int) * 5 + c)
def rN (M : Mm) (m : Nat) (c : Int) : Int := M 65 (62 + 3 * (m : Int) + c)
def rM (M : Mm) (m : Nat) (c : Int) : Int := M 65 (81 + 5 * (m : Int) + c)
theorem rN_0 (M : Mm) (m : Nat) : rN M m 0 = M 65 (62 + 3 * (m : Int)) := by unfold rN; rw [Int.add_zero]
theorem rM_0 (M : Mm) (m : Nat) : rM M m 0 = M 65 (81 + 5 * (m : Int)) := by unfold rM; rw [Int.add_zero]
def gO (M : Mm) (f : Int) (k : Nat) : Bool := alB (cO (qN M) f (k : Int)) (M 10 3).toNat
def gG (M : Mm) (f : Int) (k : Nat) : Bool := alB (cG (qM M) f (k : Int)) (M 12 3).toNat
def hO (M : Mm) (f : Int) (k : Nat) : Bool := alB (cO (rN M) f (k : Int)) (M 65 61).toNat
def hG (M : Mm) (f : Int) (k : Nat) : Bool := alB (cG (rM M) f (k : Int)) (M 65 80).toNat
theorem p6 {n : Nat} (h : n ≤ 6) : (2 : Int) ^ n ≤ 64 := by
  have h3 : 2 ^ n ≤ 2 ^ 6 := Nat.pow_le_pow_right (by decide) h
  have e : (2 : Int) ^ n = ((2 ^ n : Nat) : Int) := by simp
  rw [e]; omega
set_option maxRecDepth 100000 in
theorem cl_fitsO (f k : Int) (M : Mm) (hI : HI M 1) (hk : 0 ≤ k ∧ k ≤ 5) : ∀ (kk : Nat) (n : Nat), (n : Int) ≤ M 10 3 → alB (cO (qN M) f k) n = true → M 10 3 - (n : Int) < (kk : Int) → Hx 88 11 [some (vr 0), some (vi f), some (vi k), some (vr 10), some (vi (n : Int))] [] M (fun q0 M' => (alB (cO (qN M) f k) (M 10 3).toNat = true ∧ q0 = some (vi 1) ∧ M = M') ∨ (¬ alB (cO (qN M) f k) (M 10 3).toNat = true ∧ q0 = some (vi 0) ∧ M = M')) := by
  intro kk
  induction kk with
  | zero => intro n _ _ hkk; exact absurd hkk (by omega)
  | succ kk ih =>
    intro n hn hA hkk
    obtain ⟨iF, iG, iK, iH, iFa, aF, aG, lS, lN, lM, rS, rN, rM, aK⟩ := (show (0 ≤ M 1 0 ∧ M 1 0 ≤ 3) ∧ (0 ≤ M 1 1 ∧ M 1 1 ≤ 6) ∧ (0 ≤ M 1 2 ∧ M 1 2 ≤ 8) ∧ (0 ≤ M 6 16 ∧ M 6 16 ≤ 9999) ∧ (0 ≤ M 6 15 ∧ M 6 15 ≤ 9000) ∧ (∀ f : Int, 0 ≤ f → f < M 1 0 → (0 ≤ M 2 f ∧ M 2 f ≤ 5) ∧ (1 ≤ M 6 (12 + f) ∧ M 6 (12 + f) ≤ 10)) ∧ (∀ i : Int, 0 ≤ i → i < M 1 1 → (0 ≤ M 3 i ∧ M 3 i ≤ 5) ∧ (1 ≤ M 4 i ∧ M 4 i ≤ 4) ∧ (0 ≤ M 5 i ∧ M 5 i < M 1 0) ∧ (0 ≤ M 6 i ∧ M 6 i ≤ 11) ∧ (0 ≤ M 6 (6 + i) ∧ M 6 (6 + i) ≤ 9)) ∧ (M 8 0 = 4 ∧ M 8 1 = 5 ∧ 0 ≤ M 8 3 ∧ M 8 3 ≤ 5) ∧ (M 10 0 = 3 ∧ M 10 1 = 6 ∧ 0 ≤ M 10 3 ∧ M 10 3 ≤ 6) ∧ (M 12 0 = 5 ∧ M 12 1 = 6 ∧ 0 ≤ M 12 3 ∧ M 12 3 ≤ 6) ∧ (∀ n : Int, 0 ≤ n → n < M 8 3 → (0 ≤ M 9 (n * 4 + 0) ∧ M 9 (n * 4 + 0) ≤ 2) ∧ (1 ≤ M 9 (n * 4 + 1) ∧ M 9 (n * 4 + 1) ≤ 10) ∧ (0 ≤ M 9 (n * 4 + 2) ∧ M 9 (n * 4 + 2) ≤ 23) ∧ (0 ≤ M 9 (n * 4 + 3) ∧ M 9 (n * 4 + 3) ≤ 1)) ∧ (∀ n : Int, 0 ≤ n → n < M 10 3 → (0 ≤ M 11 (n * 3 + 0) ∧ M 11 (n * 3 + 0) ≤ 2) ∧ (0 ≤ M 11 (n * 3 + 1) ∧ M 11 (n * 3 + 1) ≤ 23) ∧ (0 ≤ M 11 (n * 3 + 2) ∧ M 11 (n * 3 + 2) ≤ 9)) ∧ (∀ n : Int, 0 ≤ n → n < M 12 3 → (0 ≤ M 13 (n * 5 + 0) ∧ M 13 (n * 5 + 0) ≤ 5) ∧ (1 ≤ M 13 (n * 5 + 1) ∧ M 13 (n * 5 + 1) ≤ 4) ∧ (0 ≤ M 13 (n * 5 + 2) ∧ M 13 (n * 5 + 2) ≤ 9) ∧ (0 ≤ M 13 (n * 5 + 3) ∧ M 13 (n * 5 + 3) ≤ 23) ∧ (0 ≤ M 13 (n * 5 + 4) ∧ M 13 (n * 5 + 4) ≤ 9)) ∧ (∀ k : Int, 0 ≤ k → k < M 1 2 → (0 ≤ M 7 (k * 17 + 16) ∧ M 7 (k * 17 + 16) ≤ 9999) ∧ (0 ≤ M 7 (k * 17 + 15) ∧ M 7 (k * 17 + 15) ≤ 9000) ∧ (∀ f : Int, 0 ≤ f → f < M 1 0 → (1 ≤ M 7 (k * 17 + (12 + f)) ∧ M 7 (k * 17 + (12 + f)) ≤ 10)) ∧ (∀ i : Int, 0 ≤ i → i < M 1 1 → (0 ≤ M 7 (k * 17 + i) ∧ M 7 (k * 17 + i) ≤ 11) ∧ (0 ≤ M 7 (k * 17 + (6 + i)) ∧ M 7 (k * 17 + (6 + i)) ≤ 9))) from hI)
    refine Hx.run 3 (pc' := 17) (L' := [some (vr 0), some (vi f), some (vi k), some (vr 10), some (vi (n : Int))]) (st' := [vi (M 10 3), vi (n : Int)]) (M' := M) rfl ?_
    refine Hx.br (c := (n : Int) < (M 10 3)) (t := 20) (f := 60) rfl (fun h1 => ?_) (fun h1 => ?_)
    · skip
      first | (have gS := rN (n : Int) (by omega) (by omega)) | skip
      refine Hx.run 3 (pc' := 24) (L' := [some (vr 0), some (vi f), some (vi k), some (vr 10), some (vi (n : Int))]) (st' := [vi 0, vi (n : Int), vr 10]) (M' := M) rfl ?_
      refine Hx.call (t := 38) (as := [vr 10, vi (n : Int), vi 0]) (pc' := 27) (rest := []) rfl (c_cell_10 (n : Int) 0 M lN (by omega) (by omega)) ?_
      rintro _ _ ⟨rfl, rfl⟩
      refine Hx.run 0 (pc' := 27) (L' := [some (vr 0), some (vi f), some (vi k), some (vr 10), some (vi (n : Int))]) (st' := [vi (M 11 ((n : Int) * 3 + 0))]) (M' := M) rfl ?_
      refine Hx.run 1 (pc' := 28) (L' := [some (vr 0), some (vi f), some (vi k), some (vr 10), some (vi (n : Int))]) (st' := [vi f, vi (M 11 ((n : Int) * 3 + 0))]) (M' := M) rfl ?_
      refine Hx.br (c := (M 11 ((n : Int) * 3 + 0)) = f) (t := 31) (f := 54) rfl (fun h2 => ?_) (fun h2 => ?_)
      · skip
        refine Hx.run 4 (pc' := 36) (L' := [some (vr 0), some (vi f), some (vi k), some (vr 10), some (vi (n : Int))]) (st' := [vi 1, vi (n : Int), vr 10, vi k]) (M' := M) rfl ?_
        refine Hx.call (t := 38) (as := [vr 10, vi (n : Int), vi 1]) (pc' := 39) (rest := [vi k]) rfl (c_cell_10 (n : Int) 1 M lN (by omega) (by omega)) ?_
        rintro _ _ ⟨rfl, rfl⟩
        refine Hx.run 0 (pc' := 39) (L' := [some (vr 0), some (vi f), some (vi k), some (vr 10), some (vi (n : Int))]) (st' := [vi (M 11 ((n : Int) * 3 + 1)), vi k]) (M' := M) rfl ?_
        refine Hx.call (t := 124) (as := [vi k, vi (M 11 ((n : Int) * 3 + 1))]) (pc' := 42) (rest := []) rfl (c_barCount k (M 11 ((n : Int) * 3 + 1)) M (by omega) (by omega)) ?_
        rintro _ _ ⟨rfl, rfl⟩
        refine Hx.run 0 (pc' := 42) (L' := [some (vr 0), some (vi f), some (vi k), some (vr 10), some (vi (n : Int))]) (st' := [vi (bcF k (M 11 ((n : Int) * 3 + 1)))]) (M' := M) rfl ?_
        refine Hx.run 3 (pc' := 46) (L' := [some (vr 0), some (vi f), some (vi k), some (vr 10), some (vi (n : Int))]) (st' := [vi 2, vi (n : Int), vr 10, vi (bcF k (M 11 ((n : Int) * 3 + 1)))]) (M' := M) rfl ?_
        refine Hx.call (t := 38) (as := [vr 10, vi (n : Int), vi 2]) (pc' := 49) (rest := [vi (bcF k (M 11 ((n : Int) * 3 + 1)))]) rfl (c_cell_10 (n : Int) 2 M lN (by omega) (by omega)) ?_
        rintro _ _ ⟨rfl, rfl⟩
        refine Hx.run 0 (pc' := 49) (L' := [some (vr 0), some (vi f), some (vi k), some (vr 10), some (vi (n : Int))]) (st' := [vi (M 11 ((n : Int) * 3 + 2)), vi (bcF k (M 11 ((n : Int) * 3 + 1)))]) (M' := M) rfl ?_
        refine Hx.br (c := (bcF k (M 11 ((n : Int) * 3 + 1))) = (M 11 ((n : Int) * 3 + 2))) (t := 54) (f := 52) rfl (fun h3 => ?_) (fun h3 => ?_)
        · skip
          refine Hx.inc rfl rfl (by omega) ?_
          refine Hx.run 0 (pc' := 57) (L' := [some (vr 0), some (vi f), some (vi k), some (vr 10), some (vi ((n : Int) + 1))]) (st' := []) (M' := M) rfl ?_
          refine Hx.run 1 (pc' := 11) (L' := [some (vr 0), some (vi f), some (vi k), some (vr 10), some (vi ((n : Int) + 1))]) (st' := []) (M' := M) rfl ?_
          exact ih (n + 1) (by omega) (alB_step hA (by first | exact cO_skip (by assumption) | exact cO_eq (by assumption))) (by omega)
        · skip
          refine Hx.run 1 (pc' := 53) (L' := [some (vr 0), some (vi f), some (vi k), some (vr 10), some (vi (n : Int))]) (st' := [vi 0]) (M' := M) rfl ?_
          refine Hx.ret rfl ?_
          exact Or.inr ⟨alB_miss (n := n) (cO_no (by assumption) (by assumption)) _ (by omega), rfl, rfl⟩
      · skip
        refine Hx.inc rfl rfl (by omega) ?_
        refine Hx.run 0 (pc' := 57) (L' := [some (vr 0), some (vi f), some (vi k), some (vr 10), some (vi ((n : Int) + 1))]) (st' := []) (M' := M) rfl ?_
        refine Hx.run 1 (pc' := 11) (L' := [some (vr 0), some (vi f), some (vi k), some (vr 10), some (vi ((n : Int) + 1))]) (st' := []) (M' := M) rfl ?_
        exact ih (n + 1) (by omega) (alB_step hA (by first | exact cO_skip (by assumption) | exact cO_eq (by assumption))) (by omega)
    · skip
      first | (have gS := rN (n : Int) (by omega) (by omega)) | skip
      refine Hx.run 1 (pc' := 61) (L' := [some (vr 0), some (vi f), some (vi k), some (vr 10), some (vi (n : Int))]) (st' := [vi 1]) (M' := M) rfl ?_
      refine Hx.ret rfl ?_
      exact Or.inl ⟨by rw [show (M 10 3).toNat = n by omega]; exact hA, rfl, rfl⟩
set_option maxRecDepth 100000 in
theorem c_fitsO (f k : Int) (M : Mm) (hI : HI M 1) (hk : 0 ≤ k ∧ k ≤ 5) : Ct 88 [vr 0, vi f, vi k] M (fun q0 M' => (alB (cO (qN M) f k) (M 10 3).toNat = true ∧ q0 = some (vi 1) ∧ M = M') ∨ (¬ alB (cO (qN M) f k) (M 10 3).toNat = true ∧ q0 = some (vi 0) ∧ M = M')) := by
  obtain ⟨iF, iG, iK, iH, iFa, aF, aG, lS, lN, lM, rS, rN, rM, aK⟩ := (show (0 ≤ M 1 0 ∧ M 1 0 ≤ 3) ∧ (0 ≤ M 1 1 ∧ M 1 1 ≤ 6) ∧ (0 ≤ M 1 2 ∧ M 1 2 ≤ 8) ∧ (0 ≤ M 6 16 ∧ M 6 16 ≤ 9999) ∧ (0 ≤ M 6 15 ∧ M 6 15 ≤ 9000) ∧ (∀ f : Int, 0 ≤ f → f < M 1 0 → (0 ≤ M 2 f ∧ M 2 f ≤ 5) ∧ (1 ≤ M 6 (12 + f) ∧ M 6 (12 + f) ≤ 10)) ∧ (∀ i : Int, 0 ≤ i → i < M 1 1 → (0 ≤ M 3 i ∧ M 3 i ≤ 5) ∧ (1 ≤ M 4 i ∧ M 4 i ≤ 4) ∧ (0 ≤ M 5 i ∧ M 5 i < M 1 0) ∧ (0 ≤ M 6 i ∧ M 6 i ≤ 11) ∧ (0 ≤ M 6 (6 + i) ∧ M 6 (6 + i) ≤ 9)) ∧ (M 8 0 = 4 ∧ M 8 1 = 5 ∧ 0 ≤ M 8 3 ∧ M 8 3 ≤ 5) ∧ (M 10 0 = 3 ∧ M 10 1 = 6 ∧ 0 ≤ M 10 3 ∧ M 10 3 ≤ 6) ∧ (M 12 0 = 5 ∧ M 12 1 = 6 ∧ 0 ≤ M 12 3 ∧ M 12 3 ≤ 6) ∧ (∀ n : Int, 0 ≤ n → n < M 8 3 → (0 ≤ M 9 (n * 4 + 0) ∧ M 9 (n * 4 + 0) ≤ 2) ∧ (1 ≤ M 9 (n * 4 + 1) ∧ M 9 (n * 4 + 1) ≤ 10) ∧ (0 ≤ M 9 (n * 4 + 2) ∧ M 9 (n * 4 + 2) ≤ 23) ∧ (0 ≤ M 9 (n * 4 + 3) ∧ M 9 (n * 4 + 3) ≤ 1)) ∧ (∀ n : Int, 0 ≤ n → n < M 10 3 → (0 ≤ M 11 (n * 3 + 0) ∧ M 11 (n * 3 + 0) ≤ 2) ∧ (0 ≤ M 11 (n * 3 + 1) ∧ M 11 (n * 3 + 1) ≤ 23) ∧ (0 ≤ M 11 (n * 3 + 2) ∧ M 11 (n * 3 + 2) ≤ 9)) ∧ (∀ n : Int, 0 ≤ n → n < M 12 3 → (0 ≤ M 13 (n * 5 + 0) ∧ M 13 (n * 5 + 0) ≤ 5) ∧ (1 ≤ M 13 (n * 5 + 1) ∧ M 13 (n * 5 + 1) ≤ 4) ∧ (0 ≤ M 13 (n * 5 + 2) ∧ M 13 (n * 5 + 2) ≤ 9) ∧ (0 ≤ M 13 (n * 5 + 3) ∧ M 13 (n * 5 + 3) ≤ 23) ∧ (0 ≤ M 13 (n * 5 + 4) ∧ M 13 (n * 5 + 4) ≤ 9)) ∧ (∀ k : Int, 0 ≤ k → k < M 1 2 → (0 ≤ M 7 (k * 17 + 16) ∧ M 7 (k * 17 + 16) ≤ 9999) ∧ (0 ≤ M 7 (k * 17 + 15) ∧ M 7 (k * 17 + 15) ≤ 9000) ∧ (∀ f : Int, 0 ≤ f → f < M 1 0 → (1 ≤ M 7 (k * 17 + (12 + f)) ∧ M 7 (k * 17 + (12 + f)) ≤ 10)) ∧ (∀ i : Int, 0 ≤ i → i < M 1 1 → (0 ≤ M 7 (k * 17 + i) ∧ M 7 (k * 17 + i) ≤ 11) ∧ (0 ≤ M 7 (k * 17 + (6 + i)) ∧ M 7 (k * 17 + (6 + i)) ≤ 9))) from hI)
  refine Hx.run 6 (pc' := 11) (L' := [some (vr 0), some (vi f), some (vi k), some (vr 10), some (vi 0)]) (st' := []) (M' := M) rfl ?_
  exact cl_fitsO f k M hI hk 10 0 (by omega) rfl (by omega)
set_option maxRecDepth 100000 in
theorem cl_kindsO (f : Int) (M : Mm) (hI : HI M 1) : ∀ (kk : Nat) (n : Nat), n ≤ 6 → 6 - (n : Int) < (kk : Int) → Hx 87 4 [some (vr 0), some (vi f), some (vi (bS (gO M f) n)), some (vi (n : Int))] [] M (fun q0 M' => q0 = some (vi (bS (gO M f) 6)) ∧ M = M') := by
  intro kk
  induction kk with
  | zero => intro n _ hkk; exact absurd hkk (by omega)
  | succ kk ih =>
    intro n hn hkk
    refine Hx.run 2 (pc' := 7) (L' := [some (vr 0), some (vi f), some (vi (bS (gO M f) n)), some (vi (n : Int))]) (st' := [vi 6, vi (n : Int)]) (M' := M) rfl ?_
    refine Hx.br (c := (n : Int) < 6) (t := 10) (f := 31) rfl (fun h1 => ?_) (fun h1 => ?_)
    · skip
      refine Hx.run 3 (pc' := 13) (L' := [some (vr 0), some (vi f), some (vi (bS (gO M f) n)), some (vi (n : Int))]) (st' := [vi (n : Int), vi f, vr 0]) (M' := M) rfl ?_
      refine Hx.call (t := 88) (as := [vr 0, vi f, vi (n : Int)]) (pc' := 16) (rest := []) rfl (c_fitsO f (n : Int) M hI (by omega)) ?_
      rintro _ _ (⟨q118, rfl, rfl⟩ | ⟨q118, rfl, rfl⟩)
      · skip
        refine Hx.run 7 (pc' := 25) (L' := [some (vr 0), some (vi f), some (vi (i2 fior (bS (gO M f) n) (i2 fshl 1 (n : Int)))), some (vi (n : Int))]) (st' := []) (M' := M) rfl ?_
        refine Hx.inc rfl rfl (by omega) ?_
        refine Hx.run 0 (pc' := 28) (L' := [some (vr 0), some (vi f), some (vi (i2 fior (bS (gO M f) n) (i2 fshl 1 (n : Int)))), some (vi ((n : Int) + 1))]) (st' := []) (M' := M) rfl ?_
        refine Hx.run 1 (pc' := 4) (L' := [some (vr 0), some (vi f), some (vi (i2 fior (bS (gO M f) n) (i2 fshl 1 (n : Int)))), some (vi ((n : Int) + 1))]) (st' := []) (M' := M) rfl ?_
        have e : (i2 fior (bS (gO M f) n) (i2 fshl 1 (n : Int))) = bS (gO M f) (n + 1) := bS_one (f := (gO M f)) (by omega) (by unfold gO; assumption)
        rw [e]
        exact ih (n + 1) (by omega) (by omega)
      · skip
        refine Hx.run 1 (pc' := 25) (L' := [some (vr 0), some (vi f), some (vi (bS (gO M f) n)), some (vi (n : Int))]) (st' := []) (M' := M) rfl ?_
        refine Hx.inc rfl rfl (by omega) ?_
        refine Hx.run 0 (pc' := 28) (L' := [some (vr 0), some (vi f), some (vi (bS (gO M f) n)), some (vi ((n : Int) + 1))]) (st' := []) (M' := M) rfl ?_
        refine Hx.run 1 (pc' := 4) (L' := [some (vr 0), some (vi f), some (vi (bS (gO M f) n)), some (vi ((n : Int) + 1))]) (st' := []) (M' := M) rfl ?_
        have e : (bS (gO M f) n) = bS (gO M f) (n + 1) := bS_no (f := (gO M f)) (by unfold gO; assumption)
        rw [e]
        exact ih (n + 1) (by omega) (by omega)
    · skip
      refine Hx.run 1 (pc' := 32) (L' := [some (vr 0), some (vi f), some (vi (bS (gO M f) n)), some (vi (n : Int))]) (st' := [vi (bS (gO M f) n)]) (M' := M) rfl ?_
      refine Hx.ret rfl ?_
      exact ⟨by rw [show n = 6 by omega], rfl⟩
set_option maxRecDepth 100000 in
theorem c_kindsO (f : Int) (M : Mm) (hI : HI M 1) : Ct 87 [vr 0, vi f] M (fun q0 M' => q0 = some (vi (bS (gO M f) 6)) ∧ M = M') := by
  refine Hx.run 4 (pc' := 4) (L' := [some (vr 0), some (vi f), some (vi 0), some (vi 0)]) (st' := []) (M' := M) rfl ?_
  exact cl_kindsO f M hI 10 0 (by omega) (by omega)
set_option maxRecDepth 100000 in
theorem C_is (f : Int) (M : Mm) (hI : HI M 1) (hs : (0 ≤ M 0 14 ∧ M 0 14 ≤ 600) ∧ (0 ≤ M 0 15 ∧ M 0 15 ≤ 600) ∧ (0 ≤ M 0 16 ∧ M 0 16 ≤ 600)) : Ct 85 [vr 0, vi f] M (fun q0 M' => (¬ (0 ≤ f ∧ f < M 1 0) ∧ q0 = some (vi (-2)) ∧ up M 0 14 (M 0 14 + 1) = M') ∨ ((0 ≤ f ∧ f < M 1 0) ∧ q0 = some (vi (bS (gO M f) 6)) ∧ M = M')) := by
  obtain ⟨iF, iG, iK, iH, iFa, aF, aG, lS, lN, lM, rS, rN, rM, aK⟩ := (show (0 ≤ M 1 0 ∧ M 1 0 ≤ 3) ∧ (0 ≤ M 1 1 ∧ M 1 1 ≤ 6) ∧ (0 ≤ M 1 2 ∧ M 1 2 ≤ 8) ∧ (0 ≤ M 6 16 ∧ M 6 16 ≤ 9999) ∧ (0 ≤ M 6 15 ∧ M 6 15 ≤ 9000) ∧ (∀ f : Int, 0 ≤ f → f < M 1 0 → (0 ≤ M 2 f ∧ M 2 f ≤ 5) ∧ (1 ≤ M 6 (12 + f) ∧ M 6 (12 + f) ≤ 10)) ∧ (∀ i : Int, 0 ≤ i → i < M 1 1 → (0 ≤ M 3 i ∧ M 3 i ≤ 5) ∧ (1 ≤ M 4 i ∧ M 4 i ≤ 4) ∧ (0 ≤ M 5 i ∧ M 5 i < M 1 0) ∧ (0 ≤ M 6 i ∧ M 6 i ≤ 11) ∧ (0 ≤ M 6 (6 + i) ∧ M 6 (6 + i) ≤ 9)) ∧ (M 8 0 = 4 ∧ M 8 1 = 5 ∧ 0 ≤ M 8 3 ∧ M 8 3 ≤ 5) ∧ (M 10 0 = 3 ∧ M 10 1 = 6 ∧ 0 ≤ M 10 3 ∧ M 10 3 ≤ 6) ∧ (M 12 0 = 5 ∧ M 12 1 = 6 ∧ 0 ≤ M 12 3 ∧ M 12 3 ≤ 6) ∧ (∀ n : Int, 0 ≤ n → n < M 8 3 → (0 ≤ M 9 (n * 4 + 0) ∧ M 9 (n * 4 + 0) ≤ 2) ∧ (1 ≤ M 9 (n * 4 + 1) ∧ M 9 (n * 4 + 1) ≤ 10) ∧ (0 ≤ M 9 (n * 4 + 2) ∧ M 9 (n * 4 + 2) ≤ 23) ∧ (0 ≤ M 9 (n * 4 + 3) ∧ M 9 (n * 4 + 3) ≤ 1)) ∧ (∀ n : Int, 0 ≤ n → n < M 10 3 → (0 ≤ M 11 (n * 3 + 0) ∧ M 11 (n * 3 + 0) ≤ 2) ∧ (0 ≤ M 11 (n * 3 + 1) ∧ M 11 (n * 3 + 1) ≤ 23) ∧ (0 ≤ M 11 (n * 3 + 2) ∧ M 11 (n * 3 + 2) ≤ 9)) ∧ (∀ n : Int, 0 ≤ n → n < M 12 3 → (0 ≤ M 13 (n * 5 + 0) ∧ M 13 (n * 5 + 0) ≤ 5) ∧ (1 ≤ M 13 (n * 5 + 1) ∧ M 13 (n * 5 + 1) ≤ 4) ∧ (0 ≤ M 13 (n * 5 + 2) ∧ M 13 (n * 5 + 2) ≤ 9) ∧ (0 ≤ M 13 (n * 5 + 3) ∧ M 13 (n * 5 + 3) ≤ 23) ∧ (0 ≤ M 13 (n * 5 + 4) ∧ M 13 (n * 5 + 4) ≤ 9)) ∧ (∀ k : Int, 0 ≤ k → k < M 1 2 → (0 ≤ M 7 (k * 17 + 16) ∧ M 7 (k * 17 + 16) ≤ 9999) ∧ (0 ≤ M 7 (k * 17 + 15) ∧ M 7 (k * 17 + 15) ≤ 9000) ∧ (∀ f : Int, 0 ≤ f → f < M 1 0 → (1 ≤ M 7 (k * 17 + (12 + f)) ∧ M 7 (k * 17 + (12 + f)) ≤ 10)) ∧ (∀ i : Int, 0 ≤ i → i < M 1 1 → (0 ≤ M 7 (k * 17 + i) ∧ M 7 (k * 17 + i) ≤ 11) ∧ (0 ≤ M 7 (k * 17 + (6 + i)) ∧ M 7 (k * 17 + (6 + i)) ≤ 9))) from hI)
  refine Hx.run 3 (pc' := 5) (L' := [some (vr 0), some (vi f)]) (st' := [vi f, vr 1]) (M' := M) rfl ?_
  refine Hx.call (t := 7) (as := [vr 1, vi f]) (pc' := 8) (rest := []) rfl (c_hasFlight_1 f M) ?_
  rintro _ _ (⟨q119, rfl, rfl⟩ | ⟨q119, rfl, rfl⟩)
  · skip
    have fq119 := aF f q119.1 q119.2
    refine Hx.run 3 (pc' := 18) (L' := [some (vr 0), some (vi f)]) (st' := [vi f, vr 0]) (M' := M) rfl ?_
    refine Hx.call (t := 87) (as := [vr 0, vi f]) (pc' := 21) (rest := []) rfl (c_kindsO f M hI) ?_
    rintro _ _ ⟨rfl, rfl⟩
    refine Hx.run 0 (pc' := 21) (L' := [some (vr 0), some (vi f)]) (st' := [vi (bS (gO M f) 6)]) (M' := M) rfl ?_
    refine Hx.ret rfl ?_
    first | exact Or.inl ⟨by omega, rfl, rfl⟩ | exact Or.inr ⟨by omega, rfl, rfl⟩
  · skip
    refine Hx.run 2 (pc' := 12) (L' := [some (vr 0), some (vi f)]) (st' := [vr 0]) (M' := M) rfl ?_
    refine Hx.call (t := 114) (as := [vr 0]) (pc' := 15) (rest := []) rfl (c_bad M (by omega)) ?_
    rintro _ _ ⟨rfl, rfl⟩
    refine Hx.run 0 (pc' := 15) (L' := [some (vr 0), some (vi f)]) (st' := [vi (-2)]) (M' := (up M 0 14 ((M 0 14) + 1))) rfl ?_
    refine Hx.ret rfl ?_
    first | exact Or.inl ⟨by omega, rfl, rfl⟩ | exact Or.inr ⟨by omega, rfl, rfl⟩
set_option maxRecDepth 100000 in
theorem rl_soO (f k : Int) (M : Mm) (hI : RI M 0) (hS : ∀ n : Int, 0 ≤ n → n < M 65 61 → (0 ≤ M 65 (62 + 3 * n + 1) ∧ M 65 (62 + 3 * n + 1) ≤ 23)) (hk : 0 ≤ k ∧ k ≤ 5) : ∀ (kk : Nat) (n : Nat) (j5 : Option PV), (n : Int) ≤ M 65 61 → M 65 61 - (n : Int) < (kk : Int) → Hx 200 5 [some (vr 64), some (vi f), some (vi k), some (vi (alI (cO (rN M) f k) n)), some (vi (n : Int)), j5] [] M (fun q0 M' => q0 = some (vi (alI (cO (rN M) f k) (M 65 61).toNat)) ∧ M = M') := by
  intro kk
  induction kk with
  | zero => intro n j5 _ hkk; exact absurd hkk (by omega)
  | succ kk ih =>
    intro n j5 hn hkk
    obtain ⟨r0, r1, r2, r3, r40, r61, r80, r111, rF, rG⟩ := (show (0 ≤ M 65 0 ∧ M 65 0 ≤ 3) ∧ (0 ≤ M 65 1 ∧ M 65 1 ≤ 6) ∧ (0 ≤ M 65 2 ∧ M 65 2 ≤ 9999) ∧ (0 ≤ M 65 3 ∧ M 65 3 ≤ 9000) ∧ (0 ≤ M 65 40 ∧ M 65 40 ≤ 5) ∧ (0 ≤ M 65 61 ∧ M 65 61 ≤ 6) ∧ (0 ≤ M 65 80 ∧ M 65 80 ≤ 6) ∧ (0 ≤ M 65 111 ∧ M 65 111 ≤ 8) ∧ (∀ f : Int, 0 ≤ f → f < M 65 0 → (0 ≤ M 65 (4 + f) ∧ M 65 (4 + f) ≤ 5) ∧ (1 ≤ M 65 (7 + f) ∧ M 65 (7 + f) ≤ 10)) ∧ (∀ i : Int, 0 ≤ i → i < M 65 1 → (0 ≤ M 65 (10 + i) ∧ M 65 (10 + i) ≤ 5) ∧ (1 ≤ M 65 (16 + i) ∧ M 65 (16 + i) ≤ 4) ∧ (0 ≤ M 65 (22 + i) ∧ M 65 (22 + i) < M 65 0) ∧ (0 ≤ M 65 (28 + i) ∧ M 65 (28 + i) ≤ 11) ∧ (0 ≤ M 65 (34 + i) ∧ M 65 (34 + i) ≤ 9)) from hI)
    have c01 := alI_01 (cO (rN M) f k) n
    refine Hx.run 5 (pc' := 14) (L' := [some (vr 64), some (vi f), some (vi k), some (vi (alI (cO (rN M) f k) n)), some (vi (n : Int)), j5]) (st' := [vi (M 65 61), vi (n : Int)]) (M' := M) rfl ?_
    refine Hx.br (c := (n : Int) < (M 65 61)) (t := 17) (f := 78) rfl (fun h1 => ?_) (fun h1 => ?_)
    · skip
      first | (have gS := hS (n : Int) (by omega) (by omega)) | skip
      refine Hx.run 3 (pc' := 22) (L' := [some (vr 64), some (vi f), some (vi k), some (vi (alI (cO (rN M) f k) n)), some (vi (n : Int)), j5]) (st' := [vi (n : Int), vi 3, vi 62]) (M' := M) rfl ?_
      refine Hx.mul rfl (by omega) ?_
      refine Hx.add rfl (by omega) ?_
      refine Hx.run 2 (pc' := 27) (L' := [some (vr 64), some (vi f), some (vi k), some (vi (alI (cO (rN M) f k) n)), some (vi (n : Int)), some (vi (62 + (3 * (n : Int))))]) (st' := [vi (alI (cO (rN M) f k) n)]) (M' := M) rfl ?_
      refine Hx.br (c := (alI (cO (rN M) f k) n) = 0) (t := 70) (f := 30) rfl (fun h2 => ?_) (fun h2 => ?_)
      · skip
        refine Hx.run 2 (pc' := 72) (L' := [some (vr 64), some (vi f), some (vi k), some (vi 0), some (vi (n : Int)), some (vi (62 + (3 * (n : Int))))]) (st' := []) (M' := M) rfl ?_
        refine Hx.inc rfl rfl (by omega) ?_
        refine Hx.run 0 (pc' := 75) (L' := [some (vr 64), some (vi f), some (vi k), some (vi 0), some (vi ((n : Int) + 1)), some (vi (62 + (3 * (n : Int))))]) (st' := []) (M' := M) rfl ?_
        refine Hx.run 1 (pc' := 5) (L' := [some (vr 64), some (vi f), some (vi k), some (vi 0), some (vi ((n : Int) + 1)), some (vi (62 + (3 * (n : Int))))]) (st' := []) (M' := M) rfl ?_
        have e : alI (cO (rN M) f k) (n + 1) = 0 := by
          first
            | exact alI_off (by omega)
            | (rw [alI_keep (cO_skip (by rw [rN_0]; assumption))]; omega)
            | (rw [alI_keep (cO_eq (by unfold rN; assumption))]; omega)
            | exact alI_no (cO_no (by rw [rN_0]; assumption) (by unfold rN; assumption))
        have h9 := ih (n + 1) (some (vi (62 + (3 * (n : Int))))) (by omega) (by omega)
        rw [e] at h9
        exact h9
      · skip
        refine Hx.run 3 (pc' := 36) (L' := [some (vr 64), some (vi f), some (vi k), some (vi (alI (cO (rN M) f k) n)), some (vi (n : Int)), some (vi (62 + (3 * (n : Int))))]) (st' := [vi (62 + (3 * (n : Int))), vr 65]) (M' := M) rfl ?_
        refine Hx.aldI (n := 1032) rfl rfl (by omega) ?_
        refine Hx.run 1 (pc' := 38) (L' := [some (vr 64), some (vi f), some (vi k), some (vi (alI (cO (rN M) f k) n)), some (vi (n : Int)), some (vi (62 + (3 * (n : Int))))]) (st' := [vi f, vi (M 65 (62 + (3 * (n : Int))))]) (M' := M) rfl ?_
        refine Hx.br (c := (M 65 (62 + (3 * (n : Int)))) = f) (t := 41) (f := 66) rfl (fun h3 => ?_) (fun h3 => ?_)
        · skip
          refine Hx.run 5 (pc' := 49) (L' := [some (vr 64), some (vi f), some (vi k), some (vi (alI (cO (rN M) f k) n)), some (vi (n : Int)), some (vi (62 + (3 * (n : Int))))]) (st' := [vi 1, vi (62 + (3 * (n : Int))), vr 65, vi k]) (M' := M) rfl ?_
          refine Hx.add rfl (by omega) ?_
          refine Hx.aldI (n := 1032) rfl rfl (by omega) ?_
          refine Hx.call (t := 142) (as := [vi k, vi (M 65 ((62 + (3 * (n : Int))) + 1))]) (pc' := 54) (rest := []) rfl (r_barsOf k (M 65 ((62 + (3 * (n : Int))) + 1)) M (by omega) (by omega)) ?_
          rintro _ _ ⟨rfl, rfl⟩
          refine Hx.run 0 (pc' := 54) (L' := [some (vr 64), some (vi f), some (vi k), some (vi (alI (cO (rN M) f k) n)), some (vi (n : Int)), some (vi (62 + (3 * (n : Int))))]) (st' := [vi (bcF k (M 65 ((62 + (3 * (n : Int))) + 1)))]) (M' := M) rfl ?_
          refine Hx.run 4 (pc' := 61) (L' := [some (vr 64), some (vi f), some (vi k), some (vi (alI (cO (rN M) f k) n)), some (vi (n : Int)), some (vi (62 + (3 * (n : Int))))]) (st' := [vi 2, vi (62 + (3 * (n : Int))), vr 65, vi (bcF k (M 65 ((62 + (3 * (n : Int))) + 1)))]) (M' := M) rfl ?_
          refine Hx.add rfl (by omega) ?_
          refine Hx.aldI (n := 1032) rfl rfl (by omega) ?_
          refine Hx.br (c := (bcF k (M 65 ((62 + (3 * (n : Int))) + 1))) = (M 65 ((62 + (3 * (n : Int))) + 2))) (t := 66) (f := 70) rfl (fun h4 => ?_) (fun h4 => ?_)
          · skip
            refine Hx.run 3 (pc' := 72) (L' := [some (vr 64), some (vi f), some (vi k), some (vi 1), some (vi (n : Int)), some (vi (62 + (3 * (n : Int))))]) (st' := []) (M' := M) rfl ?_
            refine Hx.inc rfl rfl (by omega) ?_
            refine Hx.run 0 (pc' := 75) (L' := [some (vr 64), some (vi f), some (vi k), some (vi 1), some (vi ((n : Int) + 1)), some (vi (62 + (3 * (n : Int))))]) (st' := []) (M' := M) rfl ?_
            refine Hx.run 1 (pc' := 5) (L' := [some (vr 64), some (vi f), some (vi k), some (vi 1), some (vi ((n : Int) + 1)), some (vi (62 + (3 * (n : Int))))]) (st' := []) (M' := M) rfl ?_
            have e : alI (cO (rN M) f k) (n + 1) = 1 := by
              first
                | exact alI_off (by omega)
                | (rw [alI_keep (cO_skip (by rw [rN_0]; assumption))]; omega)
                | (rw [alI_keep (cO_eq (by unfold rN; assumption))]; omega)
                | exact alI_no (cO_no (by rw [rN_0]; assumption) (by unfold rN; assumption))
            have h9 := ih (n + 1) (some (vi (62 + (3 * (n : Int))))) (by omega) (by omega)
            rw [e] at h9
            exact h9
          · skip
            refine Hx.run 2 (pc' := 72) (L' := [some (vr 64), some (vi f), some (vi k), some (vi 0), some (vi (n : Int)), some (vi (62 + (3 * (n : Int))))]) (st' := []) (M' := M) rfl ?_
            refine Hx.inc rfl rfl (by omega) ?_
            refine Hx.run 0 (pc' := 75) (L' := [some (vr 64), some (vi f), some (vi k), some (vi 0), some (vi ((n : Int) + 1)), some (vi (62 + (3 * (n : Int))))]) (st' := []) (M' := M) rfl ?_
            refine Hx.run 1 (pc' := 5) (L' := [some (vr 64), some (vi f), some (vi k), some (vi 0), some (vi ((n : Int) + 1)), some (vi (62 + (3 * (n : Int))))]) (st' := []) (M' := M) rfl ?_
            have e : alI (cO (rN M) f k) (n + 1) = 0 := by
              first
                | exact alI_off (by omega)
                | (rw [alI_keep (cO_skip (by rw [rN_0]; assumption))]; omega)
                | (rw [alI_keep (cO_eq (by unfold rN; assumption))]; omega)
                | exact alI_no (cO_no (by rw [rN_0]; assumption) (by unfold rN; assumption))
            have h9 := ih (n + 1) (some (vi (62 + (3 * (n : Int))))) (by omega) (by omega)
            rw [e] at h9
            exact h9
        · skip
          refine Hx.run 3 (pc' := 72) (L' := [some (vr 64), some (vi f), some (vi k), some (vi 1), some (vi (n : Int)), some (vi (62 + (3 * (n : Int))))]) (st' := []) (M' := M) rfl ?_
          refine Hx.inc rfl rfl (by omega) ?_
          refine Hx.run 0 (pc' := 75) (L' := [some (vr 64), some (vi f), some (vi k), some (vi 1), some (vi ((n : Int) + 1)), some (vi (62 + (3 * (n : Int))))]) (st' := []) (M' := M) rfl ?_
          refine Hx.run 1 (pc' := 5) (L' := [some (vr 64), some (vi f), some (vi k), some (vi 1), some (vi ((n : Int) + 1)), some (vi (62 + (3 * (n : Int))))]) (st' := []) (M' := M) rfl ?_
          have e : alI (cO (rN M) f k) (n + 1) = 1 := by
            first
              | exact alI_off (by omega)
              | (rw [alI_keep (cO_skip (by rw [rN_0]; assumption))]; omega)
              | (rw [alI_keep (cO_eq (by unfold rN; assumption))]; omega)
              | exact alI_no (cO_no (by rw [rN_0]; assumption) (by unfold rN; assumption))
          have h9 := ih (n + 1) (some (vi (62 + (3 * (n : Int))))) (by omega) (by omega)
          rw [e] at h9
          exact h9
    · skip
      first | (have gS := hS (n : Int) (by omega) (by omega)) | skip
      refine Hx.run 1 (pc' := 79) (L' := [some (vr 64), some (vi f), some (vi k), some (vi (alI (cO (rN M) f k) n)), some (vi (n : Int)), j5]) (st' := [vi (alI (cO (rN M) f k) n)]) (M' := M) rfl ?_
      refine Hx.retB rfl rfl (by omega) ?_
      exact ⟨by rw [show (M 65 61).toNat = n by omega], rfl⟩
set_option maxRecDepth 100000 in
theorem r_soO (f k : Int) (M : Mm) (hI : RI M 0) (hS : ∀ n : Int, 0 ≤ n → n < M 65 61 → (0 ≤ M 65 (62 + 3 * n + 1) ∧ M 65 (62 + 3 * n + 1) ≤ 23)) (hk : 0 ≤ k ∧ k ≤ 5) : Ct 200 [vr 64, vi f, vi k] M (fun q0 M' => q0 = some (vi (alI (cO (rN M) f k) (M 65 61).toNat)) ∧ M = M') := by
  obtain ⟨r0, r1, r2, r3, r40, r61, r80, r111, rF, rG⟩ := (show (0 ≤ M 65 0 ∧ M 65 0 ≤ 3) ∧ (0 ≤ M 65 1 ∧ M 65 1 ≤ 6) ∧ (0 ≤ M 65 2 ∧ M 65 2 ≤ 9999) ∧ (0 ≤ M 65 3 ∧ M 65 3 ≤ 9000) ∧ (0 ≤ M 65 40 ∧ M 65 40 ≤ 5) ∧ (0 ≤ M 65 61 ∧ M 65 61 ≤ 6) ∧ (0 ≤ M 65 80 ∧ M 65 80 ≤ 6) ∧ (0 ≤ M 65 111 ∧ M 65 111 ≤ 8) ∧ (∀ f : Int, 0 ≤ f → f < M 65 0 → (0 ≤ M 65 (4 + f) ∧ M 65 (4 + f) ≤ 5) ∧ (1 ≤ M 65 (7 + f) ∧ M 65 (7 + f) ≤ 10)) ∧ (∀ i : Int, 0 ≤ i → i < M 65 1 → (0 ≤ M 65 (10 + i) ∧ M 65 (10 + i) ≤ 5) ∧ (1 ≤ M 65 (16 + i) ∧ M 65 (16 + i) ≤ 4) ∧ (0 ≤ M 65 (22 + i) ∧ M 65 (22 + i) < M 65 0) ∧ (0 ≤ M 65 (28 + i) ∧ M 65 (28 + i) ≤ 11) ∧ (0 ≤ M 65 (34 + i) ∧ M 65 (34 + i) ≤ 9)) from hI)
  refine Hx.run 4 (pc' := 5) (L' := [some (vr 64), some (vi f), some (vi k), some (vi 1), some (vi 0), none]) (st' := []) (M' := M) rfl ?_
  exact rl_soO f k M hI hS hk 10 0 none (by omega) (by omega)
set_option maxRecDepth 100000 in
theorem rl_ofO (f : Int) (M : Mm) (hI : RI M 0) (hS : ∀ n : Int, 0 ≤ n → n < M 65 61 → (0 ≤ M 65 (62 + 3 * n + 1) ∧ M 65 (62 + 3 * n + 1) ≤ 23)) : ∀ (kk : Nat) (n : Nat), n ≤ 6 → 6 - (n : Int) < (kk : Int) → Hx 201 4 [some (vr 64), some (vi f), some (vi (bS (hO M f) n)), some (vi (n : Int))] [] M (fun q0 M' => q0 = some (vi (bS (hO M f) 6)) ∧ M = M') := by
  intro kk
  induction kk with
  | zero => intro n _ hkk; exact absurd hkk (by omega)
  | succ kk ih =>
    intro n hn hkk
    have cc := alI_01 (cO (rN M) f (n : Int)) (M 65 61).toNat
    refine Hx.run 2 (pc' := 6) (L' := [some (vr 64), some (vi f), some (vi (bS (hO M f) n)), some (vi (n : Int))]) (st' := [vi 5, vi (n : Int)]) (M' := M) rfl ?_
    refine Hx.br (c := 5 < (n : Int)) (t := 34) (f := 9) rfl (fun h1 => ?_) (fun h1 => ?_)
    · skip
      refine Hx.run 1 (pc' := 35) (L' := [some (vr 64), some (vi f), some (vi (bS (hO M f) n)), some (vi (n : Int))]) (st' := [vi (bS (hO M f) n)]) (M' := M) rfl ?_
      refine Hx.ret rfl ?_
      exact ⟨by rw [show n = 6 by omega], rfl⟩
    · skip
      refine Hx.run 4 (pc' := 13) (L' := [some (vr 64), some (vi f), some (vi (bS (hO M f) n)), some (vi (n : Int))]) (st' := [vi (n : Int), vi f, vr 64, vi (bS (hO M f) n)]) (M' := M) rfl ?_
      refine Hx.call (t := 200) (as := [vr 64, vi f, vi (n : Int)]) (pc' := 16) (rest := [vi (bS (hO M f) n)]) rfl (r_soO f (n : Int) M hI hS (by omega)) ?_
      rintro _ _ ⟨rfl, rfl⟩
      refine Hx.run 0 (pc' := 16) (L' := [some (vr 64), some (vi f), some (vi (bS (hO M f) n)), some (vi (n : Int))]) (st' := [vi (alI (cO (rN M) f (n : Int)) (M 65 61).toNat), vi (bS (hO M f) n)]) (M' := M) rfl ?_
      refine Hx.br (c := (alI (cO (rN M) f (n : Int)) (M 65 61).toNat) = 0) (t := 25) (f := 19) rfl (fun h2 => ?_) (fun h2 => ?_)
      · skip
        refine Hx.run 3 (pc' := 28) (L' := [some (vr 64), some (vi f), some (vi (i2 fior (bS (hO M f) n) 0)), some (vi (n : Int))]) (st' := []) (M' := M) rfl ?_
        refine Hx.inc rfl rfl (by omega) ?_
        refine Hx.run 0 (pc' := 31) (L' := [some (vr 64), some (vi f), some (vi (i2 fior (bS (hO M f) n) 0)), some (vi ((n : Int) + 1))]) (st' := []) (M' := M) rfl ?_
        refine Hx.run 1 (pc' := 4) (L' := [some (vr 64), some (vi f), some (vi (i2 fior (bS (hO M f) n) 0)), some (vi ((n : Int) + 1))]) (st' := []) (M' := M) rfl ?_
        have e : (i2 fior (bS (hO M f) n) 0) = bS (hO M f) (n + 1) := by rw [or0 ⟨(bS_rng (hO M f) n).1, by have := (bS_rng (hO M f) n).2; have := p6 (n := n) (by omega); omega⟩]; exact bS_no (f := (hO M f)) (by unfold hO; (rcases cc with z | z; omega; exact z.2))
        rw [e]
        exact ih (n + 1) (by omega) (by omega)
      · skip
        refine Hx.run 6 (pc' := 28) (L' := [some (vr 64), some (vi f), some (vi (i2 fior (bS (hO M f) n) (i2 fshl 1 (n : Int)))), some (vi (n : Int))]) (st' := []) (M' := M) rfl ?_
        refine Hx.inc rfl rfl (by omega) ?_
        refine Hx.run 0 (pc' := 31) (L' := [some (vr 64), some (vi f), some (vi (i2 fior (bS (hO M f) n) (i2 fshl 1 (n : Int)))), some (vi ((n : Int) + 1))]) (st' := []) (M' := M) rfl ?_
        refine Hx.run 1 (pc' := 4) (L' := [some (vr 64), some (vi f), some (vi (i2 fior (bS (hO M f) n) (i2 fshl 1 (n : Int)))), some (vi ((n : Int) + 1))]) (st' := []) (M' := M) rfl ?_
        have e : (i2 fior (bS (hO M f) n) (i2 fshl 1 (n : Int))) = bS (hO M f) (n + 1) := bS_one (f := (hO M f)) (by omega) (by unfold hO; (rcases cc with z | z; exact z.2; omega))
        rw [e]
        exact ih (n + 1) (by omega) (by omega)
set_option maxRecDepth 100000 in
theorem r_ofO (f : Int) (M : Mm) (hI : RI M 0) (hS : ∀ n : Int, 0 ≤ n → n < M 65 61 → (0 ≤ M 65 (62 + 3 * n + 1) ∧ M 65 (62 + 3 * n + 1) ≤ 23)) : Ct 201 [vr 64, vi f] M (fun q0 M' => q0 = some (vi (bS (hO M f) 6)) ∧ M = M') := by
  refine Hx.run 4 (pc' := 4) (L' := [some (vr 64), some (vi f), some (vi 0), some (vi 0)]) (st' := []) (M' := M) rfl ?_
  exact rl_ofO f M hI hS 10 0 (by omega) (by omega)
set_option maxRecDepth 100000 in
theorem R_is (f : Int) (M : Mm) (hI : RI M 0) (hs : (0 ≤ M 68 0 ∧ M 68 0 ≤ 600) ∧ (0 ≤ M 68 1 ∧ M 68 1 ≤ 600) ∧ (0 ≤ M 68 2 ∧ M 68 2 ≤ 600)) (hS : ∀ n : Int, 0 ≤ n → n < M 65 61 → (0 ≤ M 65 (62 + 3 * n + 1) ∧ M 65 (62 + 3 * n + 1) ≤ 23)) : Ct 202 [vr 64, vi f] M (fun q0 M' => (¬ (0 ≤ f ∧ f < M 65 0) ∧ q0 = some (vi (-2)) ∧ up M 68 0 (M 68 0 + 1) = M') ∨ ((0 ≤ f ∧ f < M 65 0) ∧ q0 = some (vi (bS (hO M f) 6)) ∧ M = M')) := by
  obtain ⟨r0, r1, r2, r3, r40, r61, r80, r111, rF, rG⟩ := (show (0 ≤ M 65 0 ∧ M 65 0 ≤ 3) ∧ (0 ≤ M 65 1 ∧ M 65 1 ≤ 6) ∧ (0 ≤ M 65 2 ∧ M 65 2 ≤ 9999) ∧ (0 ≤ M 65 3 ∧ M 65 3 ≤ 9000) ∧ (0 ≤ M 65 40 ∧ M 65 40 ≤ 5) ∧ (0 ≤ M 65 61 ∧ M 65 61 ≤ 6) ∧ (0 ≤ M 65 80 ∧ M 65 80 ≤ 6) ∧ (0 ≤ M 65 111 ∧ M 65 111 ≤ 8) ∧ (∀ f : Int, 0 ≤ f → f < M 65 0 → (0 ≤ M 65 (4 + f) ∧ M 65 (4 + f) ≤ 5) ∧ (1 ≤ M 65 (7 + f) ∧ M 65 (7 + f) ≤ 10)) ∧ (∀ i : Int, 0 ≤ i → i < M 65 1 → (0 ≤ M 65 (10 + i) ∧ M 65 (10 + i) ≤ 5) ∧ (1 ≤ M 65 (16 + i) ∧ M 65 (16 + i) ≤ 4) ∧ (0 ≤ M 65 (22 + i) ∧ M 65 (22 + i) < M 65 0) ∧ (0 ≤ M 65 (28 + i) ∧ M 65 (28 + i) ≤ 11) ∧ (0 ≤ M 65 (34 + i) ∧ M 65 (34 + i) ≤ 9)) from hI)
  refine Hx.run 2 (pc' := 2) (L' := [some (vr 64), some (vi f)]) (st' := [vi f, vr 64]) (M' := M) rfl ?_
  refine Hx.call (t := 138) (as := [vr 64, vi f]) (pc' := 5) (rest := []) rfl (r_isFlight f M (by omega)) ?_
  rintro _ _ (⟨q120, rfl, rfl⟩ | ⟨q120, rfl, rfl⟩)
  · skip
    have fq120 := rF f q120.1 q120.2
    refine Hx.run 3 (pc' := 10) (L' := [some (vr 64), some (vi f)]) (st' := [vi f, vr 64]) (M' := M) rfl ?_
    refine Hx.call (t := 201) (as := [vr 64, vi f]) (pc' := 13) (rest := []) rfl (r_ofO f M hI hS) ?_
    rintro _ _ ⟨rfl, rfl⟩
    refine Hx.run 0 (pc' := 13) (L' := [some (vr 64), some (vi f)]) (st' := [vi (bS (hO M f) 6)]) (M' := M) rfl ?_
    refine Hx.run 1 (pc' := 22) (L' := [some (vr 64), some (vi f)]) (st' := [vi (bS (hO M f) 6)]) (M' := M) rfl ?_
    refine Hx.ret rfl ?_
    first | exact Or.inl ⟨by omega, rfl, rfl⟩ | exact Or.inr ⟨by omega, rfl, rfl⟩
  · skip
    refine Hx.run 3 (pc' := 19) (L' := [some (vr 64), some (vi f)]) (st' := [vi (-2), vr 64]) (M' := M) rfl ?_
    refine Hx.call (t := 132) (as := [vr 64, vi (-2)]) (pc' := 22) (rest := []) rfl (r_bad (-2) M (by omega)) ?_
    rintro _ _ ⟨rfl, rfl⟩
    refine Hx.run 0 (pc' := 22) (L' := [some (vr 64), some (vi f)]) (st' := [vi (-2)]) (M' := (up M 68 0 ((M 68 0) + 1))) rfl ?_
    refine Hx.ret rfl ?_
    first | exact Or.inl ⟨by omega, rfl, rfl⟩ | exact Or.inr ⟨by omega, rfl, rfl⟩
set_option maxRecDepth 100000 in
theorem cl_fitsG (f k : Int) (M : Mm) (hI : HI M 1) (hk : 0 ≤ k ∧ k ≤ 5) : ∀ (kk : Nat) (n : Nat) (j5 : Option PV), (n : Int) ≤ M 12 3 → alB (cG (qM M) f k) n = true → M 12 3 - (n : Int) < (kk : Int) → Hx 94 11 [some (vr 0), some (vi f), some (vi k), some (vr 12), some (vi (n : Int)), j5] [] M (fun q0 M' => (alB (cG (qM M) f k) (M 12 3).toNat = true ∧ q0 = some (vi 1) ∧ M = M') ∨ (¬ alB (cG (qM M) f k) (M 12 3).toNat = true ∧ q0 = some (vi 0) ∧ M = M')) := by
  intro kk
  induction kk with
  | zero => intro n j5 _ _ hkk; exact absurd hkk (by omega)
  | succ kk ih =>
    intro n j5 hn hA hkk
    obtain ⟨iF, iG, iK, iH, iFa, aF, aG, lS, lN, lM, rS, rN, rM, aK⟩ := (show (0 ≤ M 1 0 ∧ M 1 0 ≤ 3) ∧ (0 ≤ M 1 1 ∧ M 1 1 ≤ 6) ∧ (0 ≤ M 1 2 ∧ M 1 2 ≤ 8) ∧ (0 ≤ M 6 16 ∧ M 6 16 ≤ 9999) ∧ (0 ≤ M 6 15 ∧ M 6 15 ≤ 9000) ∧ (∀ f : Int, 0 ≤ f → f < M 1 0 → (0 ≤ M 2 f ∧ M 2 f ≤ 5) ∧ (1 ≤ M 6 (12 + f) ∧ M 6 (12 + f) ≤ 10)) ∧ (∀ i : Int, 0 ≤ i → i < M 1 1 → (0 ≤ M 3 i ∧ M 3 i ≤ 5) ∧ (1 ≤ M 4 i ∧ M 4 i ≤ 4) ∧ (0 ≤ M 5 i ∧ M 5 i < M 1 0) ∧ (0 ≤ M 6 i ∧ M 6 i ≤ 11) ∧ (0 ≤ M 6 (6 + i) ∧ M 6 (6 + i) ≤ 9)) ∧ (M 8 0 = 4 ∧ M 8 1 = 5 ∧ 0 ≤ M 8 3 ∧ M 8 3 ≤ 5) ∧ (M 10 0 = 3 ∧ M 10 1 = 6 ∧ 0 ≤ M 10 3 ∧ M 10 3 ≤ 6) ∧ (M 12 0 = 5 ∧ M 12 1 = 6 ∧ 0 ≤ M 12 3 ∧ M 12 3 ≤ 6) ∧ (∀ n : Int, 0 ≤ n → n < M 8 3 → (0 ≤ M 9 (n * 4 + 0) ∧ M 9 (n * 4 + 0) ≤ 2) ∧ (1 ≤ M 9 (n * 4 + 1) ∧ M 9 (n * 4 + 1) ≤ 10) ∧ (0 ≤ M 9 (n * 4 + 2) ∧ M 9 (n * 4 + 2) ≤ 23) ∧ (0 ≤ M 9 (n * 4 + 3) ∧ M 9 (n * 4 + 3) ≤ 1)) ∧ (∀ n : Int, 0 ≤ n → n < M 10 3 → (0 ≤ M 11 (n * 3 + 0) ∧ M 11 (n * 3 + 0) ≤ 2) ∧ (0 ≤ M 11 (n * 3 + 1) ∧ M 11 (n * 3 + 1) ≤ 23) ∧ (0 ≤ M 11 (n * 3 + 2) ∧ M 11 (n * 3 + 2) ≤ 9)) ∧ (∀ n : Int, 0 ≤ n → n < M 12 3 → (0 ≤ M 13 (n * 5 + 0) ∧ M 13 (n * 5 + 0) ≤ 5) ∧ (1 ≤ M 13 (n * 5 + 1) ∧ M 13 (n * 5 + 1) ≤ 4) ∧ (0 ≤ M 13 (n * 5 + 2) ∧ M 13 (n * 5 + 2) ≤ 9) ∧ (0 ≤ M 13 (n * 5 + 3) ∧ M 13 (n * 5 + 3) ≤ 23) ∧ (0 ≤ M 13 (n * 5 + 4) ∧ M 13 (n * 5 + 4) ≤ 9)) ∧ (∀ k : Int, 0 ≤ k → k < M 1 2 → (0 ≤ M 7 (k * 17 + 16) ∧ M 7 (k * 17 + 16) ≤ 9999) ∧ (0 ≤ M 7 (k * 17 + 15) ∧ M 7 (k * 17 + 15) ≤ 9000) ∧ (∀ f : Int, 0 ≤ f → f < M 1 0 → (1 ≤ M 7 (k * 17 + (12 + f)) ∧ M 7 (k * 17 + (12 + f)) ≤ 10)) ∧ (∀ i : Int, 0 ≤ i → i < M 1 1 → (0 ≤ M 7 (k * 17 + i) ∧ M 7 (k * 17 + i) ≤ 11) ∧ (0 ≤ M 7 (k * 17 + (6 + i)) ∧ M 7 (k * 17 + (6 + i)) ≤ 9))) from hI)
    refine Hx.run 3 (pc' := 17) (L' := [some (vr 0), some (vi f), some (vi k), some (vr 12), some (vi (n : Int)), j5]) (st' := [vi (M 12 3), vi (n : Int)]) (M' := M) rfl ?_
    refine Hx.br (c := (n : Int) < (M 12 3)) (t := 20) (f := 81) rfl (fun h1 => ?_) (fun h1 => ?_)
    · skip
      first | (have gS := rM (n : Int) (by omega) (by omega)) | skip
      refine Hx.run 3 (pc' := 24) (L' := [some (vr 0), some (vi f), some (vi k), some (vr 12), some (vi (n : Int)), j5]) (st' := [vi 0, vi (n : Int), vr 12]) (M' := M) rfl ?_
      refine Hx.call (t := 38) (as := [vr 12, vi (n : Int), vi 0]) (pc' := 27) (rest := []) rfl (c_cell_12 (n : Int) 0 M lM (by omega) (by omega)) ?_
      rintro _ _ ⟨rfl, rfl⟩
      refine Hx.run 0 (pc' := 27) (L' := [some (vr 0), some (vi f), some (vi k), some (vr 12), some (vi (n : Int)), j5]) (st' := [vi (M 13 ((n : Int) * 5 + 0))]) (M' := M) rfl ?_
      refine Hx.run 1 (pc' := 28) (L' := [some (vr 0), some (vi f), some (vi k), some (vr 12), some (vi (n : Int)), j5]) (st' := [vi f, vi (M 13 ((n : Int) * 5 + 0))]) (M' := M) rfl ?_
      refine Hx.br (c := (M 13 ((n : Int) * 5 + 0)) = f) (t := 34) (f := 31) rfl (fun h2 => ?_) (fun h2 => ?_)
      · skip
        refine Hx.run 4 (pc' := 39) (L' := [some (vr 0), some (vi f), some (vi k), some (vr 12), some (vi (n : Int)), j5]) (st' := [vi 1, vi (n : Int), vr 12, vi k]) (M' := M) rfl ?_
        refine Hx.call (t := 38) (as := [vr 12, vi (n : Int), vi 1]) (pc' := 42) (rest := [vi k]) rfl (c_cell_12 (n : Int) 1 M lM (by omega) (by omega)) ?_
        rintro _ _ ⟨rfl, rfl⟩
        refine Hx.run 0 (pc' := 42) (L' := [some (vr 0), some (vi f), some (vi k), some (vr 12), some (vi (n : Int)), j5]) (st' := [vi (M 13 ((n : Int) * 5 + 1)), vi k]) (M' := M) rfl ?_
        refine Hx.run 3 (pc' := 46) (L' := [some (vr 0), some (vi f), some (vi k), some (vr 12), some (vi (n : Int)), j5]) (st' := [vi 2, vi (n : Int), vr 12, vi (M 13 ((n : Int) * 5 + 1)), vi k]) (M' := M) rfl ?_
        refine Hx.call (t := 38) (as := [vr 12, vi (n : Int), vi 2]) (pc' := 49) (rest := [vi (M 13 ((n : Int) * 5 + 1)), vi k]) rfl (c_cell_12 (n : Int) 2 M lM (by omega) (by omega)) ?_
        rintro _ _ ⟨rfl, rfl⟩
        refine Hx.run 0 (pc' := 49) (L' := [some (vr 0), some (vi f), some (vi k), some (vr 12), some (vi (n : Int)), j5]) (st' := [vi (M 13 ((n : Int) * 5 + 2)), vi (M 13 ((n : Int) * 5 + 1)), vi k]) (M' := M) rfl ?_
        refine Hx.run 3 (pc' := 53) (L' := [some (vr 0), some (vi f), some (vi k), some (vr 12), some (vi (n : Int)), j5]) (st' := [vi 3, vi (n : Int), vr 12, vi (M 13 ((n : Int) * 5 + 2)), vi (M 13 ((n : Int) * 5 + 1)), vi k]) (M' := M) rfl ?_
        refine Hx.call (t := 38) (as := [vr 12, vi (n : Int), vi 3]) (pc' := 56) (rest := [vi (M 13 ((n : Int) * 5 + 2)), vi (M 13 ((n : Int) * 5 + 1)), vi k]) rfl (c_cell_12 (n : Int) 3 M lM (by omega) (by omega)) ?_
        rintro _ _ ⟨rfl, rfl⟩
        refine Hx.run 0 (pc' := 56) (L' := [some (vr 0), some (vi f), some (vi k), some (vr 12), some (vi (n : Int)), j5]) (st' := [vi (M 13 ((n : Int) * 5 + 3)), vi (M 13 ((n : Int) * 5 + 2)), vi (M 13 ((n : Int) * 5 + 1)), vi k]) (M' := M) rfl ?_
        refine Hx.call (t := 129) (as := [vi k, vi (M 13 ((n : Int) * 5 + 1)), vi (M 13 ((n : Int) * 5 + 2)), vi (M 13 ((n : Int) * 5 + 3))]) (pc' := 59) (rest := []) rfl (c_strideOf k (M 13 ((n : Int) * 5 + 1)) (M 13 ((n : Int) * 5 + 2)) (M 13 ((n : Int) * 5 + 3)) M (by omega) (by omega) (by omega) (by omega)) ?_
        rintro _ _ ⟨rfl, rfl⟩
        refine Hx.run 0 (pc' := 59) (L' := [some (vr 0), some (vi f), some (vi k), some (vr 12), some (vi (n : Int)), j5]) (st' := [vi (sfF k (M 13 ((n : Int) * 5 + 1)) (M 13 ((n : Int) * 5 + 2)) (M 13 ((n : Int) * 5 + 3)))]) (M' := M) rfl ?_
        refine Hx.run 5 (pc' := 67) (L' := [some (vr 0), some (vi f), some (vi k), some (vr 12), some (vi (n : Int)), some (vi (sfF k (M 13 ((n : Int) * 5 + 1)) (M 13 ((n : Int) * 5 + 2)) (M 13 ((n : Int) * 5 + 3))))]) (st' := [vi 4, vi (n : Int), vr 12, vi (sfF k (M 13 ((n : Int) * 5 + 1)) (M 13 ((n : Int) * 5 + 2)) (M 13 ((n : Int) * 5 + 3)))]) (M' := M) rfl ?_
        refine Hx.call (t := 38) (as := [vr 12, vi (n : Int), vi 4]) (pc' := 70) (rest := [vi (sfF k (M 13 ((n : Int) * 5 + 1)) (M 13 ((n : Int) * 5 + 2)) (M 13 ((n : Int) * 5 + 3)))]) rfl (c_cell_12 (n : Int) 4 M lM (by omega) (by omega)) ?_
        rintro _ _ ⟨rfl, rfl⟩
        refine Hx.run 0 (pc' := 70) (L' := [some (vr 0), some (vi f), some (vi k), some (vr 12), some (vi (n : Int)), some (vi (sfF k (M 13 ((n : Int) * 5 + 1)) (M 13 ((n : Int) * 5 + 2)) (M 13 ((n : Int) * 5 + 3))))]) (st' := [vi (M 13 ((n : Int) * 5 + 4)), vi (sfF k (M 13 ((n : Int) * 5 + 1)) (M 13 ((n : Int) * 5 + 2)) (M 13 ((n : Int) * 5 + 3)))]) (M' := M) rfl ?_
        refine Hx.br (c := (sfF k (M 13 ((n : Int) * 5 + 1)) (M 13 ((n : Int) * 5 + 2)) (M 13 ((n : Int) * 5 + 3))) = (M 13 ((n : Int) * 5 + 4))) (t := 75) (f := 73) rfl (fun h3 => ?_) (fun h3 => ?_)
        · skip
          refine Hx.inc rfl rfl (by omega) ?_
          refine Hx.run 0 (pc' := 78) (L' := [some (vr 0), some (vi f), some (vi k), some (vr 12), some (vi ((n : Int) + 1)), some (vi (sfF k (M 13 ((n : Int) * 5 + 1)) (M 13 ((n : Int) * 5 + 2)) (M 13 ((n : Int) * 5 + 3))))]) (st' := []) (M' := M) rfl ?_
          refine Hx.run 1 (pc' := 11) (L' := [some (vr 0), some (vi f), some (vi k), some (vr 12), some (vi ((n : Int) + 1)), some (vi (sfF k (M 13 ((n : Int) * 5 + 1)) (M 13 ((n : Int) * 5 + 2)) (M 13 ((n : Int) * 5 + 3))))]) (st' := []) (M' := M) rfl ?_
          exact ih (n + 1) (some (vi (sfF k (M 13 ((n : Int) * 5 + 1)) (M 13 ((n : Int) * 5 + 2)) (M 13 ((n : Int) * 5 + 3))))) (by omega) (alB_step hA (by first | exact cG_skip (by assumption) | exact cG_eq (by assumption))) (by omega)
        · skip
          refine Hx.run 1 (pc' := 74) (L' := [some (vr 0), some (vi f), some (vi k), some (vr 12), some (vi (n : Int)), some (vi (sfF k (M 13 ((n : Int) * 5 + 1)) (M 13 ((n : Int) * 5 + 2)) (M 13 ((n : Int) * 5 + 3))))]) (st' := [vi 0]) (M' := M) rfl ?_
          refine Hx.ret rfl ?_
          exact Or.inr ⟨alB_miss (n := n) (cG_no (by assumption) (by assumption)) _ (by omega), rfl, rfl⟩
      · skip
        refine Hx.run 1 (pc' := 75) (L' := [some (vr 0), some (vi f), some (vi k), some (vr 12), some (vi (n : Int)), j5]) (st' := []) (M' := M) rfl ?_
        refine Hx.inc rfl rfl (by omega) ?_
        refine Hx.run 0 (pc' := 78) (L' := [some (vr 0), some (vi f), some (vi k), some (vr 12), some (vi ((n : Int) + 1)), j5]) (st' := []) (M' := M) rfl ?_
        refine Hx.run 1 (pc' := 11) (L' := [some (vr 0), some (vi f), some (vi k), some (vr 12), some (vi ((n : Int) + 1)), j5]) (st' := []) (M' := M) rfl ?_
        exact ih (n + 1) j5 (by omega) (alB_step hA (by first | exact cG_skip (by assumption) | exact cG_eq (by assumption))) (by omega)
    · skip
      first | (have gS := rM (n : Int) (by omega) (by omega)) | skip
      refine Hx.run 1 (pc' := 82) (L' := [some (vr 0), some (vi f), some (vi k), some (vr 12), some (vi (n : Int)), j5]) (st' := [vi 1]) (M' := M) rfl ?_
      refine Hx.ret rfl ?_
      exact Or.inl ⟨by rw [show (M 12 3).toNat = n by omega]; exact hA, rfl, rfl⟩
set_option maxRecDepth 100000 in
theorem c_fitsG (f k : Int) (M : Mm) (hI : HI M 1) (hk : 0 ≤ k ∧ k ≤ 5) : Ct 94 [vr 0, vi f, vi k] M (fun q0 M' => (alB (cG (qM M) f k) (M 12 3).toNat = true ∧ q0 = some (vi 1) ∧ M = M') ∨ (¬ alB (cG (qM M) f k) (M 12 3).toNat = true ∧ q0 = some (vi 0) ∧ M = M')) := by
  obtain ⟨iF, iG, iK, iH, iFa, aF, aG, lS, lN, lM, rS, rN, rM, aK⟩ := (show (0 ≤ M 1 0 ∧ M 1 0 ≤ 3) ∧ (0 ≤ M 1 1 ∧ M 1 1 ≤ 6) ∧ (0 ≤ M 1 2 ∧ M 1 2 ≤ 8) ∧ (0 ≤ M 6 16 ∧ M 6 16 ≤ 9999) ∧ (0 ≤ M 6 15 ∧ M 6 15 ≤ 9000) ∧ (∀ f : Int, 0 ≤ f → f < M 1 0 → (0 ≤ M 2 f ∧ M 2 f ≤ 5) ∧ (1 ≤ M 6 (12 + f) ∧ M 6 (12 + f) ≤ 10)) ∧ (∀ i : Int, 0 ≤ i → i < M 1 1 → (0 ≤ M 3 i ∧ M 3 i ≤ 5) ∧ (1 ≤ M 4 i ∧ M 4 i ≤ 4) ∧ (0 ≤ M 5 i ∧ M 5 i < M 1 0) ∧ (0 ≤ M 6 i ∧ M 6 i ≤ 11) ∧ (0 ≤ M 6 (6 + i) ∧ M 6 (6 + i) ≤ 9)) ∧ (M 8 0 = 4 ∧ M 8 1 = 5 ∧ 0 ≤ M 8 3 ∧ M 8 3 ≤ 5) ∧ (M 10 0 = 3 ∧ M 10 1 = 6 ∧ 0 ≤ M 10 3 ∧ M 10 3 ≤ 6) ∧ (M 12 0 = 5 ∧ M 12 1 = 6 ∧ 0 ≤ M 12 3 ∧ M 12 3 ≤ 6) ∧ (∀ n : Int, 0 ≤ n → n < M 8 3 → (0 ≤ M 9 (n * 4 + 0) ∧ M 9 (n * 4 + 0) ≤ 2) ∧ (1 ≤ M 9 (n * 4 + 1) ∧ M 9 (n * 4 + 1) ≤ 10) ∧ (0 ≤ M 9 (n * 4 + 2) ∧ M 9 (n * 4 + 2) ≤ 23) ∧ (0 ≤ M 9 (n * 4 + 3) ∧ M 9 (n * 4 + 3) ≤ 1)) ∧ (∀ n : Int, 0 ≤ n → n < M 10 3 → (0 ≤ M 11 (n * 3 + 0) ∧ M 11 (n * 3 + 0) ≤ 2) ∧ (0 ≤ M 11 (n * 3 + 1) ∧ M 11 (n * 3 + 1) ≤ 23) ∧ (0 ≤ M 11 (n * 3 + 2) ∧ M 11 (n * 3 + 2) ≤ 9)) ∧ (∀ n : Int, 0 ≤ n → n < M 12 3 → (0 ≤ M 13 (n * 5 + 0) ∧ M 13 (n * 5 + 0) ≤ 5) ∧ (1 ≤ M 13 (n * 5 + 1) ∧ M 13 (n * 5 + 1) ≤ 4) ∧ (0 ≤ M 13 (n * 5 + 2) ∧ M 13 (n * 5 + 2) ≤ 9) ∧ (0 ≤ M 13 (n * 5 + 3) ∧ M 13 (n * 5 + 3) ≤ 23) ∧ (0 ≤ M 13 (n * 5 + 4) ∧ M 13 (n * 5 + 4) ≤ 9)) ∧ (∀ k : Int, 0 ≤ k → k < M 1 2 → (0 ≤ M 7 (k * 17 + 16) ∧ M 7 (k * 17 + 16) ≤ 9999) ∧ (0 ≤ M 7 (k * 17 + 15) ∧ M 7 (k * 17 + 15) ≤ 9000) ∧ (∀ f : Int, 0 ≤ f → f < M 1 0 → (1 ≤ M 7 (k * 17 + (12 + f)) ∧ M 7 (k * 17 + (12 + f)) ≤ 10)) ∧ (∀ i : Int, 0 ≤ i → i < M 1 1 → (0 ≤ M 7 (k * 17 + i) ∧ M 7 (k * 17 + i) ≤ 11) ∧ (0 ≤ M 7 (k * 17 + (6 + i)) ∧ M 7 (k * 17 + (6 + i)) ≤ 9))) from hI)
  refine Hx.run 6 (pc' := 11) (L' := [some (vr 0), some (vi f), some (vi k), some (vr 12), some (vi 0), none]) (st' := []) (M' := M) rfl ?_
  exact cl_fitsG f k M hI hk 10 0 none (by omega) rfl (by omega)
set_option maxRecDepth 100000 in
theorem cl_kindsG (f : Int) (M : Mm) (hI : HI M 1) : ∀ (kk : Nat) (n : Nat), n ≤ 6 → 6 - (n : Int) < (kk : Int) → Hx 93 4 [some (vr 0), some (vi f), some (vi (bS (gG M f) n)), some (vi (n : Int))] [] M (fun q0 M' => q0 = some (vi (bS (gG M f) 6)) ∧ M = M') := by
  intro kk
  induction kk with
  | zero => intro n _ hkk; exact absurd hkk (by omega)
  | succ kk ih =>
    intro n hn hkk
    refine Hx.run 2 (pc' := 7) (L' := [some (vr 0), some (vi f), some (vi (bS (gG M f) n)), some (vi (n : Int))]) (st' := [vi 6, vi (n : Int)]) (M' := M) rfl ?_
    refine Hx.br (c := (n : Int) < 6) (t := 10) (f := 31) rfl (fun h1 => ?_) (fun h1 => ?_)
    · skip
      refine Hx.run 3 (pc' := 13) (L' := [some (vr 0), some (vi f), some (vi (bS (gG M f) n)), some (vi (n : Int))]) (st' := [vi (n : Int), vi f, vr 0]) (M' := M) rfl ?_
      refine Hx.call (t := 94) (as := [vr 0, vi f, vi (n : Int)]) (pc' := 16) (rest := []) rfl (c_fitsG f (n : Int) M hI (by omega)) ?_
      rintro _ _ (⟨q121, rfl, rfl⟩ | ⟨q121, rfl, rfl⟩)
      · skip
        refine Hx.run 7 (pc' := 25) (L' := [some (vr 0), some (vi f), some (vi (i2 fior (bS (gG M f) n) (i2 fshl 1 (n : Int)))), some (vi (n : Int))]) (st' := []) (M' := M) rfl ?_
        refine Hx.inc rfl rfl (by omega) ?_
        refine Hx.run 0 (pc' := 28) (L' := [some (vr 0), some (vi f), some (vi (i2 fior (bS (gG M f) n) (i2 fshl 1 (n : Int)))), some (vi ((n : Int) + 1))]) (st' := []) (M' := M) rfl ?_
        refine Hx.run 1 (pc' := 4) (L' := [some (vr 0), some (vi f), some (vi (i2 fior (bS (gG M f) n) (i2 fshl 1 (n : Int)))), some (vi ((n : Int) + 1))]) (st' := []) (M' := M) rfl ?_
        have e : (i2 fior (bS (gG M f) n) (i2 fshl 1 (n : Int))) = bS (gG M f) (n + 1) := bS_one (f := (gG M f)) (by omega) (by unfold gG; assumption)
        rw [e]
        exact ih (n + 1) (by omega) (by omega)
      · skip
        refine Hx.run 1 (pc' := 25) (L' := [some (vr 0), some (vi f), some (vi (bS (gG M f) n)), some (vi (n : Int))]) (st' := []) (M' := M) rfl ?_
        refine Hx.inc rfl rfl (by omega) ?_
        refine Hx.run 0 (pc' := 28) (L' := [some (vr 0), some (vi f), some (vi (bS (gG M f) n)), some (vi ((n : Int) + 1))]) (st' := []) (M' := M) rfl ?_
        refine Hx.run 1 (pc' := 4) (L' := [some (vr 0), some (vi f), some (vi (bS (gG M f) n)), some (vi ((n : Int) + 1))]) (st' := []) (M' := M) rfl ?_
        have e : (bS (gG M f) n) = bS (gG M f) (n + 1) := bS_no (f := (gG M f)) (by unfold gG; assumption)
        rw [e]
        exact ih (n + 1) (by omega) (by omega)
    · skip
      refine Hx.run 1 (pc' := 32) (L' := [some (vr 0), some (vi f), some (vi (bS (gG M f) n)), some (vi (n : Int))]) (st' := [vi (bS (gG M f) n)]) (M' := M) rfl ?_
      refine Hx.ret rfl ?_
      exact ⟨by rw [show n = 6 by omega], rfl⟩
set_option maxRecDepth 100000 in
theorem c_kindsG (f : Int) (M : Mm) (hI : HI M 1) : Ct 93 [vr 0, vi f] M (fun q0 M' => q0 = some (vi (bS (gG M f) 6)) ∧ M = M') := by
  refine Hx.run 4 (pc' := 4) (L' := [some (vr 0), some (vi f), some (vi 0), some (vi 0)]) (st' := []) (M' := M) rfl ?_
  exact cl_kindsG f M hI 10 0 (by omega) (by omega)
set_option maxRecDepth 100000 in
theorem C_kinds (f : Int) (M : Mm) (hI : HI M 1) (hs : (0 ≤ M 0 14 ∧ M 0 14 ≤ 600) ∧ (0 ≤ M 0 15 ∧ M 0 15 ≤ 600) ∧ (0 ≤ M 0 16 ∧ M 0 16 ≤ 600)) : Ct 91 [vr 0, vi f] M (fun q0 M' => (¬ (0 ≤ f ∧ f < M 1 1) ∧ q0 = some (vi (-2)) ∧ up M 0 14 (M 0 14 + 1) = M') ∨ ((0 ≤ f ∧ f < M 1 1) ∧ q0 = some (vi (bS (gG M f) 6)) ∧ M = M')) := by
  obtain ⟨iF, iG, iK, iH, iFa, aF, aG, lS, lN, lM, rS, rN, rM, aK⟩ := (show (0 ≤ M 1 0 ∧ M 1 0 ≤ 3) ∧ (0 ≤ M 1 1 ∧ M 1 1 ≤ 6) ∧ (0 ≤ M 1 2 ∧ M 1 2 ≤ 8) ∧ (0 ≤ M 6 16 ∧ M 6 16 ≤ 9999) ∧ (0 ≤ M 6 15 ∧ M 6 15 ≤ 9000) ∧ (∀ f : Int, 0 ≤ f → f < M 1 0 → (0 ≤ M 2 f ∧ M 2 f ≤ 5) ∧ (1 ≤ M 6 (12 + f) ∧ M 6 (12 + f) ≤ 10)) ∧ (∀ i : Int, 0 ≤ i → i < M 1 1 → (0 ≤ M 3 i ∧ M 3 i ≤ 5) ∧ (1 ≤ M 4 i ∧ M 4 i ≤ 4) ∧ (0 ≤ M 5 i ∧ M 5 i < M 1 0) ∧ (0 ≤ M 6 i ∧ M 6 i ≤ 11) ∧ (0 ≤ M 6 (6 + i) ∧ M 6 (6 + i) ≤ 9)) ∧ (M 8 0 = 4 ∧ M 8 1 = 5 ∧ 0 ≤ M 8 3 ∧ M 8 3 ≤ 5) ∧ (M 10 0 = 3 ∧ M 10 1 = 6 ∧ 0 ≤ M 10 3 ∧ M 10 3 ≤ 6) ∧ (M 12 0 = 5 ∧ M 12 1 = 6 ∧ 0 ≤ M 12 3 ∧ M 12 3 ≤ 6) ∧ (∀ n : Int, 0 ≤ n → n < M 8 3 → (0 ≤ M 9 (n * 4 + 0) ∧ M 9 (n * 4 + 0) ≤ 2) ∧ (1 ≤ M 9 (n * 4 + 1) ∧ M 9 (n * 4 + 1) ≤ 10) ∧ (0 ≤ M 9 (n * 4 + 2) ∧ M 9 (n * 4 + 2) ≤ 23) ∧ (0 ≤ M 9 (n * 4 + 3) ∧ M 9 (n * 4 + 3) ≤ 1)) ∧ (∀ n : Int, 0 ≤ n → n < M 10 3 → (0 ≤ M 11 (n * 3 + 0) ∧ M 11 (n * 3 + 0) ≤ 2) ∧ (0 ≤ M 11 (n * 3 + 1) ∧ M 11 (n * 3 + 1) ≤ 23) ∧ (0 ≤ M 11 (n * 3 + 2) ∧ M 11 (n * 3 + 2) ≤ 9)) ∧ (∀ n : Int, 0 ≤ n → n < M 12 3 → (0 ≤ M 13 (n * 5 + 0) ∧ M 13 (n * 5 + 0) ≤ 5) ∧ (1 ≤ M 13 (n * 5 + 1) ∧ M 13 (n * 5 + 1) ≤ 4) ∧ (0 ≤ M 13 (n * 5 + 2) ∧ M 13 (n * 5 + 2) ≤ 9) ∧ (0 ≤ M 13 (n * 5 + 3) ∧ M 13 (n * 5 + 3) ≤ 23) ∧ (0 ≤ M 13 (n * 5 + 4) ∧ M 13 (n * 5 + 4) ≤ 9)) ∧ (∀ k : Int, 0 ≤ k → k < M 1 2 → (0 ≤ M 7 (k * 17 + 16) ∧ M 7 (k * 17 + 16) ≤ 9999) ∧ (0 ≤ M 7 (k * 17 + 15) ∧ M 7 (k * 17 + 15) ≤ 9000) ∧ (∀ f : Int, 0 ≤ f → f < M 1 0 → (1 ≤ M 7 (k * 17 + (12 + f)) ∧ M 7 (k * 17 + (12 + f)) ≤ 10)) ∧ (∀ i : Int, 0 ≤ i → i < M 1 1 → (0 ≤ M 7 (k * 17 + i) ∧ M 7 (k * 17 + i) ≤ 11) ∧ (0 ≤ M 7 (k * 17 + (6 + i)) ∧ M 7 (k * 17 + (6 + i)) ≤ 9))) from hI)
  refine Hx.run 3 (pc' := 5) (L' := [some (vr 0), some (vi f)]) (st' := [vi f, vr 1]) (M' := M) rfl ?_
  refine Hx.call (t := 8) (as := [vr 1, vi f]) (pc' := 8) (rest := []) rfl (c_hasGoer_1 f M) ?_
  rintro _ _ (⟨q122, rfl, rfl⟩ | ⟨q122, rfl, rfl⟩)
  · skip
    have gq122 := aG f q122.1 q122.2
    have fq122 := aF (M 5 f) (by omega) (by omega)
    have sR := sfF_rng (k := M 3 f) (l := M 4 f) (x := M 6 (6 + f)) (t := M 6 16 % 24) (by omega) (by omega)
    have bR := bb_rng (M 6 (12 + (M 5 f))) (bcF (M 2 (M 5 f)) (M 6 16 % 24))
    refine Hx.run 3 (pc' := 18) (L' := [some (vr 0), some (vi f)]) (st' := [vi f, vr 0]) (M' := M) rfl ?_
    refine Hx.call (t := 93) (as := [vr 0, vi f]) (pc' := 21) (rest := []) rfl (c_kindsG f M hI) ?_
    rintro _ _ ⟨rfl, rfl⟩
    refine Hx.run 0 (pc' := 21) (L' := [some (vr 0), some (vi f)]) (st' := [vi (bS (gG M f) 6)]) (M' := M) rfl ?_
    refine Hx.ret rfl ?_
    first | exact Or.inl ⟨by omega, rfl, rfl⟩ | exact Or.inr ⟨by omega, rfl, rfl⟩
  · skip
    refine Hx.run 2 (pc' := 12) (L' := [some (vr 0), some (vi f)]) (st' := [vr 0]) (M' := M) rfl ?_
    refine Hx.call (t := 114) (as := [vr 0]) (pc' := 15) (rest := []) rfl (c_bad M (by omega)) ?_
    rintro _ _ ⟨rfl, rfl⟩
    refine Hx.run 0 (pc' := 15) (L' := [some (vr 0), some (vi f)]) (st' := [vi (-2)]) (M' := (up M 0 14 ((M 0 14) + 1))) rfl ?_
    refine Hx.ret rfl ?_
    first | exact Or.inl ⟨by omega, rfl, rfl⟩ | exact Or.inr ⟨by omega, rfl, rfl⟩
set_option maxRecDepth 100000 in
theorem rl_soG (f k : Int) (M : Mm) (hI : RI M 0) (hS : ∀ n : Int, 0 ≤ n → n < M 65 80 → (1 ≤ M 65 (81 + 5 * n + 1) ∧ M 65 (81 + 5 * n + 1) ≤ 4) ∧ (0 ≤ M 65 (81 + 5 * n + 2) ∧ M 65 (81 + 5 * n + 2) ≤ 9) ∧ (0 ≤ M 65 (81 + 5 * n + 3) ∧ M 65 (81 + 5 * n + 3) ≤ 23)) (hk : 0 ≤ k ∧ k ≤ 5) : ∀ (kk : Nat) (n : Nat) (j5 : Option PV), (n : Int) ≤ M 65 80 → M 65 80 - (n : Int) < (kk : Int) → Hx 204 5 [some (vr 64), some (vi f), some (vi k), some (vi (alI (cG (rM M) f k) n)), some (vi (n : Int)), j5] [] M (fun q0 M' => q0 = some (vi (alI (cG (rM M) f k) (M 65 80).toNat)) ∧ M = M') := by
  intro kk
  induction kk with
  | zero => intro n j5 _ hkk; exact absurd hkk (by omega)
  | succ kk ih =>
    intro n j5 hn hkk
    obtain ⟨r0, r1, r2, r3, r40, r61, r80, r111, rF, rG⟩ := (show (0 ≤ M 65 0 ∧ M 65 0 ≤ 3) ∧ (0 ≤ M 65 1 ∧ M 65 1 ≤ 6) ∧ (0 ≤ M 65 2 ∧ M 65 2 ≤ 9999) ∧ (0 ≤ M 65 3 ∧ M 65 3 ≤ 9000) ∧ (0 ≤ M 65 40 ∧ M 65 40 ≤ 5) ∧ (0 ≤ M 65 61 ∧ M 65 61 ≤ 6) ∧ (0 ≤ M 65 80 ∧ M 65 80 ≤ 6) ∧ (0 ≤ M 65 111 ∧ M 65 111 ≤ 8) ∧ (∀ f : Int, 0 ≤ f → f < M 65 0 → (0 ≤ M 65 (4 + f) ∧ M 65 (4 + f) ≤ 5) ∧ (1 ≤ M 65 (7 + f) ∧ M 65 (7 + f) ≤ 10)) ∧ (∀ i : Int, 0 ≤ i → i < M 65 1 → (0 ≤ M 65 (10 + i) ∧ M 65 (10 + i) ≤ 5) ∧ (1 ≤ M 65 (16 + i) ∧ M 65 (16 + i) ≤ 4) ∧ (0 ≤ M 65 (22 + i) ∧ M 65 (22 + i) < M 65 0) ∧ (0 ≤ M 65 (28 + i) ∧ M 65 (28 + i) ≤ 11) ∧ (0 ≤ M 65 (34 + i) ∧ M 65 (34 + i) ≤ 9)) from hI)
    have c01 := alI_01 (cG (rM M) f k) n
    refine Hx.run 5 (pc' := 14) (L' := [some (vr 64), some (vi f), some (vi k), some (vi (alI (cG (rM M) f k) n)), some (vi (n : Int)), j5]) (st' := [vi (M 65 80), vi (n : Int)]) (M' := M) rfl ?_
    refine Hx.br (c := (n : Int) < (M 65 80)) (t := 17) (f := 96) rfl (fun h1 => ?_) (fun h1 => ?_)
    · skip
      first | (have gS := hS (n : Int) (by omega) (by omega)) | skip
      refine Hx.run 3 (pc' := 22) (L' := [some (vr 64), some (vi f), some (vi k), some (vi (alI (cG (rM M) f k) n)), some (vi (n : Int)), j5]) (st' := [vi (n : Int), vi 5, vi 81]) (M' := M) rfl ?_
      refine Hx.mul rfl (by omega) ?_
      refine Hx.add rfl (by omega) ?_
      refine Hx.run 2 (pc' := 27) (L' := [some (vr 64), some (vi f), some (vi k), some (vi (alI (cG (rM M) f k) n)), some (vi (n : Int)), some (vi (81 + (5 * (n : Int))))]) (st' := [vi (alI (cG (rM M) f k) n)]) (M' := M) rfl ?_
      refine Hx.br (c := (alI (cG (rM M) f k) n) = 0) (t := 88) (f := 30) rfl (fun h2 => ?_) (fun h2 => ?_)
      · skip
        refine Hx.run 2 (pc' := 90) (L' := [some (vr 64), some (vi f), some (vi k), some (vi 0), some (vi (n : Int)), some (vi (81 + (5 * (n : Int))))]) (st' := []) (M' := M) rfl ?_
        refine Hx.inc rfl rfl (by omega) ?_
        refine Hx.run 0 (pc' := 93) (L' := [some (vr 64), some (vi f), some (vi k), some (vi 0), some (vi ((n : Int) + 1)), some (vi (81 + (5 * (n : Int))))]) (st' := []) (M' := M) rfl ?_
        refine Hx.run 1 (pc' := 5) (L' := [some (vr 64), some (vi f), some (vi k), some (vi 0), some (vi ((n : Int) + 1)), some (vi (81 + (5 * (n : Int))))]) (st' := []) (M' := M) rfl ?_
        have e : alI (cG (rM M) f k) (n + 1) = 0 := by
          first
            | exact alI_off (by omega)
            | (rw [alI_keep (cG_skip (by rw [rM_0]; assumption))]; omega)
            | (rw [alI_keep (cG_eq (by unfold rM; assumption))]; omega)
            | exact alI_no (cG_no (by rw [rM_0]; assumption) (by unfold rM; assumption))
        have h9 := ih (n + 1) (some (vi (81 + (5 * (n : Int))))) (by omega) (by omega)
        rw [e] at h9
        exact h9
      · skip
        refine Hx.run 3 (pc' := 36) (L' := [some (vr 64), some (vi f), some (vi k), some (vi (alI (cG (rM M) f k) n)), some (vi (n : Int)), some (vi (81 + (5 * (n : Int))))]) (st' := [vi (81 + (5 * (n : Int))), vr 65]) (M' := M) rfl ?_
        refine Hx.aldI (n := 1032) rfl rfl (by omega) ?_
        refine Hx.run 1 (pc' := 38) (L' := [some (vr 64), some (vi f), some (vi k), some (vi (alI (cG (rM M) f k) n)), some (vi (n : Int)), some (vi (81 + (5 * (n : Int))))]) (st' := [vi f, vi (M 65 (81 + (5 * (n : Int))))]) (M' := M) rfl ?_
        refine Hx.br (c := (M 65 (81 + (5 * (n : Int)))) = f) (t := 41) (f := 84) rfl (fun h3 => ?_) (fun h3 => ?_)
        · skip
          refine Hx.run 5 (pc' := 49) (L' := [some (vr 64), some (vi f), some (vi k), some (vi (alI (cG (rM M) f k) n)), some (vi (n : Int)), some (vi (81 + (5 * (n : Int))))]) (st' := [vi 1, vi (81 + (5 * (n : Int))), vr 65, vi k]) (M' := M) rfl ?_
          refine Hx.add rfl (by omega) ?_
          refine Hx.aldI (n := 1032) rfl rfl (by omega) ?_
          refine Hx.run 4 (pc' := 58) (L' := [some (vr 64), some (vi f), some (vi k), some (vi (alI (cG (rM M) f k) n)), some (vi (n : Int)), some (vi (81 + (5 * (n : Int))))]) (st' := [vi 2, vi (81 + (5 * (n : Int))), vr 65, vi (M 65 ((81 + (5 * (n : Int))) + 1)), vi k]) (M' := M) rfl ?_
          refine Hx.add rfl (by omega) ?_
          refine Hx.aldI (n := 1032) rfl rfl (by omega) ?_
          refine Hx.run 4 (pc' := 67) (L' := [some (vr 64), some (vi f), some (vi k), some (vi (alI (cG (rM M) f k) n)), some (vi (n : Int)), some (vi (81 + (5 * (n : Int))))]) (st' := [vi 3, vi (81 + (5 * (n : Int))), vr 65, vi (M 65 ((81 + (5 * (n : Int))) + 2)), vi (M 65 ((81 + (5 * (n : Int))) + 1)), vi k]) (M' := M) rfl ?_
          refine Hx.add rfl (by omega) ?_
          refine Hx.aldI (n := 1032) rfl rfl (by omega) ?_
          refine Hx.call (t := 144) (as := [vi k, vi (M 65 ((81 + (5 * (n : Int))) + 1)), vi (M 65 ((81 + (5 * (n : Int))) + 2)), vi (M 65 ((81 + (5 * (n : Int))) + 3))]) (pc' := 72) (rest := []) rfl (r_stridesOf k (M 65 ((81 + (5 * (n : Int))) + 1)) (M 65 ((81 + (5 * (n : Int))) + 2)) (M 65 ((81 + (5 * (n : Int))) + 3)) M (by omega) (by omega) (by omega) (by omega)) ?_
          rintro _ _ ⟨rfl, rfl⟩
          refine Hx.run 0 (pc' := 72) (L' := [some (vr 64), some (vi f), some (vi k), some (vi (alI (cG (rM M) f k) n)), some (vi (n : Int)), some (vi (81 + (5 * (n : Int))))]) (st' := [vi (sfF k (M 65 ((81 + (5 * (n : Int))) + 1)) (M 65 ((81 + (5 * (n : Int))) + 2)) (M 65 ((81 + (5 * (n : Int))) + 3)))]) (M' := M) rfl ?_
          refine Hx.run 4 (pc' := 79) (L' := [some (vr 64), some (vi f), some (vi k), some (vi (alI (cG (rM M) f k) n)), some (vi (n : Int)), some (vi (81 + (5 * (n : Int))))]) (st' := [vi 4, vi (81 + (5 * (n : Int))), vr 65, vi (sfF k (M 65 ((81 + (5 * (n : Int))) + 1)) (M 65 ((81 + (5 * (n : Int))) + 2)) (M 65 ((81 + (5 * (n : Int))) + 3)))]) (M' := M) rfl ?_
          refine Hx.add rfl (by omega) ?_
          refine Hx.aldI (n := 1032) rfl rfl (by omega) ?_
          refine Hx.br (c := (sfF k (M 65 ((81 + (5 * (n : Int))) + 1)) (M 65 ((81 + (5 * (n : Int))) + 2)) (M 65 ((81 + (5 * (n : Int))) + 3))) = (M 65 ((81 + (5 * (n : Int))) + 4))) (t := 84) (f := 88) rfl (fun h4 => ?_) (fun h4 => ?_)
          · skip
            refine Hx.run 3 (pc' := 90) (L' := [some (vr 64), some (vi f), some (vi k), some (vi 1), some (vi (n : Int)), some (vi (81 + (5 * (n : Int))))]) (st' := []) (M' := M) rfl ?_
            refine Hx.inc rfl rfl (by omega) ?_
            refine Hx.run 0 (pc' := 93) (L' := [some (vr 64), some (vi f), some (vi k), some (vi 1), some (vi ((n : Int) + 1)), some (vi (81 + (5 * (n : Int))))]) (st' := []) (M' := M) rfl ?_
            refine Hx.run 1 (pc' := 5) (L' := [some (vr 64), some (vi f), some (vi k), some (vi 1), some (vi ((n : Int) + 1)), some (vi (81 + (5 * (n : Int))))]) (st' := []) (M' := M) rfl ?_
            have e : alI (cG (rM M) f k) (n + 1) = 1 := by
              first
                | exact alI_off (by omega)
                | (rw [alI_keep (cG_skip (by rw [rM_0]; assumption))]; omega)
                | (rw [alI_keep (cG_eq (by unfold rM; assumption))]; omega)
                | exact alI_no (cG_no (by rw [rM_0]; assumption) (by unfold rM; assumption))
            have h9 := ih (n + 1) (some (vi (81 + (5 * (n : Int))))) (by omega) (by omega)
            rw [e] at h9
            exact h9
          · skip
            refine Hx.run 2 (pc' := 90) (L' := [some (vr 64), some (vi f), some (vi k), some (vi 0), some (vi (n : Int)), some (vi (81 + (5 * (n : Int))))]) (st' := []) (M' := M) rfl ?_
            refine Hx.inc rfl rfl (by omega) ?_
            refine Hx.run 0 (pc' := 93) (L' := [some (vr 64), some (vi f), some (vi k), some (vi 0), some (vi ((n : Int) + 1)), some (vi (81 + (5 * (n : Int))))]) (st' := []) (M' := M) rfl ?_
            refine Hx.run 1 (pc' := 5) (L' := [some (vr 64), some (vi f), some (vi k), some (vi 0), some (vi ((n : Int) + 1)), some (vi (81 + (5 * (n : Int))))]) (st' := []) (M' := M) rfl ?_
            have e : alI (cG (rM M) f k) (n + 1) = 0 := by
              first
                | exact alI_off (by omega)
                | (rw [alI_keep (cG_skip (by rw [rM_0]; assumption))]; omega)
                | (rw [alI_keep (cG_eq (by unfold rM; assumption))]; omega)
                | exact alI_no (cG_no (by rw [rM_0]; assumption) (by unfold rM; assumption))
            have h9 := ih (n + 1) (some (vi (81 + (5 * (n : Int))))) (by omega) (by omega)
            rw [e] at h9
            exact h9
        · skip
          refine Hx.run 3 (pc' := 90) (L' := [some (vr 64), some (vi f), some (vi k), some (vi 1), some (vi (n : Int)), some (vi (81 + (5 * (n : Int))))]) (st' := []) (M' := M) rfl ?_
          refine Hx.inc rfl rfl (by omega) ?_
          refine Hx.run 0 (pc' := 93) (L' := [some (vr 64), some (vi f), some (vi k), some (vi 1), some (vi ((n : Int) + 1)), some (vi (81 + (5 * (n : Int))))]) (st' := []) (M' := M) rfl ?_
          refine Hx.run 1 (pc' := 5) (L' := [some (vr 64), some (vi f), some (vi k), some (vi 1), some (vi ((n : Int) + 1)), some (vi (81 + (5 * (n : Int))))]) (st' := []) (M' := M) rfl ?_
          have e : alI (cG (rM M) f k) (n + 1) = 1 := by
            first
              | exact alI_off (by omega)
              | (rw [alI_keep (cG_skip (by rw [rM_0]; assumption))]; omega)
              | (rw [alI_keep (cG_eq (by unfold rM; assumption))]; omega)
              | exact alI_no (cG_no (by rw [rM_0]; assumption) (by unfold rM; assumption))
          have h9 := ih (n + 1) (some (vi (81 + (5 * (n : Int))))) (by omega) (by omega)
          rw [e] at h9
          exact h9
    · skip
      first | (have gS := hS (n : Int) (by omega) (by omega)) | skip
      refine Hx.run 1 (pc' := 97) (L' := [some (vr 64), some (vi f), some (vi k), some (vi (alI (cG (rM M) f k) n)), some (vi (n : Int)), j5]) (st' := [vi (alI (cG (rM M) f k) n)]) (M' := M) rfl ?_
      refine Hx.retB rfl rfl (by omega) ?_
      exact ⟨by rw [show (M 65 80).toNat = n by omega], rfl⟩
set_option maxRecDepth 100000 in
theorem r_soG (f k : Int) (M : Mm) (hI : RI M 0) (hS : ∀ n : Int, 0 ≤ n → n < M 65 80 → (1 ≤ M 65 (81 + 5 * n + 1) ∧ M 65 (81 + 5 * n + 1) ≤ 4) ∧ (0 ≤ M 65 (81 + 5 * n + 2) ∧ M 65 (81 + 5 * n + 2) ≤ 9) ∧ (0 ≤ M 65 (81 + 5 * n + 3) ∧ M 65 (81 + 5 * n + 3) ≤ 23)) (hk : 0 ≤ k ∧ k ≤ 5) : Ct 204 [vr 64, vi f, vi k] M (fun q0 M' => q0 = some (vi (alI (cG (rM M) f k) (M 65 80).toNat)) ∧ M = M') := by
  obtain ⟨r0, r1, r2, r3, r40, r61, r80, r111, rF, rG⟩ := (show (0 ≤ M 65 0 ∧ M 65 0 ≤ 3) ∧ (0 ≤ M 65 1 ∧ M 65 1 ≤ 6) ∧ (0 ≤ M 65 2 ∧ M 65 2 ≤ 9999) ∧ (0 ≤ M 65 3 ∧ M 65 3 ≤ 9000) ∧ (0 ≤ M 65 40 ∧ M 65 40 ≤ 5) ∧ (0 ≤ M 65 61 ∧ M 65 61 ≤ 6) ∧ (0 ≤ M 65 80 ∧ M 65 80 ≤ 6) ∧ (0 ≤ M 65 111 ∧ M 65 111 ≤ 8) ∧ (∀ f : Int, 0 ≤ f → f < M 65 0 → (0 ≤ M 65 (4 + f) ∧ M 65 (4 + f) ≤ 5) ∧ (1 ≤ M 65 (7 + f) ∧ M 65 (7 + f) ≤ 10)) ∧ (∀ i : Int, 0 ≤ i → i < M 65 1 → (0 ≤ M 65 (10 + i) ∧ M 65 (10 + i) ≤ 5) ∧ (1 ≤ M 65 (16 + i) ∧ M 65 (16 + i) ≤ 4) ∧ (0 ≤ M 65 (22 + i) ∧ M 65 (22 + i) < M 65 0) ∧ (0 ≤ M 65 (28 + i) ∧ M 65 (28 + i) ≤ 11) ∧ (0 ≤ M 65 (34 + i) ∧ M 65 (34 + i) ≤ 9)) from hI)
  refine Hx.run 4 (pc' := 5) (L' := [some (vr 64), some (vi f), some (vi k), some (vi 1), some (vi 0), none]) (st' := []) (M' := M) rfl ?_
  exact rl_soG f k M hI hS hk 10 0 none (by omega) (by omega)
set_option maxRecDepth 100000 in
theorem rl_ofG (f : Int) (M : Mm) (hI : RI M 0) (hS : ∀ n : Int, 0 ≤ n → n < M 65 80 → (1 ≤ M 65 (81 + 5 * n + 1) ∧ M 65 (81 + 5 * n + 1) ≤ 4) ∧ (0 ≤ M 65 (81 + 5 * n + 2) ∧ M 65 (81 + 5 * n + 2) ≤ 9) ∧ (0 ≤ M 65 (81 + 5 * n + 3) ∧ M 65 (81 + 5 * n + 3) ≤ 23)) : ∀ (kk : Nat) (n : Nat), n ≤ 6 → 6 - (n : Int) < (kk : Int) → Hx 205 4 [some (vr 64), some (vi f), some (vi (bS (hG M f) n)), some (vi (n : Int))] [] M (fun q0 M' => q0 = some (vi (bS (hG M f) 6)) ∧ M = M') := by
  intro kk
  induction kk with
  | zero => intro n _ hkk; exact absurd hkk (by omega)
  | succ kk ih =>
    intro n hn hkk
    have cc := alI_01 (cG (rM M) f (n : Int)) (M 65 80).toNat
    refine Hx.run 2 (pc' := 6) (L' := [some (vr 64), some (vi f), some (vi (bS (hG M f) n)), some (vi (n : Int))]) (st' := [vi 5, vi (n : Int)]) (M' := M) rfl ?_
    refine Hx.br (c := 5 < (n : Int)) (t := 34) (f := 9) rfl (fun h1 => ?_) (fun h1 => ?_)
    · skip
      refine Hx.run 1 (pc' := 35) (L' := [some (vr 64), some (vi f), some (vi (bS (hG M f) n)), some (vi (n : Int))]) (st' := [vi (bS (hG M f) n)]) (M' := M) rfl ?_
      refine Hx.ret rfl ?_
      exact ⟨by rw [show n = 6 by omega], rfl⟩
    · skip
      refine Hx.run 4 (pc' := 13) (L' := [some (vr 64), some (vi f), some (vi (bS (hG M f) n)), some (vi (n : Int))]) (st' := [vi (n : Int), vi f, vr 64, vi (bS (hG M f) n)]) (M' := M) rfl ?_
      refine Hx.call (t := 204) (as := [vr 64, vi f, vi (n : Int)]) (pc' := 16) (rest := [vi (bS (hG M f) n)]) rfl (r_soG f (n : Int) M hI hS (by omega)) ?_
      rintro _ _ ⟨rfl, rfl⟩
      refine Hx.run 0 (pc' := 16) (L' := [some (vr 64), some (vi f), some (vi (bS (hG M f) n)), some (vi (n : Int))]) (st' := [vi (alI (cG (rM M) f (n : Int)) (M 65 80).toNat), vi (bS (hG M f) n)]) (M' := M) rfl ?_
      refine Hx.br (c := (alI (cG (rM M) f (n : Int)) (M 65 80).toNat) = 0) (t := 25) (f := 19) rfl (fun h2 => ?_) (fun h2 => ?_)
      · skip
        refine Hx.run 3 (pc' := 28) (L' := [some (vr 64), some (vi f), some (vi (i2 fior (bS (hG M f) n) 0)), some (vi (n : Int))]) (st' := []) (M' := M) rfl ?_
        refine Hx.inc rfl rfl (by omega) ?_
        refine Hx.run 0 (pc' := 31) (L' := [some (vr 64), some (vi f), some (vi (i2 fior (bS (hG M f) n) 0)), some (vi ((n : Int) + 1))]) (st' := []) (M' := M) rfl ?_
        refine Hx.run 1 (pc' := 4) (L' := [some (vr 64), some (vi f), some (vi (i2 fior (bS (hG M f) n) 0)), some (vi ((n : Int) + 1))]) (st' := []) (M' := M) rfl ?_
        have e : (i2 fior (bS (hG M f) n) 0) = bS (hG M f) (n + 1) := by rw [or0 ⟨(bS_rng (hG M f) n).1, by have := (bS_rng (hG M f) n).2; have := p6 (n := n) (by omega); omega⟩]; exact bS_no (f := (hG M f)) (by unfold hG; (rcases cc with z | z; omega; exact z.2))
        rw [e]
        exact ih (n + 1) (by omega) (by omega)
      · skip
        refine Hx.run 6 (pc' := 28) (L' := [some (vr 64), some (vi f), some (vi (i2 fior (bS (hG M f) n) (i2 fshl 1 (n : Int)))), some (vi (n : Int))]) (st' := []) (M' := M) rfl ?_
        refine Hx.inc rfl rfl (by omega) ?_
        refine Hx.run 0 (pc' := 31) (L' := [some (vr 64), some (vi f), some (vi (i2 fior (bS (hG M f) n) (i2 fshl 1 (n : Int)))), some (vi ((n : Int) + 1))]) (st' := []) (M' := M) rfl ?_
        refine Hx.run 1 (pc' := 4) (L' := [some (vr 64), some (vi f), some (vi (i2 fior (bS (hG M f) n) (i2 fshl 1 (n : Int)))), some (vi ((n : Int) + 1))]) (st' := []) (M' := M) rfl ?_
        have e : (i2 fior (bS (hG M f) n) (i2 fshl 1 (n : Int))) = bS (hG M f) (n + 1) := bS_one (f := (hG M f)) (by omega) (by unfold hG; (rcases cc with z | z; exact z.2; omega))
        rw [e]
        exact ih (n + 1) (by omega) (by omega)
set_option maxRecDepth 100000 in
theorem r_ofG (f : Int) (M : Mm) (hI : RI M 0) (hS : ∀ n : Int, 0 ≤ n → n < M 65 80 → (1 ≤ M 65 (81 + 5 * n + 1) ∧ M 65 (81 + 5 * n + 1) ≤ 4) ∧ (0 ≤ M 65 (81 + 5 * n + 2) ∧ M 65 (81 + 5 * n + 2) ≤ 9) ∧ (0 ≤ M 65 (81 + 5 * n + 3) ∧ M 65 (81 + 5 * n + 3) ≤ 23)) : Ct 205 [vr 64, vi f] M (fun q0 M' => q0 = some (vi (bS (hG M f) 6)) ∧ M = M') := by
  refine Hx.run 4 (pc' := 4) (L' := [some (vr 64), some (vi f), some (vi 0), some (vi 0)]) (st' := []) (M' := M) rfl ?_
  exact rl_ofG f M hI hS 10 0 (by omega) (by omega)
set_option maxRecDepth 100000 in
theorem R_kinds (f : Int) (M : Mm) (hI : RI M 0) (hs : (0 ≤ M 68 0 ∧ M 68 0 ≤ 600) ∧ (0 ≤ M 68 1 ∧ M 68 1 ≤ 600) ∧ (0 ≤ M 68 2 ∧ M 68 2 ≤ 600)) (hS : ∀ n : Int, 0 ≤ n → n < M 65 80 → (1 ≤ M 65 (81 + 5 * n + 1) ∧ M 65 (81 + 5 * n + 1) ≤ 4) ∧ (0 ≤ M 65 (81 + 5 * n + 2) ∧ M 65 (81 + 5 * n + 2) ≤ 9) ∧ (0 ≤ M 65 (81 + 5 * n + 3) ∧ M 65 (81 + 5 * n + 3) ≤ 23)) : Ct 206 [vr 64, vi f] M (fun q0 M' => (¬ (0 ≤ f ∧ f < M 65 1) ∧ q0 = some (vi (-2)) ∧ up M 68 0 (M 68 0 + 1) = M') ∨ ((0 ≤ f ∧ f < M 65 1) ∧ q0 = some (vi (bS (hG M f) 6)) ∧ M = M')) := by
  obtain ⟨r0, r1, r2, r3, r40, r61, r80, r111, rF, rG⟩ := (show (0 ≤ M 65 0 ∧ M 65 0 ≤ 3) ∧ (0 ≤ M 65 1 ∧ M 65 1 ≤ 6) ∧ (0 ≤ M 65 2 ∧ M 65 2 ≤ 9999) ∧ (0 ≤ M 65 3 ∧ M 65 3 ≤ 9000) ∧ (0 ≤ M 65 40 ∧ M 65 40 ≤ 5) ∧ (0 ≤ M 65 61 ∧ M 65 61 ≤ 6) ∧ (0 ≤ M 65 80 ∧ M 65 80 ≤ 6) ∧ (0 ≤ M 65 111 ∧ M 65 111 ≤ 8) ∧ (∀ f : Int, 0 ≤ f → f < M 65 0 → (0 ≤ M 65 (4 + f) ∧ M 65 (4 + f) ≤ 5) ∧ (1 ≤ M 65 (7 + f) ∧ M 65 (7 + f) ≤ 10)) ∧ (∀ i : Int, 0 ≤ i → i < M 65 1 → (0 ≤ M 65 (10 + i) ∧ M 65 (10 + i) ≤ 5) ∧ (1 ≤ M 65 (16 + i) ∧ M 65 (16 + i) ≤ 4) ∧ (0 ≤ M 65 (22 + i) ∧ M 65 (22 + i) < M 65 0) ∧ (0 ≤ M 65 (28 + i) ∧ M 65 (28 + i) ≤ 11) ∧ (0 ≤ M 65 (34 + i) ∧ M 65 (34 + i) ≤ 9)) from hI)
  refine Hx.run 2 (pc' := 2) (L' := [some (vr 64), some (vi f)]) (st' := [vi f, vr 64]) (M' := M) rfl ?_
  refine Hx.call (t := 137) (as := [vr 64, vi f]) (pc' := 5) (rest := []) rfl (r_isGoer f M (by omega)) ?_
  rintro _ _ (⟨q123, rfl, rfl⟩ | ⟨q123, rfl, rfl⟩)
  · skip
    have gq123 := rG f q123.1 q123.2
    have fq123 := rF (M 65 (22 + f)) (by omega) (by omega)
    refine Hx.run 3 (pc' := 10) (L' := [some (vr 64), some (vi f)]) (st' := [vi f, vr 64]) (M' := M) rfl ?_
    refine Hx.call (t := 205) (as := [vr 64, vi f]) (pc' := 13) (rest := []) rfl (r_ofG f M hI hS) ?_
    rintro _ _ ⟨rfl, rfl⟩
    refine Hx.run 0 (pc' := 13) (L' := [some (vr 64), some (vi f)]) (st' := [vi (bS (hG M f) 6)]) (M' := M) rfl ?_
    refine Hx.run 1 (pc' := 22) (L' := [some (vr 64), some (vi f)]) (st' := [vi (bS (hG M f) 6)]) (M' := M) rfl ?_
    refine Hx.ret rfl ?_
    first | exact Or.inl ⟨by omega, rfl, rfl⟩ | exact Or.inr ⟨by omega, rfl, rfl⟩
  · skip
    refine Hx.run 3 (pc' := 19) (L' := [some (vr 64), some (vi f)]) (st' := [vi (-2), vr 64]) (M' := M) rfl ?_
    refine Hx.call (t := 132) (as := [vr 64, vi (-2)]) (pc' := 22) (rest := []) rfl (r_bad (-2) M (by omega)) ?_
    rintro _ _ ⟨rfl, rfl⟩
    refine Hx.run 0 (pc' := 22) (L' := [some (vr 64), some (vi f)]) (st' := [vi (-2)]) (M' := (up M 68 0 ((M 68 0) + 1))) rfl ?_
    refine Hx.ret rfl ?_
    first | exact Or.inl ⟨by omega, rfl, rfl⟩ | exact Or.inr ⟨by omega, rfl, rfl⟩
