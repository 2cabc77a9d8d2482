/-! whose, both sides (written by wip/whole/gen50.py) -/
/-- the owner of flight f, of a kind, can be at a step, by the first n rows of what was seen -/
def cbB (q : Nat → Int → Int) (f kind step : Int) : Nat → Bool
  | 0 => true
  | n + 1 => cbB q f kind step n && (decide (q n 0 ≠ f) || (cvr step (q n 1) (bcF kind (q n 2)) == decide (q n 3 = 1)))
theorem cbB_succ (q : Nat → Int → Int) (f kind step : Int) (n : Nat) : cbB q f kind step (n + 1) = (cbB q f kind step n && (decide (q n 0 ≠ f) || (cvr step (q n 1) (bcF kind (q n 2)) == decide (q n 3 = 1)))) := rfl
theorem cbB_congr {q q' : Nat → Int → Int} {f kind step : Int} : ∀ n, (∀ m, m < n → ∀ c : Int, 0 ≤ c → c < 4 → q m c = q' m c) → cbB q f kind step n = cbB q' f kind step n
  | 0, _ => rfl
  | n + 1, h => by
    rw [cbB_succ, cbB_succ, cbB_congr n (fun m hm => h m (by omega)), h n (by omega) 0 (by decide) (by decide), h n (by omega) 1 (by decide) (by decide), h n (by omega) 2 (by decide) (by decide), h n (by omega) 3 (by decide) (by decide)]
def cbI (q : Nat → Int → Int) (f kind step : Int) (n : Nat) : Int := if cbB q f kind step n = true then 1 else 0
theorem cbI_01 (q : Nat → Int → Int) (f kind step : Int) (n : Nat) : (cbI q f kind step n = 1 ∧ cbB q f kind step n = true) ∨ (cbI q f kind step n = 0 ∧ ¬ cbB q f kind step n = true) := by
  unfold cbI
  split <;> rename_i h
  · exact Or.inl ⟨rfl, h⟩
  · exact Or.inr ⟨rfl, h⟩
theorem cbI_skip {q : Nat → Int → Int} {f kind step : Int} {n : Nat} (h : ¬ q n 0 = f) : cbI q f kind step (n + 1) = cbI q f kind step n := by
  unfold cbI
  rw [cbB_succ, decide_eq_true h, Bool.true_or, Bool.and_true]
theorem cbI_off {q : Nat → Int → Int} {f kind step : Int} {n : Nat} (h : cbI q f kind step n = 0) : cbI q f kind step (n + 1) = 0 := by
  unfold cbI at h ⊢
  rw [cbB_succ]
  cases e : cbB q f kind step n
  · rfl
  · rw [e] at h; simp at h
theorem cbI_both {q : Nat → Int → Int} {f kind step : Int} {n : Nat} (h0 : cbI q f kind step n = 1) (h1 : (step ≤ q n 1 ∧ q n 1 < step + bcF kind (q n 2)) ↔ q n 3 = 1) : cbI q f kind step (n + 1) = 1 := by
  unfold cbI at h0 ⊢
  rw [cbB_succ]
  cases e : cbB q f kind step n
  · rw [e] at h0; simp at h0
  · have hd : cvr step (q n 1) (bcF kind (q n 2)) = decide (q n 3 = 1) := by
      unfold cvr
      by_cases z : q n 3 = 1
      · rw [decide_eq_true z, decide_eq_true (h1.mpr z)]
      · rw [decide_eq_false z, decide_eq_false (fun y => z (h1.mp y))]
    rw [hd]
    simp
theorem cbI_diff {q : Nat → Int → Int} {f kind step : Int} {n : Nat} (hf : q n 0 = f) (h1 : ¬ ((step ≤ q n 1 ∧ q n 1 < step + bcF kind (q n 2)) ↔ q n 3 = 1)) : cbI q f kind step (n + 1) = 0 := by
  have hd : ¬ cvr step (q n 1) (bcF kind (q n 2)) = decide (q n 3 = 1) := by
    unfold cvr
    by_cases z : q n 3 = 1
    · rw [decide_eq_true z]; intro y; exact h1 ⟨fun _ => z, fun _ => of_decide_eq_true y⟩
    · rw [decide_eq_false z]; intro y; exact h1 ⟨fun y2 => absurd y2 (of_decide_eq_false y), fun y2 => absurd y2 z⟩
  unfold cbI
  rw [cbB_succ, if_neg]
  intro h
  rw [decide_eq_false (p := q n 0 ≠ f) (fun z => z hf), Bool.false_or] at h
  exact hd (by simpa using (Bool.and_eq_true_iff.mp h).2)
def whs (q : Nat → Int → Int) (f kind : Int) (n : Nat) : Int := bS (fun p => decide (1 ≤ p) && cbB q f kind p n) 11
theorem whs_0 (q : Nat → Int → Int) (f kind : Int) : whs q f kind 0 = 2046 := by
  unfold whs
  show bS (fun p => decide (1 ≤ p) && true) 11 = 2046
  decide
theorem whs_rng (q : Nat → Int → Int) (f kind : Int) (n : Nat) : 0 ≤ whs q f kind n ∧ whs q f kind n < 2048 := bS_rng (fun p => decide (1 ≤ p) && cbB q f kind p n) 11
theorem whs_skip {q : Nat → Int → Int} {f kind : Int} {n : Nat} (h : ¬ q n 0 = f) : whs q f kind (n + 1) = whs q f kind n := by
  unfold whs
  exact bS_congr 11 (fun m _ => by rw [cbB_succ, decide_eq_true h, Bool.true_or, Bool.and_true])
theorem whs_yes {q : Nat → Int → Int} {f kind : Int} {n : Nat} (hf : q n 0 = f) (hb1 : q n 3 = 1) : i2 fand (whs q f kind n) (ob (q n 1) (bcF kind (q n 2))) = whs q f kind (n + 1) := by
  unfold whs ob
  rw [and_bS]
  refine bS_congr 11 (fun m _ => ?_)
  rw [cbB_succ, decide_eq_false (p := q n 0 ≠ f) (fun z => z hf), decide_eq_true hb1]
  cases decide (1 ≤ m) <;> cases cbB q f kind m n <;> cases cvr m (q n 1) (bcF kind (q n 2)) <;> rfl
theorem whs_no {q : Nat → Int → Int} {f kind : Int} {n : Nat} (hf : q n 0 = f) (hb1 : ¬ q n 3 = 1) : i2 fand (whs q f kind n) (i2 fxor (ob (q n 1) (bcF kind (q n 2))) (-1)) = whs q f kind (n + 1) := by
  unfold whs ob
  rw [andn_bS]
  refine bS_congr 11 (fun m _ => ?_)
  rw [cbB_succ, decide_eq_false (p := q n 0 ≠ f) (fun z => z hf), decide_eq_false hb1]
  cases decide (1 ≤ m) <;> cases cbB q f kind m n <;> cases cvr m (q n 1) (bcF kind (q n 2)) <;> rfl
def qC (M : Mm) (m : Nat) (c : Int) : Int := M 9 ((m : Int) * 4 + c)
def qR (M : Mm) (m : Nat) (c : Int) : Int := M 65 (41 + 4 * (m : Int) + c)
def gR (M : Mm) (f : Int) (p : Nat) : Bool := decide (1 ≤ p) && cbB (qR M) f (M 65 (4 + f)) p (M 65 40).toNat
theorem whs_gR (M : Mm) (f : Int) : bS (gR M f) 11 = whs (qR M) f (M 65 (4 + f)) (M 65 40).toNat := rfl
theorem gR_e (M : Mm) (f : Int) (n : Nat) : (cbI (qR M) f (M 65 (4 + f)) ((n : Int) + 1) (M 65 40).toNat = 1 ∧ gR M f (n + 1) = true) ∨ (cbI (qR M) f (M 65 (4 + f)) ((n : Int) + 1) (M 65 40).toNat = 0 ∧ ¬ gR M f (n + 1) = true) := by
  have c01 := cbI_01 (qR M) f (M 65 (4 + f)) ((n : Int) + 1) (M 65 40).toNat
  have e : gR M f (n + 1) = cbB (qR M) f (M 65 (4 + f)) ((n : Int) + 1) (M 65 40).toNat := by
    unfold gR
    rw [decide_eq_true (by omega), Bool.true_and, Int.natCast_add_one]
  rw [e]
  exact c01
theorem gR_0 (M : Mm) (f : Int) : bS (gR M f) 1 = 0 := rfl
theorem Hx.retB {y pc : Nat} {L : Lc} {M : Mm} {P : Option PV → Mm → Prop} {z : Int} (hf : fetch y pc = some (.ireturn, 1)) (hR : mR y = some .boolean) (hz : z = 0 ∨ z = 1) (k : P (some (vi z)) M) : Hx y pc L [vi z] M P := by
  refine Hx.ret (r := some (vi z)) ?_ k
  unfold step
  rw [hf]
  simp only [stepI]
  rw [hR]
  show (if z = 0 ∨ z = 1 then _ else none) = _
  rw [if_pos hz]
theorem qR_0 (M : Mm) (m : Nat) : qR M m 0 = M 65 (41 + 4 * (m : Int)) := by unfold qR; rw [Int.add_zero]
set_option maxRecDepth 100000 in
theorem cl_fitting (f : Int) (M : Mm) (hI : HI M 1) (hf : 0 ≤ f ∧ f < M 1 0) : ∀ (kk : Nat) (n : Nat) (jf : Option PV), (n : Int) ≤ M 8 3 → M 8 3 - (n : Int) < (kk : Int) → Hx 81 15 [some (vr 0), some (vi f), some (vi (whs (qC M) f (M 2 f) n)), some (vr 8), some (vi (n : Int)), jf] [] M (fun q0 M' => q0 = some (vi (whs (qC M) f (M 2 f) (M 8 3).toNat)) ∧ M = M') := by
  intro kk
  induction kk with
  | zero => intro n jf _ hkk; exact absurd hkk (by omega)
  | succ kk ih =>
    intro n jf hn hkk
    obtain ⟨iF, iG, iK, iH, iFa, aF, aG, lS, lN, lM, rS, rN, rM, aK⟩ := (show (0 ≤ M 1 0 ∧ M 1 0 ≤ 3) ∧ (0 ≤ M 1 1 ∧ M 1 1 ≤ 6) ∧ (0 ≤ M 1 2 ∧ M 1 2 ≤ 8) ∧ (0 ≤ M 6 16 ∧ M 6 16 ≤ 9999) ∧ (0 ≤ M 6 15 ∧ M 6 15 ≤ 9000) ∧ (∀ f : Int, 0 ≤ f → f < M 1 0 → (0 ≤ M 2 f ∧ M 2 f ≤ 5) ∧ (1 ≤ M 6 (12 + f) ∧ M 6 (12 + f) ≤ 10)) ∧ (∀ i : Int, 0 ≤ i → i < M 1 1 → (0 ≤ M 3 i ∧ M 3 i ≤ 5) ∧ (1 ≤ M 4 i ∧ M 4 i ≤ 4) ∧ (0 ≤ M 5 i ∧ M 5 i < M 1 0) ∧ (0 ≤ M 6 i ∧ M 6 i ≤ 11) ∧ (0 ≤ M 6 (6 + i) ∧ M 6 (6 + i) ≤ 9)) ∧ (M 8 0 = 4 ∧ M 8 1 = 5 ∧ 0 ≤ M 8 3 ∧ M 8 3 ≤ 5) ∧ (M 10 0 = 3 ∧ M 10 1 = 6 ∧ 0 ≤ M 10 3 ∧ M 10 3 ≤ 6) ∧ (M 12 0 = 5 ∧ M 12 1 = 6 ∧ 0 ≤ M 12 3 ∧ M 12 3 ≤ 6) ∧ (∀ n : Int, 0 ≤ n → n < M 8 3 → (0 ≤ M 9 (n * 4 + 0) ∧ M 9 (n * 4 + 0) ≤ 2) ∧ (1 ≤ M 9 (n * 4 + 1) ∧ M 9 (n * 4 + 1) ≤ 10) ∧ (0 ≤ M 9 (n * 4 + 2) ∧ M 9 (n * 4 + 2) ≤ 23) ∧ (0 ≤ M 9 (n * 4 + 3) ∧ M 9 (n * 4 + 3) ≤ 1)) ∧ (∀ n : Int, 0 ≤ n → n < M 10 3 → (0 ≤ M 11 (n * 3 + 0) ∧ M 11 (n * 3 + 0) ≤ 2) ∧ (0 ≤ M 11 (n * 3 + 1) ∧ M 11 (n * 3 + 1) ≤ 23) ∧ (0 ≤ M 11 (n * 3 + 2) ∧ M 11 (n * 3 + 2) ≤ 9)) ∧ (∀ n : Int, 0 ≤ n → n < M 12 3 → (0 ≤ M 13 (n * 5 + 0) ∧ M 13 (n * 5 + 0) ≤ 5) ∧ (1 ≤ M 13 (n * 5 + 1) ∧ M 13 (n * 5 + 1) ≤ 4) ∧ (0 ≤ M 13 (n * 5 + 2) ∧ M 13 (n * 5 + 2) ≤ 9) ∧ (0 ≤ M 13 (n * 5 + 3) ∧ M 13 (n * 5 + 3) ≤ 23) ∧ (0 ≤ M 13 (n * 5 + 4) ∧ M 13 (n * 5 + 4) ≤ 9)) ∧ (∀ k : Int, 0 ≤ k → k < M 1 2 → (0 ≤ M 7 (k * 17 + 16) ∧ M 7 (k * 17 + 16) ≤ 9999) ∧ (0 ≤ M 7 (k * 17 + 15) ∧ M 7 (k * 17 + 15) ≤ 9000) ∧ (∀ f : Int, 0 ≤ f → f < M 1 0 → (1 ≤ M 7 (k * 17 + (12 + f)) ∧ M 7 (k * 17 + (12 + f)) ≤ 10)) ∧ (∀ i : Int, 0 ≤ i → i < M 1 1 → (0 ≤ M 7 (k * 17 + i) ∧ M 7 (k * 17 + i) ≤ 11) ∧ (0 ≤ M 7 (k * 17 + (6 + i)) ∧ M 7 (k * 17 + (6 + i)) ≤ 9))) from hI)
    have gF := aF f (by omega) (by omega)
    refine Hx.run 3 (pc' := 21) (L' := [some (vr 0), some (vi f), some (vi (whs (qC M) f (M 2 f) n)), some (vr 8), some (vi (n : Int)), jf]) (st' := [vi (M 8 3), vi (n : Int)]) (M' := M) rfl ?_
    refine Hx.br (c := (n : Int) < (M 8 3)) (t := 24) (f := 97) rfl (fun h1 => ?_) (fun h1 => ?_)
    · skip
      first | (have gS := rS (n : Int) (by omega) (by omega)) | skip
      have bq := bcF_rng (k := M 2 f) (t := M 9 ((n : Int) * 4 + 2))
      refine Hx.run 3 (pc' := 28) (L' := [some (vr 0), some (vi f), some (vi (whs (qC M) f (M 2 f) n)), some (vr 8), some (vi (n : Int)), jf]) (st' := [vi 0, vi (n : Int), vr 8]) (M' := M) rfl ?_
      refine Hx.call (t := 38) (as := [vr 8, vi (n : Int), vi 0]) (pc' := 31) (rest := []) rfl (c_cell_8 (n : Int) 0 M lS (by omega) (by omega)) ?_
      rintro _ _ ⟨rfl, rfl⟩
      refine Hx.run 0 (pc' := 31) (L' := [some (vr 0), some (vi f), some (vi (whs (qC M) f (M 2 f) n)), some (vr 8), some (vi (n : Int)), jf]) (st' := [vi (M 9 ((n : Int) * 4 + 0))]) (M' := M) rfl ?_
      refine Hx.run 1 (pc' := 32) (L' := [some (vr 0), some (vi f), some (vi (whs (qC M) f (M 2 f) n)), some (vr 8), some (vi (n : Int)), jf]) (st' := [vi f, vi (M 9 ((n : Int) * 4 + 0))]) (M' := M) rfl ?_
      refine Hx.br (c := (M 9 ((n : Int) * 4 + 0)) = f) (t := 38) (f := 35) rfl (fun h2 => ?_) (fun h2 => ?_)
      · skip
        refine Hx.run 3 (pc' := 42) (L' := [some (vr 0), some (vi f), some (vi (whs (qC M) f (M 2 f) n)), some (vr 8), some (vi (n : Int)), jf]) (st' := [vi 1, vi (n : Int), vr 8]) (M' := M) rfl ?_
        refine Hx.call (t := 38) (as := [vr 8, vi (n : Int), vi 1]) (pc' := 45) (rest := []) rfl (c_cell_8 (n : Int) 1 M lS (by omega) (by omega)) ?_
        rintro _ _ ⟨rfl, rfl⟩
        refine Hx.run 0 (pc' := 45) (L' := [some (vr 0), some (vi f), some (vi (whs (qC M) f (M 2 f) n)), some (vr 8), some (vi (n : Int)), jf]) (st' := [vi (M 9 ((n : Int) * 4 + 1))]) (M' := M) rfl ?_
        refine Hx.run 3 (pc' := 50) (L' := [some (vr 0), some (vi f), some (vi (whs (qC M) f (M 2 f) n)), some (vr 8), some (vi (n : Int)), jf]) (st' := [vi f, vr 1, vi (M 9 ((n : Int) * 4 + 1))]) (M' := M) rfl ?_
        refine Hx.call (t := 13) (as := [vr 1, vi f]) (pc' := 53) (rest := [vi (M 9 ((n : Int) * 4 + 1))]) rfl (c_ownerKind_1 f (by omega) M) ?_
        rintro _ _ ⟨rfl, rfl⟩
        refine Hx.run 0 (pc' := 53) (L' := [some (vr 0), some (vi f), some (vi (whs (qC M) f (M 2 f) n)), some (vr 8), some (vi (n : Int)), jf]) (st' := [vi (M 2 f), vi (M 9 ((n : Int) * 4 + 1))]) (M' := M) rfl ?_
        refine Hx.run 3 (pc' := 57) (L' := [some (vr 0), some (vi f), some (vi (whs (qC M) f (M 2 f) n)), some (vr 8), some (vi (n : Int)), jf]) (st' := [vi 2, vi (n : Int), vr 8, vi (M 2 f), vi (M 9 ((n : Int) * 4 + 1))]) (M' := M) rfl ?_
        refine Hx.call (t := 38) (as := [vr 8, vi (n : Int), vi 2]) (pc' := 60) (rest := [vi (M 2 f), vi (M 9 ((n : Int) * 4 + 1))]) rfl (c_cell_8 (n : Int) 2 M lS (by omega) (by omega)) ?_
        rintro _ _ ⟨rfl, rfl⟩
        refine Hx.run 0 (pc' := 60) (L' := [some (vr 0), some (vi f), some (vi (whs (qC M) f (M 2 f) n)), some (vr 8), some (vi (n : Int)), jf]) (st' := [vi (M 9 ((n : Int) * 4 + 2)), vi (M 2 f), vi (M 9 ((n : Int) * 4 + 1))]) (M' := M) rfl ?_
        refine Hx.call (t := 124) (as := [vi (M 2 f), vi (M 9 ((n : Int) * 4 + 2))]) (pc' := 63) (rest := [vi (M 9 ((n : Int) * 4 + 1))]) rfl (c_barCount (M 2 f) (M 9 ((n : Int) * 4 + 2)) M (by omega) (by omega)) ?_
        rintro _ _ ⟨rfl, rfl⟩
        refine Hx.run 0 (pc' := 63) (L' := [some (vr 0), some (vi f), some (vi (whs (qC M) f (M 2 f) n)), some (vr 8), some (vi (n : Int)), jf]) (st' := [vi (bcF (M 2 f) (M 9 ((n : Int) * 4 + 2))), vi (M 9 ((n : Int) * 4 + 1))]) (M' := M) rfl ?_
        refine Hx.call (t := 126) (as := [vi (M 9 ((n : Int) * 4 + 1)), vi (bcF (M 2 f) (M 9 ((n : Int) * 4 + 2)))]) (pc' := 66) (rest := []) rfl (c_ownersBarring (M 9 ((n : Int) * 4 + 1)) (bcF (M 2 f) (M 9 ((n : Int) * 4 + 2))) M (by omega) (by omega)) ?_
        rintro _ _ ⟨rfl, rfl⟩
        refine Hx.run 0 (pc' := 66) (L' := [some (vr 0), some (vi f), some (vi (whs (qC M) f (M 2 f) n)), some (vr 8), some (vi (n : Int)), jf]) (st' := [vi (ob (M 9 ((n : Int) * 4 + 1)) (bcF (M 2 f) (M 9 ((n : Int) * 4 + 2))))]) (M' := M) rfl ?_
        refine Hx.run 5 (pc' := 73) (L' := [some (vr 0), some (vi f), some (vi (whs (qC M) f (M 2 f) n)), some (vr 8), some (vi (n : Int)), some (vi (ob (M 9 ((n : Int) * 4 + 1)) (bcF (M 2 f) (M 9 ((n : Int) * 4 + 2)))))]) (st' := [vi 3, vi (n : Int), vr 8, vi (whs (qC M) f (M 2 f) n)]) (M' := M) rfl ?_
        refine Hx.call (t := 38) (as := [vr 8, vi (n : Int), vi 3]) (pc' := 76) (rest := [vi (whs (qC M) f (M 2 f) n)]) rfl (c_cell_8 (n : Int) 3 M lS (by omega) (by omega)) ?_
        rintro _ _ ⟨rfl, rfl⟩
        refine Hx.run 0 (pc' := 76) (L' := [some (vr 0), some (vi f), some (vi (whs (qC M) f (M 2 f) n)), some (vr 8), some (vi (n : Int)), some (vi (ob (M 9 ((n : Int) * 4 + 1)) (bcF (M 2 f) (M 9 ((n : Int) * 4 + 2)))))]) (st' := [vi (M 9 ((n : Int) * 4 + 3)), vi (whs (qC M) f (M 2 f) n)]) (M' := M) rfl ?_
        refine Hx.run 1 (pc' := 77) (L' := [some (vr 0), some (vi f), some (vi (whs (qC M) f (M 2 f) n)), some (vr 8), some (vi (n : Int)), some (vi (ob (M 9 ((n : Int) * 4 + 1)) (bcF (M 2 f) (M 9 ((n : Int) * 4 + 2)))))]) (st' := [vi 1, vi (M 9 ((n : Int) * 4 + 3)), vi (whs (qC M) f (M 2 f) n)]) (M' := M) rfl ?_
        refine Hx.br (c := (M 9 ((n : Int) * 4 + 3)) = 1) (t := 80) (f := 85) rfl (fun h3 => ?_) (fun h3 => ?_)
        · skip
          refine Hx.run 4 (pc' := 91) (L' := [some (vr 0), some (vi f), some (vi (i2 fand (whs (qC M) f (M 2 f) n) (ob (M 9 ((n : Int) * 4 + 1)) (bcF (M 2 f) (M 9 ((n : Int) * 4 + 2)))))), some (vr 8), some (vi (n : Int)), some (vi (ob (M 9 ((n : Int) * 4 + 1)) (bcF (M 2 f) (M 9 ((n : Int) * 4 + 2)))))]) (st' := []) (M' := M) rfl ?_
          refine Hx.inc rfl rfl (by omega) ?_
          refine Hx.run 0 (pc' := 94) (L' := [some (vr 0), some (vi f), some (vi (i2 fand (whs (qC M) f (M 2 f) n) (ob (M 9 ((n : Int) * 4 + 1)) (bcF (M 2 f) (M 9 ((n : Int) * 4 + 2)))))), some (vr 8), some (vi ((n : Int) + 1)), some (vi (ob (M 9 ((n : Int) * 4 + 1)) (bcF (M 2 f) (M 9 ((n : Int) * 4 + 2)))))]) (st' := []) (M' := M) rfl ?_
          refine Hx.run 1 (pc' := 15) (L' := [some (vr 0), some (vi f), some (vi (i2 fand (whs (qC M) f (M 2 f) n) (ob (M 9 ((n : Int) * 4 + 1)) (bcF (M 2 f) (M 9 ((n : Int) * 4 + 2)))))), some (vr 8), some (vi ((n : Int) + 1)), some (vi (ob (M 9 ((n : Int) * 4 + 1)) (bcF (M 2 f) (M 9 ((n : Int) * 4 + 2)))))]) (st' := []) (M' := M) rfl ?_
          have e : whs (qC M) f (M 2 f) (n + 1) = (i2 fand (whs (qC M) f (M 2 f) n) (ob (M 9 ((n : Int) * 4 + 1)) (bcF (M 2 f) (M 9 ((n : Int) * 4 + 2))))) := by
            first
              | exact whs_skip (by assumption)
              | exact (whs_yes (by assumption) (by assumption)).symm
              | exact (whs_no (by assumption) (by assumption)).symm
          have h9 := ih (n + 1) (some (vi (ob (M 9 ((n : Int) * 4 + 1)) (bcF (M 2 f) (M 9 ((n : Int) * 4 + 2)))))) (by omega) (by omega)
          rw [e] at h9
          exact h9
        · skip
          refine Hx.run 5 (pc' := 91) (L' := [some (vr 0), some (vi f), some (vi (i2 fand (whs (qC M) f (M 2 f) n) (i2 fxor (ob (M 9 ((n : Int) * 4 + 1)) (bcF (M 2 f) (M 9 ((n : Int) * 4 + 2)))) (-1)))), some (vr 8), some (vi (n : Int)), some (vi (ob (M 9 ((n : Int) * 4 + 1)) (bcF (M 2 f) (M 9 ((n : Int) * 4 + 2)))))]) (st' := []) (M' := M) rfl ?_
          refine Hx.inc rfl rfl (by omega) ?_
          refine Hx.run 0 (pc' := 94) (L' := [some (vr 0), some (vi f), some (vi (i2 fand (whs (qC M) f (M 2 f) n) (i2 fxor (ob (M 9 ((n : Int) * 4 + 1)) (bcF (M 2 f) (M 9 ((n : Int) * 4 + 2)))) (-1)))), some (vr 8), some (vi ((n : Int) + 1)), some (vi (ob (M 9 ((n : Int) * 4 + 1)) (bcF (M 2 f) (M 9 ((n : Int) * 4 + 2)))))]) (st' := []) (M' := M) rfl ?_
          refine Hx.run 1 (pc' := 15) (L' := [some (vr 0), some (vi f), some (vi (i2 fand (whs (qC M) f (M 2 f) n) (i2 fxor (ob (M 9 ((n : Int) * 4 + 1)) (bcF (M 2 f) (M 9 ((n : Int) * 4 + 2)))) (-1)))), some (vr 8), some (vi ((n : Int) + 1)), some (vi (ob (M 9 ((n : Int) * 4 + 1)) (bcF (M 2 f) (M 9 ((n : Int) * 4 + 2)))))]) (st' := []) (M' := M) rfl ?_
          have e : whs (qC M) f (M 2 f) (n + 1) = (i2 fand (whs (qC M) f (M 2 f) n) (i2 fxor (ob (M 9 ((n : Int) * 4 + 1)) (bcF (M 2 f) (M 9 ((n : Int) * 4 + 2)))) (-1))) := by
            first
              | exact whs_skip (by assumption)
              | exact (whs_yes (by assumption) (by assumption)).symm
              | exact (whs_no (by assumption) (by assumption)).symm
          have h9 := ih (n + 1) (some (vi (ob (M 9 ((n : Int) * 4 + 1)) (bcF (M 2 f) (M 9 ((n : Int) * 4 + 2)))))) (by omega) (by omega)
          rw [e] at h9
          exact h9
      · skip
        refine Hx.run 1 (pc' := 91) (L' := [some (vr 0), some (vi f), some (vi (whs (qC M) f (M 2 f) n)), some (vr 8), some (vi (n : Int)), jf]) (st' := []) (M' := M) rfl ?_
        refine Hx.inc rfl rfl (by omega) ?_
        refine Hx.run 0 (pc' := 94) (L' := [some (vr 0), some (vi f), some (vi (whs (qC M) f (M 2 f) n)), some (vr 8), some (vi ((n : Int) + 1)), jf]) (st' := []) (M' := M) rfl ?_
        refine Hx.run 1 (pc' := 15) (L' := [some (vr 0), some (vi f), some (vi (whs (qC M) f (M 2 f) n)), some (vr 8), some (vi ((n : Int) + 1)), jf]) (st' := []) (M' := M) rfl ?_
        have e : whs (qC M) f (M 2 f) (n + 1) = (whs (qC M) f (M 2 f) n) := by
          first
            | exact whs_skip (by assumption)
            | exact (whs_yes (by assumption) (by assumption)).symm
            | exact (whs_no (by assumption) (by assumption)).symm
        have h9 := ih (n + 1) jf (by omega) (by omega)
        rw [e] at h9
        exact h9
    · skip
      first | (have gS := rS (n : Int) (by omega) (by omega)) | skip
      have bq := bcF_rng (k := M 2 f) (t := M 9 ((n : Int) * 4 + 2))
      refine Hx.run 1 (pc' := 98) (L' := [some (vr 0), some (vi f), some (vi (whs (qC M) f (M 2 f) n)), some (vr 8), some (vi (n : Int)), jf]) (st' := [vi (whs (qC M) f (M 2 f) n)]) (M' := M) rfl ?_
      refine Hx.ret rfl ?_
      exact ⟨by rw [show (M 8 3).toNat = n by omega], rfl⟩
set_option maxRecDepth 100000 in
theorem c_fitting (f : Int) (M : Mm) (hI : HI M 1) (hf : 0 ≤ f ∧ f < M 1 0) : Ct 81 [vr 0, vi f] M (fun q0 M' => q0 = some (vi (whs (qC M) f (M 2 f) (M 8 3).toNat)) ∧ M = M') := by
  obtain ⟨iF, iG, iK, iH, iFa, aF, aG, lS, lN, lM, rS, rN, rM, aK⟩ := (show (0 ≤ M 1 0 ∧ M 1 0 ≤ 3) ∧ (0 ≤ M 1 1 ∧ M 1 1 ≤ 6) ∧ (0 ≤ M 1 2 ∧ M 1 2 ≤ 8) ∧ (0 ≤ M 6 16 ∧ M 6 16 ≤ 9999) ∧ (0 ≤ M 6 15 ∧ M 6 15 ≤ 9000) ∧ (∀ f : Int, 0 ≤ f → f < M 1 0 → (0 ≤ M 2 f ∧ M 2 f ≤ 5) ∧ (1 ≤ M 6 (12 + f) ∧ M 6 (12 + f) ≤ 10)) ∧ (∀ i : Int, 0 ≤ i → i < M 1 1 → (0 ≤ M 3 i ∧ M 3 i ≤ 5) ∧ (1 ≤ M 4 i ∧ M 4 i ≤ 4) ∧ (0 ≤ M 5 i ∧ M 5 i < M 1 0) ∧ (0 ≤ M 6 i ∧ M 6 i ≤ 11) ∧ (0 ≤ M 6 (6 + i) ∧ M 6 (6 + i) ≤ 9)) ∧ (M 8 0 = 4 ∧ M 8 1 = 5 ∧ 0 ≤ M 8 3 ∧ M 8 3 ≤ 5) ∧ (M 10 0 = 3 ∧ M 10 1 = 6 ∧ 0 ≤ M 10 3 ∧ M 10 3 ≤ 6) ∧ (M 12 0 = 5 ∧ M 12 1 = 6 ∧ 0 ≤ M 12 3 ∧ M 12 3 ≤ 6) ∧ (∀ n : Int, 0 ≤ n → n < M 8 3 → (0 ≤ M 9 (n * 4 + 0) ∧ M 9 (n * 4 + 0) ≤ 2) ∧ (1 ≤ M 9 (n * 4 + 1) ∧ M 9 (n * 4 + 1) ≤ 10) ∧ (0 ≤ M 9 (n * 4 + 2) ∧ M 9 (n * 4 + 2) ≤ 23) ∧ (0 ≤ M 9 (n * 4 + 3) ∧ M 9 (n * 4 + 3) ≤ 1)) ∧ (∀ n : Int, 0 ≤ n → n < M 10 3 → (0 ≤ M 11 (n * 3 + 0) ∧ M 11 (n * 3 + 0) ≤ 2) ∧ (0 ≤ M 11 (n * 3 + 1) ∧ M 11 (n * 3 + 1) ≤ 23) ∧ (0 ≤ M 11 (n * 3 + 2) ∧ M 11 (n * 3 + 2) ≤ 9)) ∧ (∀ n : Int, 0 ≤ n → n < M 12 3 → (0 ≤ M 13 (n * 5 + 0) ∧ M 13 (n * 5 + 0) ≤ 5) ∧ (1 ≤ M 13 (n * 5 + 1) ∧ M 13 (n * 5 + 1) ≤ 4) ∧ (0 ≤ M 13 (n * 5 + 2) ∧ M 13 (n * 5 + 2) ≤ 9) ∧ (0 ≤ M 13 (n * 5 + 3) ∧ M 13 (n * 5 + 3) ≤ 23) ∧ (0 ≤ M 13 (n * 5 + 4) ∧ M 13 (n * 5 + 4) ≤ 9)) ∧ (∀ k : Int, 0 ≤ k → k < M 1 2 → (0 ≤ M 7 (k * 17 + 16) ∧ M 7 (k * 17 + 16) ≤ 9999) ∧ (0 ≤ M 7 (k * 17 + 15) ∧ M 7 (k * 17 + 15) ≤ 9000) ∧ (∀ f : Int, 0 ≤ f → f < M 1 0 → (1 ≤ M 7 (k * 17 + (12 + f)) ∧ M 7 (k * 17 + (12 + f)) ≤ 10)) ∧ (∀ i : Int, 0 ≤ i → i < M 1 1 → (0 ≤ M 7 (k * 17 + i) ∧ M 7 (k * 17 + i) ≤ 11) ∧ (0 ≤ M 7 (k * 17 + (6 + i)) ∧ M 7 (k * 17 + (6 + i)) ≤ 9))) from hI)
  refine Hx.run 8 (pc' := 15) (L' := [some (vr 0), some (vi f), some (vi 2046), some (vr 8), some (vi 0), none]) (st' := []) (M' := M) rfl ?_
  have h0 := cl_fitting f M hI hf 10 0 none (by omega) (by omega)
  rw [whs_0] at h0
  exact h0
set_option maxRecDepth 100000 in
theorem C_whose (f : Int) (M : Mm) (hI : HI M 1) (hs : (0 ≤ M 0 14 ∧ M 0 14 ≤ 600) ∧ (0 ≤ M 0 15 ∧ M 0 15 ≤ 600) ∧ (0 ≤ M 0 16 ∧ M 0 16 ≤ 600)) : Ct 79 [vr 0, vi f] M (fun q0 M' => (¬ (0 ≤ f ∧ f < M 1 0) ∧ q0 = some (vi (-2)) ∧ up M 0 14 (M 0 14 + 1) = M') ∨ ((0 ≤ f ∧ f < M 1 0) ∧ q0 = some (vi (whs (qC M) f (M 2 f) (M 8 3).toNat)) ∧ M = M')) := by
  obtain ⟨iF, iG, iK, iH, iFa, aF, aG, lS, lN, lM, rS, rN, rM, aK⟩ := (show (0 ≤ M 1 0 ∧ M 1 0 ≤ 3) ∧ (0 ≤ M 1 1 ∧ M 1 1 ≤ 6) ∧ (0 ≤ M 1 2 ∧ M 1 2 ≤ 8) ∧ (0 ≤ M 6 16 ∧ M 6 16 ≤ 9999) ∧ (0 ≤ M 6 15 ∧ M 6 15 ≤ 9000) ∧ (∀ f : Int, 0 ≤ f → f < M 1 0 → (0 ≤ M 2 f ∧ M 2 f ≤ 5) ∧ (1 ≤ M 6 (12 + f) ∧ M 6 (12 + f) ≤ 10)) ∧ (∀ i : Int, 0 ≤ i → i < M 1 1 → (0 ≤ M 3 i ∧ M 3 i ≤ 5) ∧ (1 ≤ M 4 i ∧ M 4 i ≤ 4) ∧ (0 ≤ M 5 i ∧ M 5 i < M 1 0) ∧ (0 ≤ M 6 i ∧ M 6 i ≤ 11) ∧ (0 ≤ M 6 (6 + i) ∧ M 6 (6 + i) ≤ 9)) ∧ (M 8 0 = 4 ∧ M 8 1 = 5 ∧ 0 ≤ M 8 3 ∧ M 8 3 ≤ 5) ∧ (M 10 0 = 3 ∧ M 10 1 = 6 ∧ 0 ≤ M 10 3 ∧ M 10 3 ≤ 6) ∧ (M 12 0 = 5 ∧ M 12 1 = 6 ∧ 0 ≤ M 12 3 ∧ M 12 3 ≤ 6) ∧ (∀ n : Int, 0 ≤ n → n < M 8 3 → (0 ≤ M 9 (n * 4 + 0) ∧ M 9 (n * 4 + 0) ≤ 2) ∧ (1 ≤ M 9 (n * 4 + 1) ∧ M 9 (n * 4 + 1) ≤ 10) ∧ (0 ≤ M 9 (n * 4 + 2) ∧ M 9 (n * 4 + 2) ≤ 23) ∧ (0 ≤ M 9 (n * 4 + 3) ∧ M 9 (n * 4 + 3) ≤ 1)) ∧ (∀ n : Int, 0 ≤ n → n < M 10 3 → (0 ≤ M 11 (n * 3 + 0) ∧ M 11 (n * 3 + 0) ≤ 2) ∧ (0 ≤ M 11 (n * 3 + 1) ∧ M 11 (n * 3 + 1) ≤ 23) ∧ (0 ≤ M 11 (n * 3 + 2) ∧ M 11 (n * 3 + 2) ≤ 9)) ∧ (∀ n : Int, 0 ≤ n → n < M 12 3 → (0 ≤ M 13 (n * 5 + 0) ∧ M 13 (n * 5 + 0) ≤ 5) ∧ (1 ≤ M 13 (n * 5 + 1) ∧ M 13 (n * 5 + 1) ≤ 4) ∧ (0 ≤ M 13 (n * 5 + 2) ∧ M 13 (n * 5 + 2) ≤ 9) ∧ (0 ≤ M 13 (n * 5 + 3) ∧ M 13 (n * 5 + 3) ≤ 23) ∧ (0 ≤ M 13 (n * 5 + 4) ∧ M 13 (n * 5 + 4) ≤ 9)) ∧ (∀ k : Int, 0 ≤ k → k < M 1 2 → (0 ≤ M 7 (k * 17 + 16) ∧ M 7 (k * 17 + 16) ≤ 9999) ∧ (0 ≤ M 7 (k * 17 + 15) ∧ M 7 (k * 17 + 15) ≤ 9000) ∧ (∀ f : Int, 0 ≤ f → f < M 1 0 → (1 ≤ M 7 (k * 17 + (12 + f)) ∧ M 7 (k * 17 + (12 + f)) ≤ 10)) ∧ (∀ i : Int, 0 ≤ i → i < M 1 1 → (0 ≤ M 7 (k * 17 + i) ∧ M 7 (k * 17 + i) ≤ 11) ∧ (0 ≤ M 7 (k * 17 + (6 + i)) ∧ M 7 (k * 17 + (6 + i)) ≤ 9))) from hI)
  refine Hx.run 3 (pc' := 5) (L' := [some (vr 0), some (vi f)]) (st' := [vi f, vr 1]) (M' := M) rfl ?_
  refine Hx.call (t := 7) (as := [vr 1, vi f]) (pc' := 8) (rest := []) rfl (c_hasFlight_1 f M) ?_
  rintro _ _ (⟨q106, rfl, rfl⟩ | ⟨q106, rfl, rfl⟩)
  · skip
    have fq106 := aF f q106.1 q106.2
    refine Hx.run 3 (pc' := 18) (L' := [some (vr 0), some (vi f)]) (st' := [vi f, vr 0]) (M' := M) rfl ?_
    refine Hx.call (t := 81) (as := [vr 0, vi f]) (pc' := 21) (rest := []) rfl (c_fitting f M hI (by omega)) ?_
    rintro _ _ ⟨rfl, rfl⟩
    refine Hx.run 0 (pc' := 21) (L' := [some (vr 0), some (vi f)]) (st' := [vi (whs (qC M) f (M 2 f) (M 8 3).toNat)]) (M' := M) rfl ?_
    refine Hx.ret rfl ?_
    first | exact Or.inl ⟨by omega, rfl, rfl⟩ | exact Or.inr ⟨by omega, rfl, rfl⟩
  · skip
    refine Hx.run 2 (pc' := 12) (L' := [some (vr 0), some (vi f)]) (st' := [vr 0]) (M' := M) rfl ?_
    refine Hx.call (t := 114) (as := [vr 0]) (pc' := 15) (rest := []) rfl (c_bad M (by omega)) ?_
    rintro _ _ ⟨rfl, rfl⟩
    refine Hx.run 0 (pc' := 15) (L' := [some (vr 0), some (vi f)]) (st' := [vi (-2)]) (M' := (up M 0 14 ((M 0 14) + 1))) rfl ?_
    refine Hx.ret rfl ?_
    first | exact Or.inl ⟨by omega, rfl, rfl⟩ | exact Or.inr ⟨by omega, rfl, rfl⟩
set_option maxRecDepth 100000 in
theorem rl_canBe (s : Int) (f : Int) (M : Mm) (hI : RI M 0) (hS : ∀ n : Int, 0 ≤ n → n < M 65 40 → (1 ≤ M 65 (41 + 4 * n + 1) ∧ M 65 (41 + 4 * n + 1) ≤ 10) ∧ (0 ≤ M 65 (41 + 4 * n + 2) ∧ M 65 (41 + 4 * n + 2) ≤ 23)) (hf : 0 ≤ f ∧ f < M 65 0) (hs : 1 ≤ s ∧ s ≤ 10) : ∀ (kk : Nat) (n : Nat) (jf : Option PV), (n : Int) ≤ M 65 40 → M 65 40 - (n : Int) < (kk : Int) → Hx 193 5 [some (vr 64), some (vi f), some (vi s), some (vi (cbI (qR M) f (M 65 (4 + f)) s n)), some (vi (n : Int)), jf] [] M (fun q0 M' => q0 = some (vi (cbI (qR M) f (M 65 (4 + f)) s (M 65 40).toNat)) ∧ M = M') := by
  intro kk
  induction kk with
  | zero => intro n jf _ hkk; exact absurd hkk (by omega)
  | succ kk ih =>
    intro n jf hn hkk
    obtain ⟨r0, r1, r2, r3, r40, r61, r80, r111, rF, rG⟩ := (show (0 ≤ M 65 0 ∧ M 65 0 ≤ 3) ∧ (0 ≤ M 65 1 ∧ M 65 1 ≤ 6) ∧ (0 ≤ M 65 2 ∧ M 65 2 ≤ 9999) ∧ (0 ≤ M 65 3 ∧ M 65 3 ≤ 9000) ∧ (0 ≤ M 65 40 ∧ M 65 40 ≤ 5) ∧ (0 ≤ M 65 61 ∧ M 65 61 ≤ 6) ∧ (0 ≤ M 65 80 ∧ M 65 80 ≤ 6) ∧ (0 ≤ M 65 111 ∧ M 65 111 ≤ 8) ∧ (∀ f : Int, 0 ≤ f → f < M 65 0 → (0 ≤ M 65 (4 + f) ∧ M 65 (4 + f) ≤ 5) ∧ (1 ≤ M 65 (7 + f) ∧ M 65 (7 + f) ≤ 10)) ∧ (∀ i : Int, 0 ≤ i → i < M 65 1 → (0 ≤ M 65 (10 + i) ∧ M 65 (10 + i) ≤ 5) ∧ (1 ≤ M 65 (16 + i) ∧ M 65 (16 + i) ≤ 4) ∧ (0 ≤ M 65 (22 + i) ∧ M 65 (22 + i) < M 65 0) ∧ (0 ≤ M 65 (28 + i) ∧ M 65 (28 + i) ≤ 11) ∧ (0 ≤ M 65 (34 + i) ∧ M 65 (34 + i) ≤ 9)) from hI)
    have gF := rF f (by omega) (by omega)
    have c01 := cbI_01 (qR M) f (M 65 (4 + f)) s n
    refine Hx.run 5 (pc' := 14) (L' := [some (vr 64), some (vi f), some (vi s), some (vi (cbI (qR M) f (M 65 (4 + f)) s n)), some (vi (n : Int)), jf]) (st' := [vi (M 65 40), vi (n : Int)]) (M' := M) rfl ?_
    refine Hx.br (c := (n : Int) < (M 65 40)) (t := 17) (f := 107) rfl (fun h1 => ?_) (fun h1 => ?_)
    · skip
      first | (have gS := hS (n : Int) (by omega) (by omega)) | skip
      have bq := bcF_rng (k := (M 65 (4 + f))) (t := M 65 (41 + 4 * (n : Int) + 2))
      refine Hx.run 3 (pc' := 22) (L' := [some (vr 64), some (vi f), some (vi s), some (vi (cbI (qR M) f (M 65 (4 + f)) s n)), some (vi (n : Int)), jf]) (st' := [vi (n : Int), vi 4, vi 41]) (M' := M) rfl ?_
      refine Hx.mul rfl (by omega) ?_
      refine Hx.add rfl (by omega) ?_
      refine Hx.run 2 (pc' := 27) (L' := [some (vr 64), some (vi f), some (vi s), some (vi (cbI (qR M) f (M 65 (4 + f)) s n)), some (vi (n : Int)), some (vi (41 + (4 * (n : Int))))]) (st' := [vi (cbI (qR M) f (M 65 (4 + f)) s n)]) (M' := M) rfl ?_
      refine Hx.br (c := (cbI (qR M) f (M 65 (4 + f)) s n) = 0) (t := 99) (f := 30) rfl (fun h2 => ?_) (fun h2 => ?_)
      · skip
        refine Hx.run 2 (pc' := 101) (L' := [some (vr 64), some (vi f), some (vi s), some (vi 0), some (vi (n : Int)), some (vi (41 + (4 * (n : Int))))]) (st' := []) (M' := M) rfl ?_
        refine Hx.inc rfl rfl (by omega) ?_
        refine Hx.run 0 (pc' := 104) (L' := [some (vr 64), some (vi f), some (vi s), some (vi 0), some (vi ((n : Int) + 1)), some (vi (41 + (4 * (n : Int))))]) (st' := []) (M' := M) rfl ?_
        refine Hx.run 1 (pc' := 5) (L' := [some (vr 64), some (vi f), some (vi s), some (vi 0), some (vi ((n : Int) + 1)), some (vi (41 + (4 * (n : Int))))]) (st' := []) (M' := M) rfl ?_
        have e : cbI (qR M) f (M 65 (4 + f)) s (n + 1) = 0 := by
          first
            | exact cbI_off (by omega)
            | (rw [cbI_skip (by rw [qR_0]; assumption)]; omega)
            | exact cbI_both (by omega) (by unfold qR; omega)
            | exact cbI_diff (by rw [qR_0]; assumption) (by unfold qR; omega)
        have h9 := ih (n + 1) (some (vi (41 + (4 * (n : Int))))) (by omega) (by omega)
        rw [e] at h9
        exact h9
      · skip
        refine Hx.run 3 (pc' := 36) (L' := [some (vr 64), some (vi f), some (vi s), some (vi (cbI (qR M) f (M 65 (4 + f)) s n)), some (vi (n : Int)), some (vi (41 + (4 * (n : Int))))]) (st' := [vi (41 + (4 * (n : Int))), vr 65]) (M' := M) rfl ?_
        refine Hx.aldI (n := 1032) rfl rfl (by omega) ?_
        refine Hx.run 1 (pc' := 38) (L' := [some (vr 64), some (vi f), some (vi s), some (vi (cbI (qR M) f (M 65 (4 + f)) s n)), some (vi (n : Int)), some (vi (41 + (4 * (n : Int))))]) (st' := [vi f, vi (M 65 (41 + (4 * (n : Int))))]) (M' := M) rfl ?_
        refine Hx.br (c := (M 65 (41 + (4 * (n : Int)))) = f) (t := 41) (f := 95) rfl (fun h3 => ?_) (fun h3 => ?_)
        · skip
          refine Hx.run 4 (pc' := 47) (L' := [some (vr 64), some (vi f), some (vi s), some (vi (cbI (qR M) f (M 65 (4 + f)) s n)), some (vi (n : Int)), some (vi (41 + (4 * (n : Int))))]) (st' := [vi f, vi 4, vr 65]) (M' := M) rfl ?_
          refine Hx.add rfl (by omega) ?_
          refine Hx.aldI (n := 1032) rfl rfl (by omega) ?_
          refine Hx.run 5 (pc' := 57) (L' := [some (vr 64), some (vi f), some (vi s), some (vi (cbI (qR M) f (M 65 (4 + f)) s n)), some (vi (n : Int)), some (vi (41 + (4 * (n : Int))))]) (st' := [vi 2, vi (41 + (4 * (n : Int))), vr 65, vi s, vi (M 65 (4 + f))]) (M' := M) rfl ?_
          refine Hx.add rfl (by omega) ?_
          refine Hx.aldI (n := 1032) rfl rfl (by omega) ?_
          refine Hx.call (t := 145) (as := [vi (M 65 (4 + f)), vi s, vi (M 65 ((41 + (4 * (n : Int))) + 2))]) (pc' := 62) (rest := []) rfl (r_barsFrom (M 65 (4 + f)) s (M 65 ((41 + (4 * (n : Int))) + 2)) M (by omega) (by omega) (by omega)) ?_
          rintro _ _ ⟨rfl, rfl⟩
          refine Hx.run 0 (pc' := 62) (L' := [some (vr 64), some (vi f), some (vi s), some (vi (cbI (qR M) f (M 65 (4 + f)) s n)), some (vi (n : Int)), some (vi (41 + (4 * (n : Int))))]) (st' := [vi (bb s (bcF (M 65 (4 + f)) (M 65 ((41 + (4 * (n : Int))) + 2))))]) (M' := M) rfl ?_
          refine Hx.run 4 (pc' := 69) (L' := [some (vr 64), some (vi f), some (vi s), some (vi (cbI (qR M) f (M 65 (4 + f)) s n)), some (vi (n : Int)), some (vi (41 + (4 * (n : Int))))]) (st' := [vi 1, vi (41 + (4 * (n : Int))), vr 65, vi (bb s (bcF (M 65 (4 + f)) (M 65 ((41 + (4 * (n : Int))) + 2))))]) (M' := M) rfl ?_
          refine Hx.add rfl (by omega) ?_
          refine Hx.aldI (n := 1032) rfl rfl (by omega) ?_
          refine Hx.call (t := 131) (as := [vi (bb s (bcF (M 65 (4 + f)) (M 65 ((41 + (4 * (n : Int))) + 2)))), vi (M 65 ((41 + (4 * (n : Int))) + 1))]) (pc' := 74) (rest := []) rfl (r_hasBB s (bcF (M 65 (4 + f)) (M 65 ((41 + (4 * (n : Int))) + 2))) (M 65 ((41 + (4 * (n : Int))) + 1)) M (by omega) (by omega) (by omega)) ?_
          rintro _ _ (⟨q107, rfl, rfl⟩ | ⟨q107, rfl, rfl⟩)
          · skip
            refine Hx.run 4 (pc' := 81) (L' := [some (vr 64), some (vi f), some (vi s), some (vi (cbI (qR M) f (M 65 (4 + f)) s n)), some (vi (n : Int)), some (vi (41 + (4 * (n : Int))))]) (st' := [vi 3, vi (41 + (4 * (n : Int))), vr 65, vi 1]) (M' := M) rfl ?_
            refine Hx.add rfl (by omega) ?_
            refine Hx.aldI (n := 1032) rfl rfl (by omega) ?_
            refine Hx.run 1 (pc' := 84) (L' := [some (vr 64), some (vi f), some (vi s), some (vi (cbI (qR M) f (M 65 (4 + f)) s n)), some (vi (n : Int)), some (vi (41 + (4 * (n : Int))))]) (st' := [vi 1, vi (M 65 ((41 + (4 * (n : Int))) + 3)), vi 1]) (M' := M) rfl ?_
            refine Hx.br (c := (M 65 ((41 + (4 * (n : Int))) + 3)) = 1) (t := 87) (f := 91) rfl (fun h4 => ?_) (fun h4 => ?_)
            · skip
              refine Hx.run 6 (pc' := 101) (L' := [some (vr 64), some (vi f), some (vi s), some (vi 1), some (vi (n : Int)), some (vi (41 + (4 * (n : Int))))]) (st' := []) (M' := M) rfl ?_
              refine Hx.inc rfl rfl (by omega) ?_
              refine Hx.run 0 (pc' := 104) (L' := [some (vr 64), some (vi f), some (vi s), some (vi 1), some (vi ((n : Int) + 1)), some (vi (41 + (4 * (n : Int))))]) (st' := []) (M' := M) rfl ?_
              refine Hx.run 1 (pc' := 5) (L' := [some (vr 64), some (vi f), some (vi s), some (vi 1), some (vi ((n : Int) + 1)), some (vi (41 + (4 * (n : Int))))]) (st' := []) (M' := M) rfl ?_
              have e : cbI (qR M) f (M 65 (4 + f)) s (n + 1) = 1 := by
                first
                  | exact cbI_off (by omega)
                  | (rw [cbI_skip (by rw [qR_0]; assumption)]; omega)
                  | exact cbI_both (by omega) (by unfold qR; omega)
                  | exact cbI_diff (by rw [qR_0]; assumption) (by unfold qR; omega)
              have h9 := ih (n + 1) (some (vi (41 + (4 * (n : Int))))) (by omega) (by omega)
              rw [e] at h9
              exact h9
            · skip
              refine Hx.run 4 (pc' := 101) (L' := [some (vr 64), some (vi f), some (vi s), some (vi 0), some (vi (n : Int)), some (vi (41 + (4 * (n : Int))))]) (st' := []) (M' := M) rfl ?_
              refine Hx.inc rfl rfl (by omega) ?_
              refine Hx.run 0 (pc' := 104) (L' := [some (vr 64), some (vi f), some (vi s), some (vi 0), some (vi ((n : Int) + 1)), some (vi (41 + (4 * (n : Int))))]) (st' := []) (M' := M) rfl ?_
              refine Hx.run 1 (pc' := 5) (L' := [some (vr 64), some (vi f), some (vi s), some (vi 0), some (vi ((n : Int) + 1)), some (vi (41 + (4 * (n : Int))))]) (st' := []) (M' := M) rfl ?_
              have e : cbI (qR M) f (M 65 (4 + f)) s (n + 1) = 0 := by
                first
                  | exact cbI_off (by omega)
                  | (rw [cbI_skip (by rw [qR_0]; assumption)]; omega)
                  | exact cbI_both (by omega) (by unfold qR; omega)
                  | exact cbI_diff (by rw [qR_0]; assumption) (by unfold qR; omega)
              have h9 := ih (n + 1) (some (vi (41 + (4 * (n : Int))))) (by omega) (by omega)
              rw [e] at h9
              exact h9
          · skip
            refine Hx.run 4 (pc' := 81) (L' := [some (vr 64), some (vi f), some (vi s), some (vi (cbI (qR M) f (M 65 (4 + f)) s n)), some (vi (n : Int)), some (vi (41 + (4 * (n : Int))))]) (st' := [vi 3, vi (41 + (4 * (n : Int))), vr 65, vi 0]) (M' := M) rfl ?_
            refine Hx.add rfl (by omega) ?_
            refine Hx.aldI (n := 1032) rfl rfl (by omega) ?_
            refine Hx.run 1 (pc' := 84) (L' := [some (vr 64), some (vi f), some (vi s), some (vi (cbI (qR M) f (M 65 (4 + f)) s n)), some (vi (n : Int)), some (vi (41 + (4 * (n : Int))))]) (st' := [vi 1, vi (M 65 ((41 + (4 * (n : Int))) + 3)), vi 0]) (M' := M) rfl ?_
            refine Hx.br (c := (M 65 ((41 + (4 * (n : Int))) + 3)) = 1) (t := 87) (f := 91) rfl (fun h5 => ?_) (fun h5 => ?_)
            · skip
              refine Hx.run 5 (pc' := 101) (L' := [some (vr 64), some (vi f), some (vi s), some (vi 0), some (vi (n : Int)), some (vi (41 + (4 * (n : Int))))]) (st' := []) (M' := M) rfl ?_
              refine Hx.inc rfl rfl (by omega) ?_
              refine Hx.run 0 (pc' := 104) (L' := [some (vr 64), some (vi f), some (vi s), some (vi 0), some (vi ((n : Int) + 1)), some (vi (41 + (4 * (n : Int))))]) (st' := []) (M' := M) rfl ?_
              refine Hx.run 1 (pc' := 5) (L' := [some (vr 64), some (vi f), some (vi s), some (vi 0), some (vi ((n : Int) + 1)), some (vi (41 + (4 * (n : Int))))]) (st' := []) (M' := M) rfl ?_
              have e : cbI (qR M) f (M 65 (4 + f)) s (n + 1) = 0 := by
                first
                  | exact cbI_off (by omega)
                  | (rw [cbI_skip (by rw [qR_0]; assumption)]; omega)
                  | exact cbI_both (by omega) (by unfold qR; omega)
                  | exact cbI_diff (by rw [qR_0]; assumption) (by unfold qR; omega)
              have h9 := ih (n + 1) (some (vi (41 + (4 * (n : Int))))) (by omega) (by omega)
              rw [e] at h9
              exact h9
            · skip
              refine Hx.run 5 (pc' := 101) (L' := [some (vr 64), some (vi f), some (vi s), some (vi 1), some (vi (n : Int)), some (vi (41 + (4 * (n : Int))))]) (st' := []) (M' := M) rfl ?_
              refine Hx.inc rfl rfl (by omega) ?_
              refine Hx.run 0 (pc' := 104) (L' := [some (vr 64), some (vi f), some (vi s), some (vi 1), some (vi ((n : Int) + 1)), some (vi (41 + (4 * (n : Int))))]) (st' := []) (M' := M) rfl ?_
              refine Hx.run 1 (pc' := 5) (L' := [some (vr 64), some (vi f), some (vi s), some (vi 1), some (vi ((n : Int) + 1)), some (vi (41 + (4 * (n : Int))))]) (st' := []) (M' := M) rfl ?_
              have e : cbI (qR M) f (M 65 (4 + f)) s (n + 1) = 1 := by
                first
                  | exact cbI_off (by omega)
                  | (rw [cbI_skip (by rw [qR_0]; assumption)]; omega)
                  | exact cbI_both (by omega) (by unfold qR; omega)
                  | exact cbI_diff (by rw [qR_0]; assumption) (by unfold qR; omega)
              have h9 := ih (n + 1) (some (vi (41 + (4 * (n : Int))))) (by omega) (by omega)
              rw [e] at h9
              exact h9
        · skip
          refine Hx.run 3 (pc' := 101) (L' := [some (vr 64), some (vi f), some (vi s), some (vi 1), some (vi (n : Int)), some (vi (41 + (4 * (n : Int))))]) (st' := []) (M' := M) rfl ?_
          refine Hx.inc rfl rfl (by omega) ?_
          refine Hx.run 0 (pc' := 104) (L' := [some (vr 64), some (vi f), some (vi s), some (vi 1), some (vi ((n : Int) + 1)), some (vi (41 + (4 * (n : Int))))]) (st' := []) (M' := M) rfl ?_
          refine Hx.run 1 (pc' := 5) (L' := [some (vr 64), some (vi f), some (vi s), some (vi 1), some (vi ((n : Int) + 1)), some (vi (41 + (4 * (n : Int))))]) (st' := []) (M' := M) rfl ?_
          have e : cbI (qR M) f (M 65 (4 + f)) s (n + 1) = 1 := by
            first
              | exact cbI_off (by omega)
              | (rw [cbI_skip (by rw [qR_0]; assumption)]; omega)
              | exact cbI_both (by omega) (by unfold qR; omega)
              | exact cbI_diff (by rw [qR_0]; assumption) (by unfold qR; omega)
          have h9 := ih (n + 1) (some (vi (41 + (4 * (n : Int))))) (by omega) (by omega)
          rw [e] at h9
          exact h9
    · skip
      first | (have gS := hS (n : Int) (by omega) (by omega)) | skip
      have bq := bcF_rng (k := (M 65 (4 + f))) (t := M 65 (41 + 4 * (n : Int) + 2))
      refine Hx.run 1 (pc' := 108) (L' := [some (vr 64), some (vi f), some (vi s), some (vi (cbI (qR M) f (M 65 (4 + f)) s n)), some (vi (n : Int)), jf]) (st' := [vi (cbI (qR M) f (M 65 (4 + f)) s n)]) (M' := M) rfl ?_
      refine Hx.retB rfl rfl (by omega) ?_
      exact ⟨by rw [show (M 65 40).toNat = n by omega], rfl⟩
set_option maxRecDepth 100000 in
theorem r_canBe (s : Int) (f : Int) (M : Mm) (hI : RI M 0) (hS : ∀ n : Int, 0 ≤ n → n < M 65 40 → (1 ≤ M 65 (41 + 4 * n + 1) ∧ M 65 (41 + 4 * n + 1) ≤ 10) ∧ (0 ≤ M 65 (41 + 4 * n + 2) ∧ M 65 (41 + 4 * n + 2) ≤ 23)) (hf : 0 ≤ f ∧ f < M 65 0) (hs : 1 ≤ s ∧ s ≤ 10) : Ct 193 [vr 64, vi f, vi s] M (fun q0 M' => q0 = some (vi (cbI (qR M) f (M 65 (4 + f)) s (M 65 40).toNat)) ∧ M = M') := by
  obtain ⟨r0, r1, r2, r3, r40, r61, r80, r111, rF, rG⟩ := (show (0 ≤ M 65 0 ∧ M 65 0 ≤ 3) ∧ (0 ≤ M 65 1 ∧ M 65 1 ≤ 6) ∧ (0 ≤ M 65 2 ∧ M 65 2 ≤ 9999) ∧ (0 ≤ M 65 3 ∧ M 65 3 ≤ 9000) ∧ (0 ≤ M 65 40 ∧ M 65 40 ≤ 5) ∧ (0 ≤ M 65 61 ∧ M 65 61 ≤ 6) ∧ (0 ≤ M 65 80 ∧ M 65 80 ≤ 6) ∧ (0 ≤ M 65 111 ∧ M 65 111 ≤ 8) ∧ (∀ f : Int, 0 ≤ f → f < M 65 0 → (0 ≤ M 65 (4 + f) ∧ M 65 (4 + f) ≤ 5) ∧ (1 ≤ M 65 (7 + f) ∧ M 65 (7 + f) ≤ 10)) ∧ (∀ i : Int, 0 ≤ i → i < M 65 1 → (0 ≤ M 65 (10 + i) ∧ M 65 (10 + i) ≤ 5) ∧ (1 ≤ M 65 (16 + i) ∧ M 65 (16 + i) ≤ 4) ∧ (0 ≤ M 65 (22 + i) ∧ M 65 (22 + i) < M 65 0) ∧ (0 ≤ M 65 (28 + i) ∧ M 65 (28 + i) ≤ 11) ∧ (0 ≤ M 65 (34 + i) ∧ M 65 (34 + i) ≤ 9)) from hI)
  refine Hx.run 4 (pc' := 5) (L' := [some (vr 64), some (vi f), some (vi s), some (vi 1), some (vi 0), none]) (st' := []) (M' := M) rfl ?_
  exact rl_canBe s f M hI hS hf hs 10 0 none (by omega) (by omega)
theorem p11 {n : Nat} (h : n ≤ 11) : (2 : Int) ^ n ≤ 2048 := by
  have h3 : 2 ^ n ≤ 2 ^ 11 := Nat.pow_le_pow_right (by decide) h
  have e : (2 : Int) ^ n = ((2 ^ n : Nat) : Int) := by simp
  rw [e]; omega
set_option maxRecDepth 100000 in
theorem rl_whoseOf (f : Int) (M : Mm) (hI : RI M 0) (hS : ∀ n : Int, 0 ≤ n → n < M 65 40 → (1 ≤ M 65 (41 + 4 * n + 1) ∧ M 65 (41 + 4 * n + 1) ≤ 10) ∧ (0 ≤ M 65 (41 + 4 * n + 2) ∧ M 65 (41 + 4 * n + 2) ≤ 23)) (hf : 0 ≤ f ∧ f < M 65 0) : ∀ (kk : Nat) (n : Nat), n ≤ 10 → 10 - (n : Int) < (kk : Int) → Hx 194 4 [some (vr 64), some (vi f), some (vi (bS (gR M f) (n + 1))), some (vi ((n : Int) + 1))] [] M (fun q0 M' => q0 = some (vi (whs (qR M) f (M 65 (4 + f)) (M 65 40).toNat)) ∧ M = M') := by
  intro kk
  induction kk with
  | zero => intro n _ hkk; exact absurd hkk (by omega)
  | succ kk ih =>
    intro n hn hkk
    have cc := gR_e M f n
    refine Hx.run 2 (pc' := 7) (L' := [some (vr 64), some (vi f), some (vi (bS (gR M f) (n + 1))), some (vi ((n : Int) + 1))]) (st' := [vi 10, vi ((n : Int) + 1)]) (M' := M) rfl ?_
    refine Hx.br (c := 10 < ((n : Int) + 1)) (t := 35) (f := 10) rfl (fun h1 => ?_) (fun h1 => ?_)
    · skip
      refine Hx.run 1 (pc' := 36) (L' := [some (vr 64), some (vi f), some (vi (bS (gR M f) (n + 1))), some (vi ((n : Int) + 1))]) (st' := [vi (bS (gR M f) (n + 1))]) (M' := M) rfl ?_
      refine Hx.ret rfl ?_
      have e : n = 10 := by omega
      subst e
      exact ⟨some_vi (whs_gR M f), rfl⟩
    · skip
      refine Hx.run 4 (pc' := 14) (L' := [some (vr 64), some (vi f), some (vi (bS (gR M f) (n + 1))), some (vi ((n : Int) + 1))]) (st' := [vi ((n : Int) + 1), vi f, vr 64, vi (bS (gR M f) (n + 1))]) (M' := M) rfl ?_
      refine Hx.call (t := 193) (as := [vr 64, vi f, vi ((n : Int) + 1)]) (pc' := 17) (rest := [vi (bS (gR M f) (n + 1))]) rfl (r_canBe ((n : Int) + 1) f M hI hS hf (by omega)) ?_
      rintro _ _ ⟨rfl, rfl⟩
      refine Hx.run 0 (pc' := 17) (L' := [some (vr 64), some (vi f), some (vi (bS (gR M f) (n + 1))), some (vi ((n : Int) + 1))]) (st' := [vi (cbI (qR M) f (M 65 (4 + f)) ((n : Int) + 1) (M 65 40).toNat), vi (bS (gR M f) (n + 1))]) (M' := M) rfl ?_
      refine Hx.br (c := (cbI (qR M) f (M 65 (4 + f)) ((n : Int) + 1) (M 65 40).toNat) = 0) (t := 26) (f := 20) rfl (fun h2 => ?_) (fun h2 => ?_)
      · skip
        refine Hx.run 3 (pc' := 29) (L' := [some (vr 64), some (vi f), some (vi (i2 fior (bS (gR M f) (n + 1)) 0)), some (vi ((n : Int) + 1))]) (st' := []) (M' := M) rfl ?_
        refine Hx.inc rfl rfl (by omega) ?_
        refine Hx.run 0 (pc' := 32) (L' := [some (vr 64), some (vi f), some (vi (i2 fior (bS (gR M f) (n + 1)) 0)), some (vi (((n : Int) + 1) + 1))]) (st' := []) (M' := M) rfl ?_
        refine Hx.run 1 (pc' := 4) (L' := [some (vr 64), some (vi f), some (vi (i2 fior (bS (gR M f) (n + 1)) 0)), some (vi (((n : Int) + 1) + 1))]) (st' := []) (M' := M) rfl ?_
        have e : (i2 fior (bS (gR M f) (n + 1)) 0) = bS (gR M f) (n + 1 + 1) := by
          (rw [or0 ⟨(bS_rng (gR M f) (n + 1)).1, by have := (bS_rng (gR M f) (n + 1)).2; have := p11 (n := n + 1) (by omega); omega⟩]; exact bS_no (by (rcases cc with z | z; omega; exact z.2)))
        rw [e]
        exact ih (n + 1) (by omega) (by omega)
      · skip
        refine Hx.run 6 (pc' := 29) (L' := [some (vr 64), some (vi f), some (vi (i2 fior (bS (gR M f) (n + 1)) (i2 fshl 1 ((n : Int) + 1)))), some (vi ((n : Int) + 1))]) (st' := []) (M' := M) rfl ?_
        refine Hx.inc rfl rfl (by omega) ?_
        refine Hx.run 0 (pc' := 32) (L' := [some (vr 64), some (vi f), some (vi (i2 fior (bS (gR M f) (n + 1)) (i2 fshl 1 ((n : Int) + 1)))), some (vi (((n : Int) + 1) + 1))]) (st' := []) (M' := M) rfl ?_
        refine Hx.run 1 (pc' := 4) (L' := [some (vr 64), some (vi f), some (vi (i2 fior (bS (gR M f) (n + 1)) (i2 fshl 1 ((n : Int) + 1)))), some (vi (((n : Int) + 1) + 1))]) (st' := []) (M' := M) rfl ?_
        have e : (i2 fior (bS (gR M f) (n + 1)) (i2 fshl 1 ((n : Int) + 1))) = bS (gR M f) (n + 1 + 1) := by
          exact bS_one (f := gR M f) (n := n + 1) (by omega) (by (rcases cc with z | z; exact z.2; omega))
        rw [e]
        exact ih (n + 1) (by omega) (by omega)
set_option maxRecDepth 100000 in
theorem r_whoseOf (f : Int) (M : Mm) (hI : RI M 0) (hS : ∀ n : Int, 0 ≤ n → n < M 65 40 → (1 ≤ M 65 (41 + 4 * n + 1) ∧ M 65 (41 + 4 * n + 1) ≤ 10) ∧ (0 ≤ M 65 (41 + 4 * n + 2) ∧ M 65 (41 + 4 * n + 2) ≤ 23)) (hf : 0 ≤ f ∧ f < M 65 0) : Ct 194 [vr 64, vi f] M (fun q0 M' => q0 = some (vi (whs (qR M) f (M 65 (4 + f)) (M 65 40).toNat)) ∧ M = M') := by
  refine Hx.run 4 (pc' := 4) (L' := [some (vr 64), some (vi f), some (vi 0), some (vi 1)]) (st' := []) (M' := M) rfl ?_
  have h0 := rl_whoseOf f M hI hS hf 20 0 (by omega) (by omega)
  rw [gR_0] at h0
  exact h0
set_option maxRecDepth 100000 in
theorem R_whose (f : Int) (M : Mm) (hI : RI M 0) (hs : (0 ≤ M 68 0 ∧ M 68 0 ≤ 600) ∧ (0 ≤ M 68 1 ∧ M 68 1 ≤ 600) ∧ (0 ≤ M 68 2 ∧ M 68 2 ≤ 600)) (hS : ∀ n : Int, 0 ≤ n → n < M 65 40 → (1 ≤ M 65 (41 + 4 * n + 1) ∧ M 65 (41 + 4 * n + 1) ≤ 10) ∧ (0 ≤ M 65 (41 + 4 * n + 2) ∧ M 65 (41 + 4 * n + 2) ≤ 23)) : Ct 195 [vr 64, vi f] M (fun q0 M' => (¬ (0 ≤ f ∧ f < M 65 0) ∧ q0 = some (vi (-2)) ∧ up M 68 0 (M 68 0 + 1) = M') ∨ ((0 ≤ f ∧ f < M 65 0) ∧ q0 = some (vi (whs (qR M) f (M 65 (4 + f)) (M 65 40).toNat)) ∧ M = M')) := by
  obtain ⟨r0, r1, r2, r3, r40, r61, r80, r111, rF, rG⟩ := (show (0 ≤ M 65 0 ∧ M 65 0 ≤ 3) ∧ (0 ≤ M 65 1 ∧ M 65 1 ≤ 6) ∧ (0 ≤ M 65 2 ∧ M 65 2 ≤ 9999) ∧ (0 ≤ M 65 3 ∧ M 65 3 ≤ 9000) ∧ (0 ≤ M 65 40 ∧ M 65 40 ≤ 5) ∧ (0 ≤ M 65 61 ∧ M 65 61 ≤ 6) ∧ (0 ≤ M 65 80 ∧ M 65 80 ≤ 6) ∧ (0 ≤ M 65 111 ∧ M 65 111 ≤ 8) ∧ (∀ f : Int, 0 ≤ f → f < M 65 0 → (0 ≤ M 65 (4 + f) ∧ M 65 (4 + f) ≤ 5) ∧ (1 ≤ M 65 (7 + f) ∧ M 65 (7 + f) ≤ 10)) ∧ (∀ i : Int, 0 ≤ i → i < M 65 1 → (0 ≤ M 65 (10 + i) ∧ M 65 (10 + i) ≤ 5) ∧ (1 ≤ M 65 (16 + i) ∧ M 65 (16 + i) ≤ 4) ∧ (0 ≤ M 65 (22 + i) ∧ M 65 (22 + i) < M 65 0) ∧ (0 ≤ M 65 (28 + i) ∧ M 65 (28 + i) ≤ 11) ∧ (0 ≤ M 65 (34 + i) ∧ M 65 (34 + i) ≤ 9)) from hI)
  refine Hx.run 2 (pc' := 2) (L' := [some (vr 64), some (vi f)]) (st' := [vi f, vr 64]) (M' := M) rfl ?_
  refine Hx.call (t := 138) (as := [vr 64, vi f]) (pc' := 5) (rest := []) rfl (r_isFlight f M (by omega)) ?_
  rintro _ _ (⟨q108, rfl, rfl⟩ | ⟨q108, rfl, rfl⟩)
  · skip
    have fq108 := rF f q108.1 q108.2
    refine Hx.run 3 (pc' := 10) (L' := [some (vr 64), some (vi f)]) (st' := [vi f, vr 64]) (M' := M) rfl ?_
    refine Hx.call (t := 194) (as := [vr 64, vi f]) (pc' := 13) (rest := []) rfl (r_whoseOf f M hI hS (by omega)) ?_
    rintro _ _ ⟨rfl, rfl⟩
    refine Hx.run 0 (pc' := 13) (L' := [some (vr 64), some (vi f)]) (st' := [vi (whs (qR M) f (M 65 (4 + f)) (M 65 40).toNat)]) (M' := M) rfl ?_
    refine Hx.run 1 (pc' := 22) (L' := [some (vr 64), some (vi f)]) (st' := [vi (whs (qR M) f (M 65 (4 + f)) (M 65 40).toNat)]) (M' := M) rfl ?_
    refine Hx.ret rfl ?_
    first | exact Or.inl ⟨by omega, rfl, rfl⟩ | exact Or.inr ⟨by omega, rfl, rfl⟩
  · skip
    refine Hx.run 3 (pc' := 19) (L' := [some (vr 64), some (vi f)]) (st' := [vi (-2), vr 64]) (M' := M) rfl ?_
    refine Hx.call (t := 132) (as := [vr 64, vi (-2)]) (pc' := 22) (rest := []) rfl (r_bad (-2) M (by omega)) ?_
    rintro _ _ ⟨rfl, rfl⟩
    refine Hx.run 0 (pc' := 22) (L' := [some (vr 64), some (vi f)]) (st' := [vi (-2)]) (M' := (up M 68 0 ((M 68 0) + 1))) rfl ?_
    refine Hx.ret rfl ?_
    first | exact Or.inl ⟨by omega, rfl, rfl⟩ | exact Or.inr ⟨by omega, rfl, rfl⟩
