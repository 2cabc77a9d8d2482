/-! stuck (written by wip/whole/gen37.py) -/
def stC (M : Mm) (m : Nat) : Bool := decide (1000000 ≤ TV (sfF (M 3 m) (M 4 m) (M 6 (6 + (m : Int))) (M 6 16 % 24)) (bb (M 6 (12 + M 5 m)) (bcF (M 2 (M 5 m)) (M 6 16 % 24))) (M 6 m))
def stR (M : Mm) (m : Nat) : Bool := decide (1000000 ≤ TV (sfF (M 65 (10 + (m : Int))) (M 65 (16 + (m : Int))) (M 65 (34 + (m : Int))) (M 65 2 % 24)) (bb (M 65 (7 + M 65 (22 + (m : Int)))) (bcF (M 65 (4 + M 65 (22 + (m : Int)))) (M 65 2 % 24))) (M 65 (28 + (m : Int))))
theorem s54 {M : Mm} {F : Int → Int} {r : Nat} (h : r ≠ 54) : sr M 54 F r = M r := sr_ne h
theorem s54_1 {M : Mm} {F : Int → Int} : sr M 54 F 1 = M 1 := sr_ne (by decide)
theorem s54_2 {M : Mm} {F : Int → Int} : sr M 54 F 2 = M 2 := sr_ne (by decide)
theorem s54_3 {M : Mm} {F : Int → Int} : sr M 54 F 3 = M 3 := sr_ne (by decide)
theorem s54_4 {M : Mm} {F : Int → Int} : sr M 54 F 4 = M 4 := sr_ne (by decide)
theorem s54_5 {M : Mm} {F : Int → Int} : sr M 54 F 5 = M 5 := sr_ne (by decide)
theorem s54_6 {M : Mm} {F : Int → Int} : sr M 54 F 6 = M 6 := sr_ne (by decide)
theorem p31 {n : Nat} (h : n ≤ 6) : (2 : Int) ^ n ≤ 64 := by
  rcases (show n = 0 ∨ n = 1 ∨ n = 2 ∨ n = 3 ∨ n = 4 ∨ n = 5 ∨ n = 6 by omega) with rfl | rfl | rfl | rfl | rfl | rfl | rfl <;> decide
set_option maxRecDepth 100000 in
theorem cl_stuck (M : Mm) (hI : HI M 1) : ∀ (kk : Nat) (n : Nat) (F : Int → Int) (jf : Option PV), (n : Int) ≤ M 1 1 ∧ n ≤ 6 → 6 - (n : Int) < (kk : Int) → Hx 73 4 [some (vr 0), some (vi (bS (stC M) n)), some (vi (n : Int)), jf] [] (sr M 54 F) (fun q0 M' => q0 = some (vi (bS (stC M) (M 1 1).toNat)) ∧ ∃ F : Int → Int, sr M 54 F = M') := by
  intro kk
  induction kk with
  | zero => intro n F jf _ hkk; exact absurd hkk (by omega)
  | succ kk ih =>
    intro n F jf hn hkk
    obtain ⟨iF, iG, iK, iH, iFa, aF, aG, lS, lN, lM, rS, rN, rM, aK⟩ := (show (0 ≤ M 1 0 ∧ M 1 0 ≤ 3) ∧ (0 ≤ M 1 1 ∧ M 1 1 ≤ 6) ∧ (0 ≤ M 1 2 ∧ M 1 2 ≤ 8) ∧ (0 ≤ M 6 16 ∧ M 6 16 ≤ 9999) ∧ (0 ≤ M 6 15 ∧ M 6 15 ≤ 9000) ∧ (∀ f : Int, 0 ≤ f → f < M 1 0 → (0 ≤ M 2 f ∧ M 2 f ≤ 5) ∧ (1 ≤ M 6 (12 + f) ∧ M 6 (12 + f) ≤ 10)) ∧ (∀ i : Int, 0 ≤ i → i < M 1 1 → (0 ≤ M 3 i ∧ M 3 i ≤ 5) ∧ (1 ≤ M 4 i ∧ M 4 i ≤ 4) ∧ (0 ≤ M 5 i ∧ M 5 i < M 1 0) ∧ (0 ≤ M 6 i ∧ M 6 i ≤ 11) ∧ (0 ≤ M 6 (6 + i) ∧ M 6 (6 + i) ≤ 9)) ∧ (M 8 0 = 4 ∧ M 8 1 = 5 ∧ 0 ≤ M 8 3 ∧ M 8 3 ≤ 5) ∧ (M 10 0 = 3 ∧ M 10 1 = 6 ∧ 0 ≤ M 10 3 ∧ M 10 3 ≤ 6) ∧ (M 12 0 = 5 ∧ M 12 1 = 6 ∧ 0 ≤ M 12 3 ∧ M 12 3 ≤ 6) ∧ (∀ n : Int, 0 ≤ n → n < M 8 3 → (0 ≤ M 9 (n * 4 + 0) ∧ M 9 (n * 4 + 0) ≤ 2) ∧ (1 ≤ M 9 (n * 4 + 1) ∧ M 9 (n * 4 + 1) ≤ 10) ∧ (0 ≤ M 9 (n * 4 + 2) ∧ M 9 (n * 4 + 2) ≤ 23) ∧ (0 ≤ M 9 (n * 4 + 3) ∧ M 9 (n * 4 + 3) ≤ 1)) ∧ (∀ n : Int, 0 ≤ n → n < M 10 3 → (0 ≤ M 11 (n * 3 + 0) ∧ M 11 (n * 3 + 0) ≤ 2) ∧ (0 ≤ M 11 (n * 3 + 1) ∧ M 11 (n * 3 + 1) ≤ 23) ∧ (0 ≤ M 11 (n * 3 + 2) ∧ M 11 (n * 3 + 2) ≤ 9)) ∧ (∀ n : Int, 0 ≤ n → n < M 12 3 → (0 ≤ M 13 (n * 5 + 0) ∧ M 13 (n * 5 + 0) ≤ 5) ∧ (1 ≤ M 13 (n * 5 + 1) ∧ M 13 (n * 5 + 1) ≤ 4) ∧ (0 ≤ M 13 (n * 5 + 2) ∧ M 13 (n * 5 + 2) ≤ 9) ∧ (0 ≤ M 13 (n * 5 + 3) ∧ M 13 (n * 5 + 3) ≤ 23) ∧ (0 ≤ M 13 (n * 5 + 4) ∧ M 13 (n * 5 + 4) ≤ 9)) ∧ (∀ k : Int, 0 ≤ k → k < M 1 2 → (0 ≤ M 7 (k * 17 + 16) ∧ M 7 (k * 17 + 16) ≤ 9999) ∧ (0 ≤ M 7 (k * 17 + 15) ∧ M 7 (k * 17 + 15) ≤ 9000) ∧ (∀ f : Int, 0 ≤ f → f < M 1 0 → (1 ≤ M 7 (k * 17 + (12 + f)) ∧ M 7 (k * 17 + (12 + f)) ≤ 10)) ∧ (∀ i : Int, 0 ≤ i → i < M 1 1 → (0 ≤ M 7 (k * 17 + i) ∧ M 7 (k * 17 + i) ≤ 11) ∧ (0 ≤ M 7 (k * 17 + (6 + i)) ∧ M 7 (k * 17 + (6 + i)) ≤ 9))) from hI)
    refine Hx.run 4 (pc' := 12) (L' := [some (vr 0), some (vi (bS (stC M) n)), some (vi (n : Int)), jf]) (st' := [vi (M 1 1), vi (n : Int)]) (M' := (sr M 54 F)) rfl ?_
    refine Hx.br (c := (n : Int) < (M 1 1)) (t := 15) (f := 64) rfl (fun h1 => ?_) (fun h1 => ?_)
    · skip
      have gG := aG (n : Int) (by omega) (by omega)
      have gF := aF (M 5 (n : Int)) (by omega) (by omega)
      have sR := sfF_rng (k := M 3 (n : Int)) (l := M 4 (n : Int)) (x := M 6 (6 + (n : Int))) (t := M 6 16 % 24) (by omega) (by omega)
      have bR := bb_rng (M 6 (12 + (M 5 (n : Int)))) (bcF (M 2 (M 5 (n : Int))) (M 6 16 % 24))
      refine Hx.run 5 (pc' := 24) (L' := [some (vr 0), some (vi (bS (stC M) n)), some (vi (n : Int)), jf]) (st' := [vi (n : Int), vr 1, vr 53]) (M' := (sr M 54 F)) rfl ?_
      refine Hx.call (t := 18) (as := [vr 1, vi (n : Int)]) (pc' := 27) (rest := [vr 53]) rfl (c_stepOf_1 (n : Int) (by (first | omega | (simp only [s54_1, s54_2, s54_3, s54_4, s54_5, s54_6]; omega))) (sr M 54 F)) ?_
      rintro _ _ ⟨rfl, rfl⟩
      refine Hx.run 0 (pc' := 27) (L' := [some (vr 0), some (vi (bS (stC M) n)), some (vi (n : Int)), jf]) (st' := [vi (M 6 (n : Int)), vr 53]) (M' := (sr M 54 F)) rfl ?_
      refine Hx.run 3 (pc' := 32) (L' := [some (vr 0), some (vi (bS (stC M) n)), some (vi (n : Int)), jf]) (st' := [vi (n : Int), vr 1, vi (M 6 (n : Int)), vr 53]) (M' := (sr M 54 F)) rfl ?_
      refine Hx.call (t := 30) (as := [vr 1, vi (n : Int)]) (pc' := 35) (rest := [vi (M 6 (n : Int)), vr 53]) rfl (c_reach_1 (n : Int) (sr M 54 F) (by (first | omega | (simp only [s54_1, s54_2, s54_3, s54_4, s54_5, s54_6]; omega))) (by (first | omega | (simp only [s54_1, s54_2, s54_3, s54_4, s54_5, s54_6]; omega)))) ?_
      rintro _ _ ⟨rfl, rfl⟩
      refine Hx.run 0 (pc' := 35) (L' := [some (vr 0), some (vi (bS (stC M) n)), some (vi (n : Int)), jf]) (st' := [vi (sfF (M 3 (n : Int)) (M 4 (n : Int)) (M 6 (6 + (n : Int))) ((M 6 16) % 24)), vi (M 6 (n : Int)), vr 53]) (M' := (sr M 54 F)) rfl ?_
      refine Hx.run 3 (pc' := 40) (L' := [some (vr 0), some (vi (bS (stC M) n)), some (vi (n : Int)), jf]) (st' := [vi (n : Int), vr 1, vi (sfF (M 3 (n : Int)) (M 4 (n : Int)) (M 6 (6 + (n : Int))) ((M 6 16) % 24)), vi (M 6 (n : Int)), vr 53]) (M' := (sr M 54 F)) rfl ?_
      refine Hx.call (t := 29) (as := [vr 1, vi (n : Int)]) (pc' := 43) (rest := [vi (sfF (M 3 (n : Int)) (M 4 (n : Int)) (M 6 (6 + (n : Int))) ((M 6 16) % 24)), vi (M 6 (n : Int)), vr 53]) rfl (c_barsFor_1 (n : Int) (sr M 54 F) (by (first | omega | (simp only [s54_1, s54_2, s54_3, s54_4, s54_5, s54_6]; omega))) (by (first | omega | (simp only [s54_1, s54_2, s54_3, s54_4, s54_5, s54_6]; omega))) (by (first | omega | (simp only [s54_1, s54_2, s54_3, s54_4, s54_5, s54_6]; omega)))) ?_
      rintro _ _ ⟨rfl, rfl⟩
      refine Hx.run 0 (pc' := 43) (L' := [some (vr 0), some (vi (bS (stC M) n)), some (vi (n : Int)), jf]) (st' := [vi (bb (M 6 (12 + (M 5 (n : Int)))) (bcF (M 2 (M 5 (n : Int))) ((M 6 16) % 24))), vi (sfF (M 3 (n : Int)) (M 4 (n : Int)) (M 6 (6 + (n : Int))) ((M 6 16) % 24)), vi (M 6 (n : Int)), vr 53]) (M' := (sr M 54 F)) rfl ?_
      refine Hx.call (t := 0) (as := [vr 53, vi (M 6 (n : Int)), vi (sfF (M 3 (n : Int)) (M 4 (n : Int)) (M 6 (6 + (n : Int))) ((M 6 16) % 24)), vi (bb (M 6 (12 + (M 5 (n : Int)))) (bcF (M 2 (M 5 (n : Int))) ((M 6 16) % 24)))]) (pc' := 46) (rest := []) rfl (c_fewestFrom_53 (M 6 (n : Int)) (sfF (M 3 (n : Int)) (M 4 (n : Int)) (M 6 (6 + (n : Int))) ((M 6 16) % 24)) (bb (M 6 (12 + (M 5 (n : Int)))) (bcF (M 2 (M 5 (n : Int))) ((M 6 16) % 24))) (sr M 54 F) (by (first | omega | (simp only [s54_1, s54_2, s54_3, s54_4, s54_5, s54_6]; omega))) (by (first | omega | (simp only [s54_1, s54_2, s54_3, s54_4, s54_5, s54_6]; omega))) (by (first | omega | (simp only [s54_1, s54_2, s54_3, s54_4, s54_5, s54_6]; omega)))) ?_
      rintro _ _ ⟨rfl, F53, hF53, rfl⟩
      refine Hx.run 0 (pc' := 46) (L' := [some (vr 0), some (vi (bS (stC M) n)), some (vi (n : Int)), jf]) (st' := [vi (dc (TV (sfF (M 3 (n : Int)) (M 4 (n : Int)) (M 6 (6 + (n : Int))) ((M 6 16) % 24)) (bb (M 6 (12 + (M 5 (n : Int)))) (bcF (M 2 (M 5 (n : Int))) ((M 6 16) % 24))) (M 6 (n : Int))))]) (M' := (sr (sr M 54 F) 54 F53)) rfl ?_
      refine Hx.run 3 (pc' := 49) (L' := [some (vr 0), some (vi (bS (stC M) n)), some (vi (n : Int)), some (vi (dc (TV (sfF (M 3 (n : Int)) (M 4 (n : Int)) (M 6 (6 + (n : Int))) ((M 6 16) % 24)) (bb (M 6 (12 + (M 5 (n : Int)))) (bcF (M 2 (M 5 (n : Int))) ((M 6 16) % 24))) (M 6 (n : Int)))))]) (st' := [vi (-1), vi (dc (TV (sfF (M 3 (n : Int)) (M 4 (n : Int)) (M 6 (6 + (n : Int))) ((M 6 16) % 24)) (bb (M 6 (12 + (M 5 (n : Int)))) (bcF (M 2 (M 5 (n : Int))) ((M 6 16) % 24))) (M 6 (n : Int))))]) (M' := (sr (sr M 54 F) 54 F53)) rfl ?_
      refine Hx.br (c := (dc (TV (sfF (M 3 (n : Int)) (M 4 (n : Int)) (M 6 (6 + (n : Int))) ((M 6 16) % 24)) (bb (M 6 (12 + (M 5 (n : Int)))) (bcF (M 2 (M 5 (n : Int))) ((M 6 16) % 24))) (M 6 (n : Int)))) = (-1)) (t := 52) (f := 58) rfl (fun h2 => ?_) (fun h2 => ?_)
      · skip
        refine Hx.run 6 (pc' := 58) (L' := [some (vr 0), some (vi (i2 fior (bS (stC M) n) (i2 fshl 1 (n : Int)))), some (vi (n : Int)), some (vi (dc (TV (sfF (M 3 (n : Int)) (M 4 (n : Int)) (M 6 (6 + (n : Int))) ((M 6 16) % 24)) (bb (M 6 (12 + (M 5 (n : Int)))) (bcF (M 2 (M 5 (n : Int))) ((M 6 16) % 24))) (M 6 (n : Int)))))]) (st' := []) (M' := (sr (sr M 54 F) 54 F53)) rfl ?_
        refine Hx.inc rfl rfl (by (first | omega | (simp only [s54_1, s54_2, s54_3, s54_4, s54_5, s54_6]; omega))) ?_
        refine Hx.run 0 (pc' := 61) (L' := [some (vr 0), some (vi (i2 fior (bS (stC M) n) (i2 fshl 1 (n : Int)))), some (vi ((n : Int) + 1)), some (vi (dc (TV (sfF (M 3 (n : Int)) (M 4 (n : Int)) (M 6 (6 + (n : Int))) ((M 6 16) % 24)) (bb (M 6 (12 + (M 5 (n : Int)))) (bcF (M 2 (M 5 (n : Int))) ((M 6 16) % 24))) (M 6 (n : Int)))))]) (st' := []) (M' := (sr (sr M 54 F) 54 F53)) rfl ?_
        refine Hx.run 1 (pc' := 4) (L' := [some (vr 0), some (vi (i2 fior (bS (stC M) n) (i2 fshl 1 (n : Int)))), some (vi ((n : Int) + 1)), some (vi (dc (TV (sfF (M 3 (n : Int)) (M 4 (n : Int)) (M 6 (6 + (n : Int))) ((M 6 16) % 24)) (bb (M 6 (12 + (M 5 (n : Int)))) (bcF (M 2 (M 5 (n : Int))) ((M 6 16) % 24))) (M 6 (n : Int)))))]) (st' := []) (M' := (sr (sr M 54 F) 54 F53)) rfl ?_
        have tv := TV_fin (far := (sfF (M 3 (n : Int)) (M 4 (n : Int)) (M 6 (6 + (n : Int))) (M 6 16 % 24))) (b := (bb (M 6 (12 + (M 5 (n : Int)))) (bcF (M 2 (M 5 (n : Int))) (M 6 16 % 24)))) (x := M 6 (n : Int)) (by omega) (by omega)
        have td := dc_cases (TV (sfF (M 3 (n : Int)) (M 4 (n : Int)) (M 6 (6 + (n : Int))) (M 6 16 % 24)) (bb (M 6 (12 + (M 5 (n : Int)))) (bcF (M 2 (M 5 (n : Int))) (M 6 16 % 24))) (M 6 (n : Int)))
        have e : (i2 fior (bS (stC M) n) (i2 fshl 1 (n : Int))) = bS (stC M) (n + 1) := by
          first
            | exact bS_one (by omega) (by unfold stC; exact decide_eq_true (by omega))
            | exact bS_no (by unfold stC; exact fun q => absurd (of_decide_eq_true q) (by omega))
        rw [e, sr_sr]
        exact ih (n + 1) F53 _ (by omega) (by omega)
      · skip
        refine Hx.inc rfl rfl (by (first | omega | (simp only [s54_1, s54_2, s54_3, s54_4, s54_5, s54_6]; omega))) ?_
        refine Hx.run 0 (pc' := 61) (L' := [some (vr 0), some (vi (bS (stC M) n)), some (vi ((n : Int) + 1)), some (vi (dc (TV (sfF (M 3 (n : Int)) (M 4 (n : Int)) (M 6 (6 + (n : Int))) ((M 6 16) % 24)) (bb (M 6 (12 + (M 5 (n : Int)))) (bcF (M 2 (M 5 (n : Int))) ((M 6 16) % 24))) (M 6 (n : Int)))))]) (st' := []) (M' := (sr (sr M 54 F) 54 F53)) rfl ?_
        refine Hx.run 1 (pc' := 4) (L' := [some (vr 0), some (vi (bS (stC M) n)), some (vi ((n : Int) + 1)), some (vi (dc (TV (sfF (M 3 (n : Int)) (M 4 (n : Int)) (M 6 (6 + (n : Int))) ((M 6 16) % 24)) (bb (M 6 (12 + (M 5 (n : Int)))) (bcF (M 2 (M 5 (n : Int))) ((M 6 16) % 24))) (M 6 (n : Int)))))]) (st' := []) (M' := (sr (sr M 54 F) 54 F53)) rfl ?_
        have tv := TV_fin (far := (sfF (M 3 (n : Int)) (M 4 (n : Int)) (M 6 (6 + (n : Int))) (M 6 16 % 24))) (b := (bb (M 6 (12 + (M 5 (n : Int)))) (bcF (M 2 (M 5 (n : Int))) (M 6 16 % 24)))) (x := M 6 (n : Int)) (by omega) (by omega)
        have td := dc_cases (TV (sfF (M 3 (n : Int)) (M 4 (n : Int)) (M 6 (6 + (n : Int))) (M 6 16 % 24)) (bb (M 6 (12 + (M 5 (n : Int)))) (bcF (M 2 (M 5 (n : Int))) (M 6 16 % 24))) (M 6 (n : Int)))
        have e : (bS (stC M) n) = bS (stC M) (n + 1) := by
          first
            | exact bS_one (by omega) (by unfold stC; exact decide_eq_true (by omega))
            | exact bS_no (by unfold stC; exact fun q => absurd (of_decide_eq_true q) (by omega))
        rw [e, sr_sr]
        exact ih (n + 1) F53 _ (by omega) (by omega)
    · skip
      refine Hx.run 1 (pc' := 65) (L' := [some (vr 0), some (vi (bS (stC M) n)), some (vi (n : Int)), jf]) (st' := [vi (bS (stC M) n)]) (M' := (sr M 54 F)) rfl ?_
      refine Hx.ret rfl ?_
      refine ⟨by rw [show (M 1 1).toNat = n by omega], F, rfl⟩
set_option maxRecDepth 100000 in
theorem C_stuck (M : Mm) (hI : HI M 1) : Ct 73 [vr 0] M (fun q0 M' => q0 = some (vi (bS (stC M) (M 1 1).toNat)) ∧ ∃ F : Int → Int, sr M 54 F = M') := by
  obtain ⟨iF, iG, iK, iH, iFa, aF, aG, lS, lN, lM, rS, rN, rM, aK⟩ := (show (0 ≤ M 1 0 ∧ M 1 0 ≤ 3) ∧ (0 ≤ M 1 1 ∧ M 1 1 ≤ 6) ∧ (0 ≤ M 1 2 ∧ M 1 2 ≤ 8) ∧ (0 ≤ M 6 16 ∧ M 6 16 ≤ 9999) ∧ (0 ≤ M 6 15 ∧ M 6 15 ≤ 9000) ∧ (∀ f : Int, 0 ≤ f → f < M 1 0 → (0 ≤ M 2 f ∧ M 2 f ≤ 5) ∧ (1 ≤ M 6 (12 + f) ∧ M 6 (12 + f) ≤ 10)) ∧ (∀ i : Int, 0 ≤ i → i < M 1 1 → (0 ≤ M 3 i ∧ M 3 i ≤ 5) ∧ (1 ≤ M 4 i ∧ M 4 i ≤ 4) ∧ (0 ≤ M 5 i ∧ M 5 i < M 1 0) ∧ (0 ≤ M 6 i ∧ M 6 i ≤ 11) ∧ (0 ≤ M 6 (6 + i) ∧ M 6 (6 + i) ≤ 9)) ∧ (M 8 0 = 4 ∧ M 8 1 = 5 ∧ 0 ≤ M 8 3 ∧ M 8 3 ≤ 5) ∧ (M 10 0 = 3 ∧ M 10 1 = 6 ∧ 0 ≤ M 10 3 ∧ M 10 3 ≤ 6) ∧ (M 12 0 = 5 ∧ M 12 1 = 6 ∧ 0 ≤ M 12 3 ∧ M 12 3 ≤ 6) ∧ (∀ n : Int, 0 ≤ n → n < M 8 3 → (0 ≤ M 9 (n * 4 + 0) ∧ M 9 (n * 4 + 0) ≤ 2) ∧ (1 ≤ M 9 (n * 4 + 1) ∧ M 9 (n * 4 + 1) ≤ 10) ∧ (0 ≤ M 9 (n * 4 + 2) ∧ M 9 (n * 4 + 2) ≤ 23) ∧ (0 ≤ M 9 (n * 4 + 3) ∧ M 9 (n * 4 + 3) ≤ 1)) ∧ (∀ n : Int, 0 ≤ n → n < M 10 3 → (0 ≤ M 11 (n * 3 + 0) ∧ M 11 (n * 3 + 0) ≤ 2) ∧ (0 ≤ M 11 (n * 3 + 1) ∧ M 11 (n * 3 + 1) ≤ 23) ∧ (0 ≤ M 11 (n * 3 + 2) ∧ M 11 (n * 3 + 2) ≤ 9)) ∧ (∀ n : Int, 0 ≤ n → n < M 12 3 → (0 ≤ M 13 (n * 5 + 0) ∧ M 13 (n * 5 + 0) ≤ 5) ∧ (1 ≤ M 13 (n * 5 + 1) ∧ M 13 (n * 5 + 1) ≤ 4) ∧ (0 ≤ M 13 (n * 5 + 2) ∧ M 13 (n * 5 + 2) ≤ 9) ∧ (0 ≤ M 13 (n * 5 + 3) ∧ M 13 (n * 5 + 3) ≤ 23) ∧ (0 ≤ M 13 (n * 5 + 4) ∧ M 13 (n * 5 + 4) ≤ 9)) ∧ (∀ k : Int, 0 ≤ k → k < M 1 2 → (0 ≤ M 7 (k * 17 + 16) ∧ M 7 (k * 17 + 16) ≤ 9999) ∧ (0 ≤ M 7 (k * 17 + 15) ∧ M 7 (k * 17 + 15) ≤ 9000) ∧ (∀ f : Int, 0 ≤ f → f < M 1 0 → (1 ≤ M 7 (k * 17 + (12 + f)) ∧ M 7 (k * 17 + (12 + f)) ≤ 10)) ∧ (∀ i : Int, 0 ≤ i → i < M 1 1 → (0 ≤ M 7 (k * 17 + i) ∧ M 7 (k * 17 + i) ≤ 11) ∧ (0 ≤ M 7 (k * 17 + (6 + i)) ∧ M 7 (k * 17 + (6 + i)) ≤ 9))) from hI)
  refine Hx.run 4 (pc' := 4) (L' := [some (vr 0), some (vi 0), some (vi 0), none]) (st' := []) (M' := M) rfl ?_
  have h0 := cl_stuck M hI 10 0 (M 54) none (by omega) (by omega)
  rw [sr_self] at h0
  exact h0
set_option maxRecDepth 100000 in
theorem rl_stuck (M : Mm) (hI : RI M 0) : ∀ (kk : Nat) (n : Nat) (F : Int → Int), (n : Int) ≤ M 65 1 ∧ n ≤ 6 → 6 - (n : Int) < (kk : Int) → Hx 187 4 [some (vr 64), some (vi (bS (stR M) n)), some (vi (n : Int))] [] (sr M 69 F) (fun q0 M' => q0 = some (vi (bS (stR M) (M 65 1).toNat)) ∧ ∃ F : Int → Int, sr M 69 F = M') := by
  intro kk
  induction kk with
  | zero => intro n F _ hkk; exact absurd hkk (by omega)
  | succ kk ih =>
    intro n F hn hkk
    obtain ⟨r0, r1, r2, r3, r40, r61, r80, r111, rF, rG⟩ := (show (0 ≤ M 65 0 ∧ M 65 0 ≤ 3) ∧ (0 ≤ M 65 1 ∧ M 65 1 ≤ 6) ∧ (0 ≤ M 65 2 ∧ M 65 2 ≤ 9999) ∧ (0 ≤ M 65 3 ∧ M 65 3 ≤ 9000) ∧ (0 ≤ M 65 40 ∧ M 65 40 ≤ 5) ∧ (0 ≤ M 65 61 ∧ M 65 61 ≤ 6) ∧ (0 ≤ M 65 80 ∧ M 65 80 ≤ 6) ∧ (0 ≤ M 65 111 ∧ M 65 111 ≤ 8) ∧ (∀ f : Int, 0 ≤ f → f < M 65 0 → (0 ≤ M 65 (4 + f) ∧ M 65 (4 + f) ≤ 5) ∧ (1 ≤ M 65 (7 + f) ∧ M 65 (7 + f) ≤ 10)) ∧ (∀ i : Int, 0 ≤ i → i < M 65 1 → (0 ≤ M 65 (10 + i) ∧ M 65 (10 + i) ≤ 5) ∧ (1 ≤ M 65 (16 + i) ∧ M 65 (16 + i) ≤ 4) ∧ (0 ≤ M 65 (22 + i) ∧ M 65 (22 + i) < M 65 0) ∧ (0 ≤ M 65 (28 + i) ∧ M 65 (28 + i) ≤ 11) ∧ (0 ≤ M 65 (34 + i) ∧ M 65 (34 + i) ≤ 9)) from hI)
    refine Hx.run 5 (pc' := 11) (L' := [some (vr 64), some (vi (bS (stR M) n)), some (vi (n : Int))]) (st' := [vi (M 65 1), vi (n : Int)]) (M' := (sr M 69 F)) rfl ?_
    refine Hx.br (c := (n : Int) < (M 65 1)) (t := 14) (f := 54) rfl (fun h1 => ?_) (fun h1 => ?_)
    · skip
      have gG := rG (n : Int) (by omega) (by omega)
      have gF := rF (M 65 (22 + (n : Int))) (by omega) (by omega)
      refine Hx.run 2 (pc' := 16) (L' := [some (vr 64), some (vi (bS (stR M) n)), some (vi (n : Int))]) (st' := [vi (n : Int), vr 64]) (M' := (sr M 69 F)) rfl ?_
      refine Hx.call (t := 185) (as := [vr 64, vi (n : Int)]) (pc' := 19) (rest := []) rfl (r_laysNow (n : Int) (sr M 69 F) (by (first | omega | (simp only [sr65]; omega))) (by (first | omega | (simp only [sr65]; omega))) (by (first | omega | (simp only [sr65]; omega)))) ?_
      rintro _ _ ⟨T, hT, rfl, rfl⟩
      have hTp := hT (M 65 (28 + (n : Int))) (by omega) (by omega)
      simp only [sr65] at hTp
      refine Hx.run 0 (pc' := 19) (L' := [some (vr 64), some (vi (bS (stR M) n)), some (vi (n : Int))]) (st' := []) (M' := (sr (sr M 69 F) 69 T)) rfl ?_
      refine Hx.run 7 (pc' := 31) (L' := [some (vr 64), some (vi (bS (stR M) n)), some (vi (n : Int))]) (st' := [vi (n : Int), vi 28, vr 65, vr 69, vi (bS (stR M) n)]) (M' := (sr (sr M 69 F) 69 T)) rfl ?_
      refine Hx.add rfl (by (first | omega | (simp only [sr65]; omega))) ?_
      refine Hx.aldI (n := 1032) rfl rfl (by (first | omega | (simp only [sr65]; omega))) ?_
      refine Hx.run 0 (pc' := 33) (L' := [some (vr 64), some (vi (bS (stR M) n)), some (vi (n : Int))]) (st' := [vi (M 65 (28 + (n : Int))), vr 69, vi (bS (stR M) n)]) (M' := (sr (sr M 69 F) 69 T)) rfl ?_
      refine Hx.aldI (n := 12) rfl rfl (by (first | omega | (simp only [sr65]; omega))) ?_
      refine Hx.run 0 (pc' := 34) (L' := [some (vr 64), some (vi (bS (stR M) n)), some (vi (n : Int))]) (st' := [vi (T (M 65 (28 + (n : Int)))), vi (bS (stR M) n)]) (M' := (sr (sr M 69 F) 69 T)) rfl ?_
      refine Hx.run 1 (pc' := 36) (L' := [some (vr 64), some (vi (bS (stR M) n)), some (vi (n : Int))]) (st' := [vi 1000000, vi (T (M 65 (28 + (n : Int)))), vi (bS (stR M) n)]) (M' := (sr (sr M 69 F) 69 T)) rfl ?_
      refine Hx.br (c := (T (M 65 (28 + (n : Int)))) < 1000000) (t := 45) (f := 39) rfl (fun h2 => ?_) (fun h2 => ?_)
      · skip
        refine Hx.run 3 (pc' := 48) (L' := [some (vr 64), some (vi (i2 fior (bS (stR M) n) 0)), some (vi (n : Int))]) (st' := []) (M' := (sr (sr M 69 F) 69 T)) rfl ?_
        refine Hx.inc rfl rfl (by (first | omega | (simp only [sr65]; omega))) ?_
        refine Hx.run 0 (pc' := 51) (L' := [some (vr 64), some (vi (i2 fior (bS (stR M) n) 0)), some (vi ((n : Int) + 1))]) (st' := []) (M' := (sr (sr M 69 F) 69 T)) rfl ?_
        refine Hx.run 1 (pc' := 4) (L' := [some (vr 64), some (vi (i2 fior (bS (stR M) n) 0)), some (vi ((n : Int) + 1))]) (st' := []) (M' := (sr (sr M 69 F) 69 T)) rfl ?_
        have e : (i2 fior (bS (stR M) n) 0) = bS (stR M) (n + 1) := by
          first
            | exact bS_one (by omega) (by unfold stR; exact decide_eq_true (by omega))
            | (rw [or0 ⟨(bS_rng (stR M) n).1, by have := (bS_rng (stR M) n).2; have := p31 (n := n) (by omega); omega⟩]; exact bS_no (by unfold stR; exact fun q => absurd (of_decide_eq_true q) (by omega)))
        rw [e, sr_sr]
        exact ih (n + 1) T (by omega) (by omega)
      · skip
        refine Hx.run 6 (pc' := 48) (L' := [some (vr 64), some (vi (i2 fior (bS (stR M) n) (i2 fshl 1 (n : Int)))), some (vi (n : Int))]) (st' := []) (M' := (sr (sr M 69 F) 69 T)) rfl ?_
        refine Hx.inc rfl rfl (by (first | omega | (simp only [sr65]; omega))) ?_
        refine Hx.run 0 (pc' := 51) (L' := [some (vr 64), some (vi (i2 fior (bS (stR M) n) (i2 fshl 1 (n : Int)))), some (vi ((n : Int) + 1))]) (st' := []) (M' := (sr (sr M 69 F) 69 T)) rfl ?_
        refine Hx.run 1 (pc' := 4) (L' := [some (vr 64), some (vi (i2 fior (bS (stR M) n) (i2 fshl 1 (n : Int)))), some (vi ((n : Int) + 1))]) (st' := []) (M' := (sr (sr M 69 F) 69 T)) rfl ?_
        have e : (i2 fior (bS (stR M) n) (i2 fshl 1 (n : Int))) = bS (stR M) (n + 1) := by
          first
            | exact bS_one (by omega) (by unfold stR; exact decide_eq_true (by omega))
            | (rw [or0 ⟨(bS_rng (stR M) n).1, by have := (bS_rng (stR M) n).2; have := p31 (n := n) (by omega); omega⟩]; exact bS_no (by unfold stR; exact fun q => absurd (of_decide_eq_true q) (by omega)))
        rw [e, sr_sr]
        exact ih (n + 1) T (by omega) (by omega)
    · skip
      refine Hx.run 1 (pc' := 55) (L' := [some (vr 64), some (vi (bS (stR M) n)), some (vi (n : Int))]) (st' := [vi (bS (stR M) n)]) (M' := (sr M 69 F)) rfl ?_
      refine Hx.ret rfl ?_
      refine ⟨by rw [show (M 65 1).toNat = n by omega], F, rfl⟩
set_option maxRecDepth 100000 in
theorem R_stuck (M : Mm) (hI : RI M 0) : Ct 187 [vr 64] M (fun q0 M' => q0 = some (vi (bS (stR M) (M 65 1).toNat)) ∧ ∃ F : Int → Int, sr M 69 F = M') := by
  obtain ⟨r0, r1, r2, r3, r40, r61, r80, r111, rF, rG⟩ := (show (0 ≤ M 65 0 ∧ M 65 0 ≤ 3) ∧ (0 ≤ M 65 1 ∧ M 65 1 ≤ 6) ∧ (0 ≤ M 65 2 ∧ M 65 2 ≤ 9999) ∧ (0 ≤ M 65 3 ∧ M 65 3 ≤ 9000) ∧ (0 ≤ M 65 40 ∧ M 65 40 ≤ 5) ∧ (0 ≤ M 65 61 ∧ M 65 61 ≤ 6) ∧ (0 ≤ M 65 80 ∧ M 65 80 ≤ 6) ∧ (0 ≤ M 65 111 ∧ M 65 111 ≤ 8) ∧ (∀ f : Int, 0 ≤ f → f < M 65 0 → (0 ≤ M 65 (4 + f) ∧ M 65 (4 + f) ≤ 5) ∧ (1 ≤ M 65 (7 + f) ∧ M 65 (7 + f) ≤ 10)) ∧ (∀ i : Int, 0 ≤ i → i < M 65 1 → (0 ≤ M 65 (10 + i) ∧ M 65 (10 + i) ≤ 5) ∧ (1 ≤ M 65 (16 + i) ∧ M 65 (16 + i) ≤ 4) ∧ (0 ≤ M 65 (22 + i) ∧ M 65 (22 + i) < M 65 0) ∧ (0 ≤ M 65 (28 + i) ∧ M 65 (28 + i) ≤ 11) ∧ (0 ≤ M 65 (34 + i) ∧ M 65 (34 + i) ≤ 9)) from hI)
  refine Hx.run 4 (pc' := 4) (L' := [some (vr 64), some (vi 0), some (vi 0)]) (st' := []) (M' := M) rfl ?_
  have h0 := rl_stuck M hI 10 0 (M 69) (by omega) (by omega)
  rw [sr_self] at h0
  exact h0
