/-! soon (written by wip/whole/gen38.py) -/
/-- the first place below n at which f is least, and how much (-1, 1000000: below it nowhere) -/
def am1 (f : Nat → Int) : Nat → Int × Int
  | 0 => (-1, 1000000)
  | n + 1 => if f n < (am1 f n).2 then ((n : Int), f n) else am1 f n
theorem am1_succ (f : Nat → Int) (n : Nat) : am1 f (n + 1) = if f n < (am1 f n).2 then ((n : Int), f n) else am1 f n := rfl
theorem am1_rng {f : Nat → Int} (h : ∀ n, f n = 1000000 ∨ (0 ≤ f n ∧ f n ≤ 11)) : ∀ n, ((am1 f n).1 = -1 ∧ (am1 f n).2 = 1000000) ∨ (0 ≤ (am1 f n).1 ∧ (am1 f n).1 < n ∧ 0 ≤ (am1 f n).2 ∧ (am1 f n).2 ≤ 11)
  | 0 => Or.inl ⟨rfl, rfl⟩
  | n + 1 => by
    have h1 := am1_rng h n
    have h2 := h n
    rw [am1_succ]
    split
    · dsimp only; omega
    · omega
theorem am1_congr {f g : Nat → Int} : ∀ n, (∀ m, m < n → f m = g m) → am1 f n = am1 g n
  | 0, _ => rfl
  | n + 1, h => by rw [am1_succ, am1_succ, am1_congr n (fun m hm => h m (by omega)), h n (by omega)]
def snC (M : Mm) (i : Int) (t : Nat) : Int := TV (sfF (M 3 i) (M 4 i) (M 6 (6 + i)) t) (bb (M 6 (12 + M 5 i)) (bcF (M 2 (M 5 i)) t)) (M 6 i)
def snR (M : Mm) (i : Int) (t : Nat) : Int := TV (sfF (M 65 (10 + i)) (M 65 (16 + i)) (M 65 (34 + i)) t) (bb (M 65 (7 + M 65 (22 + i))) (bcF (M 65 (4 + M 65 (22 + i))) t)) (M 65 (28 + i))
set_option maxRecDepth 100000 in
theorem cl_soon (i w : Int) (M : Mm) (hg : (0 ≤ i ∧ i < 6) ∧ (0 ≤ M 3 i ∧ M 3 i ≤ 5) ∧ (1 ≤ M 4 i ∧ M 4 i ≤ 4) ∧ (0 ≤ M 5 i ∧ M 5 i < 3) ∧ (0 ≤ M 6 i ∧ M 6 i ≤ 11) ∧ (0 ≤ M 6 (6 + i) ∧ M 6 (6 + i) ≤ 9)) (hf : (0 ≤ (M 5 i) ∧ (M 5 i) < 3) ∧ (0 ≤ M 2 (M 5 i) ∧ M 2 (M 5 i) ≤ 5) ∧ (1 ≤ M 6 (12 + (M 5 i)) ∧ M 6 (12 + (M 5 i)) ≤ 10)) : ∀ (kk : Nat) (n : Nat) (F : Int → Int) (jf : Option PV), n ≤ 24 → 24 - (n : Int) < (kk : Int) → Hx 74 33 [some (vr 0), some (vi i), some (vi w), some (vi (am1 (snC M i) n).1), some (vi (dc (am1 (snC M i) n).2)), some (vi (n : Int)), jf] [] (sr M 54 F) (fun q0 M' => q0 = some (vi (if w = 0 then (am1 (snC M i) 24).1 else dc (am1 (snC M i) 24).2)) ∧ ∃ F : Int → Int, sr M 54 F = M') := by
  intro kk
  induction kk with
  | zero => intro n F jf _ hkk; exact absurd hkk (by omega)
  | succ kk ih =>
    intro n F jf hn hkk
    have sR := sfF_rng (k := M 3 i) (l := M 4 i) (x := M 6 (6 + i)) (t := (n : Int)) (by omega) (by omega)
    have bR := bb_rng (M 6 (12 + (M 5 i))) (bcF (M 2 (M 5 i)) (n : Int))
    have tv := TV_fin (far := (sfF (M 3 i) (M 4 i) (M 6 (6 + i)) (n : Int))) (b := (bb (M 6 (12 + (M 5 i))) (bcF (M 2 (M 5 i)) (n : Int)))) (x := M 6 i) (by omega) (by omega)
    have td := dc_cases (TV (sfF (M 3 i) (M 4 i) (M 6 (6 + i)) (n : Int)) (bb (M 6 (12 + (M 5 i))) (bcF (M 2 (M 5 i)) (n : Int))) (M 6 i))
    have am := am1_rng (f := snC M i) (fun m => by
      have := TV_fin (far := (sfF (M 3 i) (M 4 i) (M 6 (6 + i)) m)) (b := (bb (M 6 (12 + (M 5 i))) (bcF (M 2 (M 5 i)) m))) (x := M 6 i) (by omega) (by omega)
      unfold snC
      omega) n
    have ad := dc_cases (am1 (snC M i) n).2
    have hsn : snC M i n = TV (sfF (M 3 i) (M 4 i) (M 6 (6 + i)) (n : Int)) (bb (M 6 (12 + (M 5 i))) (bcF (M 2 (M 5 i)) (n : Int))) (M 6 i) := rfl
    refine Hx.run 2 (pc' := 37) (L' := [some (vr 0), some (vi i), some (vi w), some (vi (am1 (snC M i) n).1), some (vi (dc (am1 (snC M i) n).2)), some (vi (n : Int)), jf]) (st' := [vi 24, vi (n : Int)]) (M' := (sr M 54 F)) rfl ?_
    refine Hx.br (c := (n : Int) < 24) (t := 40) (f := 119) rfl (fun h1 => ?_) (fun h1 => ?_)
    · skip
      refine Hx.run 5 (pc' := 49) (L' := [some (vr 0), some (vi i), some (vi w), some (vi (am1 (snC M i) n).1), some (vi (dc (am1 (snC M i) n).2)), some (vi (n : Int)), jf]) (st' := [vi i, vr 1, vr 53]) (M' := (sr M 54 F)) rfl ?_
      refine Hx.call (t := 18) (as := [vr 1, vi i]) (pc' := 52) (rest := [vr 53]) rfl (c_stepOf_1 i (by (first | omega | (simp only [s54_1, s54_2, s54_3, s54_4, s54_5, s54_6]; omega))) (sr M 54 F)) ?_
      rintro _ _ ⟨rfl, rfl⟩
      refine Hx.run 0 (pc' := 52) (L' := [some (vr 0), some (vi i), some (vi w), some (vi (am1 (snC M i) n).1), some (vi (dc (am1 (snC M i) n).2)), some (vi (n : Int)), jf]) (st' := [vi (M 6 i), vr 53]) (M' := (sr M 54 F)) rfl ?_
      refine Hx.run 4 (pc' := 59) (L' := [some (vr 0), some (vi i), some (vi w), some (vi (am1 (snC M i) n).1), some (vi (dc (am1 (snC M i) n).2)), some (vi (n : Int)), jf]) (st' := [vi (n : Int), vi i, vr 1, vi (M 6 i), vr 53]) (M' := (sr M 54 F)) rfl ?_
      refine Hx.call (t := 31) (as := [vr 1, vi i, vi (n : Int)]) (pc' := 62) (rest := [vi (M 6 i), vr 53]) rfl (c_reachAt_1 i (n : Int) (sr M 54 F) (by (first | omega | (simp only [s54_1, s54_2, s54_3, s54_4, s54_5, s54_6]; omega))) (by (first | omega | (simp only [s54_1, s54_2, s54_3, s54_4, s54_5, s54_6]; omega)))) ?_
      rintro _ _ ⟨rfl, rfl⟩
      refine Hx.run 0 (pc' := 62) (L' := [some (vr 0), some (vi i), some (vi w), some (vi (am1 (snC M i) n).1), some (vi (dc (am1 (snC M i) n).2)), some (vi (n : Int)), jf]) (st' := [vi (sfF (M 3 i) (M 4 i) (M 6 (6 + i)) (n : Int)), vi (M 6 i), vr 53]) (M' := (sr M 54 F)) rfl ?_
      refine Hx.run 5 (pc' := 71) (L' := [some (vr 0), some (vi i), some (vi w), some (vi (am1 (snC M i) n).1), some (vi (dc (am1 (snC M i) n).2)), some (vi (n : Int)), jf]) (st' := [vi i, vr 1, vr 1, vi (sfF (M 3 i) (M 4 i) (M 6 (6 + i)) (n : Int)), vi (M 6 i), vr 53]) (M' := (sr M 54 F)) rfl ?_
      refine Hx.call (t := 17) (as := [vr 1, vi i]) (pc' := 74) (rest := [vr 1, vi (sfF (M 3 i) (M 4 i) (M 6 (6 + i)) (n : Int)), vi (M 6 i), vr 53]) rfl (c_flightOf_1 i (by (first | omega | (simp only [s54_1, s54_2, s54_3, s54_4, s54_5, s54_6]; omega))) (sr M 54 F)) ?_
      rintro _ _ ⟨rfl, rfl⟩
      refine Hx.run 0 (pc' := 74) (L' := [some (vr 0), some (vi i), some (vi w), some (vi (am1 (snC M i) n).1), some (vi (dc (am1 (snC M i) n).2)), some (vi (n : Int)), jf]) (st' := [vi (M 5 i), vr 1, vi (sfF (M 3 i) (M 4 i) (M 6 (6 + i)) (n : Int)), vi (M 6 i), vr 53]) (M' := (sr M 54 F)) rfl ?_
      refine Hx.run 1 (pc' := 76) (L' := [some (vr 0), some (vi i), some (vi w), some (vi (am1 (snC M i) n).1), some (vi (dc (am1 (snC M i) n).2)), some (vi (n : Int)), jf]) (st' := [vi (n : Int), vi (M 5 i), vr 1, vi (sfF (M 3 i) (M 4 i) (M 6 (6 + i)) (n : Int)), vi (M 6 i), vr 53]) (M' := (sr M 54 F)) rfl ?_
      refine Hx.call (t := 28) (as := [vr 1, vi (M 5 i), vi (n : Int)]) (pc' := 79) (rest := [vi (sfF (M 3 i) (M 4 i) (M 6 (6 + i)) (n : Int)), vi (M 6 i), vr 53]) rfl (c_barsAt_1 (M 5 i) (n : Int) (sr M 54 F) (by (first | omega | (simp only [s54_1, s54_2, s54_3, s54_4, s54_5, s54_6]; omega))) (by (first | omega | (simp only [s54_1, s54_2, s54_3, s54_4, s54_5, s54_6]; omega)))) ?_
      rintro _ _ ⟨rfl, rfl⟩
      refine Hx.run 0 (pc' := 79) (L' := [some (vr 0), some (vi i), some (vi w), some (vi (am1 (snC M i) n).1), some (vi (dc (am1 (snC M i) n).2)), some (vi (n : Int)), jf]) (st' := [vi (bb (M 6 (12 + (M 5 i))) (bcF (M 2 (M 5 i)) (n : Int))), vi (sfF (M 3 i) (M 4 i) (M 6 (6 + i)) (n : Int)), vi (M 6 i), vr 53]) (M' := (sr M 54 F)) rfl ?_
      refine Hx.call (t := 0) (as := [vr 53, vi (M 6 i), vi (sfF (M 3 i) (M 4 i) (M 6 (6 + i)) (n : Int)), vi (bb (M 6 (12 + (M 5 i))) (bcF (M 2 (M 5 i)) (n : Int)))]) (pc' := 82) (rest := []) rfl (c_fewestFrom_53 (M 6 i) (sfF (M 3 i) (M 4 i) (M 6 (6 + i)) (n : Int)) (bb (M 6 (12 + (M 5 i))) (bcF (M 2 (M 5 i)) (n : Int))) (sr M 54 F) (by (first | omega | (simp only [s54_1, s54_2, s54_3, s54_4, s54_5, s54_6]; omega))) (by (first | omega | (simp only [s54_1, s54_2, s54_3, s54_4, s54_5, s54_6]; omega))) (by (first | omega | (simp only [s54_1, s54_2, s54_3, s54_4, s54_5, s54_6]; omega)))) ?_
      rintro _ _ ⟨rfl, F53, hF53, rfl⟩
      refine Hx.run 0 (pc' := 82) (L' := [some (vr 0), some (vi i), some (vi w), some (vi (am1 (snC M i) n).1), some (vi (dc (am1 (snC M i) n).2)), some (vi (n : Int)), jf]) (st' := [vi (dc (TV (sfF (M 3 i) (M 4 i) (M 6 (6 + i)) (n : Int)) (bb (M 6 (12 + (M 5 i))) (bcF (M 2 (M 5 i)) (n : Int))) (M 6 i)))]) (M' := (sr (sr M 54 F) 54 F53)) rfl ?_
      refine Hx.run 3 (pc' := 87) (L' := [some (vr 0), some (vi i), some (vi w), some (vi (am1 (snC M i) n).1), some (vi (dc (am1 (snC M i) n).2)), some (vi (n : Int)), some (vi (dc (TV (sfF (M 3 i) (M 4 i) (M 6 (6 + i)) (n : Int)) (bb (M 6 (12 + (M 5 i))) (bcF (M 2 (M 5 i)) (n : Int))) (M 6 i))))]) (st' := [vi (-1), vi (dc (TV (sfF (M 3 i) (M 4 i) (M 6 (6 + i)) (n : Int)) (bb (M 6 (12 + (M 5 i))) (bcF (M 2 (M 5 i)) (n : Int))) (M 6 i)))]) (M' := (sr (sr M 54 F) 54 F53)) rfl ?_
      refine Hx.br (c := (dc (TV (sfF (M 3 i) (M 4 i) (M 6 (6 + i)) (n : Int)) (bb (M 6 (12 + (M 5 i))) (bcF (M 2 (M 5 i)) (n : Int))) (M 6 i))) = (-1)) (t := 113) (f := 90) rfl (fun h2 => ?_) (fun h2 => ?_)
      · skip
        refine Hx.inc rfl rfl (by (first | omega | (simp only [s54_1, s54_2, s54_3, s54_4, s54_5, s54_6]; omega))) ?_
        refine Hx.run 0 (pc' := 116) (L' := [some (vr 0), some (vi i), some (vi w), some (vi (am1 (snC M i) n).1), some (vi (dc (am1 (snC M i) n).2)), some (vi ((n : Int) + 1)), some (vi (dc (TV (sfF (M 3 i) (M 4 i) (M 6 (6 + i)) (n : Int)) (bb (M 6 (12 + (M 5 i))) (bcF (M 2 (M 5 i)) (n : Int))) (M 6 i))))]) (st' := []) (M' := (sr (sr M 54 F) 54 F53)) rfl ?_
        refine Hx.run 1 (pc' := 33) (L' := [some (vr 0), some (vi i), some (vi w), some (vi (am1 (snC M i) n).1), some (vi (dc (am1 (snC M i) n).2)), some (vi ((n : Int) + 1)), some (vi (dc (TV (sfF (M 3 i) (M 4 i) (M 6 (6 + i)) (n : Int)) (bb (M 6 (12 + (M 5 i))) (bcF (M 2 (M 5 i)) (n : Int))) (M 6 i))))]) (st' := []) (M' := (sr (sr M 54 F) 54 F53)) rfl ?_
        have e1 : (am1 (snC M i) (n + 1)).1 = (am1 (snC M i) n).1 := by rw [am1_succ, hsn]; split <;> first | rfl | omega | (dsimp only; omega)
        have e2 : dc (am1 (snC M i) (n + 1)).2 = (dc (am1 (snC M i) n).2) := by rw [am1_succ, hsn]; split <;> first | rfl | omega | (dsimp only; omega)
        have h9 := ih (n + 1) F53 (some (vi (dc (TV (sfF (M 3 i) (M 4 i) (M 6 (6 + i)) (n : Int)) (bb (M 6 (12 + (M 5 i))) (bcF (M 2 (M 5 i)) (n : Int))) (M 6 i))))) (by omega) (by omega)
        rw [e1, e2] at h9
        rw [sr_sr]
        exact h9
      · skip
        refine Hx.run 2 (pc' := 93) (L' := [some (vr 0), some (vi i), some (vi w), some (vi (am1 (snC M i) n).1), some (vi (dc (am1 (snC M i) n).2)), some (vi (n : Int)), some (vi (dc (TV (sfF (M 3 i) (M 4 i) (M 6 (6 + i)) (n : Int)) (bb (M 6 (12 + (M 5 i))) (bcF (M 2 (M 5 i)) (n : Int))) (M 6 i))))]) (st' := [vi (-1), vi (dc (am1 (snC M i) n).2)]) (M' := (sr (sr M 54 F) 54 F53)) rfl ?_
        refine Hx.br (c := (dc (am1 (snC M i) n).2) = (-1)) (t := 106) (f := 96) rfl (fun h3 => ?_) (fun h3 => ?_)
        · skip
          refine Hx.run 4 (pc' := 113) (L' := [some (vr 0), some (vi i), some (vi w), some (vi (n : Int)), some (vi (dc (TV (sfF (M 3 i) (M 4 i) (M 6 (6 + i)) (n : Int)) (bb (M 6 (12 + (M 5 i))) (bcF (M 2 (M 5 i)) (n : Int))) (M 6 i)))), some (vi (n : Int)), some (vi (dc (TV (sfF (M 3 i) (M 4 i) (M 6 (6 + i)) (n : Int)) (bb (M 6 (12 + (M 5 i))) (bcF (M 2 (M 5 i)) (n : Int))) (M 6 i))))]) (st' := []) (M' := (sr (sr M 54 F) 54 F53)) rfl ?_
          refine Hx.inc rfl rfl (by (first | omega | (simp only [s54_1, s54_2, s54_3, s54_4, s54_5, s54_6]; omega))) ?_
          refine Hx.run 0 (pc' := 116) (L' := [some (vr 0), some (vi i), some (vi w), some (vi (n : Int)), some (vi (dc (TV (sfF (M 3 i) (M 4 i) (M 6 (6 + i)) (n : Int)) (bb (M 6 (12 + (M 5 i))) (bcF (M 2 (M 5 i)) (n : Int))) (M 6 i)))), some (vi ((n : Int) + 1)), some (vi (dc (TV (sfF (M 3 i) (M 4 i) (M 6 (6 + i)) (n : Int)) (bb (M 6 (12 + (M 5 i))) (bcF (M 2 (M 5 i)) (n : Int))) (M 6 i))))]) (st' := []) (M' := (sr (sr M 54 F) 54 F53)) rfl ?_
          refine Hx.run 1 (pc' := 33) (L' := [some (vr 0), some (vi i), some (vi w), some (vi (n : Int)), some (vi (dc (TV (sfF (M 3 i) (M 4 i) (M 6 (6 + i)) (n : Int)) (bb (M 6 (12 + (M 5 i))) (bcF (M 2 (M 5 i)) (n : Int))) (M 6 i)))), some (vi ((n : Int) + 1)), some (vi (dc (TV (sfF (M 3 i) (M 4 i) (M 6 (6 + i)) (n : Int)) (bb (M 6 (12 + (M 5 i))) (bcF (M 2 (M 5 i)) (n : Int))) (M 6 i))))]) (st' := []) (M' := (sr (sr M 54 F) 54 F53)) rfl ?_
          have e1 : (am1 (snC M i) (n + 1)).1 = (n : Int) := by rw [am1_succ, hsn]; split <;> first | rfl | omega | (dsimp only; omega)
          have e2 : dc (am1 (snC M i) (n + 1)).2 = (dc (TV (sfF (M 3 i) (M 4 i) (M 6 (6 + i)) (n : Int)) (bb (M 6 (12 + (M 5 i))) (bcF (M 2 (M 5 i)) (n : Int))) (M 6 i))) := by rw [am1_succ, hsn]; split <;> first | rfl | omega | (dsimp only; omega)
          have h9 := ih (n + 1) F53 (some (vi (dc (TV (sfF (M 3 i) (M 4 i) (M 6 (6 + i)) (n : Int)) (bb (M 6 (12 + (M 5 i))) (bcF (M 2 (M 5 i)) (n : Int))) (M 6 i))))) (by omega) (by omega)
          rw [e1, e2] at h9
          rw [sr_sr]
          exact h9
        · skip
          refine Hx.run 2 (pc' := 100) (L' := [some (vr 0), some (vi i), some (vi w), some (vi (am1 (snC M i) n).1), some (vi (dc (am1 (snC M i) n).2)), some (vi (n : Int)), some (vi (dc (TV (sfF (M 3 i) (M 4 i) (M 6 (6 + i)) (n : Int)) (bb (M 6 (12 + (M 5 i))) (bcF (M 2 (M 5 i)) (n : Int))) (M 6 i))))]) (st' := [vi (dc (am1 (snC M i) n).2), vi (dc (TV (sfF (M 3 i) (M 4 i) (M 6 (6 + i)) (n : Int)) (bb (M 6 (12 + (M 5 i))) (bcF (M 2 (M 5 i)) (n : Int))) (M 6 i)))]) (M' := (sr (sr M 54 F) 54 F53)) rfl ?_
          refine Hx.br (c := (dc (TV (sfF (M 3 i) (M 4 i) (M 6 (6 + i)) (n : Int)) (bb (M 6 (12 + (M 5 i))) (bcF (M 2 (M 5 i)) (n : Int))) (M 6 i))) < (dc (am1 (snC M i) n).2)) (t := 106) (f := 103) rfl (fun h4 => ?_) (fun h4 => ?_)
          · skip
            refine Hx.run 4 (pc' := 113) (L' := [some (vr 0), some (vi i), some (vi w), some (vi (n : Int)), some (vi (dc (TV (sfF (M 3 i) (M 4 i) (M 6 (6 + i)) (n : Int)) (bb (M 6 (12 + (M 5 i))) (bcF (M 2 (M 5 i)) (n : Int))) (M 6 i)))), some (vi (n : Int)), some (vi (dc (TV (sfF (M 3 i) (M 4 i) (M 6 (6 + i)) (n : Int)) (bb (M 6 (12 + (M 5 i))) (bcF (M 2 (M 5 i)) (n : Int))) (M 6 i))))]) (st' := []) (M' := (sr (sr M 54 F) 54 F53)) rfl ?_
            refine Hx.inc rfl rfl (by (first | omega | (simp only [s54_1, s54_2, s54_3, s54_4, s54_5, s54_6]; omega))) ?_
            refine Hx.run 0 (pc' := 116) (L' := [some (vr 0), some (vi i), some (vi w), some (vi (n : Int)), some (vi (dc (TV (sfF (M 3 i) (M 4 i) (M 6 (6 + i)) (n : Int)) (bb (M 6 (12 + (M 5 i))) (bcF (M 2 (M 5 i)) (n : Int))) (M 6 i)))), some (vi ((n : Int) + 1)), some (vi (dc (TV (sfF (M 3 i) (M 4 i) (M 6 (6 + i)) (n : Int)) (bb (M 6 (12 + (M 5 i))) (bcF (M 2 (M 5 i)) (n : Int))) (M 6 i))))]) (st' := []) (M' := (sr (sr M 54 F) 54 F53)) rfl ?_
            refine Hx.run 1 (pc' := 33) (L' := [some (vr 0), some (vi i), some (vi w), some (vi (n : Int)), some (vi (dc (TV (sfF (M 3 i) (M 4 i) (M 6 (6 + i)) (n : Int)) (bb (M 6 (12 + (M 5 i))) (bcF (M 2 (M 5 i)) (n : Int))) (M 6 i)))), some (vi ((n : Int) + 1)), some (vi (dc (TV (sfF (M 3 i) (M 4 i) (M 6 (6 + i)) (n : Int)) (bb (M 6 (12 + (M 5 i))) (bcF (M 2 (M 5 i)) (n : Int))) (M 6 i))))]) (st' := []) (M' := (sr (sr M 54 F) 54 F53)) rfl ?_
            have e1 : (am1 (snC M i) (n + 1)).1 = (n : Int) := by rw [am1_succ, hsn]; split <;> first | rfl | omega | (dsimp only; omega)
            have e2 : dc (am1 (snC M i) (n + 1)).2 = (dc (TV (sfF (M 3 i) (M 4 i) (M 6 (6 + i)) (n : Int)) (bb (M 6 (12 + (M 5 i))) (bcF (M 2 (M 5 i)) (n : Int))) (M 6 i))) := by rw [am1_succ, hsn]; split <;> first | rfl | omega | (dsimp only; omega)
            have h9 := ih (n + 1) F53 (some (vi (dc (TV (sfF (M 3 i) (M 4 i) (M 6 (6 + i)) (n : Int)) (bb (M 6 (12 + (M 5 i))) (bcF (M 2 (M 5 i)) (n : Int))) (M 6 i))))) (by omega) (by omega)
            rw [e1, e2] at h9
            rw [sr_sr]
            exact h9
          · skip
            refine Hx.run 1 (pc' := 113) (L' := [some (vr 0), some (vi i), some (vi w), some (vi (am1 (snC M i) n).1), some (vi (dc (am1 (snC M i) n).2)), some (vi (n : Int)), some (vi (dc (TV (sfF (M 3 i) (M 4 i) (M 6 (6 + i)) (n : Int)) (bb (M 6 (12 + (M 5 i))) (bcF (M 2 (M 5 i)) (n : Int))) (M 6 i))))]) (st' := []) (M' := (sr (sr M 54 F) 54 F53)) rfl ?_
            refine Hx.inc rfl rfl (by (first | omega | (simp only [s54_1, s54_2, s54_3, s54_4, s54_5, s54_6]; omega))) ?_
            refine Hx.run 0 (pc' := 116) (L' := [some (vr 0), some (vi i), some (vi w), some (vi (am1 (snC M i) n).1), some (vi (dc (am1 (snC M i) n).2)), some (vi ((n : Int) + 1)), some (vi (dc (TV (sfF (M 3 i) (M 4 i) (M 6 (6 + i)) (n : Int)) (bb (M 6 (12 + (M 5 i))) (bcF (M 2 (M 5 i)) (n : Int))) (M 6 i))))]) (st' := []) (M' := (sr (sr M 54 F) 54 F53)) rfl ?_
            refine Hx.run 1 (pc' := 33) (L' := [some (vr 0), some (vi i), some (vi w), some (vi (am1 (snC M i) n).1), some (vi (dc (am1 (snC M i) n).2)), some (vi ((n : Int) + 1)), some (vi (dc (TV (sfF (M 3 i) (M 4 i) (M 6 (6 + i)) (n : Int)) (bb (M 6 (12 + (M 5 i))) (bcF (M 2 (M 5 i)) (n : Int))) (M 6 i))))]) (st' := []) (M' := (sr (sr M 54 F) 54 F53)) rfl ?_
            have e1 : (am1 (snC M i) (n + 1)).1 = (am1 (snC M i) n).1 := by rw [am1_succ, hsn]; split <;> first | rfl | omega | (dsimp only; omega)
            have e2 : dc (am1 (snC M i) (n + 1)).2 = (dc (am1 (snC M i) n).2) := by rw [am1_succ, hsn]; split <;> first | rfl | omega | (dsimp only; omega)
            have h9 := ih (n + 1) F53 (some (vi (dc (TV (sfF (M 3 i) (M 4 i) (M 6 (6 + i)) (n : Int)) (bb (M 6 (12 + (M 5 i))) (bcF (M 2 (M 5 i)) (n : Int))) (M 6 i))))) (by omega) (by omega)
            rw [e1, e2] at h9
            rw [sr_sr]
            exact h9
    · skip
      refine Hx.run 1 (pc' := 120) (L' := [some (vr 0), some (vi i), some (vi w), some (vi (am1 (snC M i) n).1), some (vi (dc (am1 (snC M i) n).2)), some (vi (n : Int)), jf]) (st' := [vi w]) (M' := (sr M 54 F)) rfl ?_
      refine Hx.br (c := w = 0) (t := 123) (f := 127) rfl (fun h5 => ?_) (fun h5 => ?_)
      · skip
        refine Hx.run 2 (pc' := 129) (L' := [some (vr 0), some (vi i), some (vi w), some (vi (am1 (snC M i) n).1), some (vi (dc (am1 (snC M i) n).2)), some (vi (n : Int)), jf]) (st' := [vi (am1 (snC M i) n).1]) (M' := (sr M 54 F)) rfl ?_
        refine Hx.ret rfl ?_
        have e : n = 24 := by omega
        subst e
        first | exact ⟨by rw [if_pos (by assumption)], F, rfl⟩ | exact ⟨by rw [if_neg (by assumption)], F, rfl⟩
      · skip
        refine Hx.run 1 (pc' := 129) (L' := [some (vr 0), some (vi i), some (vi w), some (vi (am1 (snC M i) n).1), some (vi (dc (am1 (snC M i) n).2)), some (vi (n : Int)), jf]) (st' := [vi (dc (am1 (snC M i) n).2)]) (M' := (sr M 54 F)) rfl ?_
        refine Hx.ret rfl ?_
        have e : n = 24 := by omega
        subst e
        first | exact ⟨by rw [if_pos (by assumption)], F, rfl⟩ | exact ⟨by rw [if_neg (by assumption)], F, rfl⟩
