/-! soon (written by wip/whole/gen38.py) -/
/-- the first place below n at which f is least, and how much (-1, 1000000: below it nowhere) -/
def am1 (f : Nat → Int) : Nat → Int × Int
  | 0 => (-1, 1000000)
  | n + 1 => if f n < (am1 f n).2 then ((n : Int), f n) else am1 f n
theorem am1_succ (f : Nat → Int) (n : Nat) : am1 f (n + 1) = if f n < (am1 f n).2 then ((n : Int), f n) else am1 f n := rfl
theorem am1_rng {f : Nat → Int} (h : ∀ n, f n = 1000000 ∨ (0 ≤ f n ∧ f n ≤ 11)) : ∀ n, ((am1 f n).1 = -1 ∧ (am1 f n).2 = 1000000) ∨ (0 ≤ (am1 f n).1 ∧ (am1 f n).1 < n ∧ 0 ≤ (am1 f n).2 ∧ (am1 f n).2 ≤ 11)
  | 0 => Or.inl ⟨rfl, rfl⟩
  | n + 1 => by
    have h1 := am1_rng h n
    have h2 := h n
    rw [am1_succ]
    split
    · dsimp only; omega
    · omega
theorem am1_congr {f g : Nat → Int} : ∀ n, (∀ m, m < n → f m = g m) → am1 f n = am1 g n
  | 0, _ => rfl
  | n + 1, h => by rw [am1_succ, am1_succ, am1_congr n (fun m hm => h m (by omega)), h n (by omega)]
def snC (M : Mm) (i : Int) (t : Nat) : Int := TV (sfF (M 3 i) (M 4 i) (M 6 (6 + i)) t) (bb (M 6 (12 + M 5 i)) (bcF (M 2 (M 5 i)) t)) (M 6 i)
def snR (M : Mm) (i : Int) (t : Nat) : Int := TV (sfF (M 65 (10 + i)) (M 65 (16 + i)) (M 65 (34 + i)) t) (bb (M 65 (7 + M 65 (22 + i))) (bcF (M 65 (4 + M 65 (22 + i))) t)) (M 65 (28 + i))
set_option maxRecDepth 100000 in
theorem cl_soon (i w : Int) (M : Mm) (hg : (0 ≤ i ∧ i < 6) ∧ (0 ≤ M 3 i ∧ M 3 i ≤ 5) ∧ (1 ≤ M 4 i ∧ M 4 i ≤ 4) ∧ (0 ≤ M 5 i ∧ M 5 i < 3) ∧ (0 ≤ M 6 i ∧ M 6 i ≤ 11) ∧ (0 ≤ M 6 (6 + i) ∧ M 6 (6 + i) ≤ 9)) (hf : (0 ≤ (M 5 i) ∧ (M 5 i) < 3) ∧ (0 ≤ M 2 (M 5 i) ∧ M 2 (M 5 i) ≤ 5) ∧ (1 ≤ M 6 (12 + (M 5 i)) ∧ M 6 (12 + (M 5 i)) ≤ 10)) : ∀ (kk : Nat) (n : Nat) (F : Int → Int) (jf : Option PV), n ≤ 24 → 24 - (n : Int) < (kk : Int) → Hx 74 33 [some (vr 0), some (vi i), some (vi w), some (vi (am1 (snC M i) n).1), some (vi (dc (am1 (snC M i) n).2)), some (vi (n : Int)), jf] [] (sr M 54 F) (fun q0 M' => q0 = some (vi (if w = 0 then (am1 (snC M i) 24).1 else dc (am1 (snC M i) 24).2)) ∧ ∃ F : Int → Int, sr M 54 F = M') := by
  intro kk
  induction kk with
  | zero => intro n F jf _ hkk; exact absurd hkk (by omega)
  | succ kk ih =>
    intro n F jf hn hkk
    have sR := sfF_rng (k := M 3 i) (l := M 4 i) (x := M 6 (6 + i)) (t := (n : Int)) (by omega) (by omega)
    have bR := bb_rng (M 6 (12 + (M 5 i))) (bcF (M 2 (M 5 i)) (n : Int))
    have tv := TV_fin (far := (sfF (M 3 i) (M 4 i) (M 6 (6 + i)) (n : Int))) (b := (bb (M 6 (12 + (M 5 i))) (bcF (M 2 (M 5 i)) (n : Int)))) (x := M 6 i) (by omega) (by omega)
    have td := dc_cases (TV (sfF (M 3 i) (M 4 i) (M 6 (6 + i)) (n : Int)) (bb (M 6 (12 + (M 5 i))) (bcF (M 2 (M 5 i)) (n : Int))) (M 6 i))
    have am := am1_rng (f := snC M i) (fun m => by
      have := TV_fin (far := (sfF (M 3 i) (M 4 i) (M 6 (6 + i)) m)) (b := (bb (M 6 (12 + (M 5 i))) (bcF (M 2 (M 5 i)) m))) (x := M 6 i) (by omega) (by omega)
      unfold snC
      omega) n
    have ad := dc_cases (am1 (snC M i) n).2
    have hsn : snC M i n = TV (sfF (M 3 i) (M 4 i) (M 6 (6 + i)) (n : Int)) (bb (M 6 (12 + (M 5 i))) (bcF (M 2 (M 5 i)) (n : Int))) (M 6 i) := rfl
    refine Hx.run 2 (pc' := 37) (L' := [some (vr 0), some (vi i), some (vi w), some (vi (am1 (snC M i) n).1), some (vi (dc (am1 (snC M i) n).2)), some (vi (n : Int)), jf]) (st' := [vi 24, vi (n : Int)]) (M' := (sr M 54 F)) rfl ?_
    refine Hx.br (c := (n : Int) < 24) (t := 40) (f := 119) rfl (fun h1 => ?_) (fun h1 => ?_)
    · skip
      refine Hx.run 5 (pc' := 49) (L' := [some (vr 0), some (vi i), some (vi w), some (vi (am1 (snC M i) n).1), some (vi (dc (am1 (snC M i) n).2)), some (vi (n : Int)), jf]) (st' := [vi i, vr 1, vr 53]) (M' := (sr M 54 F)) rfl ?_
      refine Hx.call (t := 18) (as := [vr 1, vi i]) (pc' := 52) (rest := [vr 53]) rfl (c_stepOf_1 i (by (first | omega | (simp only [s54_1, s54_2, s54_3, s54_4, s54_5, s54_6]; omega))) (sr M 54 F)) ?_
      rintro _ _ ⟨rfl, rfl⟩
      refine Hx.run 0 (pc' := 52) (L' := [some (vr 0), some (vi i), some (vi w), some (vi (am1 (snC M i) n).1), some (vi (dc (am1 (snC M i) n).2)), some (vi (n : Int)), jf]) (st' := [vi (M 6 i), vr 53]) (M' := (sr M 54 F)) rfl ?_
      refine Hx.run 4 (pc' := 59) (L' := [some (vr 0), some (vi i), some (vi w), some (vi (am1 (snC M i) n).1), some (vi (dc (am1 (snC M i) n).2)), some (vi (n : Int)), jf]) (st' := [vi (n : Int), vi i, vr 1, vi (M 6 i), vr 53]) (M' := (sr M 54 F)) rfl ?_
      refine Hx.call (t := 31) (as := [vr 1, vi i, vi (n : Int)]) (pc' := 62) (rest := [vi (M 6 i), vr 53]) rfl (c_reachAt_1 i (n : Int) (sr M 54 F) (by (first | omega | (simp only [s54_1, s54_2, s54_3, s54_4, s54_5, s54_6]; omega))) (by (first | omega | (simp only [s54_1, s54_2, s54_3, s54_4, s54_5, s54_6]; omega)))) ?_
      rintro _ _ ⟨rfl, rfl⟩
      refine Hx.run 0 (pc' := 62) (L' := [some (vr 0), some (vi i), some (vi w), some (vi (am1 (snC M i) n).1), some (vi (dc (am1 (snC M i) n).2)), some (vi (n : Int)), jf]) (st' := [vi (sfF (M 3 i) (M 4 i) (M 6 (6 + i)) (n : Int)), vi (M 6 i), vr 53]) (M' := (sr M 54 F)) rfl ?_
      refine Hx.run 5 (pc' := 71) (L' := [some (vr 0), some (vi i), some (vi w), some (vi (am1 (snC M i) n).1), some (vi (dc (am1 (snC M i) n).2)), some (vi (n : Int)), jf]) (st' := [vi i, vr 1, vr 1, vi (sfF (M 3 i) (M 4 i) (M 6 (6 + i)) (n : Int)), vi (M 6 i), vr 53]) (M' := (sr M 54 F)) rfl ?_
      refine Hx.call (t := 17) (as := [vr 1, vi i]) (pc' := 74) (rest := [vr 1, vi (sfF (M 3 i) (M 4 i) (M 6 (6 + i)) (n : Int)), vi (M 6 i), vr 53]) rfl (c_flightOf_1 i (by (first | omega | (simp only [s54_1, s54_2, s54_3, s54_4, s54_5, s54_6]; omega))) (sr M 54 F)) ?_
      rintro _ _ ⟨rfl, rfl⟩
      refine Hx.run 0 (pc' := 74) (L' := [some (vr 0), some (vi i), some (vi w), some (vi (am1 (snC M i) n).1), some (vi (dc (am1 (snC M i) n).2)), some (vi (n : Int)), jf]) (st' := [vi (M 5 i), vr 1, vi (sfF (M 3 i) (M 4 i) (M 6 (6 + i)) (n : Int)), vi (M 6 i), vr 53]) (M' := (sr M 54 F)) rfl ?_
      refine Hx.run 1 (pc' := 76) (L' := [some (vr 0), some (vi i), some (vi w), some (vi (am1 (snC M i) n).1), some (vi (dc (am1 (snC M i) n).2)), some (vi (n : Int)), jf]) (st' := [vi (n : Int), vi (M 5 i), vr 1, vi (sfF (M 3 i) (M 4 i) (M 6 (6 + i)) (n : Int)), vi (M 6 i), vr 53]) (M' := (sr M 54 F)) rfl ?_
      refine Hx.call (t := 28) (as := [vr 1, vi (M 5 i), vi (n : Int)]) (pc' := 79) (rest := [vi (sfF (M 3 i) (M 4 i) (M 6 (6 + i)) (n : Int)), vi (M 6 i), vr 53]) rfl (c_barsAt_1 (M 5 i) (n : Int) (sr M 54 F) (by (first | omega | (simp only [s54_1, s54_2, s54_3, s54_4, s54_5, s54_6]; omega))) (by (first | omega | (simp only [s54_1, s54_2, s54_3, s54_4, s54_5, s54_6]; omega)))) ?_
      rintro _ _ ⟨rfl, rfl⟩
      refine Hx.run 0 (pc' := 79) (L' := [some (vr 0), some (vi i), some (vi w), some (vi (am1 (snC M i) n).1), some (vi (dc (am1 (snC M i) n).2)), some (vi (n : Int)), jf]) (st' := [vi (bb (M 6 (12 + (M 5 i))) (bcF (M 2 (M 5 i)) (n : Int))), vi (sfF (M 3 i) (M 4 i) (M 6 (6 + i)) (n : Int)), vi (M 6 i), vr 53]) (M' := (sr M 54 F)) rfl ?_
      refine Hx.call (t := 0) (as := [vr 53, vi (M 6 i), vi (sfF (M 3 i) (M 4 i) (M 6 (6 + i)) (n : Int)), vi (bb (M 6 (12 + (M 5 i))) (bcF (M 2 (M 5 i)) (n : Int)))]) (pc' := 82) (rest := []) rfl (c_fewestFrom_53 (M 6 i) (sfF (M 3 i) (M 4 i) (M 6 (6 + i)) (n : Int)) (bb (M 6 (12 + (M 5 i))) (bcF (M 2 (M 5 i)) (n : Int))) (sr M 54 F) (by (first | omega | (simp only [s54_1, s54_2, s54_3, s54_4, s54_5, s54_6]; omega))) (by (first | omega | (simp only [s54_1, s54_2, s54_3, s54_4, s54_5, s54_6]; omega))) (by (first | omega | (simp only [s54_1, s54_2, s54_3, s54_4, s54_5, s54_6]; omega)))) ?_
      rintro _ _ ⟨rfl, F53, hF53, rfl⟩
      refine Hx.run 0 (pc' := 82) (L' := [some (vr 0), some (vi i), some (vi w), some (vi (am1 (snC M i) n).1), some (vi (dc (am1 (snC M i) n).2)), some (vi (n : Int)), jf]) (st' := [vi (dc (TV (sfF (M 3 i) (M 4 i) (M 6 (6 + i)) (n : Int)) (bb (M 6 (12 + (M 5 i))) (bcF (M 2 (M 5 i)) (n : Int))) (M 6 i)))]) (M' := (sr (sr M 54 F) 54 F53)) rfl ?_
      refine Hx.run 3 (pc' := 87) (L' := [some (vr 0), some (vi i), some (vi w), some (vi (am1 (snC M i) n).1), some (vi (dc (am1 (snC M i) n).2)), some (vi (n : Int)), some (vi (dc (TV (sfF (M 3 i) (M 4 i) (M 6 (6 + i)) (n : Int)) (bb (M 6 (12 + (M 5 i))) (bcF (M 2 (M 5 i)) (n : Int))) (M 6 i))))]) (st' := [vi (-1), vi (dc (TV (sfF (M 3 i) (M 4 i) (M 6 (6 + i)) (n : Int)) (bb (M 6 (12 + (M 5 i))) (bcF (M 2 (M 5 i)) (n : Int))) (M 6 i)))]) (M' := (sr (sr M 54 F) 54 F53)) rfl ?_
      refine Hx.br (c := (dc (TV (sfF (M 3 i) (M 4 i) (M 6 (6 + i)) (n : Int)) (bb (M 6 (12 + (M 5 i))) (bcF (M 2 (M 5 i)) (n : Int))) (M 6 i))) = (-1)) (t := 113) (f := 90) rfl (fun h2 => ?_) (fun h2 => ?_)
      · skip
        refine Hx.inc rfl rfl (by (first | omega | (simp only [s54_1, s54_2, s54_3, s54_4, s54_5, s54_6]; omega))) ?_
        refine Hx.run 0 (pc' := 116) (L' := [some (vr 0), some (vi i), some (vi w), some (vi (am1 (snC M i) n).1), some (vi (dc (am1 (snC M i) n).2)), some (vi ((n : Int) + 1)), some (vi (dc (TV (sfF (M 3 i) (M 4 i) (M 6 (6 + i)) (n : Int)) (bb (M 6 (12 + (M 5 i))) (bcF (M 2 (M 5 i)) (n : Int))) (M 6 i))))]) (st' := []) (M' := (sr (sr M 54 F) 54 F53)) rfl ?_
        refine Hx.run 1 (pc' := 33) (L' := [some (vr 0), some (vi i), some (vi w), some (vi (am1 (snC M i) n).1), some (vi (dc (am1 (snC M i) n).2)), some (vi ((n : Int) + 1)), some (vi (dc (TV (sfF (M 3 i) (M 4 i) (M 6 (6 + i)) (n : Int)) (bb (M 6 (12 + (M 5 i))) (bcF (M 2 (M 5 i)) (n : Int))) (M 6 i))))]) (st' := []) (M' := (sr (sr M 54 F) 54 F53)) rfl ?_
        have e1 : (am1 (snC M i) (n + 1)).1 = (am1 (snC M i) n).1 := by rw [am1_succ, hsn]; split <;> first | rfl | omega | (dsimp only; omega)
        have e2 : dc (am1 (snC M i) (n + 1)).2 = (dc (am1 (snC M i) n).2) := by rw [am1_succ, hsn]; split <;> first | rfl | omega | (dsimp only; omega)
        have h9 := ih (n + 1) F53 (some (vi (dc (TV (sfF (M 3 i) (M 4 i) (M 6 (6 + i)) (n : Int)) (bb (M 6 (12 + (M 5 i))) (bcF (M 2 (M 5 i)) (n : Int))) (M 6 i))))) (by omega) (by omega)
        rw [e1, e2] at h9
        rw [sr_sr]
        exact h9
      · skip
        refine Hx.run 2 (pc' := 93) (L' := [some (vr 0), some (vi i), some (vi w), some (vi (am1 (snC M i) n).1), some (vi (dc (am1 (snC M i) n).2)), some (vi (n : Int)), some (vi (dc (TV (sfF (M 3 i) (M 4 i) (M 6 (6 + i)) (n : Int)) (bb (M 6 (12 + (M 5 i))) (bcF (M 2 (M 5 i)) (n : Int))) (M 6 i))))]) (st' := [vi (-1), vi (dc (am1 (snC M i) n).2)]) (M' := (sr (sr M 54 F) 54 F53)) rfl ?_
        refine Hx.br (c := (dc (am1 (snC M i) n).2) = (-1)) (t := 106) (f := 96) rfl (fun h3 => ?_) (fun h3 => ?_)
        · skip
          refine Hx.run 4 (pc' := 113) (L' := [some (vr 0), some (vi i), some (vi w), some (vi (n : Int)), some (vi (dc (TV (sfF (M 3 i) (M 4 i) (M 6 (6 + i)) (n : Int)) (bb (M 6 (12 + (M 5 i))) (bcF (M 2 (M 5 i)) (n : Int))) (M 6 i)))), some (vi (n : Int)), some (vi (dc (TV (sfF (M 3 i) (M 4 i) (M 6 (6 + i)) (n : Int)) (bb (M 6 (12 + (M 5 i))) (bcF (M 2 (M 5 i)) (n : Int))) (M 6 i))))]) (st' := []) (M' := (sr (sr M 54 F) 54 F53)) rfl ?_
          refine Hx.inc rfl rfl (by (first | omega | (simp only [s54_1, s54_2, s54_3, s54_4, s54_5, s54_6]; omega))) ?_
          refine Hx.run 0 (pc' := 116) (L' := [some (vr 0), some (vi i), some (vi w), some (vi (n : Int)), some (vi (dc (TV (sfF (M 3 i) (M 4 i) (M 6 (6 + i)) (n : Int)) (bb (M 6 (12 + (M 5 i))) (bcF (M 2 (M 5 i)) (n : Int))) (M 6 i)))), some (vi ((n : Int) + 1)), some (vi (dc (TV (sfF (M 3 i) (M 4 i) (M 6 (6 + i)) (n : Int)) (bb (M 6 (12 + (M 5 i))) (bcF (M 2 (M 5 i)) (n : Int))) (M 6 i))))]) (st' := []) (M' := (sr (sr M 54 F) 54 F53)) rfl ?_
          refine Hx.run 1 (pc' := 33) (L' := [some (vr 0), some (vi i), some (vi w), some (vi (n : Int)), some (vi (dc (TV (sfF (M 3 i) (M 4 i) (M 6 (6 + i)) (n : Int)) (bb (M 6 (12 + (M 5 i))) (bcF (M 2 (M 5 i)) (n : Int))) (M 6 i)))), some (vi ((n : Int) + 1)), some (vi (dc (TV (sfF (M 3 i) (M 4 i) (M 6 (6 + i)) (n : Int)) (bb (M 6 (12 + (M 5 i))) (bcF (M 2 (M 5 i)) (n : Int))) (M 6 i))))]) (st' := []) (M' := (sr (sr M 54 F) 54 F53)) rfl ?_
          have e1 : (am1 (snC M i) (n + 1)).1 = (n : Int) := by rw [am1_succ, hsn]; split <;> first | rfl | omega | (dsimp only; omega)
          have e2 : dc (am1 (snC M i) (n + 1)).2 = (dc (TV (sfF (M 3 i) (M 4 i) (M 6 (6 + i)) (n : Int)) (bb (M 6 (12 + (M 5 i))) (bcF (M 2 (M 5 i)) (n : Int))) (M 6 i))) := by rw [am1_succ, hsn]; split <;> first | rfl | omega | (dsimp only; omega)
          have h9 := ih (n + 1) F53 (some (vi (dc (TV (sfF (M 3 i) (M 4 i) (M 6 (6 + i)) (n : Int)) (bb (M 6 (12 + (M 5 i))) (bcF (M 2 (M 5 i)) (n : Int))) (M 6 i))))) (by omega) (by omega)
          rw [e1, e2] at h9
          rw [sr_sr]
          exact h9
        · skip
          refine Hx.run 2 (pc' := 100) (L' := [some (vr 0), some (vi i), some (vi w), some (vi (am1 (snC M i) n).1), some (vi (dc (am1 (snC M i) n).2)), some (vi (n : Int)), some (vi (dc (TV (sfF (M 3 i) (M 4 i) (M 6 (6 + i)) (n : Int)) (bb (M 6 (12 + (M 5 i))) (bcF (M 2 (M 5 i)) (n : Int))) (M 6 i))))]) (st' := [vi (dc (am1 (snC M i) n).2), vi (dc (TV (sfF (M 3 i) (M 4 i) (M 6 (6 + i)) (n : Int)) (bb (M 6 (12 + (M 5 i))) (bcF (M 2 (M 5 i)) (n : Int))) (M 6 i)))]) (M' := (sr (sr M 54 F) 54 F53)) rfl ?_
          refine Hx.br (c := (dc (TV (sfF (M 3 i) (M 4 i) (M 6 (6 + i)) (n : Int)) (bb (M 6 (12 + (M 5 i))) (bcF (M 2 (M 5 i)) (n : Int))) (M 6 i))) < (dc (am1 (snC M i) n).2)) (t := 106) (f := 103) rfl (fun h4 => ?_) (fun h4 => ?_)
          · skip
            refine Hx.run 4 (pc' := 113) (L' := [some (vr 0), some (vi i), some (vi w), some (vi (n : Int)), some (vi (dc (TV (sfF (M 3 i) (M 4 i) (M 6 (6 + i)) (n : Int)) (bb (M 6 (12 + (M 5 i))) (bcF (M 2 (M 5 i)) (n : Int))) (M 6 i)))), some (vi (n : Int)), some (vi (dc (TV (sfF (M 3 i) (M 4 i) (M 6 (6 + i)) (n : Int)) (bb (M 6 (12 + (M 5 i))) (bcF (M 2 (M 5 i)) (n : Int))) (M 6 i))))]) (st' := []) (M' := (sr (sr M 54 F) 54 F53)) rfl ?_
            refine Hx.inc rfl rfl (by (first | omega | (simp only [s54_1, s54_2, s54_3, s54_4, s54_5, s54_6]; omega))) ?_
            refine Hx.run 0 (pc' := 116) (L' := [some (vr 0), some (vi i), some (vi w), some (vi (n : Int)), some (vi (dc (TV (sfF (M 3 i) (M 4 i) (M 6 (6 + i)) (n : Int)) (bb (M 6 (12 + (M 5 i))) (bcF (M 2 (M 5 i)) (n : Int))) (M 6 i)))), some (vi ((n : Int) + 1)), some (vi (dc (TV (sfF (M 3 i) (M 4 i) (M 6 (6 + i)) (n : Int)) (bb (M 6 (12 + (M 5 i))) (bcF (M 2 (M 5 i)) (n : Int))) (M 6 i))))]) (st' := []) (M' := (sr (sr M 54 F) 54 F53)) rfl ?_
            refine Hx.run 1 (pc' := 33) (L' := [some (vr 0), some (vi i), some (vi w), some (vi (n : Int)), some (vi (dc (TV (sfF (M 3 i) (M 4 i) (M 6 (6 + i)) (n : Int)) (bb (M 6 (12 + (M 5 i))) (bcF (M 2 (M 5 i)) (n : Int))) (M 6 i)))), some (vi ((n : Int) + 1)), some (vi (dc (TV (sfF (M 3 i) (M 4 i) (M 6 (6 + i)) (n : Int)) (bb (M 6 (12 + (M 5 i))) (bcF (M 2 (M 5 i)) (n : Int))) (M 6 i))))]) (st' := []) (M' := (sr (sr M 54 F) 54 F53)) rfl ?_
            have e1 : (am1 (snC M i) (n + 1)).1 = (n : Int) := by rw [am1_succ, hsn]; split <;> first | rfl | omega | (dsimp only; omega)
            have e2 : dc (am1 (snC M i) (n + 1)).2 = (dc (TV (sfF (M 3 i) (M 4 i) (M 6 (6 + i)) (n : Int)) (bb (M 6 (12 + (M 5 i))) (bcF (M 2 (M 5 i)) (n : Int))) (M 6 i))) := by rw [am1_succ, hsn]; split <;> first | rfl | omega | (dsimp only; omega)
            have h9 := ih (n + 1) F53 (some (vi (dc (TV (sfF (M 3 i) (M 4 i) (M 6 (6 + i)) (n : Int)) (bb (M 6 (12 + (M 5 i))) (bcF (M 2 (M 5 i)) (n : Int))) (M 6 i))))) (by omega) (by omega)
            rw [e1, e2] at h9
            rw [sr_sr]
            exact h9
          · skip
            refine Hx.run 1 (pc' := 113) (L' := [some (vr 0), some (vi i), some (vi w), some (vi (am1 (snC M i) n).1), some (vi (dc (am1 (snC M i) n).2)), some (vi (n : Int)), some (vi (dc (TV (sfF (M 3 i) (M 4 i) (M 6 (6 + i)) (n : Int)) (bb (M 6 (12 + (M 5 i))) (bcF (M 2 (M 5 i)) (n : Int))) (M 6 i))))]) (st' := []) (M' := (sr (sr M 54 F) 54 F53)) rfl ?_
            refine Hx.inc rfl rfl (by (first | omega | (simp only [s54_1, s54_2, s54_3, s54_4, s54_5, s54_6]; omega))) ?_
            refine Hx.run 0 (pc' := 116) (L' := [some (vr 0), some (vi i), some (vi w), some (vi (am1 (snC M i) n).1), some (vi (dc (am1 (snC M i) n).2)), some (vi ((n : Int) + 1)), some (vi (dc (TV (sfF (M 3 i) (M 4 i) (M 6 (6 + i)) (n : Int)) (bb (M 6 (12 + (M 5 i))) (bcF (M 2 (M 5 i)) (n : Int))) (M 6 i))))]) (st' := []) (M' := (sr (sr M 54 F) 54 F53)) rfl ?_
            refine Hx.run 1 (pc' := 33) (L' := [some (vr 0), some (vi i), some (vi w), some (vi (am1 (snC M i) n).1), some (vi (dc (am1 (snC M i) n).2)), some (vi ((n : Int) + 1)), some (vi (dc (TV (sfF (M 3 i) (M 4 i) (M 6 (6 + i)) (n : Int)) (bb (M 6 (12 + (M 5 i))) (bcF (M 2 (M 5 i)) (n : Int))) (M 6 i))))]) (st' := []) (M' := (sr (sr M 54 F) 54 F53)) rfl ?_
            have e1 : (am1 (snC M i) (n + 1)).1 = (am1 (snC M i) n).1 := by rw [am1_succ, hsn]; split <;> first | rfl | omega | (dsimp only; omega)
            have e2 : dc (am1 (snC M i) (n + 1)).2 = (dc (am1 (snC M i) n).2) := by rw [am1_succ, hsn]; split <;> first | rfl | omega | (dsimp only; omega)
            have h9 := ih (n + 1) F53 (some (vi (dc (TV (sfF (M 3 i) (M 4 i) (M 6 (6 + i)) (n : Int)) (bb (M 6 (12 + (M 5 i))) (bcF (M 2 (M 5 i)) (n : Int))) (M 6 i))))) (by omega) (by omega)
            rw [e1, e2] at h9
            rw [sr_sr]
            exact h9
    · skip
      refine Hx.run 1 (pc' := 120) (L' := [some (vr 0), some (vi i), some (vi w), some (vi (am1 (snC M i) n).1), some (vi (dc (am1 (snC M i) n).2)), some (vi (n : Int)), jf]) (st' := [vi w]) (M' := (sr M 54 F)) rfl ?_
      refine Hx.br (c := w = 0) (t := 123) (f := 127) rfl (fun h5 => ?_) (fun h5 => ?_)
      · skip
        refine Hx.run 2 (pc' := 129) (L' := [some (vr 0), some (vi i), some (vi w), some (vi (am1 (snC M i) n).1), some (vi (dc (am1 (snC M i) n).2)), some (vi (n : Int)), jf]) (st' := [vi (am1 (snC M i) n).1]) (M' := (sr M 54 F)) rfl ?_
        refine Hx.ret rfl ?_
        have e : n = 24 := by omega
        subst e
        first | exact ⟨by rw [if_pos (by assumption)], F, rfl⟩ | exact ⟨by rw [if_neg (by assumption)], F, rfl⟩
      · skip
        refine Hx.run 1 (pc' := 129) (L' := [some (vr 0), some (vi i), some (vi w), some (vi (am1 (snC M i) n).1), some (vi (dc (am1 (snC M i) n).2)), some (vi (n : Int)), jf]) (st' := [vi (dc (am1 (snC M i) n).2)]) (M' := (sr M 54 F)) rfl ?_
        refine Hx.ret rfl ?_
        have e : n = 24 := by omega
        subst e
        first | exact ⟨by rw [if_pos (by assumption)], F, rfl⟩ | exact ⟨by rw [if_neg (by assumption)], F, rfl⟩
set_option maxRecDepth 100000 in
theorem C_soon (i w : Int) (M : Mm) (hI : HI M 1) (hs : (0 ≤ M 0 14 ∧ M 0 14 ≤ 600) ∧ (0 ≤ M 0 15 ∧ M 0 15 ≤ 600) ∧ (0 ≤ M 0 16 ∧ M 0 16 ≤ 600)) : Ct 74 [vr 0, vi i, vi w] M (fun q0 M' => ((¬ (0 ≤ i ∧ i < M 1 1) ∨ w < 0 ∨ 1 < w) ∧ q0 = some (vi (-2)) ∧ up M 0 14 (M 0 14 + 1) = M') ∨ (((0 ≤ i ∧ i < M 1 1) ∧ 0 ≤ w ∧ w ≤ 1) ∧ q0 = some (vi (if w = 0 then (am1 (snC M i) 24).1 else dc (am1 (snC M i) 24).2)) ∧ ∃ F : Int → Int, sr M 54 F = M')) := by
  obtain ⟨iF, iG, iK, iH, iFa, aF, aG, lS, lN, lM, rS, rN, rM, aK⟩ := (show (0 ≤ M 1 0 ∧ M 1 0 ≤ 3) ∧ (0 ≤ M 1 1 ∧ M 1 1 ≤ 6) ∧ (0 ≤ M 1 2 ∧ M 1 2 ≤ 8) ∧ (0 ≤ M 6 16 ∧ M 6 16 ≤ 9999) ∧ (0 ≤ M 6 15 ∧ M 6 15 ≤ 9000) ∧ (∀ f : Int, 0 ≤ f → f < M 1 0 → (0 ≤ M 2 f ∧ M 2 f ≤ 5) ∧ (1 ≤ M 6 (12 + f) ∧ M 6 (12 + f) ≤ 10)) ∧ (∀ i : Int, 0 ≤ i → i < M 1 1 → (0 ≤ M 3 i ∧ M 3 i ≤ 5) ∧ (1 ≤ M 4 i ∧ M 4 i ≤ 4) ∧ (0 ≤ M 5 i ∧ M 5 i < M 1 0) ∧ (0 ≤ M 6 i ∧ M 6 i ≤ 11) ∧ (0 ≤ M 6 (6 + i) ∧ M 6 (6 + i) ≤ 9)) ∧ (M 8 0 = 4 ∧ M 8 1 = 5 ∧ 0 ≤ M 8 3 ∧ M 8 3 ≤ 5) ∧ (M 10 0 = 3 ∧ M 10 1 = 6 ∧ 0 ≤ M 10 3 ∧ M 10 3 ≤ 6) ∧ (M 12 0 = 5 ∧ M 12 1 = 6 ∧ 0 ≤ M 12 3 ∧ M 12 3 ≤ 6) ∧ (∀ n : Int, 0 ≤ n → n < M 8 3 → (0 ≤ M 9 (n * 4 + 0) ∧ M 9 (n * 4 + 0) ≤ 2) ∧ (1 ≤ M 9 (n * 4 + 1) ∧ M 9 (n * 4 + 1) ≤ 10) ∧ (0 ≤ M 9 (n * 4 + 2) ∧ M 9 (n * 4 + 2) ≤ 23) ∧ (0 ≤ M 9 (n * 4 + 3) ∧ M 9 (n * 4 + 3) ≤ 1)) ∧ (∀ n : Int, 0 ≤ n → n < M 10 3 → (0 ≤ M 11 (n * 3 + 0) ∧ M 11 (n * 3 + 0) ≤ 2) ∧ (0 ≤ M 11 (n * 3 + 1) ∧ M 11 (n * 3 + 1) ≤ 23) ∧ (0 ≤ M 11 (n * 3 + 2) ∧ M 11 (n * 3 + 2) ≤ 9)) ∧ (∀ n : Int, 0 ≤ n → n < M 12 3 → (0 ≤ M 13 (n * 5 + 0) ∧ M 13 (n * 5 + 0) ≤ 5) ∧ (1 ≤ M 13 (n * 5 + 1) ∧ M 13 (n * 5 + 1) ≤ 4) ∧ (0 ≤ M 13 (n * 5 + 2) ∧ M 13 (n * 5 + 2) ≤ 9) ∧ (0 ≤ M 13 (n * 5 + 3) ∧ M 13 (n * 5 + 3) ≤ 23) ∧ (0 ≤ M 13 (n * 5 + 4) ∧ M 13 (n * 5 + 4) ≤ 9)) ∧ (∀ k : Int, 0 ≤ k → k < M 1 2 → (0 ≤ M 7 (k * 17 + 16) ∧ M 7 (k * 17 + 16) ≤ 9999) ∧ (0 ≤ M 7 (k * 17 + 15) ∧ M 7 (k * 17 + 15) ≤ 9000) ∧ (∀ f : Int, 0 ≤ f → f < M 1 0 → (1 ≤ M 7 (k * 17 + (12 + f)) ∧ M 7 (k * 17 + (12 + f)) ≤ 10)) ∧ (∀ i : Int, 0 ≤ i → i < M 1 1 → (0 ≤ M 7 (k * 17 + i) ∧ M 7 (k * 17 + i) ≤ 11) ∧ (0 ≤ M 7 (k * 17 + (6 + i)) ∧ M 7 (k * 17 + (6 + i)) ≤ 9))) from hI)
  refine Hx.run 3 (pc' := 5) (L' := [some (vr 0), some (vi i), some (vi w), none, none, none, none]) (st' := [vi i, vr 1]) (M' := M) rfl ?_
  refine Hx.call (t := 8) (as := [vr 1, vi i]) (pc' := 8) (rest := []) rfl (c_hasGoer_1 i M) ?_
  rintro _ _ (⟨q93, rfl, rfl⟩ | ⟨q93, rfl, rfl⟩)
  · skip
    have gq93 := aG i q93.1 q93.2
    have fq93 := aF (M 5 i) (by omega) (by omega)
    have sR := sfF_rng (k := M 3 i) (l := M 4 i) (x := M 6 (6 + i)) (t := M 6 16 % 24) (by omega) (by omega)
    have bR := bb_rng (M 6 (12 + (M 5 i))) (bcF (M 2 (M 5 i)) (M 6 16 % 24))
    refine Hx.run 2 (pc' := 12) (L' := [some (vr 0), some (vi i), some (vi w), none, none, none, none]) (st' := [vi w]) (M' := M) rfl ?_
    refine Hx.br (c := w < 0) (t := 20) (f := 15) rfl (fun h1 => ?_) (fun h1 => ?_)
    · skip
      refine Hx.run 1 (pc' := 21) (L' := [some (vr 0), some (vi i), some (vi w), none, none, none, none]) (st' := [vr 0]) (M' := M) rfl ?_
      refine Hx.call (t := 114) (as := [vr 0]) (pc' := 24) (rest := []) rfl (c_bad M (by omega)) ?_
      rintro _ _ ⟨rfl, rfl⟩
      refine Hx.run 0 (pc' := 24) (L' := [some (vr 0), some (vi i), some (vi w), none, none, none, none]) (st' := [vi (-2)]) (M' := (up M 0 14 ((M 0 14) + 1))) rfl ?_
      refine Hx.ret rfl ?_
      exact Or.inl ⟨by omega, rfl, rfl⟩
    · skip
      refine Hx.run 2 (pc' := 17) (L' := [some (vr 0), some (vi i), some (vi w), none, none, none, none]) (st' := [vi 1, vi w]) (M' := M) rfl ?_
      refine Hx.br (c := 1 < w) (t := 20) (f := 25) rfl (fun h2 => ?_) (fun h2 => ?_)
      · skip
        refine Hx.run 1 (pc' := 21) (L' := [some (vr 0), some (vi i), some (vi w), none, none, none, none]) (st' := [vr 0]) (M' := M) rfl ?_
        refine Hx.call (t := 114) (as := [vr 0]) (pc' := 24) (rest := []) rfl (c_bad M (by omega)) ?_
        rintro _ _ ⟨rfl, rfl⟩
        refine Hx.run 0 (pc' := 24) (L' := [some (vr 0), some (vi i), some (vi w), none, none, none, none]) (st' := [vi (-2)]) (M' := (up M 0 14 ((M 0 14) + 1))) rfl ?_
        refine Hx.ret rfl ?_
        exact Or.inl ⟨by omega, rfl, rfl⟩
      · skip
        refine Hx.run 6 (pc' := 33) (L' := [some (vr 0), some (vi i), some (vi w), some (vi (-1)), some (vi (-1)), some (vi 0), none]) (st' := []) (M' := M) rfl ?_
        have h0 := cl_soon i w M (by omega) (by omega) 30 0 (M 54) none (by omega) (by omega)
        rw [sr_self, show dc (am1 (snC M i) 0).2 = -1 from rfl, show (am1 (snC M i) 0).1 = -1 from rfl] at h0
        exact Hx.imp h0 (fun r M' h => Or.inr ⟨by omega, h⟩)
  · skip
    refine Hx.run 2 (pc' := 21) (L' := [some (vr 0), some (vi i), some (vi w), none, none, none, none]) (st' := [vr 0]) (M' := M) rfl ?_
    refine Hx.call (t := 114) (as := [vr 0]) (pc' := 24) (rest := []) rfl (c_bad M (by omega)) ?_
    rintro _ _ ⟨rfl, rfl⟩
    refine Hx.run 0 (pc' := 24) (L' := [some (vr 0), some (vi i), some (vi w), none, none, none, none]) (st' := [vi (-2)]) (M' := (up M 0 14 ((M 0 14) + 1))) rfl ?_
    refine Hx.ret rfl ?_
    exact Or.inl ⟨by omega, rfl, rfl⟩
set_option maxRecDepth 100000 in
theorem rl_soon (i w : Int) (M : Mm) (hg : (0 ≤ i ∧ i < 6) ∧ (0 ≤ M 65 (10 + i) ∧ M 65 (10 + i) ≤ 5) ∧ (1 ≤ M 65 (16 + i) ∧ M 65 (16 + i) ≤ 4) ∧ (0 ≤ M 65 (22 + i) ∧ M 65 (22 + i) ≤ 2) ∧ (0 ≤ M 65 (28 + i) ∧ M 65 (28 + i) ≤ 11) ∧ (0 ≤ M 65 (34 + i) ∧ M 65 (34 + i) ≤ 9)) (hf : (0 ≤ (M 65 (22 + i)) ∧ (M 65 (22 + i)) < 3) ∧ (0 ≤ M 65 (4 + (M 65 (22 + i))) ∧ M 65 (4 + (M 65 (22 + i))) ≤ 5) ∧ (1 ≤ M 65 (7 + (M 65 (22 + i))) ∧ M 65 (7 + (M 65 (22 + i))) ≤ 10)) : ∀ (kk : Nat) (n : Nat) (F : Int → Int) (jf : Option PV), n ≤ 24 → 24 - (n : Int) < (kk : Int) → Hx 188 45 [some (vr 64), some (vi i), some (vi w), some (vi (M 65 (22 + i))), some (vi (am1 (snR M i) n).1), some (vi (am1 (snR M i) n).2), some (vi (n : Int)), jf] [] (sr M 69 F) (fun q0 M' => q0 = some (vi (if (am1 (snR M i) 24).1 = -1 then -1 else if w = 0 then (am1 (snR M i) 24).1 else (am1 (snR M i) 24).2)) ∧ ∃ F : Int → Int, sr M 69 F = M') := by
  intro kk
  induction kk with
  | zero => intro n F jf _ hkk; exact absurd hkk (by omega)
  | succ kk ih =>
    intro n F jf hn hkk
    have sR := sfF_rng (k := M 65 (10 + i)) (l := M 65 (16 + i)) (x := M 65 (34 + i)) (t := (n : Int)) (by omega) (by omega)
    have bR := bb_rng (M 65 (7 + (M 65 (22 + i)))) (bcF (M 65 (4 + (M 65 (22 + i)))) (n : Int))
    have tv := TV_fin (far := (sfF (M 65 (10 + i)) (M 65 (16 + i)) (M 65 (34 + i)) (n : Int))) (b := (bb (M 65 (7 + (M 65 (22 + i)))) (bcF (M 65 (4 + (M 65 (22 + i)))) (n : Int)))) (x := M 65 (28 + i)) (by omega) (by omega)
    have am := am1_rng (f := snR M i) (fun m => by
      have := TV_fin (far := (sfF (M 65 (10 + i)) (M 65 (16 + i)) (M 65 (34 + i)) m)) (b := (bb (M 65 (7 + (M 65 (22 + i)))) (bcF (M 65 (4 + (M 65 (22 + i)))) m))) (x := M 65 (28 + i)) (by omega) (by omega)
      unfold snR
      omega) n
    have hsn : snR M i n = TV (sfF (M 65 (10 + i)) (M 65 (16 + i)) (M 65 (34 + i)) (n : Int)) (bb (M 65 (7 + (M 65 (22 + i)))) (bcF (M 65 (4 + (M 65 (22 + i)))) (n : Int))) (M 65 (28 + i)) := rfl
    have hTT : (tbl (sfF (M 65 (10 + i)) (M 65 (16 + i)) (M 65 (34 + i)) (n : Int)).toNat (bb (M 65 (7 + (M 65 (22 + i)))) (bcF (M 65 (4 + (M 65 (22 + i)))) (n : Int))) ((sr M 69 F) 69) 11) (M 65 (28 + i)) = TV (sfF (M 65 (10 + i)) (M 65 (16 + i)) (M 65 (34 + i)) (n : Int)) (bb (M 65 (7 + (M 65 (22 + i)))) (bcF (M 65 (4 + (M 65 (22 + i)))) (n : Int))) (M 65 (28 + i)) := TV_tbl (by omega) (by omega) (by omega)
    refine Hx.run 2 (pc' := 49) (L' := [some (vr 64), some (vi i), some (vi w), some (vi (M 65 (22 + i))), some (vi (am1 (snR M i) n).1), some (vi (am1 (snR M i) n).2), some (vi (n : Int)), jf]) (st' := [vi 24, vi (n : Int)]) (M' := (sr M 69 F)) rfl ?_
    refine Hx.br (c := (n : Int) < 24) (t := 52) (f := 164) rfl (fun h1 => ?_) (fun h1 => ?_)
    · skip
      refine Hx.run 5 (pc' := 60) (L' := [some (vr 64), some (vi i), some (vi w), some (vi (M 65 (22 + i))), some (vi (am1 (snR M i) n).1), some (vi (am1 (snR M i) n).2), some (vi (n : Int)), jf]) (st' := [vi i, vi 10, vr 65, vr 64]) (M' := (sr M 69 F)) rfl ?_
      refine Hx.add rfl (by (first | omega | (simp only [sr65]; omega))) ?_
      refine Hx.aldI (n := 1032) rfl rfl (by (first | omega | (simp only [sr65]; omega))) ?_
      refine Hx.run 0 (pc' := 62) (L' := [some (vr 64), some (vi i), some (vi w), some (vi (M 65 (22 + i))), some (vi (am1 (snR M i) n).1), some (vi (am1 (snR M i) n).2), some (vi (n : Int)), jf]) (st' := [vi (M 65 (10 + i)), vr 64]) (M' := (sr M 69 F)) rfl ?_
      refine Hx.run 4 (pc' := 69) (L' := [some (vr 64), some (vi i), some (vi w), some (vi (M 65 (22 + i))), some (vi (am1 (snR M i) n).1), some (vi (am1 (snR M i) n).2), some (vi (n : Int)), jf]) (st' := [vi i, vi 16, vr 65, vi (M 65 (10 + i)), vr 64]) (M' := (sr M 69 F)) rfl ?_
      refine Hx.add rfl (by (first | omega | (simp only [sr65]; omega))) ?_
      refine Hx.aldI (n := 1032) rfl rfl (by (first | omega | (simp only [sr65]; omega))) ?_
      refine Hx.run 0 (pc' := 71) (L' := [some (vr 64), some (vi i), some (vi w), some (vi (M 65 (22 + i))), some (vi (am1 (snR M i) n).1), some (vi (am1 (snR M i) n).2), some (vi (n : Int)), jf]) (st' := [vi (M 65 (16 + i)), vi (M 65 (10 + i)), vr 64]) (M' := (sr M 69 F)) rfl ?_
      refine Hx.run 4 (pc' := 78) (L' := [some (vr 64), some (vi i), some (vi w), some (vi (M 65 (22 + i))), some (vi (am1 (snR M i) n).1), some (vi (am1 (snR M i) n).2), some (vi (n : Int)), jf]) (st' := [vi i, vi 34, vr 65, vi (M 65 (16 + i)), vi (M 65 (10 + i)), vr 64]) (M' := (sr M 69 F)) rfl ?_
      refine Hx.add rfl (by (first | omega | (simp only [sr65]; omega))) ?_
      refine Hx.aldI (n := 1032) rfl rfl (by (first | omega | (simp only [sr65]; omega))) ?_
      refine Hx.run 0 (pc' := 80) (L' := [some (vr 64), some (vi i), some (vi w), some (vi (M 65 (22 + i))), some (vi (am1 (snR M i) n).1), some (vi (am1 (snR M i) n).2), some (vi (n : Int)), jf]) (st' := [vi (M 65 (34 + i)), vi (M 65 (16 + i)), vi (M 65 (10 + i)), vr 64]) (M' := (sr M 69 F)) rfl ?_
      refine Hx.run 1 (pc' := 82) (L' := [some (vr 64), some (vi i), some (vi w), some (vi (M 65 (22 + i))), some (vi (am1 (snR M i) n).1), some (vi (am1 (snR M i) n).2), some (vi (n : Int)), jf]) (st' := [vi (n : Int), vi (M 65 (34 + i)), vi (M 65 (16 + i)), vi (M 65 (10 + i)), vr 64]) (M' := (sr M 69 F)) rfl ?_
      refine Hx.call (t := 144) (as := [vi (M 65 (10 + i)), vi (M 65 (16 + i)), vi (M 65 (34 + i)), vi (n : Int)]) (pc' := 85) (rest := [vr 64]) rfl (r_stridesOf (M 65 (10 + i)) (M 65 (16 + i)) (M 65 (34 + i)) (n : Int) (sr M 69 F) (by (first | omega | (simp only [sr65]; omega))) (by (first | omega | (simp only [sr65]; omega))) (by (first | omega | (simp only [sr65]; omega))) (by (first | omega | (simp only [sr65]; omega)))) ?_
      rintro _ _ ⟨rfl, rfl⟩
      refine Hx.run 0 (pc' := 85) (L' := [some (vr 64), some (vi i), some (vi w), some (vi (M 65 (22 + i))), some (vi (am1 (snR M i) n).1), some (vi (am1 (snR M i) n).2), some (vi (n : Int)), jf]) (st' := [vi (sfF (M 65 (10 + i)) (M 65 (16 + i)) (M 65 (34 + i)) (n : Int)), vr 64]) (M' := (sr M 69 F)) rfl ?_
      refine Hx.run 4 (pc' := 91) (L' := [some (vr 64), some (vi i), some (vi w), some (vi (M 65 (22 + i))), some (vi (am1 (snR M i) n).1), some (vi (am1 (snR M i) n).2), some (vi (n : Int)), jf]) (st' := [vi (M 65 (22 + i)), vi 4, vr 65, vi (sfF (M 65 (10 + i)) (M 65 (16 + i)) (M 65 (34 + i)) (n : Int)), vr 64]) (M' := (sr M 69 F)) rfl ?_
      refine Hx.add rfl (by (first | omega | (simp only [sr65]; omega))) ?_
      refine Hx.aldI (n := 1032) rfl rfl (by (first | omega | (simp only [sr65]; omega))) ?_
      refine Hx.run 0 (pc' := 93) (L' := [some (vr 64), some (vi i), some (vi w), some (vi (M 65 (22 + i))), some (vi (am1 (snR M i) n).1), some (vi (am1 (snR M i) n).2), some (vi (n : Int)), jf]) (st' := [vi (M 65 (4 + (M 65 (22 + i)))), vi (sfF (M 65 (10 + i)) (M 65 (16 + i)) (M 65 (34 + i)) (n : Int)), vr 64]) (M' := (sr M 69 F)) rfl ?_
      refine Hx.run 4 (pc' := 100) (L' := [some (vr 64), some (vi i), some (vi w), some (vi (M 65 (22 + i))), some (vi (am1 (snR M i) n).1), some (vi (am1 (snR M i) n).2), some (vi (n : Int)), jf]) (st' := [vi (M 65 (22 + i)), vi 7, vr 65, vi (M 65 (4 + (M 65 (22 + i)))), vi (sfF (M 65 (10 + i)) (M 65 (16 + i)) (M 65 (34 + i)) (n : Int)), vr 64]) (M' := (sr M 69 F)) rfl ?_
      refine Hx.add rfl (by (first | omega | (simp only [sr65]; omega))) ?_
      refine Hx.aldI (n := 1032) rfl rfl (by (first | omega | (simp only [sr65]; omega))) ?_
      refine Hx.run 0 (pc' := 102) (L' := [some (vr 64), some (vi i), some (vi w), some (vi (M 65 (22 + i))), some (vi (am1 (snR M i) n).1), some (vi (am1 (snR M i) n).2), some (vi (n : Int)), jf]) (st' := [vi (M 65 (7 + (M 65 (22 + i)))), vi (M 65 (4 + (M 65 (22 + i)))), vi (sfF (M 65 (10 + i)) (M 65 (16 + i)) (M 65 (34 + i)) (n : Int)), vr 64]) (M' := (sr M 69 F)) rfl ?_
      refine Hx.run 1 (pc' := 104) (L' := [some (vr 64), some (vi i), some (vi w), some (vi (M 65 (22 + i))), some (vi (am1 (snR M i) n).1), some (vi (am1 (snR M i) n).2), some (vi (n : Int)), jf]) (st' := [vi (n : Int), vi (M 65 (7 + (M 65 (22 + i)))), vi (M 65 (4 + (M 65 (22 + i)))), vi (sfF (M 65 (10 + i)) (M 65 (16 + i)) (M 65 (34 + i)) (n : Int)), vr 64]) (M' := (sr M 69 F)) rfl ?_
      refine Hx.call (t := 145) (as := [vi (M 65 (4 + (M 65 (22 + i)))), vi (M 65 (7 + (M 65 (22 + i)))), vi (n : Int)]) (pc' := 107) (rest := [vi (sfF (M 65 (10 + i)) (M 65 (16 + i)) (M 65 (34 + i)) (n : Int)), vr 64]) rfl (r_barsFrom (M 65 (4 + (M 65 (22 + i)))) (M 65 (7 + (M 65 (22 + i)))) (n : Int) (sr M 69 F) (by (first | omega | (simp only [sr65]; omega))) (by (first | omega | (simp only [sr65]; omega))) (by (first | omega | (simp only [sr65]; omega)))) ?_
      rintro _ _ ⟨rfl, rfl⟩
      refine Hx.run 0 (pc' := 107) (L' := [some (vr 64), some (vi i), some (vi w), some (vi (M 65 (22 + i))), some (vi (am1 (snR M i) n).1), some (vi (am1 (snR M i) n).2), some (vi (n : Int)), jf]) (st' := [vi (bb (M 65 (7 + (M 65 (22 + i)))) (bcF (M 65 (4 + (M 65 (22 + i)))) (n : Int))), vi (sfF (M 65 (10 + i)) (M 65 (16 + i)) (M 65 (34 + i)) (n : Int)), vr 64]) (M' := (sr M 69 F)) rfl ?_
      refine Hx.call (t := 182) (as := [vr 64, vi (sfF (M 65 (10 + i)) (M 65 (16 + i)) (M 65 (34 + i)) (n : Int)), vi (bb (M 65 (7 + (M 65 (22 + i)))) (bcF (M 65 (4 + (M 65 (22 + i)))) (n : Int)))]) (pc' := 110) (rest := []) rfl (r_laysLeft (sfF (M 65 (10 + i)) (M 65 (16 + i)) (M 65 (34 + i)) (n : Int)) (bb (M 65 (7 + (M 65 (22 + i)))) (bcF (M 65 (4 + (M 65 (22 + i)))) (n : Int))) (sr M 69 F) (by (first | omega | (simp only [sr65]; omega))) (by (first | omega | (simp only [sr65]; omega)))) ?_
      rintro _ _ ⟨rfl, rfl⟩
      refine Hx.run 0 (pc' := 110) (L' := [some (vr 64), some (vi i), some (vi w), some (vi (M 65 (22 + i))), some (vi (am1 (snR M i) n).1), some (vi (am1 (snR M i) n).2), some (vi (n : Int)), jf]) (st' := []) (M' := (sr (sr M 69 F) 69 (tbl (sfF (M 65 (10 + i)) (M 65 (16 + i)) (M 65 (34 + i)) (n : Int)).toNat (bb (M 65 (7 + (M 65 (22 + i)))) (bcF (M 65 (4 + (M 65 (22 + i)))) (n : Int))) ((sr M 69 F) 69) 11))) rfl ?_
      refine Hx.run 6 (pc' := 121) (L' := [some (vr 64), some (vi i), some (vi w), some (vi (M 65 (22 + i))), some (vi (am1 (snR M i) n).1), some (vi (am1 (snR M i) n).2), some (vi (n : Int)), jf]) (st' := [vi i, vi 28, vr 65, vr 69]) (M' := (sr (sr M 69 F) 69 (tbl (sfF (M 65 (10 + i)) (M 65 (16 + i)) (M 65 (34 + i)) (n : Int)).toNat (bb (M 65 (7 + (M 65 (22 + i)))) (bcF (M 65 (4 + (M 65 (22 + i)))) (n : Int))) ((sr M 69 F) 69) 11))) rfl ?_
      refine Hx.add rfl (by (first | omega | (simp only [sr65]; omega))) ?_
      refine Hx.aldI (n := 1032) rfl rfl (by (first | omega | (simp only [sr65]; omega))) ?_
      refine Hx.run 0 (pc' := 123) (L' := [some (vr 64), some (vi i), some (vi w), some (vi (M 65 (22 + i))), some (vi (am1 (snR M i) n).1), some (vi (am1 (snR M i) n).2), some (vi (n : Int)), jf]) (st' := [vi (M 65 (28 + i)), vr 69]) (M' := (sr (sr M 69 F) 69 (tbl (sfF (M 65 (10 + i)) (M 65 (16 + i)) (M 65 (34 + i)) (n : Int)).toNat (bb (M 65 (7 + (M 65 (22 + i)))) (bcF (M 65 (4 + (M 65 (22 + i)))) (n : Int))) ((sr M 69 F) 69) 11))) rfl ?_
      refine Hx.aldI (n := 12) rfl rfl (by (first | omega | (simp only [sr65]; omega))) ?_
      refine Hx.run 0 (pc' := 124) (L' := [some (vr 64), some (vi i), some (vi w), some (vi (M 65 (22 + i))), some (vi (am1 (snR M i) n).1), some (vi (am1 (snR M i) n).2), some (vi (n : Int)), jf]) (st' := [vi ((tbl (sfF (M 65 (10 + i)) (M 65 (16 + i)) (M 65 (34 + i)) (n : Int)).toNat (bb (M 65 (7 + (M 65 (22 + i)))) (bcF (M 65 (4 + (M 65 (22 + i)))) (n : Int))) ((sr M 69 F) 69) 11) (M 65 (28 + i)))]) (M' := (sr (sr M 69 F) 69 (tbl (sfF (M 65 (10 + i)) (M 65 (16 + i)) (M 65 (34 + i)) (n : Int)).toNat (bb (M 65 (7 + (M 65 (22 + i)))) (bcF (M 65 (4 + (M 65 (22 + i)))) (n : Int))) ((sr M 69 F) 69) 11))) rfl ?_
      refine Hx.run 3 (pc' := 130) (L' := [some (vr 64), some (vi i), some (vi w), some (vi (M 65 (22 + i))), some (vi (am1 (snR M i) n).1), some (vi (am1 (snR M i) n).2), some (vi (n : Int)), some (vi ((tbl (sfF (M 65 (10 + i)) (M 65 (16 + i)) (M 65 (34 + i)) (n : Int)).toNat (bb (M 65 (7 + (M 65 (22 + i)))) (bcF (M 65 (4 + (M 65 (22 + i)))) (n : Int))) ((sr M 69 F) 69) 11) (M 65 (28 + i))))]) (st' := [vi (am1 (snR M i) n).2, vi ((tbl (sfF (M 65 (10 + i)) (M 65 (16 + i)) (M 65 (34 + i)) (n : Int)).toNat (bb (M 65 (7 + (M 65 (22 + i)))) (bcF (M 65 (4 + (M 65 (22 + i)))) (n : Int))) ((sr M 69 F) 69) 11) (M 65 (28 + i)))]) (M' := (sr (sr M 69 F) 69 (tbl (sfF (M 65 (10 + i)) (M 65 (16 + i)) (M 65 (34 + i)) (n : Int)).toNat (bb (M 65 (7 + (M 65 (22 + i)))) (bcF (M 65 (4 + (M 65 (22 + i)))) (n : Int))) ((sr M 69 F) 69) 11))) rfl ?_
      refine Hx.br (c := ((tbl (sfF (M 65 (10 + i)) (M 65 (16 + i)) (M 65 (34 + i)) (n : Int)).toNat (bb (M 65 (7 + (M 65 (22 + i)))) (bcF (M 65 (4 + (M 65 (22 + i)))) (n : Int))) ((sr M 69 F) 69) 11) (M 65 (28 + i))) < (am1 (snR M i) n).2) (t := 133) (f := 138) rfl (fun h2 => ?_) (fun h2 => ?_)
      · skip
        refine Hx.run 5 (pc' := 146) (L' := [some (vr 64), some (vi i), some (vi w), some (vi (M 65 (22 + i))), some (vi (n : Int)), some (vi (am1 (snR M i) n).2), some (vi (n : Int)), some (vi ((tbl (sfF (M 65 (10 + i)) (M 65 (16 + i)) (M 65 (34 + i)) (n : Int)).toNat (bb (M 65 (7 + (M 65 (22 + i)))) (bcF (M 65 (4 + (M 65 (22 + i)))) (n : Int))) ((sr M 69 F) 69) 11) (M 65 (28 + i))))]) (st' := [vi (am1 (snR M i) n).2, vi ((tbl (sfF (M 65 (10 + i)) (M 65 (16 + i)) (M 65 (34 + i)) (n : Int)).toNat (bb (M 65 (7 + (M 65 (22 + i)))) (bcF (M 65 (4 + (M 65 (22 + i)))) (n : Int))) ((sr M 69 F) 69) 11) (M 65 (28 + i)))]) (M' := (sr (sr M 69 F) 69 (tbl (sfF (M 65 (10 + i)) (M 65 (16 + i)) (M 65 (34 + i)) (n : Int)).toNat (bb (M 65 (7 + (M 65 (22 + i)))) (bcF (M 65 (4 + (M 65 (22 + i)))) (n : Int))) ((sr M 69 F) 69) 11))) rfl ?_
        refine Hx.br (c := ((tbl (sfF (M 65 (10 + i)) (M 65 (16 + i)) (M 65 (34 + i)) (n : Int)).toNat (bb (M 65 (7 + (M 65 (22 + i)))) (bcF (M 65 (4 + (M 65 (22 + i)))) (n : Int))) ((sr M 69 F) 69) 11) (M 65 (28 + i))) < (am1 (snR M i) n).2) (t := 149) (f := 154) rfl (fun h3 => ?_) (fun h3 => ?_)
        · skip
          refine Hx.run 3 (pc' := 158) (L' := [some (vr 64), some (vi i), some (vi w), some (vi (M 65 (22 + i))), some (vi (n : Int)), some (vi ((tbl (sfF (M 65 (10 + i)) (M 65 (16 + i)) (M 65 (34 + i)) (n : Int)).toNat (bb (M 65 (7 + (M 65 (22 + i)))) (bcF (M 65 (4 + (M 65 (22 + i)))) (n : Int))) ((sr M 69 F) 69) 11) (M 65 (28 + i)))), some (vi (n : Int)), some (vi ((tbl (sfF (M 65 (10 + i)) (M 65 (16 + i)) (M 65 (34 + i)) (n : Int)).toNat (bb (M 65 (7 + (M 65 (22 + i)))) (bcF (M 65 (4 + (M 65 (22 + i)))) (n : Int))) ((sr M 69 F) 69) 11) (M 65 (28 + i))))]) (st' := []) (M' := (sr (sr M 69 F) 69 (tbl (sfF (M 65 (10 + i)) (M 65 (16 + i)) (M 65 (34 + i)) (n : Int)).toNat (bb (M 65 (7 + (M 65 (22 + i)))) (bcF (M 65 (4 + (M 65 (22 + i)))) (n : Int))) ((sr M 69 F) 69) 11))) rfl ?_
          refine Hx.inc rfl rfl (by (first | omega | (simp only [sr65]; omega))) ?_
          refine Hx.run 0 (pc' := 161) (L' := [some (vr 64), some (vi i), some (vi w), some (vi (M 65 (22 + i))), some (vi (n : Int)), some (vi ((tbl (sfF (M 65 (10 + i)) (M 65 (16 + i)) (M 65 (34 + i)) (n : Int)).toNat (bb (M 65 (7 + (M 65 (22 + i)))) (bcF (M 65 (4 + (M 65 (22 + i)))) (n : Int))) ((sr M 69 F) 69) 11) (M 65 (28 + i)))), some (vi ((n : Int) + 1)), some (vi ((tbl (sfF (M 65 (10 + i)) (M 65 (16 + i)) (M 65 (34 + i)) (n : Int)).toNat (bb (M 65 (7 + (M 65 (22 + i)))) (bcF (M 65 (4 + (M 65 (22 + i)))) (n : Int))) ((sr M 69 F) 69) 11) (M 65 (28 + i))))]) (st' := []) (M' := (sr (sr M 69 F) 69 (tbl (sfF (M 65 (10 + i)) (M 65 (16 + i)) (M 65 (34 + i)) (n : Int)).toNat (bb (M 65 (7 + (M 65 (22 + i)))) (bcF (M 65 (4 + (M 65 (22 + i)))) (n : Int))) ((sr M 69 F) 69) 11))) rfl ?_
          refine Hx.run 1 (pc' := 45) (L' := [some (vr 64), some (vi i), some (vi w), some (vi (M 65 (22 + i))), some (vi (n : Int)), some (vi ((tbl (sfF (M 65 (10 + i)) (M 65 (16 + i)) (M 65 (34 + i)) (n : Int)).toNat (bb (M 65 (7 + (M 65 (22 + i)))) (bcF (M 65 (4 + (M 65 (22 + i)))) (n : Int))) ((sr M 69 F) 69) 11) (M 65 (28 + i)))), some (vi ((n : Int) + 1)), some (vi ((tbl (sfF (M 65 (10 + i)) (M 65 (16 + i)) (M 65 (34 + i)) (n : Int)).toNat (bb (M 65 (7 + (M 65 (22 + i)))) (bcF (M 65 (4 + (M 65 (22 + i)))) (n : Int))) ((sr M 69 F) 69) 11) (M 65 (28 + i))))]) (st' := []) (M' := (sr (sr M 69 F) 69 (tbl (sfF (M 65 (10 + i)) (M 65 (16 + i)) (M 65 (34 + i)) (n : Int)).toNat (bb (M 65 (7 + (M 65 (22 + i)))) (bcF (M 65 (4 + (M 65 (22 + i)))) (n : Int))) ((sr M 69 F) 69) 11))) rfl ?_
          have e1 : (am1 (snR M i) (n + 1)).1 = (n : Int) := by rw [am1_succ, hsn]; split <;> first | rfl | omega | (dsimp only; omega)
          have e2 : (am1 (snR M i) (n + 1)).2 = ((tbl (sfF (M 65 (10 + i)) (M 65 (16 + i)) (M 65 (34 + i)) (n : Int)).toNat (bb (M 65 (7 + (M 65 (22 + i)))) (bcF (M 65 (4 + (M 65 (22 + i)))) (n : Int))) ((sr M 69 F) 69) 11) (M 65 (28 + i))) := by rw [am1_succ, hsn]; split <;> first | rfl | omega | (dsimp only; omega)
          have h9 := ih (n + 1) (tbl (sfF (M 65 (10 + i)) (M 65 (16 + i)) (M 65 (34 + i)) (n : Int)).toNat (bb (M 65 (7 + (M 65 (22 + i)))) (bcF (M 65 (4 + (M 65 (22 + i)))) (n : Int))) ((sr M 69 F) 69) 11) (some (vi ((tbl (sfF (M 65 (10 + i)) (M 65 (16 + i)) (M 65 (34 + i)) (n : Int)).toNat (bb (M 65 (7 + (M 65 (22 + i)))) (bcF (M 65 (4 + (M 65 (22 + i)))) (n : Int))) ((sr M 69 F) 69) 11) (M 65 (28 + i))))) (by omega) (by omega)
          rw [e1, e2] at h9
          rw [sr_sr]
          exact h9
        · skip
          refine Hx.run 2 (pc' := 158) (L' := [some (vr 64), some (vi i), some (vi w), some (vi (M 65 (22 + i))), some (vi (n : Int)), some (vi (am1 (snR M i) n).2), some (vi (n : Int)), some (vi ((tbl (sfF (M 65 (10 + i)) (M 65 (16 + i)) (M 65 (34 + i)) (n : Int)).toNat (bb (M 65 (7 + (M 65 (22 + i)))) (bcF (M 65 (4 + (M 65 (22 + i)))) (n : Int))) ((sr M 69 F) 69) 11) (M 65 (28 + i))))]) (st' := []) (M' := (sr (sr M 69 F) 69 (tbl (sfF (M 65 (10 + i)) (M 65 (16 + i)) (M 65 (34 + i)) (n : Int)).toNat (bb (M 65 (7 + (M 65 (22 + i)))) (bcF (M 65 (4 + (M 65 (22 + i)))) (n : Int))) ((sr M 69 F) 69) 11))) rfl ?_
          refine Hx.inc rfl rfl (by (first | omega | (simp only [sr65]; omega))) ?_
          refine Hx.run 0 (pc' := 161) (L' := [some (vr 64), some (vi i), some (vi w), some (vi (M 65 (22 + i))), some (vi (n : Int)), some (vi (am1 (snR M i) n).2), some (vi ((n : Int) + 1)), some (vi ((tbl (sfF (M 65 (10 + i)) (M 65 (16 + i)) (M 65 (34 + i)) (n : Int)).toNat (bb (M 65 (7 + (M 65 (22 + i)))) (bcF (M 65 (4 + (M 65 (22 + i)))) (n : Int))) ((sr M 69 F) 69) 11) (M 65 (28 + i))))]) (st' := []) (M' := (sr (sr M 69 F) 69 (tbl (sfF (M 65 (10 + i)) (M 65 (16 + i)) (M 65 (34 + i)) (n : Int)).toNat (bb (M 65 (7 + (M 65 (22 + i)))) (bcF (M 65 (4 + (M 65 (22 + i)))) (n : Int))) ((sr M 69 F) 69) 11))) rfl ?_
          refine Hx.run 1 (pc' := 45) (L' := [some (vr 64), some (vi i), some (vi w), some (vi (M 65 (22 + i))), some (vi (n : Int)), some (vi (am1 (snR M i) n).2), some (vi ((n : Int) + 1)), some (vi ((tbl (sfF (M 65 (10 + i)) (M 65 (16 + i)) (M 65 (34 + i)) (n : Int)).toNat (bb (M 65 (7 + (M 65 (22 + i)))) (bcF (M 65 (4 + (M 65 (22 + i)))) (n : Int))) ((sr M 69 F) 69) 11) (M 65 (28 + i))))]) (st' := []) (M' := (sr (sr M 69 F) 69 (tbl (sfF (M 65 (10 + i)) (M 65 (16 + i)) (M 65 (34 + i)) (n : Int)).toNat (bb (M 65 (7 + (M 65 (22 + i)))) (bcF (M 65 (4 + (M 65 (22 + i)))) (n : Int))) ((sr M 69 F) 69) 11))) rfl ?_
          have e1 : (am1 (snR M i) (n + 1)).1 = (n : Int) := by rw [am1_succ, hsn]; split <;> first | rfl | omega | (dsimp only; omega)
          have e2 : (am1 (snR M i) (n + 1)).2 = (am1 (snR M i) n).2 := by rw [am1_succ, hsn]; split <;> first | rfl | omega | (dsimp only; omega)
          have h9 := ih (n + 1) (tbl (sfF (M 65 (10 + i)) (M 65 (16 + i)) (M 65 (34 + i)) (n : Int)).toNat (bb (M 65 (7 + (M 65 (22 + i)))) (bcF (M 65 (4 + (M 65 (22 + i)))) (n : Int))) ((sr M 69 F) 69) 11) (some (vi ((tbl (sfF (M 65 (10 + i)) (M 65 (16 + i)) (M 65 (34 + i)) (n : Int)).toNat (bb (M 65 (7 + (M 65 (22 + i)))) (bcF (M 65 (4 + (M 65 (22 + i)))) (n : Int))) ((sr M 69 F) 69) 11) (M 65 (28 + i))))) (by omega) (by omega)
          rw [e1, e2] at h9
          rw [sr_sr]
          exact h9
      · skip
        refine Hx.run 4 (pc' := 146) (L' := [some (vr 64), some (vi i), some (vi w), some (vi (M 65 (22 + i))), some (vi (am1 (snR M i) n).1), some (vi (am1 (snR M i) n).2), some (vi (n : Int)), some (vi ((tbl (sfF (M 65 (10 + i)) (M 65 (16 + i)) (M 65 (34 + i)) (n : Int)).toNat (bb (M 65 (7 + (M 65 (22 + i)))) (bcF (M 65 (4 + (M 65 (22 + i)))) (n : Int))) ((sr M 69 F) 69) 11) (M 65 (28 + i))))]) (st' := [vi (am1 (snR M i) n).2, vi ((tbl (sfF (M 65 (10 + i)) (M 65 (16 + i)) (M 65 (34 + i)) (n : Int)).toNat (bb (M 65 (7 + (M 65 (22 + i)))) (bcF (M 65 (4 + (M 65 (22 + i)))) (n : Int))) ((sr M 69 F) 69) 11) (M 65 (28 + i)))]) (M' := (sr (sr M 69 F) 69 (tbl (sfF (M 65 (10 + i)) (M 65 (16 + i)) (M 65 (34 + i)) (n : Int)).toNat (bb (M 65 (7 + (M 65 (22 + i)))) (bcF (M 65 (4 + (M 65 (22 + i)))) (n : Int))) ((sr M 69 F) 69) 11))) rfl ?_
        refine Hx.br (c := ((tbl (sfF (M 65 (10 + i)) (M 65 (16 + i)) (M 65 (34 + i)) (n : Int)).toNat (bb (M 65 (7 + (M 65 (22 + i)))) (bcF (M 65 (4 + (M 65 (22 + i)))) (n : Int))) ((sr M 69 F) 69) 11) (M 65 (28 + i))) < (am1 (snR M i) n).2) (t := 149) (f := 154) rfl (fun h4 => ?_) (fun h4 => ?_)
        · skip
          refine Hx.run 3 (pc' := 158) (L' := [some (vr 64), some (vi i), some (vi w), some (vi (M 65 (22 + i))), some (vi (am1 (snR M i) n).1), some (vi ((tbl (sfF (M 65 (10 + i)) (M 65 (16 + i)) (M 65 (34 + i)) (n : Int)).toNat (bb (M 65 (7 + (M 65 (22 + i)))) (bcF (M 65 (4 + (M 65 (22 + i)))) (n : Int))) ((sr M 69 F) 69) 11) (M 65 (28 + i)))), some (vi (n : Int)), some (vi ((tbl (sfF (M 65 (10 + i)) (M 65 (16 + i)) (M 65 (34 + i)) (n : Int)).toNat (bb (M 65 (7 + (M 65 (22 + i)))) (bcF (M 65 (4 + (M 65 (22 + i)))) (n : Int))) ((sr M 69 F) 69) 11) (M 65 (28 + i))))]) (st' := []) (M' := (sr (sr M 69 F) 69 (tbl (sfF (M 65 (10 + i)) (M 65 (16 + i)) (M 65 (34 + i)) (n : Int)).toNat (bb (M 65 (7 + (M 65 (22 + i)))) (bcF (M 65 (4 + (M 65 (22 + i)))) (n : Int))) ((sr M 69 F) 69) 11))) rfl ?_
          refine Hx.inc rfl rfl (by (first | omega | (simp only [sr65]; omega))) ?_
          refine Hx.run 0 (pc' := 161) (L' := [some (vr 64), some (vi i), some (vi w), some (vi (M 65 (22 + i))), some (vi (am1 (snR M i) n).1), some (vi ((tbl (sfF (M 65 (10 + i)) (M 65 (16 + i)) (M 65 (34 + i)) (n : Int)).toNat (bb (M 65 (7 + (M 65 (22 + i)))) (bcF (M 65 (4 + (M 65 (22 + i)))) (n : Int))) ((sr M 69 F) 69) 11) (M 65 (28 + i)))), some (vi ((n : Int) + 1)), some (vi ((tbl (sfF (M 65 (10 + i)) (M 65 (16 + i)) (M 65 (34 + i)) (n : Int)).toNat (bb (M 65 (7 + (M 65 (22 + i)))) (bcF (M 65 (4 + (M 65 (22 + i)))) (n : Int))) ((sr M 69 F) 69) 11) (M 65 (28 + i))))]) (st' := []) (M' := (sr (sr M 69 F) 69 (tbl (sfF (M 65 (10 + i)) (M 65 (16 + i)) (M 65 (34 + i)) (n : Int)).toNat (bb (M 65 (7 + (M 65 (22 + i)))) (bcF (M 65 (4 + (M 65 (22 + i)))) (n : Int))) ((sr M 69 F) 69) 11))) rfl ?_
          refine Hx.run 1 (pc' := 45) (L' := [some (vr 64), some (vi i), some (vi w), some (vi (M 65 (22 + i))), some (vi (am1 (snR M i) n).1), some (vi ((tbl (sfF (M 65 (10 + i)) (M 65 (16 + i)) (M 65 (34 + i)) (n : Int)).toNat (bb (M 65 (7 + (M 65 (22 + i)))) (bcF (M 65 (4 + (M 65 (22 + i)))) (n : Int))) ((sr M 69 F) 69) 11) (M 65 (28 + i)))), some (vi ((n : Int) + 1)), some (vi ((tbl (sfF (M 65 (10 + i)) (M 65 (16 + i)) (M 65 (34 + i)) (n : Int)).toNat (bb (M 65 (7 + (M 65 (22 + i)))) (bcF (M 65 (4 + (M 65 (22 + i)))) (n : Int))) ((sr M 69 F) 69) 11) (M 65 (28 + i))))]) (st' := []) (M' := (sr (sr M 69 F) 69 (tbl (sfF (M 65 (10 + i)) (M 65 (16 + i)) (M 65 (34 + i)) (n : Int)).toNat (bb (M 65 (7 + (M 65 (22 + i)))) (bcF (M 65 (4 + (M 65 (22 + i)))) (n : Int))) ((sr M 69 F) 69) 11))) rfl ?_
          have e1 : (am1 (snR M i) (n + 1)).1 = (am1 (snR M i) n).1 := by rw [am1_succ, hsn]; split <;> first | rfl | omega | (dsimp only; omega)
          have e2 : (am1 (snR M i) (n + 1)).2 = ((tbl (sfF (M 65 (10 + i)) (M 65 (16 + i)) (M 65 (34 + i)) (n : Int)).toNat (bb (M 65 (7 + (M 65 (22 + i)))) (bcF (M 65 (4 + (M 65 (22 + i)))) (n : Int))) ((sr M 69 F) 69) 11) (M 65 (28 + i))) := by rw [am1_succ, hsn]; split <;> first | rfl | omega | (dsimp only; omega)
          have h9 := ih (n + 1) (tbl (sfF (M 65 (10 + i)) (M 65 (16 + i)) (M 65 (34 + i)) (n : Int)).toNat (bb (M 65 (7 + (M 65 (22 + i)))) (bcF (M 65 (4 + (M 65 (22 + i)))) (n : Int))) ((sr M 69 F) 69) 11) (some (vi ((tbl (sfF (M 65 (10 + i)) (M 65 (16 + i)) (M 65 (34 + i)) (n : Int)).toNat (bb (M 65 (7 + (M 65 (22 + i)))) (bcF (M 65 (4 + (M 65 (22 + i)))) (n : Int))) ((sr M 69 F) 69) 11) (M 65 (28 + i))))) (by omega) (by omega)
          rw [e1, e2] at h9
          rw [sr_sr]
          exact h9
        · skip
          refine Hx.run 2 (pc' := 158) (L' := [some (vr 64), some (vi i), some (vi w), some (vi (M 65 (22 + i))), some (vi (am1 (snR M i) n).1), some (vi (am1 (snR M i) n).2), some (vi (n : Int)), some (vi ((tbl (sfF (M 65 (10 + i)) (M 65 (16 + i)) (M 65 (34 + i)) (n : Int)).toNat (bb (M 65 (7 + (M 65 (22 + i)))) (bcF (M 65 (4 + (M 65 (22 + i)))) (n : Int))) ((sr M 69 F) 69) 11) (M 65 (28 + i))))]) (st' := []) (M' := (sr (sr M 69 F) 69 (tbl (sfF (M 65 (10 + i)) (M 65 (16 + i)) (M 65 (34 + i)) (n : Int)).toNat (bb (M 65 (7 + (M 65 (22 + i)))) (bcF (M 65 (4 + (M 65 (22 + i)))) (n : Int))) ((sr M 69 F) 69) 11))) rfl ?_
          refine Hx.inc rfl rfl (by (first | omega | (simp only [sr65]; omega))) ?_
          refine Hx.run 0 (pc' := 161) (L' := [some (vr 64), some (vi i), some (vi w), some (vi (M 65 (22 + i))), some (vi (am1 (snR M i) n).1), some (vi (am1 (snR M i) n).2), some (vi ((n : Int) + 1)), some (vi ((tbl (sfF (M 65 (10 + i)) (M 65 (16 + i)) (M 65 (34 + i)) (n : Int)).toNat (bb (M 65 (7 + (M 65 (22 + i)))) (bcF (M 65 (4 + (M 65 (22 + i)))) (n : Int))) ((sr M 69 F) 69) 11) (M 65 (28 + i))))]) (st' := []) (M' := (sr (sr M 69 F) 69 (tbl (sfF (M 65 (10 + i)) (M 65 (16 + i)) (M 65 (34 + i)) (n : Int)).toNat (bb (M 65 (7 + (M 65 (22 + i)))) (bcF (M 65 (4 + (M 65 (22 + i)))) (n : Int))) ((sr M 69 F) 69) 11))) rfl ?_
          refine Hx.run 1 (pc' := 45) (L' := [some (vr 64), some (vi i), some (vi w), some (vi (M 65 (22 + i))), some (vi (am1 (snR M i) n).1), some (vi (am1 (snR M i) n).2), some (vi ((n : Int) + 1)), some (vi ((tbl (sfF (M 65 (10 + i)) (M 65 (16 + i)) (M 65 (34 + i)) (n : Int)).toNat (bb (M 65 (7 + (M 65 (22 + i)))) (bcF (M 65 (4 + (M 65 (22 + i)))) (n : Int))) ((sr M 69 F) 69) 11) (M 65 (28 + i))))]) (st' := []) (M' := (sr (sr M 69 F) 69 (tbl (sfF (M 65 (10 + i)) (M 65 (16 + i)) (M 65 (34 + i)) (n : Int)).toNat (bb (M 65 (7 + (M 65 (22 + i)))) (bcF (M 65 (4 + (M 65 (22 + i)))) (n : Int))) ((sr M 69 F) 69) 11))) rfl ?_
          have e1 : (am1 (snR M i) (n + 1)).1 = (am1 (snR M i) n).1 := by rw [am1_succ, hsn]; split <;> first | rfl | omega | (dsimp only; omega)
          have e2 : (am1 (snR M i) (n + 1)).2 = (am1 (snR M i) n).2 := by rw [am1_succ, hsn]; split <;> first | rfl | omega | (dsimp only; omega)
          have h9 := ih (n + 1) (tbl (sfF (M 65 (10 + i)) (M 65 (16 + i)) (M 65 (34 + i)) (n : Int)).toNat (bb (M 65 (7 + (M 65 (22 + i)))) (bcF (M 65 (4 + (M 65 (22 + i)))) (n : Int))) ((sr M 69 F) 69) 11) (some (vi ((tbl (sfF (M 65 (10 + i)) (M 65 (16 + i)) (M 65 (34 + i)) (n : Int)).toNat (bb (M 65 (7 + (M 65 (22 + i)))) (bcF (M 65 (4 + (M 65 (22 + i)))) (n : Int))) ((sr M 69 F) 69) 11) (M 65 (28 + i))))) (by omega) (by omega)
          rw [e1, e2] at h9
          rw [sr_sr]
          exact h9
    · skip
      refine Hx.run 2 (pc' := 167) (L' := [some (vr 64), some (vi i), some (vi w), some (vi (M 65 (22 + i))), some (vi (am1 (snR M i) n).1), some (vi (am1 (snR M i) n).2), some (vi (n : Int)), jf]) (st' := [vi (-1), vi (am1 (snR M i) n).1]) (M' := (sr M 69 F)) rfl ?_
      refine Hx.br (c := (am1 (snR M i) n).1 = (-1)) (t := 170) (f := 174) rfl (fun h5 => ?_) (fun h5 => ?_)
      · skip
        refine Hx.run 2 (pc' := 185) (L' := [some (vr 64), some (vi i), some (vi w), some (vi (M 65 (22 + i))), some (vi (am1 (snR M i) n).1), some (vi (am1 (snR M i) n).2), some (vi (n : Int)), jf]) (st' := [vi (-1)]) (M' := (sr M 69 F)) rfl ?_
        refine Hx.ret rfl ?_
        have e : n = 24 := by omega
        subst e
        first | exact ⟨by rw [if_pos (by assumption)], F, rfl⟩ | exact ⟨by rw [if_neg (by assumption), if_pos (by assumption)], F, rfl⟩ | exact ⟨by rw [if_neg (by assumption), if_neg (by assumption)], F, rfl⟩
      · skip
        refine Hx.run 1 (pc' := 175) (L' := [some (vr 64), some (vi i), some (vi w), some (vi (M 65 (22 + i))), some (vi (am1 (snR M i) n).1), some (vi (am1 (snR M i) n).2), some (vi (n : Int)), jf]) (st' := [vi w]) (M' := (sr M 69 F)) rfl ?_
        refine Hx.br (c := w = 0) (t := 178) (f := 183) rfl (fun h6 => ?_) (fun h6 => ?_)
        · skip
          refine Hx.run 2 (pc' := 185) (L' := [some (vr 64), some (vi i), some (vi w), some (vi (M 65 (22 + i))), some (vi (am1 (snR M i) n).1), some (vi (am1 (snR M i) n).2), some (vi (n : Int)), jf]) (st' := [vi (am1 (snR M i) n).1]) (M' := (sr M 69 F)) rfl ?_
          refine Hx.ret rfl ?_
          have e : n = 24 := by omega
          subst e
          first | exact ⟨by rw [if_pos (by assumption)], F, rfl⟩ | exact ⟨by rw [if_neg (by assumption), if_pos (by assumption)], F, rfl⟩ | exact ⟨by rw [if_neg (by assumption), if_neg (by assumption)], F, rfl⟩
        · skip
          refine Hx.run 1 (pc' := 185) (L' := [some (vr 64), some (vi i), some (vi w), some (vi (M 65 (22 + i))), some (vi (am1 (snR M i) n).1), some (vi (am1 (snR M i) n).2), some (vi (n : Int)), jf]) (st' := [vi (am1 (snR M i) n).2]) (M' := (sr M 69 F)) rfl ?_
          refine Hx.ret rfl ?_
          have e : n = 24 := by omega
          subst e
          first | exact ⟨by rw [if_pos (by assumption)], F, rfl⟩ | exact ⟨by rw [if_neg (by assumption), if_pos (by assumption)], F, rfl⟩ | exact ⟨by rw [if_neg (by assumption), if_neg (by assumption)], F, rfl⟩
set_option maxRecDepth 100000 in
theorem R_soon (i w : Int) (M : Mm) (hI : RI M 0) (hs : (0 ≤ M 68 0 ∧ M 68 0 ≤ 600) ∧ (0 ≤ M 68 1 ∧ M 68 1 ≤ 600) ∧ (0 ≤ M 68 2 ∧ M 68 2 ≤ 600)) : Ct 188 [vr 64, vi i, vi w] M (fun q0 M' => ((¬ (0 ≤ i ∧ i < M 65 1) ∨ w < 0 ∨ 1 < w) ∧ q0 = some (vi (-2)) ∧ up M 68 0 (M 68 0 + 1) = M') ∨ (((0 ≤ i ∧ i < M 65 1) ∧ 0 ≤ w ∧ w ≤ 1) ∧ q0 = some (vi (if (am1 (snR M i) 24).1 = -1 then -1 else if w = 0 then (am1 (snR M i) 24).1 else (am1 (snR M i) 24).2)) ∧ ∃ F : Int → Int, sr M 69 F = M')) := by
  obtain ⟨r0, r1, r2, r3, r40, r61, r80, r111, rF, rG⟩ := (show (0 ≤ M 65 0 ∧ M 65 0 ≤ 3) ∧ (0 ≤ M 65 1 ∧ M 65 1 ≤ 6) ∧ (0 ≤ M 65 2 ∧ M 65 2 ≤ 9999) ∧ (0 ≤ M 65 3 ∧ M 65 3 ≤ 9000) ∧ (0 ≤ M 65 40 ∧ M 65 40 ≤ 5) ∧ (0 ≤ M 65 61 ∧ M 65 61 ≤ 6) ∧ (0 ≤ M 65 80 ∧ M 65 80 ≤ 6) ∧ (0 ≤ M 65 111 ∧ M 65 111 ≤ 8) ∧ (∀ f : Int, 0 ≤ f → f < M 65 0 → (0 ≤ M 65 (4 + f) ∧ M 65 (4 + f) ≤ 5) ∧ (1 ≤ M 65 (7 + f) ∧ M 65 (7 + f) ≤ 10)) ∧ (∀ i : Int, 0 ≤ i → i < M 65 1 → (0 ≤ M 65 (10 + i) ∧ M 65 (10 + i) ≤ 5) ∧ (1 ≤ M 65 (16 + i) ∧ M 65 (16 + i) ≤ 4) ∧ (0 ≤ M 65 (22 + i) ∧ M 65 (22 + i) < M 65 0) ∧ (0 ≤ M 65 (28 + i) ∧ M 65 (28 + i) ≤ 11) ∧ (0 ≤ M 65 (34 + i) ∧ M 65 (34 + i) ≤ 9)) from hI)
  refine Hx.run 2 (pc' := 2) (L' := [some (vr 64), some (vi i), some (vi w), none, none, none, none, none]) (st' := [vi i, vr 64]) (M' := M) rfl ?_
  refine Hx.call (t := 137) (as := [vr 64, vi i]) (pc' := 5) (rest := []) rfl (r_isGoer i M (by omega)) ?_
  rintro _ _ (⟨q94, rfl, rfl⟩ | ⟨q94, rfl, rfl⟩)
  · skip
    have gq94 := rG i q94.1 q94.2
    have fq94 := rF (M 65 (22 + i)) (by omega) (by omega)
    refine Hx.run 5 (pc' := 12) (L' := [some (vr 64), some (vi i), some (vi w), none, none, none, none, none]) (st' := [vl 1, vl 0, vl w]) (M' := M) rfl ?_
    refine Hx.call (t := 130) (as := [vl w, vl 0, vl 1]) (pc' := 15) (rest := []) rfl (r_in w 0 1 M) ?_
    rintro _ _ (⟨q95, rfl, rfl⟩ | ⟨q95, rfl, rfl⟩)
    · skip
      refine Hx.run 5 (pc' := 32) (L' := [some (vr 64), some (vi i), some (vi w), none, none, none, none, none]) (st' := [vi i, vi 22, vr 65]) (M' := M) rfl ?_
      refine Hx.add rfl (by omega) ?_
      refine Hx.aldI (n := 1032) rfl rfl (by omega) ?_
      refine Hx.run 7 (pc' := 45) (L' := [some (vr 64), some (vi i), some (vi w), some (vi (M 65 (22 + i))), some (vi (-1)), some (vi 1000000), some (vi 0), none]) (st' := []) (M' := M) rfl ?_
      have h0 := rl_soon i w M (by omega) (by omega) 30 0 (M 69) none (by omega) (by omega)
      rw [sr_self, show (am1 (snR M i) 0).2 = 1000000 from rfl, show (am1 (snR M i) 0).1 = -1 from rfl] at h0
      exact Hx.imp h0 (fun r M' h => Or.inr ⟨by omega, h⟩)
    · skip
      refine Hx.run 3 (pc' := 21) (L' := [some (vr 64), some (vi i), some (vi w), none, none, none, none, none]) (st' := [vi (-2), vr 64]) (M' := M) rfl ?_
      refine Hx.call (t := 132) (as := [vr 64, vi (-2)]) (pc' := 24) (rest := []) rfl (r_bad (-2) M (by omega)) ?_
      rintro _ _ ⟨rfl, rfl⟩
      refine Hx.run 0 (pc' := 24) (L' := [some (vr 64), some (vi i), some (vi w), none, none, none, none, none]) (st' := [vi (-2)]) (M' := (up M 68 0 ((M 68 0) + 1))) rfl ?_
      refine Hx.ret rfl ?_
      exact Or.inl ⟨by omega, rfl, rfl⟩
  · skip
    refine Hx.run 3 (pc' := 21) (L' := [some (vr 64), some (vi i), some (vi w), none, none, none, none, none]) (st' := [vi (-2), vr 64]) (M' := M) rfl ?_
    refine Hx.call (t := 132) (as := [vr 64, vi (-2)]) (pc' := 24) (rest := []) rfl (r_bad (-2) M (by omega)) ?_
    rintro _ _ ⟨rfl, rfl⟩
    refine Hx.run 0 (pc' := 24) (L' := [some (vr 64), some (vi i), some (vi w), none, none, none, none, none]) (st' := [vi (-2)]) (M' := (up M 68 0 ((M 68 0) + 1))) rfl ?_
    refine Hx.ret rfl ?_
    exact Or.inl ⟨by omega, rfl, rfl⟩
