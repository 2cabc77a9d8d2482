/-! site, the class's sums (written by wip/whole/gen39.py) -/
def sS (f : Nat → Int) : Nat → Int
  | 0 => 0
  | n + 1 => sS f n + f n
theorem sS_succ (f : Nat → Int) (n : Nat) : sS f (n + 1) = sS f n + f n := rfl
theorem sS_rng {f : Nat → Int} (h : ∀ m, 0 ≤ f m ∧ f m ≤ 20) : ∀ n : Nat, 0 ≤ sS f n ∧ sS f n ≤ 20 * (n : Int)
  | 0 => ⟨Int.le_refl _, Int.le_refl _⟩
  | n + 1 => by
    have h1 := sS_rng h n
    have h2 := h n
    rw [sS_succ]
    omega
theorem sS_congr {f g : Nat → Int} : ∀ n, (∀ m, m < n → f m = g m) → sS f n = sS g n
  | 0, _ => rfl
  | n + 1, h => by rw [sS_succ, sS_succ, sS_congr n (fun m hm => h m (by omega)), h n (by omega)]
/-- what a goer's fewest strides from step 0 cost (20: there is no way) -/
def co (x : Int) : Int := if 1000000 ≤ x then 20 else x
theorem co_cases (x : Int) : (co x = 20 ∧ 1000000 ≤ x) ∨ (co x = x ∧ x < 1000000) := by
  unfold co; split <;> omega
def auC (M : Mm) (f s : Int) (m : Nat) : Int := if M 5 m = f then co (TV (sfF (M 3 m) (M 4 m) (M 6 (6 + (m : Int))) (M 6 16 % 24)) (bb s (bcF (M 2 f) (M 6 16 % 24))) 0) else 0
theorem auC_rng (M : Mm) (f s : Int) (m : Nat) : 0 ≤ auC M f s m ∧ auC M f s m ≤ 20 := by
  unfold auC
  have h := TV_fin (far := sfF (M 3 m) (M 4 m) (M 6 (6 + (m : Int))) (M 6 16 % 24)) (b := bb s (bcF (M 2 f) (M 6 16 % 24))) (x := 0) (by omega) (by omega)
  have h2 := co_cases (TV (sfF (M 3 m) (M 4 m) (M 6 (6 + (m : Int))) (M 6 16 % 24)) (bb s (bcF (M 2 f) (M 6 16 % 24))) 0)
  split <;> omega
set_option maxRecDepth 100000 in
theorem cl_allUp (f s : Int) (M : Mm) (hI : HI M 1) (hf : 0 ≤ f ∧ f < M 1 0) (hs : 1 ≤ s ∧ s ≤ 10) : ∀ (kk : Nat) (n : Nat) (F : Int → Int) (jf : Option PV), (n : Int) ≤ M 1 1 ∧ n ≤ 6 → 6 - (n : Int) < (kk : Int) → Hx 76 29 [some (vr 0), some (vi f), some (vi s), some (vi (bb s (bcF (M 2 f) ((M 6 16) % 24)))), some (vi (sS (auC M f s) n)), some (vi (n : Int)), jf] [] (sr M 54 F) (fun q0 M' => q0 = some (vi (sS (auC M f s) (M 1 1).toNat)) ∧ ∃ F : Int → Int, sr M 54 F = M') := by
  intro kk
  induction kk with
  | zero => intro n F jf _ hkk; exact absurd hkk (by omega)
  | succ kk ih =>
    intro n F jf hn hkk
    obtain ⟨iF, iG, iK, iH, iFa, aF, aG, lS, lN, lM, rS, rN, rM, aK⟩ := (show (0 ≤ M 1 0 ∧ M 1 0 ≤ 3) ∧ (0 ≤ M 1 1 ∧ M 1 1 ≤ 6) ∧ (0 ≤ M 1 2 ∧ M 1 2 ≤ 8) ∧ (0 ≤ M 6 16 ∧ M 6 16 ≤ 9999) ∧ (0 ≤ M 6 15 ∧ M 6 15 ≤ 9000) ∧ (∀ f : Int, 0 ≤ f → f < M 1 0 → (0 ≤ M 2 f ∧ M 2 f ≤ 5) ∧ (1 ≤ M 6 (12 + f) ∧ M 6 (12 + f) ≤ 10)) ∧ (∀ i : Int, 0 ≤ i → i < M 1 1 → (0 ≤ M 3 i ∧ M 3 i ≤ 5) ∧ (1 ≤ M 4 i ∧ M 4 i ≤ 4) ∧ (0 ≤ M 5 i ∧ M 5 i < M 1 0) ∧ (0 ≤ M 6 i ∧ M 6 i ≤ 11) ∧ (0 ≤ M 6 (6 + i) ∧ M 6 (6 + i) ≤ 9)) ∧ (M 8 0 = 4 ∧ M 8 1 = 5 ∧ 0 ≤ M 8 3 ∧ M 8 3 ≤ 5) ∧ (M 10 0 = 3 ∧ M 10 1 = 6 ∧ 0 ≤ M 10 3 ∧ M 10 3 ≤ 6) ∧ (M 12 0 = 5 ∧ M 12 1 = 6 ∧ 0 ≤ M 12 3 ∧ M 12 3 ≤ 6) ∧ (∀ n : Int, 0 ≤ n → n < M 8 3 → (0 ≤ M 9 (n * 4 + 0) ∧ M 9 (n * 4 + 0) ≤ 2) ∧ (1 ≤ M 9 (n * 4 + 1) ∧ M 9 (n * 4 + 1) ≤ 10) ∧ (0 ≤ M 9 (n * 4 + 2) ∧ M 9 (n * 4 + 2) ≤ 23) ∧ (0 ≤ M 9 (n * 4 + 3) ∧ M 9 (n * 4 + 3) ≤ 1)) ∧ (∀ n : Int, 0 ≤ n → n < M 10 3 → (0 ≤ M 11 (n * 3 + 0) ∧ M 11 (n * 3 + 0) ≤ 2) ∧ (0 ≤ M 11 (n * 3 + 1) ∧ M 11 (n * 3 + 1) ≤ 23) ∧ (0 ≤ M 11 (n * 3 + 2) ∧ M 11 (n * 3 + 2) ≤ 9)) ∧ (∀ n : Int, 0 ≤ n → n < M 12 3 → (0 ≤ M 13 (n * 5 + 0) ∧ M 13 (n * 5 + 0) ≤ 5) ∧ (1 ≤ M 13 (n * 5 + 1) ∧ M 13 (n * 5 + 1) ≤ 4) ∧ (0 ≤ M 13 (n * 5 + 2) ∧ M 13 (n * 5 + 2) ≤ 9) ∧ (0 ≤ M 13 (n * 5 + 3) ∧ M 13 (n * 5 + 3) ≤ 23) ∧ (0 ≤ M 13 (n * 5 + 4) ∧ M 13 (n * 5 + 4) ≤ 9)) ∧ (∀ k : Int, 0 ≤ k → k < M 1 2 → (0 ≤ M 7 (k * 17 + 16) ∧ M 7 (k * 17 + 16) ≤ 9999) ∧ (0 ≤ M 7 (k * 17 + 15) ∧ M 7 (k * 17 + 15) ≤ 9000) ∧ (∀ f : Int, 0 ≤ f → f < M 1 0 → (1 ≤ M 7 (k * 17 + (12 + f)) ∧ M 7 (k * 17 + (12 + f)) ≤ 10)) ∧ (∀ i : Int, 0 ≤ i → i < M 1 1 → (0 ≤ M 7 (k * 17 + i) ∧ M 7 (k * 17 + i) ≤ 11) ∧ (0 ≤ M 7 (k * 17 + (6 + i)) ∧ M 7 (k * 17 + (6 + i)) ≤ 9))) from hI)
    have gF := aF f (by omega) (by omega)
    refine Hx.run 4 (pc' := 38) (L' := [some (vr 0), some (vi f), some (vi s), some (vi (bb s (bcF (M 2 f) ((M 6 16) % 24)))), some (vi (sS (auC M f s) n)), some (vi (n : Int)), jf]) (st' := [vi (M 1 1), vi (n : Int)]) (M' := (sr M 54 F)) rfl ?_
    refine Hx.br (c := (n : Int) < (M 1 1)) (t := 41) (f := 101) rfl (fun h1 => ?_) (fun h1 => ?_)
    · skip
      have gG := aG (n : Int) (by omega) (by omega)
      have sR := sfF_rng (k := M 3 (n : Int)) (l := M 4 (n : Int)) (x := M 6 (6 + (n : Int))) (t := M 6 16 % 24) (by omega) (by omega)
      have bR := bb_rng s (bcF (M 2 f) (M 6 16 % 24))
      have tv := TV_fin (far := (sfF (M 3 (n : Int)) (M 4 (n : Int)) (M 6 (6 + (n : Int))) (M 6 16 % 24))) (b := (bb s (bcF (M 2 f) ((M 6 16) % 24)))) (x := 0) (by omega) (by omega)
      have td := dc_cases (TV (sfF (M 3 (n : Int)) (M 4 (n : Int)) (M 6 (6 + (n : Int))) (M 6 16 % 24)) (bb s (bcF (M 2 f) ((M 6 16) % 24))) 0)
      have tc := co_cases (TV (sfF (M 3 (n : Int)) (M 4 (n : Int)) (M 6 (6 + (n : Int))) (M 6 16 % 24)) (bb s (bcF (M 2 f) ((M 6 16) % 24))) 0)
      have ss := sS_rng (auC_rng M f s) n
      refine Hx.run 3 (pc' := 47) (L' := [some (vr 0), some (vi f), some (vi s), some (vi (bb s (bcF (M 2 f) ((M 6 16) % 24)))), some (vi (sS (auC M f s) n)), some (vi (n : Int)), jf]) (st' := [vi (n : Int), vr 1]) (M' := (sr M 54 F)) rfl ?_
      refine Hx.call (t := 17) (as := [vr 1, vi (n : Int)]) (pc' := 50) (rest := []) rfl (c_flightOf_1 (n : Int) (by (first | omega | (simp only [s54_1, s54_2, s54_3, s54_4, s54_5, s54_6]; omega))) (sr M 54 F)) ?_
      rintro _ _ ⟨rfl, rfl⟩
      refine Hx.run 0 (pc' := 50) (L' := [some (vr 0), some (vi f), some (vi s), some (vi (bb s (bcF (M 2 f) ((M 6 16) % 24)))), some (vi (sS (auC M f s) n)), some (vi (n : Int)), jf]) (st' := [vi (M 5 (n : Int))]) (M' := (sr M 54 F)) rfl ?_
      refine Hx.run 1 (pc' := 51) (L' := [some (vr 0), some (vi f), some (vi s), some (vi (bb s (bcF (M 2 f) ((M 6 16) % 24)))), some (vi (sS (auC M f s) n)), some (vi (n : Int)), jf]) (st' := [vi f, vi (M 5 (n : Int))]) (M' := (sr M 54 F)) rfl ?_
      refine Hx.br (c := (M 5 (n : Int)) = f) (t := 57) (f := 54) rfl (fun h2 => ?_) (fun h2 => ?_)
      · skip
        refine Hx.run 6 (pc' := 68) (L' := [some (vr 0), some (vi f), some (vi s), some (vi (bb s (bcF (M 2 f) ((M 6 16) % 24)))), some (vi (sS (auC M f s) n)), some (vi (n : Int)), jf]) (st' := [vi (n : Int), vr 1, vi 0, vr 53]) (M' := (sr M 54 F)) rfl ?_
        refine Hx.call (t := 30) (as := [vr 1, vi (n : Int)]) (pc' := 71) (rest := [vi 0, vr 53]) rfl (c_reach_1 (n : Int) (sr M 54 F) (by (first | omega | (simp only [s54_1, s54_2, s54_3, s54_4, s54_5, s54_6]; omega))) (by (first | omega | (simp only [s54_1, s54_2, s54_3, s54_4, s54_5, s54_6]; omega)))) ?_
        rintro _ _ ⟨rfl, rfl⟩
        refine Hx.run 0 (pc' := 71) (L' := [some (vr 0), some (vi f), some (vi s), some (vi (bb s (bcF (M 2 f) ((M 6 16) % 24)))), some (vi (sS (auC M f s) n)), some (vi (n : Int)), jf]) (st' := [vi (sfF (M 3 (n : Int)) (M 4 (n : Int)) (M 6 (6 + (n : Int))) ((M 6 16) % 24)), vi 0, vr 53]) (M' := (sr M 54 F)) rfl ?_
        refine Hx.run 1 (pc' := 72) (L' := [some (vr 0), some (vi f), some (vi s), some (vi (bb s (bcF (M 2 f) ((M 6 16) % 24)))), some (vi (sS (auC M f s) n)), some (vi (n : Int)), jf]) (st' := [vi (bb s (bcF (M 2 f) ((M 6 16) % 24))), vi (sfF (M 3 (n : Int)) (M 4 (n : Int)) (M 6 (6 + (n : Int))) ((M 6 16) % 24)), vi 0, vr 53]) (M' := (sr M 54 F)) rfl ?_
        refine Hx.call (t := 0) (as := [vr 53, vi 0, vi (sfF (M 3 (n : Int)) (M 4 (n : Int)) (M 6 (6 + (n : Int))) ((M 6 16) % 24)), vi (bb s (bcF (M 2 f) ((M 6 16) % 24)))]) (pc' := 75) (rest := []) rfl (c_fewestFrom_53 0 (sfF (M 3 (n : Int)) (M 4 (n : Int)) (M 6 (6 + (n : Int))) ((M 6 16) % 24)) (bb s (bcF (M 2 f) ((M 6 16) % 24))) (sr M 54 F) (by (first | omega | (simp only [s54_1, s54_2, s54_3, s54_4, s54_5, s54_6]; omega))) (by (first | omega | (simp only [s54_1, s54_2, s54_3, s54_4, s54_5, s54_6]; omega))) (by (first | omega | (simp only [s54_1, s54_2, s54_3, s54_4, s54_5, s54_6]; omega)))) ?_
        rintro _ _ ⟨rfl, F53, hF53, rfl⟩
        refine Hx.run 0 (pc' := 75) (L' := [some (vr 0), some (vi f), some (vi s), some (vi (bb s (bcF (M 2 f) ((M 6 16) % 24)))), some (vi (sS (auC M f s) n)), some (vi (n : Int)), jf]) (st' := [vi (dc (TV (sfF (M 3 (n : Int)) (M 4 (n : Int)) (M 6 (6 + (n : Int))) ((M 6 16) % 24)) (bb s (bcF (M 2 f) ((M 6 16) % 24))) 0))]) (M' := (sr (sr M 54 F) 54 F53)) rfl ?_
        refine Hx.run 4 (pc' := 82) (L' := [some (vr 0), some (vi f), some (vi s), some (vi (bb s (bcF (M 2 f) ((M 6 16) % 24)))), some (vi (sS (auC M f s) n)), some (vi (n : Int)), some (vi (dc (TV (sfF (M 3 (n : Int)) (M 4 (n : Int)) (M 6 (6 + (n : Int))) ((M 6 16) % 24)) (bb s (bcF (M 2 f) ((M 6 16) % 24))) 0)))]) (st' := [vi (-1), vi (dc (TV (sfF (M 3 (n : Int)) (M 4 (n : Int)) (M 6 (6 + (n : Int))) ((M 6 16) % 24)) (bb s (bcF (M 2 f) ((M 6 16) % 24))) 0)), vi (sS (auC M f s) n)]) (M' := (sr (sr M 54 F) 54 F53)) rfl ?_
        refine Hx.br (c := (dc (TV (sfF (M 3 (n : Int)) (M 4 (n : Int)) (M 6 (6 + (n : Int))) ((M 6 16) % 24)) (bb s (bcF (M 2 f) ((M 6 16) % 24))) 0)) = (-1)) (t := 85) (f := 90) rfl (fun h3 => ?_) (fun h3 => ?_)
        · skip
          refine Hx.run 2 (pc' := 92) (L' := [some (vr 0), some (vi f), some (vi s), some (vi (bb s (bcF (M 2 f) ((M 6 16) % 24)))), some (vi (sS (auC M f s) n)), some (vi (n : Int)), some (vi (dc (TV (sfF (M 3 (n : Int)) (M 4 (n : Int)) (M 6 (6 + (n : Int))) ((M 6 16) % 24)) (bb s (bcF (M 2 f) ((M 6 16) % 24))) 0)))]) (st' := [vi 20, vi (sS (auC M f s) n)]) (M' := (sr (sr M 54 F) 54 F53)) rfl ?_
          refine Hx.add rfl (by (first | omega | (simp only [s54_1, s54_2, s54_3, s54_4, s54_5, s54_6]; omega))) ?_
          refine Hx.run 1 (pc' := 95) (L' := [some (vr 0), some (vi f), some (vi s), some (vi (bb s (bcF (M 2 f) ((M 6 16) % 24)))), some (vi ((sS (auC M f s) n) + 20)), some (vi (n : Int)), some (vi (dc (TV (sfF (M 3 (n : Int)) (M 4 (n : Int)) (M 6 (6 + (n : Int))) ((M 6 16) % 24)) (bb s (bcF (M 2 f) ((M 6 16) % 24))) 0)))]) (st' := []) (M' := (sr (sr M 54 F) 54 F53)) rfl ?_
          refine Hx.inc rfl rfl (by (first | omega | (simp only [s54_1, s54_2, s54_3, s54_4, s54_5, s54_6]; omega))) ?_
          refine Hx.run 0 (pc' := 98) (L' := [some (vr 0), some (vi f), some (vi s), some (vi (bb s (bcF (M 2 f) ((M 6 16) % 24)))), some (vi ((sS (auC M f s) n) + 20)), some (vi ((n : Int) + 1)), some (vi (dc (TV (sfF (M 3 (n : Int)) (M 4 (n : Int)) (M 6 (6 + (n : Int))) ((M 6 16) % 24)) (bb s (bcF (M 2 f) ((M 6 16) % 24))) 0)))]) (st' := []) (M' := (sr (sr M 54 F) 54 F53)) rfl ?_
          refine Hx.run 1 (pc' := 29) (L' := [some (vr 0), some (vi f), some (vi s), some (vi (bb s (bcF (M 2 f) ((M 6 16) % 24)))), some (vi ((sS (auC M f s) n) + 20)), some (vi ((n : Int) + 1)), some (vi (dc (TV (sfF (M 3 (n : Int)) (M 4 (n : Int)) (M 6 (6 + (n : Int))) ((M 6 16) % 24)) (bb s (bcF (M 2 f) ((M 6 16) % 24))) 0)))]) (st' := []) (M' := (sr (sr M 54 F) 54 F53)) rfl ?_
          have e : sS (auC M f s) (n + 1) = ((sS (auC M f s) n) + 20) := by
            rw [sS_succ, show auC M f s n = co (TV (sfF (M 3 (n : Int)) (M 4 (n : Int)) (M 6 (6 + (n : Int))) (M 6 16 % 24)) (bb s (bcF (M 2 f) ((M 6 16) % 24))) 0) from if_pos (by omega)]
            omega
          have h9 := ih (n + 1) F53 (some (vi (dc (TV (sfF (M 3 (n : Int)) (M 4 (n : Int)) (M 6 (6 + (n : Int))) ((M 6 16) % 24)) (bb s (bcF (M 2 f) ((M 6 16) % 24))) 0)))) (by omega) (by omega)
          rw [e] at h9
          rw [sr_sr]
          exact h9
        · skip
          refine Hx.run 1 (pc' := 92) (L' := [some (vr 0), some (vi f), some (vi s), some (vi (bb s (bcF (M 2 f) ((M 6 16) % 24)))), some (vi (sS (auC M f s) n)), some (vi (n : Int)), some (vi (dc (TV (sfF (M 3 (n : Int)) (M 4 (n : Int)) (M 6 (6 + (n : Int))) ((M 6 16) % 24)) (bb s (bcF (M 2 f) ((M 6 16) % 24))) 0)))]) (st' := [vi (dc (TV (sfF (M 3 (n : Int)) (M 4 (n : Int)) (M 6 (6 + (n : Int))) ((M 6 16) % 24)) (bb s (bcF (M 2 f) ((M 6 16) % 24))) 0)), vi (sS (auC M f s) n)]) (M' := (sr (sr M 54 F) 54 F53)) rfl ?_
          refine Hx.add rfl (by (first | omega | (simp only [s54_1, s54_2, s54_3, s54_4, s54_5, s54_6]; omega))) ?_
          refine Hx.run 1 (pc' := 95) (L' := [some (vr 0), some (vi f), some (vi s), some (vi (bb s (bcF (M 2 f) ((M 6 16) % 24)))), some (vi ((sS (auC M f s) n) + (dc (TV (sfF (M 3 (n : Int)) (M 4 (n : Int)) (M 6 (6 + (n : Int))) ((M 6 16) % 24)) (bb s (bcF (M 2 f) ((M 6 16) % 24))) 0)))), some (vi (n : Int)), some (vi (dc (TV (sfF (M 3 (n : Int)) (M 4 (n : Int)) (M 6 (6 + (n : Int))) ((M 6 16) % 24)) (bb s (bcF (M 2 f) ((M 6 16) % 24))) 0)))]) (st' := []) (M' := (sr (sr M 54 F) 54 F53)) rfl ?_
          refine Hx.inc rfl rfl (by (first | omega | (simp only [s54_1, s54_2, s54_3, s54_4, s54_5, s54_6]; omega))) ?_
          refine Hx.run 0 (pc' := 98) (L' := [some (vr 0), some (vi f), some (vi s), some (vi (bb s (bcF (M 2 f) ((M 6 16) % 24)))), some (vi ((sS (auC M f s) n) + (dc (TV (sfF (M 3 (n : Int)) (M 4 (n : Int)) (M 6 (6 + (n : Int))) ((M 6 16) % 24)) (bb s (bcF (M 2 f) ((M 6 16) % 24))) 0)))), some (vi ((n : Int) + 1)), some (vi (dc (TV (sfF (M 3 (n : Int)) (M 4 (n : Int)) (M 6 (6 + (n : Int))) ((M 6 16) % 24)) (bb s (bcF (M 2 f) ((M 6 16) % 24))) 0)))]) (st' := []) (M' := (sr (sr M 54 F) 54 F53)) rfl ?_
          refine Hx.run 1 (pc' := 29) (L' := [some (vr 0), some (vi f), some (vi s), some (vi (bb s (bcF (M 2 f) ((M 6 16) % 24)))), some (vi ((sS (auC M f s) n) + (dc (TV (sfF (M 3 (n : Int)) (M 4 (n : Int)) (M 6 (6 + (n : Int))) ((M 6 16) % 24)) (bb s (bcF (M 2 f) ((M 6 16) % 24))) 0)))), some (vi ((n : Int) + 1)), some (vi (dc (TV (sfF (M 3 (n : Int)) (M 4 (n : Int)) (M 6 (6 + (n : Int))) ((M 6 16) % 24)) (bb s (bcF (M 2 f) ((M 6 16) % 24))) 0)))]) (st' := []) (M' := (sr (sr M 54 F) 54 F53)) rfl ?_
          have e : sS (auC M f s) (n + 1) = ((sS (auC M f s) n) + (dc (TV (sfF (M 3 (n : Int)) (M 4 (n : Int)) (M 6 (6 + (n : Int))) ((M 6 16) % 24)) (bb s (bcF (M 2 f) ((M 6 16) % 24))) 0))) := by
            rw [sS_succ, show auC M f s n = co (TV (sfF (M 3 (n : Int)) (M 4 (n : Int)) (M 6 (6 + (n : Int))) (M 6 16 % 24)) (bb s (bcF (M 2 f) ((M 6 16) % 24))) 0) from if_pos (by omega)]
            omega
          have h9 := ih (n + 1) F53 (some (vi (dc (TV (sfF (M 3 (n : Int)) (M 4 (n : Int)) (M 6 (6 + (n : Int))) ((M 6 16) % 24)) (bb s (bcF (M 2 f) ((M 6 16) % 24))) 0)))) (by omega) (by omega)
          rw [e] at h9
          rw [sr_sr]
          exact h9
      · skip
        refine Hx.run 1 (pc' := 95) (L' := [some (vr 0), some (vi f), some (vi s), some (vi (bb s (bcF (M 2 f) ((M 6 16) % 24)))), some (vi (sS (auC M f s) n)), some (vi (n : Int)), jf]) (st' := []) (M' := (sr M 54 F)) rfl ?_
        refine Hx.inc rfl rfl (by (first | omega | (simp only [s54_1, s54_2, s54_3, s54_4, s54_5, s54_6]; omega))) ?_
        refine Hx.run 0 (pc' := 98) (L' := [some (vr 0), some (vi f), some (vi s), some (vi (bb s (bcF (M 2 f) ((M 6 16) % 24)))), some (vi (sS (auC M f s) n)), some (vi ((n : Int) + 1)), jf]) (st' := []) (M' := (sr M 54 F)) rfl ?_
        refine Hx.run 1 (pc' := 29) (L' := [some (vr 0), some (vi f), some (vi s), some (vi (bb s (bcF (M 2 f) ((M 6 16) % 24)))), some (vi (sS (auC M f s) n)), some (vi ((n : Int) + 1)), jf]) (st' := []) (M' := (sr M 54 F)) rfl ?_
        have e : sS (auC M f s) (n + 1) = (sS (auC M f s) n) := by
          rw [sS_succ, show auC M f s n = 0 from if_neg (by omega)]
          omega
        have h9 := ih (n + 1) F jf (by omega) (by omega)
        rw [e] at h9
        exact h9
    · skip
      refine Hx.run 1 (pc' := 103) (L' := [some (vr 0), some (vi f), some (vi s), some (vi (bb s (bcF (M 2 f) ((M 6 16) % 24)))), some (vi (sS (auC M f s) n)), some (vi (n : Int)), jf]) (st' := [vi (sS (auC M f s) n)]) (M' := (sr M 54 F)) rfl ?_
      refine Hx.ret rfl ?_
      refine ⟨by rw [show (M 1 1).toNat = n by omega], F, rfl⟩
set_option maxRecDepth 100000 in
theorem c_allUp (f s : Int) (M : Mm) (hI : HI M 1) (hf : 0 ≤ f ∧ f < M 1 0) (hs : 1 ≤ s ∧ s ≤ 10) : Ct 76 [vr 0, vi f, vi s] M (fun q0 M' => q0 = some (vi (sS (auC M f s) (M 1 1).toNat)) ∧ ∃ F : Int → Int, sr M 54 F = M') := by
  obtain ⟨iF, iG, iK, iH, iFa, aF, aG, lS, lN, lM, rS, rN, rM, aK⟩ := (show (0 ≤ M 1 0 ∧ M 1 0 ≤ 3) ∧ (0 ≤ M 1 1 ∧ M 1 1 ≤ 6) ∧ (0 ≤ M 1 2 ∧ M 1 2 ≤ 8) ∧ (0 ≤ M 6 16 ∧ M 6 16 ≤ 9999) ∧ (0 ≤ M 6 15 ∧ M 6 15 ≤ 9000) ∧ (∀ f : Int, 0 ≤ f → f < M 1 0 → (0 ≤ M 2 f ∧ M 2 f ≤ 5) ∧ (1 ≤ M 6 (12 + f) ∧ M 6 (12 + f) ≤ 10)) ∧ (∀ i : Int, 0 ≤ i → i < M 1 1 → (0 ≤ M 3 i ∧ M 3 i ≤ 5) ∧ (1 ≤ M 4 i ∧ M 4 i ≤ 4) ∧ (0 ≤ M 5 i ∧ M 5 i < M 1 0) ∧ (0 ≤ M 6 i ∧ M 6 i ≤ 11) ∧ (0 ≤ M 6 (6 + i) ∧ M 6 (6 + i) ≤ 9)) ∧ (M 8 0 = 4 ∧ M 8 1 = 5 ∧ 0 ≤ M 8 3 ∧ M 8 3 ≤ 5) ∧ (M 10 0 = 3 ∧ M 10 1 = 6 ∧ 0 ≤ M 10 3 ∧ M 10 3 ≤ 6) ∧ (M 12 0 = 5 ∧ M 12 1 = 6 ∧ 0 ≤ M 12 3 ∧ M 12 3 ≤ 6) ∧ (∀ n : Int, 0 ≤ n → n < M 8 3 → (0 ≤ M 9 (n * 4 + 0) ∧ M 9 (n * 4 + 0) ≤ 2) ∧ (1 ≤ M 9 (n * 4 + 1) ∧ M 9 (n * 4 + 1) ≤ 10) ∧ (0 ≤ M 9 (n * 4 + 2) ∧ M 9 (n * 4 + 2) ≤ 23) ∧ (0 ≤ M 9 (n * 4 + 3) ∧ M 9 (n * 4 + 3) ≤ 1)) ∧ (∀ n : Int, 0 ≤ n → n < M 10 3 → (0 ≤ M 11 (n * 3 + 0) ∧ M 11 (n * 3 + 0) ≤ 2) ∧ (0 ≤ M 11 (n * 3 + 1) ∧ M 11 (n * 3 + 1) ≤ 23) ∧ (0 ≤ M 11 (n * 3 + 2) ∧ M 11 (n * 3 + 2) ≤ 9)) ∧ (∀ n : Int, 0 ≤ n → n < M 12 3 → (0 ≤ M 13 (n * 5 + 0) ∧ M 13 (n * 5 + 0) ≤ 5) ∧ (1 ≤ M 13 (n * 5 + 1) ∧ M 13 (n * 5 + 1) ≤ 4) ∧ (0 ≤ M 13 (n * 5 + 2) ∧ M 13 (n * 5 + 2) ≤ 9) ∧ (0 ≤ M 13 (n * 5 + 3) ∧ M 13 (n * 5 + 3) ≤ 23) ∧ (0 ≤ M 13 (n * 5 + 4) ∧ M 13 (n * 5 + 4) ≤ 9)) ∧ (∀ k : Int, 0 ≤ k → k < M 1 2 → (0 ≤ M 7 (k * 17 + 16) ∧ M 7 (k * 17 + 16) ≤ 9999) ∧ (0 ≤ M 7 (k * 17 + 15) ∧ M 7 (k * 17 + 15) ≤ 9000) ∧ (∀ f : Int, 0 ≤ f → f < M 1 0 → (1 ≤ M 7 (k * 17 + (12 + f)) ∧ M 7 (k * 17 + (12 + f)) ≤ 10)) ∧ (∀ i : Int, 0 ≤ i → i < M 1 1 → (0 ≤ M 7 (k * 17 + i) ∧ M 7 (k * 17 + i) ≤ 11) ∧ (0 ≤ M 7 (k * 17 + (6 + i)) ∧ M 7 (k * 17 + (6 + i)) ≤ 9))) from hI)
  have gF := aF f (by omega) (by omega)
  have bc := bcF_rng (k := M 2 f) (t := M 6 16 % 24)
  refine Hx.run 4 (pc' := 6) (L' := [some (vr 0), some (vi f), some (vi s), none, none, none, none]) (st' := [vi f, vr 1, vi s]) (M' := M) rfl ?_
  refine Hx.call (t := 13) (as := [vr 1, vi f]) (pc' := 9) (rest := [vi s]) rfl (c_ownerKind_1 f (by omega) M) ?_
  rintro _ _ ⟨rfl, rfl⟩
  refine Hx.run 0 (pc' := 9) (L' := [some (vr 0), some (vi f), some (vi s), none, none, none, none]) (st' := [vi (M 2 f), vi s]) (M' := M) rfl ?_
  refine Hx.run 2 (pc' := 13) (L' := [some (vr 0), some (vi f), some (vi s), none, none, none, none]) (st' := [vr 1, vi (M 2 f), vi s]) (M' := M) rfl ?_
  refine Hx.call (t := 24) (as := [vr 1]) (pc' := 16) (rest := [vi (M 2 f), vi s]) rfl (c_hourOfDay_1  M (by omega)) ?_
  rintro _ _ ⟨rfl, rfl⟩
  refine Hx.run 0 (pc' := 16) (L' := [some (vr 0), some (vi f), some (vi s), none, none, none, none]) (st' := [vi ((M 6 16) % 24), vi (M 2 f), vi s]) (M' := M) rfl ?_
  refine Hx.call (t := 124) (as := [vi (M 2 f), vi ((M 6 16) % 24)]) (pc' := 19) (rest := [vi s]) rfl (c_barCount (M 2 f) ((M 6 16) % 24) M (by omega) (by omega)) ?_
  rintro _ _ ⟨rfl, rfl⟩
  refine Hx.run 0 (pc' := 19) (L' := [some (vr 0), some (vi f), some (vi s), none, none, none, none]) (st' := [vi (bcF (M 2 f) ((M 6 16) % 24)), vi s]) (M' := M) rfl ?_
  refine Hx.call (t := 125) (as := [vi s, vi (bcF (M 2 f) ((M 6 16) % 24))]) (pc' := 22) (rest := []) rfl (c_barBits s (bcF (M 2 f) ((M 6 16) % 24)) M (by omega) (by omega)) ?_
  rintro _ _ ⟨rfl, rfl⟩
  refine Hx.run 0 (pc' := 22) (L' := [some (vr 0), some (vi f), some (vi s), none, none, none, none]) (st' := [vi (bb s (bcF (M 2 f) ((M 6 16) % 24)))]) (M' := M) rfl ?_
  refine Hx.run 5 (pc' := 29) (L' := [some (vr 0), some (vi f), some (vi s), some (vi (bb s (bcF (M 2 f) ((M 6 16) % 24)))), some (vi 0), some (vi 0), none]) (st' := []) (M' := M) rfl ?_
  have h0 := cl_allUp f s M hI hf hs 10 0 (M 54) none (by omega) (by omega)
  rw [sr_self] at h0
  exact h0
