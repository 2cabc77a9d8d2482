/-! site (written by wip/whole/gen40.py) -/
/-- the first number of 1 .. n at which f is least, and how much -/
def am2 (f : Nat → Int) : Nat → Int × Int
  | 0 => (-1, 1000000)
  | n + 1 => if f n < (am2 f n).2 then ((n : Int) + 1, f n) else am2 f n
theorem am2_succ (f : Nat → Int) (n : Nat) : am2 f (n + 1) = if f n < (am2 f n).2 then ((n : Int) + 1, f n) else am2 f n := rfl
theorem am2_rng {f : Nat → Int} (h : ∀ n, 0 ≤ f n ∧ f n ≤ 120) : ∀ n : Nat, (n = 0 ∧ (am2 f n).1 = -1 ∧ (am2 f n).2 = 1000000) ∨ (1 ≤ (am2 f n).1 ∧ (am2 f n).1 ≤ n ∧ 0 ≤ (am2 f n).2 ∧ (am2 f n).2 ≤ 120)
  | 0 => Or.inl ⟨rfl, rfl, rfl⟩
  | n + 1 => by
    have h1 := am2_rng h n
    have h2 := h n
    rw [am2_succ]
    split
    · dsimp only; omega
    · omega
theorem am2_congr {f g : Nat → Int} : ∀ n, (∀ m, m < n → f m = g m) → am2 f n = am2 g n
  | 0, _ => rfl
  | n + 1, h => by rw [am2_succ, am2_succ, am2_congr n (fun m hm => h m (by omega)), h n (by omega)]
def siC (M : Mm) (f : Int) (n : Nat) : Int := sS (auC M f ((n : Int) + 1)) (M 1 1).toNat
theorem siC_rng {M : Mm} {f : Int} (h : 0 ≤ M 1 1 ∧ M 1 1 ≤ 6) (n : Nat) : 0 ≤ siC M f n ∧ siC M f n ≤ 120 := by
  have := sS_rng (auC_rng M f ((n : Int) + 1)) (M 1 1).toNat
  unfold siC
  omega
theorem c_allUpS (f s : Int) (M : Mm) (F : Int → Int) (hI : HI M 1) (hf : 0 ≤ f ∧ f < M 1 0) (hs : 1 ≤ s ∧ s ≤ 10) : Ct 76 [vr 0, vi f, vi s] (sr M 54 F) (fun q0 M' => q0 = some (vi (sS (auC M f s) (M 1 1).toNat)) ∧ ∃ G : Int → Int, sr M 54 G = M') := by
  have h := c_allUp f s (sr M 54 F) hI hf hs
  exact Hx.imp h (fun r M' ⟨h1, G, h2⟩ => ⟨h1, G, by rw [← h2, sr_sr]⟩)
set_option maxRecDepth 100000 in
theorem cl_site (f w : Int) (M : Mm) (hI : HI M 1) (hf : 0 ≤ f ∧ f < M 1 0) : ∀ (kk : Nat) (n : Nat) (F : Int → Int) (jf : Option PV), n ≤ 10 → 10 - (n : Int) < (kk : Int) → Hx 75 33 [some (vr 0), some (vi f), some (vi w), some (vi (am2 (siC M f) n).1), some (vi (dc (am2 (siC M f) n).2)), some (vi ((n : Int) + 1)), jf] [] (sr M 54 F) (fun q0 M' => q0 = some (vi (if w = 0 then (am2 (siC M f) 10).1 else dc (am2 (siC M f) 10).2)) ∧ ∃ F : Int → Int, sr M 54 F = M') := by
  intro kk
  induction kk with
  | zero => intro n F jf _ hkk; exact absurd hkk (by omega)
  | succ kk ih =>
    intro n F jf hn hkk
    obtain ⟨iF, iG, iK, iH, iFa, aF, aG, lS, lN, lM, rS, rN, rM, aK⟩ := (show (0 ≤ M 1 0 ∧ M 1 0 ≤ 3) ∧ (0 ≤ M 1 1 ∧ M 1 1 ≤ 6) ∧ (0 ≤ M 1 2 ∧ M 1 2 ≤ 8) ∧ (0 ≤ M 6 16 ∧ M 6 16 ≤ 9999) ∧ (0 ≤ M 6 15 ∧ M 6 15 ≤ 9000) ∧ (∀ f : Int, 0 ≤ f → f < M 1 0 → (0 ≤ M 2 f ∧ M 2 f ≤ 5) ∧ (1 ≤ M 6 (12 + f) ∧ M 6 (12 + f) ≤ 10)) ∧ (∀ i : Int, 0 ≤ i → i < M 1 1 → (0 ≤ M 3 i ∧ M 3 i ≤ 5) ∧ (1 ≤ M 4 i ∧ M 4 i ≤ 4) ∧ (0 ≤ M 5 i ∧ M 5 i < M 1 0) ∧ (0 ≤ M 6 i ∧ M 6 i ≤ 11) ∧ (0 ≤ M 6 (6 + i) ∧ M 6 (6 + i) ≤ 9)) ∧ (M 8 0 = 4 ∧ M 8 1 = 5 ∧ 0 ≤ M 8 3 ∧ M 8 3 ≤ 5) ∧ (M 10 0 = 3 ∧ M 10 1 = 6 ∧ 0 ≤ M 10 3 ∧ M 10 3 ≤ 6) ∧ (M 12 0 = 5 ∧ M 12 1 = 6 ∧ 0 ≤ M 12 3 ∧ M 12 3 ≤ 6) ∧ (∀ n : Int, 0 ≤ n → n < M 8 3 → (0 ≤ M 9 (n * 4 + 0) ∧ M 9 (n * 4 + 0) ≤ 2) ∧ (1 ≤ M 9 (n * 4 + 1) ∧ M 9 (n * 4 + 1) ≤ 10) ∧ (0 ≤ M 9 (n * 4 + 2) ∧ M 9 (n * 4 + 2) ≤ 23) ∧ (0 ≤ M 9 (n * 4 + 3) ∧ M 9 (n * 4 + 3) ≤ 1)) ∧ (∀ n : Int, 0 ≤ n → n < M 10 3 → (0 ≤ M 11 (n * 3 + 0) ∧ M 11 (n * 3 + 0) ≤ 2) ∧ (0 ≤ M 11 (n * 3 + 1) ∧ M 11 (n * 3 + 1) ≤ 23) ∧ (0 ≤ M 11 (n * 3 + 2) ∧ M 11 (n * 3 + 2) ≤ 9)) ∧ (∀ n : Int, 0 ≤ n → n < M 12 3 → (0 ≤ M 13 (n * 5 + 0) ∧ M 13 (n * 5 + 0) ≤ 5) ∧ (1 ≤ M 13 (n * 5 + 1) ∧ M 13 (n * 5 + 1) ≤ 4) ∧ (0 ≤ M 13 (n * 5 + 2) ∧ M 13 (n * 5 + 2) ≤ 9) ∧ (0 ≤ M 13 (n * 5 + 3) ∧ M 13 (n * 5 + 3) ≤ 23) ∧ (0 ≤ M 13 (n * 5 + 4) ∧ M 13 (n * 5 + 4) ≤ 9)) ∧ (∀ k : Int, 0 ≤ k → k < M 1 2 → (0 ≤ M 7 (k * 17 + 16) ∧ M 7 (k * 17 + 16) ≤ 9999) ∧ (0 ≤ M 7 (k * 17 + 15) ∧ M 7 (k * 17 + 15) ≤ 9000) ∧ (∀ f : Int, 0 ≤ f → f < M 1 0 → (1 ≤ M 7 (k * 17 + (12 + f)) ∧ M 7 (k * 17 + (12 + f)) ≤ 10)) ∧ (∀ i : Int, 0 ≤ i → i < M 1 1 → (0 ≤ M 7 (k * 17 + i) ∧ M 7 (k * 17 + i) ≤ 11) ∧ (0 ≤ M 7 (k * 17 + (6 + i)) ∧ M 7 (k * 17 + (6 + i)) ≤ 9))) from hI)
    have gF := aF f (by omega) (by omega)
    have hsn : siC M f n = (sS (auC M f ((n : Int) + 1)) (M 1 1).toNat) := rfl
    have sr0 := siC_rng (M := M) (f := f) (by omega) n
    have td := dc_cases (sS (auC M f ((n : Int) + 1)) (M 1 1).toNat)
    have am := am2_rng (f := siC M f) (siC_rng (by omega)) n
    have ad := dc_cases (am2 (siC M f) n).2
    refine Hx.run 2 (pc' := 37) (L' := [some (vr 0), some (vi f), some (vi w), some (vi (am2 (siC M f) n).1), some (vi (dc (am2 (siC M f) n).2)), some (vi ((n : Int) + 1)), jf]) (st' := [vi 10, vi ((n : Int) + 1)]) (M' := (sr M 54 F)) rfl ?_
    refine Hx.br (c := 10 < ((n : Int) + 1)) (t := 78) (f := 40) rfl (fun h1 => ?_) (fun h1 => ?_)
    · skip
      refine Hx.run 1 (pc' := 79) (L' := [some (vr 0), some (vi f), some (vi w), some (vi (am2 (siC M f) n).1), some (vi (dc (am2 (siC M f) n).2)), some (vi ((n : Int) + 1)), jf]) (st' := [vi w]) (M' := (sr M 54 F)) rfl ?_
      refine Hx.br (c := w = 0) (t := 82) (f := 86) rfl (fun h2 => ?_) (fun h2 => ?_)
      · skip
        refine Hx.run 2 (pc' := 88) (L' := [some (vr 0), some (vi f), some (vi w), some (vi (am2 (siC M f) n).1), some (vi (dc (am2 (siC M f) n).2)), some (vi ((n : Int) + 1)), jf]) (st' := [vi (am2 (siC M f) n).1]) (M' := (sr M 54 F)) rfl ?_
        refine Hx.ret rfl ?_
        have e : n = 10 := by omega
        subst e
        first | exact ⟨by rw [if_pos (by assumption)], F, rfl⟩ | exact ⟨by rw [if_neg (by assumption)], F, rfl⟩
      · skip
        refine Hx.run 1 (pc' := 88) (L' := [some (vr 0), some (vi f), some (vi w), some (vi (am2 (siC M f) n).1), some (vi (dc (am2 (siC M f) n).2)), some (vi ((n : Int) + 1)), jf]) (st' := [vi (dc (am2 (siC M f) n).2)]) (M' := (sr M 54 F)) rfl ?_
        refine Hx.ret rfl ?_
        have e : n = 10 := by omega
        subst e
        first | exact ⟨by rw [if_pos (by assumption)], F, rfl⟩ | exact ⟨by rw [if_neg (by assumption)], F, rfl⟩
    · skip
      refine Hx.run 3 (pc' := 44) (L' := [some (vr 0), some (vi f), some (vi w), some (vi (am2 (siC M f) n).1), some (vi (dc (am2 (siC M f) n).2)), some (vi ((n : Int) + 1)), jf]) (st' := [vi ((n : Int) + 1), vi f, vr 0]) (M' := (sr M 54 F)) rfl ?_
      refine Hx.call (t := 76) (as := [vr 0, vi f, vi ((n : Int) + 1)]) (pc' := 47) (rest := []) rfl (c_allUpS f ((n : Int) + 1) M F hI (by omega) (by omega)) ?_
      rintro _ _ ⟨rfl, G, rfl⟩
      refine Hx.run 0 (pc' := 47) (L' := [some (vr 0), some (vi f), some (vi w), some (vi (am2 (siC M f) n).1), some (vi (dc (am2 (siC M f) n).2)), some (vi ((n : Int) + 1)), jf]) (st' := [vi (sS (auC M f ((n : Int) + 1)) (M 1 1).toNat)]) (M' := (sr M 54 G)) rfl ?_
      refine Hx.run 3 (pc' := 52) (L' := [some (vr 0), some (vi f), some (vi w), some (vi (am2 (siC M f) n).1), some (vi (dc (am2 (siC M f) n).2)), some (vi ((n : Int) + 1)), some (vi (sS (auC M f ((n : Int) + 1)) (M 1 1).toNat))]) (st' := [vi (-1), vi (dc (am2 (siC M f) n).2)]) (M' := (sr M 54 G)) rfl ?_
      refine Hx.br (c := (dc (am2 (siC M f) n).2) = (-1)) (t := 65) (f := 55) rfl (fun h3 => ?_) (fun h3 => ?_)
      · skip
        refine Hx.run 4 (pc' := 72) (L' := [some (vr 0), some (vi f), some (vi w), some (vi ((n : Int) + 1)), some (vi (sS (auC M f ((n : Int) + 1)) (M 1 1).toNat)), some (vi ((n : Int) + 1)), some (vi (sS (auC M f ((n : Int) + 1)) (M 1 1).toNat))]) (st' := []) (M' := (sr M 54 G)) rfl ?_
        refine Hx.inc rfl rfl (by (first | omega | (simp only [s54_1, s54_2, s54_3, s54_4, s54_5, s54_6]; omega))) ?_
        refine Hx.run 0 (pc' := 75) (L' := [some (vr 0), some (vi f), some (vi w), some (vi ((n : Int) + 1)), some (vi (sS (auC M f ((n : Int) + 1)) (M 1 1).toNat)), some (vi (((n : Int) + 1) + 1)), some (vi (sS (auC M f ((n : Int) + 1)) (M 1 1).toNat))]) (st' := []) (M' := (sr M 54 G)) rfl ?_
        refine Hx.run 1 (pc' := 33) (L' := [some (vr 0), some (vi f), some (vi w), some (vi ((n : Int) + 1)), some (vi (sS (auC M f ((n : Int) + 1)) (M 1 1).toNat)), some (vi (((n : Int) + 1) + 1)), some (vi (sS (auC M f ((n : Int) + 1)) (M 1 1).toNat))]) (st' := []) (M' := (sr M 54 G)) rfl ?_
        have e1 : (am2 (siC M f) (n + 1)).1 = ((n : Int) + 1) := by rw [am2_succ, hsn]; split <;> first | rfl | omega | (dsimp only; omega)
        have e2 : dc (am2 (siC M f) (n + 1)).2 = (sS (auC M f ((n : Int) + 1)) (M 1 1).toNat) := by rw [am2_succ, hsn]; split <;> first | rfl | omega | (dsimp only; omega)
        have h9 := ih (n + 1) G (some (vi (sS (auC M f ((n : Int) + 1)) (M 1 1).toNat))) (by omega) (by omega)
        rw [e1, e2] at h9
        exact h9
      · skip
        refine Hx.run 2 (pc' := 59) (L' := [some (vr 0), some (vi f), some (vi w), some (vi (am2 (siC M f) n).1), some (vi (dc (am2 (siC M f) n).2)), some (vi ((n : Int) + 1)), some (vi (sS (auC M f ((n : Int) + 1)) (M 1 1).toNat))]) (st' := [vi (dc (am2 (siC M f) n).2), vi (sS (auC M f ((n : Int) + 1)) (M 1 1).toNat)]) (M' := (sr M 54 G)) rfl ?_
        refine Hx.br (c := (sS (auC M f ((n : Int) + 1)) (M 1 1).toNat) < (dc (am2 (siC M f) n).2)) (t := 65) (f := 62) rfl (fun h4 => ?_) (fun h4 => ?_)
        · skip
          refine Hx.run 4 (pc' := 72) (L' := [some (vr 0), some (vi f), some (vi w), some (vi ((n : Int) + 1)), some (vi (sS (auC M f ((n : Int) + 1)) (M 1 1).toNat)), some (vi ((n : Int) + 1)), some (vi (sS (auC M f ((n : Int) + 1)) (M 1 1).toNat))]) (st' := []) (M' := (sr M 54 G)) rfl ?_
          refine Hx.inc rfl rfl (by (first | omega | (simp only [s54_1, s54_2, s54_3, s54_4, s54_5, s54_6]; omega))) ?_
          refine Hx.run 0 (pc' := 75) (L' := [some (vr 0), some (vi f), some (vi w), some (vi ((n : Int) + 1)), some (vi (sS (auC M f ((n : Int) + 1)) (M 1 1).toNat)), some (vi (((n : Int) + 1) + 1)), some (vi (sS (auC M f ((n : Int) + 1)) (M 1 1).toNat))]) (st' := []) (M' := (sr M 54 G)) rfl ?_
          refine Hx.run 1 (pc' := 33) (L' := [some (vr 0), some (vi f), some (vi w), some (vi ((n : Int) + 1)), some (vi (sS (auC M f ((n : Int) + 1)) (M 1 1).toNat)), some (vi (((n : Int) + 1) + 1)), some (vi (sS (auC M f ((n : Int) + 1)) (M 1 1).toNat))]) (st' := []) (M' := (sr M 54 G)) rfl ?_
          have e1 : (am2 (siC M f) (n + 1)).1 = ((n : Int) + 1) := by rw [am2_succ, hsn]; split <;> first | rfl | omega | (dsimp only; omega)
          have e2 : dc (am2 (siC M f) (n + 1)).2 = (sS (auC M f ((n : Int) + 1)) (M 1 1).toNat) := by rw [am2_succ, hsn]; split <;> first | rfl | omega | (dsimp only; omega)
          have h9 := ih (n + 1) G (some (vi (sS (auC M f ((n : Int) + 1)) (M 1 1).toNat))) (by omega) (by omega)
          rw [e1, e2] at h9
          exact h9
        · skip
          refine Hx.run 1 (pc' := 72) (L' := [some (vr 0), some (vi f), some (vi w), some (vi (am2 (siC M f) n).1), some (vi (dc (am2 (siC M f) n).2)), some (vi ((n : Int) + 1)), some (vi (sS (auC M f ((n : Int) + 1)) (M 1 1).toNat))]) (st' := []) (M' := (sr M 54 G)) rfl ?_
          refine Hx.inc rfl rfl (by (first | omega | (simp only [s54_1, s54_2, s54_3, s54_4, s54_5, s54_6]; omega))) ?_
          refine Hx.run 0 (pc' := 75) (L' := [some (vr 0), some (vi f), some (vi w), some (vi (am2 (siC M f) n).1), some (vi (dc (am2 (siC M f) n).2)), some (vi (((n : Int) + 1) + 1)), some (vi (sS (auC M f ((n : Int) + 1)) (M 1 1).toNat))]) (st' := []) (M' := (sr M 54 G)) rfl ?_
          refine Hx.run 1 (pc' := 33) (L' := [some (vr 0), some (vi f), some (vi w), some (vi (am2 (siC M f) n).1), some (vi (dc (am2 (siC M f) n).2)), some (vi (((n : Int) + 1) + 1)), some (vi (sS (auC M f ((n : Int) + 1)) (M 1 1).toNat))]) (st' := []) (M' := (sr M 54 G)) rfl ?_
          have e1 : (am2 (siC M f) (n + 1)).1 = (am2 (siC M f) n).1 := by rw [am2_succ, hsn]; split <;> first | rfl | omega | (dsimp only; omega)
          have e2 : dc (am2 (siC M f) (n + 1)).2 = (dc (am2 (siC M f) n).2) := by rw [am2_succ, hsn]; split <;> first | rfl | omega | (dsimp only; omega)
          have h9 := ih (n + 1) G (some (vi (sS (auC M f ((n : Int) + 1)) (M 1 1).toNat))) (by omega) (by omega)
          rw [e1, e2] at h9
          exact h9
set_option maxRecDepth 100000 in
theorem C_site (f w : Int) (M : Mm) (hI : HI M 1) (hs : (0 ≤ M 0 14 ∧ M 0 14 ≤ 600) ∧ (0 ≤ M 0 15 ∧ M 0 15 ≤ 600) ∧ (0 ≤ M 0 16 ∧ M 0 16 ≤ 600)) : Ct 75 [vr 0, vi f, vi w] M (fun q0 M' => ((¬ (0 ≤ f ∧ f < M 1 0) ∨ w < 0 ∨ 1 < w) ∧ q0 = some (vi (-2)) ∧ up M 0 14 (M 0 14 + 1) = M') ∨ (((0 ≤ f ∧ f < M 1 0) ∧ 0 ≤ w ∧ w ≤ 1) ∧ q0 = some (vi (if w = 0 then (am2 (siC M f) 10).1 else dc (am2 (siC M f) 10).2)) ∧ ∃ F : Int → Int, sr M 54 F = M')) := by
  obtain ⟨iF, iG, iK, iH, iFa, aF, aG, lS, lN, lM, rS, rN, rM, aK⟩ := (show (0 ≤ M 1 0 ∧ M 1 0 ≤ 3) ∧ (0 ≤ M 1 1 ∧ M 1 1 ≤ 6) ∧ (0 ≤ M 1 2 ∧ M 1 2 ≤ 8) ∧ (0 ≤ M 6 16 ∧ M 6 16 ≤ 9999) ∧ (0 ≤ M 6 15 ∧ M 6 15 ≤ 9000) ∧ (∀ f : Int, 0 ≤ f → f < M 1 0 → (0 ≤ M 2 f ∧ M 2 f ≤ 5) ∧ (1 ≤ M 6 (12 + f) ∧ M 6 (12 + f) ≤ 10)) ∧ (∀ i : Int, 0 ≤ i → i < M 1 1 → (0 ≤ M 3 i ∧ M 3 i ≤ 5) ∧ (1 ≤ M 4 i ∧ M 4 i ≤ 4) ∧ (0 ≤ M 5 i ∧ M 5 i < M 1 0) ∧ (0 ≤ M 6 i ∧ M 6 i ≤ 11) ∧ (0 ≤ M 6 (6 + i) ∧ M 6 (6 + i) ≤ 9)) ∧ (M 8 0 = 4 ∧ M 8 1 = 5 ∧ 0 ≤ M 8 3 ∧ M 8 3 ≤ 5) ∧ (M 10 0 = 3 ∧ M 10 1 = 6 ∧ 0 ≤ M 10 3 ∧ M 10 3 ≤ 6) ∧ (M 12 0 = 5 ∧ M 12 1 = 6 ∧ 0 ≤ M 12 3 ∧ M 12 3 ≤ 6) ∧ (∀ n : Int, 0 ≤ n → n < M 8 3 → (0 ≤ M 9 (n * 4 + 0) ∧ M 9 (n * 4 + 0) ≤ 2) ∧ (1 ≤ M 9 (n * 4 + 1) ∧ M 9 (n * 4 + 1) ≤ 10) ∧ (0 ≤ M 9 (n * 4 + 2) ∧ M 9 (n * 4 + 2) ≤ 23) ∧ (0 ≤ M 9 (n * 4 + 3) ∧ M 9 (n * 4 + 3) ≤ 1)) ∧ (∀ n : Int, 0 ≤ n → n < M 10 3 → (0 ≤ M 11 (n * 3 + 0) ∧ M 11 (n * 3 + 0) ≤ 2) ∧ (0 ≤ M 11 (n * 3 + 1) ∧ M 11 (n * 3 + 1) ≤ 23) ∧ (0 ≤ M 11 (n * 3 + 2) ∧ M 11 (n * 3 + 2) ≤ 9)) ∧ (∀ n : Int, 0 ≤ n → n < M 12 3 → (0 ≤ M 13 (n * 5 + 0) ∧ M 13 (n * 5 + 0) ≤ 5) ∧ (1 ≤ M 13 (n * 5 + 1) ∧ M 13 (n * 5 + 1) ≤ 4) ∧ (0 ≤ M 13 (n * 5 + 2) ∧ M 13 (n * 5 + 2) ≤ 9) ∧ (0 ≤ M 13 (n * 5 + 3) ∧ M 13 (n * 5 + 3) ≤ 23) ∧ (0 ≤ M 13 (n * 5 + 4) ∧ M 13 (n * 5 + 4) ≤ 9)) ∧ (∀ k : Int, 0 ≤ k → k < M 1 2 → (0 ≤ M 7 (k * 17 + 16) ∧ M 7 (k * 17 + 16) ≤ 9999) ∧ (0 ≤ M 7 (k * 17 + 15) ∧ M 7 (k * 17 + 15) ≤ 9000) ∧ (∀ f : Int, 0 ≤ f → f < M 1 0 → (1 ≤ M 7 (k * 17 + (12 + f)) ∧ M 7 (k * 17 + (12 + f)) ≤ 10)) ∧ (∀ i : Int, 0 ≤ i → i < M 1 1 → (0 ≤ M 7 (k * 17 + i) ∧ M 7 (k * 17 + i) ≤ 11) ∧ (0 ≤ M 7 (k * 17 + (6 + i)) ∧ M 7 (k * 17 + (6 + i)) ≤ 9))) from hI)
  refine Hx.run 3 (pc' := 5) (L' := [some (vr 0), some (vi f), some (vi w), none, none, none, none]) (st' := [vi f, vr 1]) (M' := M) rfl ?_
  refine Hx.call (t := 7) (as := [vr 1, vi f]) (pc' := 8) (rest := []) rfl (c_hasFlight_1 f M) ?_
  rintro _ _ (⟨q96, rfl, rfl⟩ | ⟨q96, rfl, rfl⟩)
  · skip
    have fq96 := aF f q96.1 q96.2
    refine Hx.run 2 (pc' := 12) (L' := [some (vr 0), some (vi f), some (vi w), none, none, none, none]) (st' := [vi w]) (M' := M) rfl ?_
    refine Hx.br (c := w < 0) (t := 20) (f := 15) rfl (fun h1 => ?_) (fun h1 => ?_)
    · skip
      refine Hx.run 1 (pc' := 21) (L' := [some (vr 0), some (vi f), some (vi w), none, none, none, none]) (st' := [vr 0]) (M' := M) rfl ?_
      refine Hx.call (t := 114) (as := [vr 0]) (pc' := 24) (rest := []) rfl (c_bad M (by omega)) ?_
      rintro _ _ ⟨rfl, rfl⟩
      refine Hx.run 0 (pc' := 24) (L' := [some (vr 0), some (vi f), some (vi w), none, none, none, none]) (st' := [vi (-2)]) (M' := (up M 0 14 ((M 0 14) + 1))) rfl ?_
      refine Hx.ret rfl ?_
      exact Or.inl ⟨by omega, rfl, rfl⟩
    · skip
      refine Hx.run 2 (pc' := 17) (L' := [some (vr 0), some (vi f), some (vi w), none, none, none, none]) (st' := [vi 1, vi w]) (M' := M) rfl ?_
      refine Hx.br (c := 1 < w) (t := 20) (f := 25) rfl (fun h2 => ?_) (fun h2 => ?_)
      · skip
        refine Hx.run 1 (pc' := 21) (L' := [some (vr 0), some (vi f), some (vi w), none, none, none, none]) (st' := [vr 0]) (M' := M) rfl ?_
        refine Hx.call (t := 114) (as := [vr 0]) (pc' := 24) (rest := []) rfl (c_bad M (by omega)) ?_
        rintro _ _ ⟨rfl, rfl⟩
        refine Hx.run 0 (pc' := 24) (L' := [some (vr 0), some (vi f), some (vi w), none, none, none, none]) (st' := [vi (-2)]) (M' := (up M 0 14 ((M 0 14) + 1))) rfl ?_
        refine Hx.ret rfl ?_
        exact Or.inl ⟨by omega, rfl, rfl⟩
      · skip
        refine Hx.run 6 (pc' := 33) (L' := [some (vr 0), some (vi f), some (vi w), some (vi (-1)), some (vi (-1)), some (vi 1), none]) (st' := []) (M' := M) rfl ?_
        have h0 := cl_site f w M hI (by omega) 30 0 (M 54) none (by omega) (by omega)
        rw [sr_self, show dc (am2 (siC M f) 0).2 = -1 from rfl, show (am2 (siC M f) 0).1 = -1 from rfl] at h0
        exact Hx.imp h0 (fun r M' h => Or.inr ⟨by omega, h⟩)
  · skip
    refine Hx.run 2 (pc' := 21) (L' := [some (vr 0), some (vi f), some (vi w), none, none, none, none]) (st' := [vr 0]) (M' := M) rfl ?_
    refine Hx.call (t := 114) (as := [vr 0]) (pc' := 24) (rest := []) rfl (c_bad M (by omega)) ?_
    rintro _ _ ⟨rfl, rfl⟩
    refine Hx.run 0 (pc' := 24) (L' := [some (vr 0), some (vi f), some (vi w), none, none, none, none]) (st' := [vi (-2)]) (M' := (up M 0 14 ((M 0 14) + 1))) rfl ?_
    refine Hx.ret rfl ?_
    exact Or.inl ⟨by omega, rfl, rfl⟩
