/-! laysWay (written by wip/whole/gen46.py) -/
set_option maxRecDepth 100000 in
theorem rl_way_70 (i : Int) (M : Mm) (hg : (0 ≤ i ∧ i < 6) ∧ (0 ≤ M 65 (10 + i) ∧ M 65 (10 + i) ≤ 5) ∧ (1 ≤ M 65 (16 + i) ∧ M 65 (16 + i) ≤ 4) ∧ (0 ≤ M 65 (22 + i) ∧ M 65 (22 + i) ≤ 2) ∧ (0 ≤ M 65 (28 + i) ∧ M 65 (28 + i) ≤ 11) ∧ (0 ≤ M 65 (34 + i) ∧ M 65 (34 + i) ≤ 9)) (hf : (0 ≤ (M 65 (22 + i)) ∧ (M 65 (22 + i)) < 3) ∧ (0 ≤ M 65 (4 + (M 65 (22 + i))) ∧ M 65 (4 + (M 65 (22 + i))) ≤ 5) ∧ (1 ≤ M 65 (7 + (M 65 (22 + i))) ∧ M 65 (7 + (M 65 (22 + i))) ≤ 10)) (hh : (0 ≤ M 65 2 ∧ M 65 2 ≤ 9999)) (T : Int → Int) (hT : ∀ x, 0 ≤ x → x ≤ 11 → T x = TV (sfF (M 65 (10 + i)) (M 65 (16 + i)) (M 65 (34 + i)) ((M 65 2) % 24)) (bb (M 65 (7 + (M 65 (22 + i)))) (bcF (M 65 (4 + (M 65 (22 + i)))) ((M 65 2) % 24))) x) : ∀ (kk : Nat) (n : Nat) (A : Int → Int), n ≤ 12 → WP (sfF (M 65 (10 + i)) (M 65 (16 + i)) (M 65 (34 + i)) ((M 65 2) % 24)) (bb (M 65 (7 + (M 65 (22 + i)))) (bcF (M 65 (4 + (M 65 (22 + i)))) ((M 65 2) % 24))) (M 65 (28 + i)) A n → TV (sfF (M 65 (10 + i)) (M 65 (16 + i)) (M 65 (34 + i)) ((M 65 2) % 24)) (bb (M 65 (7 + (M 65 (22 + i)))) (bcF (M 65 (4 + (M 65 (22 + i)))) ((M 65 2) % 24))) (A (n : Int)) < 1000000 → 12 - (n : Int) < (kk : Int) → Hx 190 40 [some (vr 64), some (vi i), some (vr 70), some (vi (A (n : Int))), some (vi 1), some (vi ((n : Int) + 1))] [] (sr (sr M 69 T) 70 A) (fun q0 M' => ∃ A : Int → Int, WP (sfF (M 65 (10 + i)) (M 65 (16 + i)) (M 65 (34 + i)) ((M 65 2) % 24)) (bb (M 65 (7 + (M 65 (22 + i)))) (bcF (M 65 (4 + (M 65 (22 + i)))) ((M 65 2) % 24))) (M 65 (28 + i)) A 12 ∧ q0 = some (vi 1) ∧ sr (sr M 69 T) 70 A = M') := by
  intro kk
  induction kk with
  | zero => intro n A _ _ _ hkk; exact absurd hkk (by omega)
  | succ kk ih =>
    intro n A hn hW hTn hkk
    have sR := sfF_rng (k := M 65 (10 + i)) (l := M 65 (16 + i)) (x := M 65 (34 + i)) (t := M 65 2 % 24) (by omega) (by omega)
    have bR := bb_rng (M 65 (7 + (M 65 (22 + i)))) (bcF (M 65 (4 + (M 65 (22 + i)))) (M 65 2 % 24))
    have hr := WP_rng (far := (sfF (M 65 (10 + i)) (M 65 (16 + i)) (M 65 (34 + i)) ((M 65 2) % 24))) (b := (bb (M 65 (7 + (M 65 (22 + i)))) (bcF (M 65 (4 + (M 65 (22 + i)))) ((M 65 2) % 24)))) (p := (M 65 (28 + i))) (by omega) hW n (Nat.le_refl n)
    have h11 := TV_11 (far := (sfF (M 65 (10 + i)) (M 65 (16 + i)) (M 65 (34 + i)) ((M 65 2) % 24))) (b := (bb (M 65 (7 + (M 65 (22 + i)))) (bcF (M 65 (4 + (M 65 (22 + i)))) ((M 65 2) % 24))))
    have hL : ∀ x, 0 ≤ x → x ≤ 11 → (sr (sr M 69 T) 70 A) 69 x = TV (sfF (M 65 (10 + i)) (M 65 (16 + i)) (M 65 (34 + i)) ((M 65 2) % 24)) (bb (M 65 (7 + (M 65 (22 + i)))) (bcF (M 65 (4 + (M 65 (22 + i)))) ((M 65 2) % 24))) x := fun x h1 h2 => hT x h1 h2
    refine Hx.run 2 (pc' := 44) (L' := [some (vr 64), some (vi i), some (vr 70), some (vi (A (n : Int))), some (vi 1), some (vi ((n : Int) + 1))]) (st' := [vi 13, vi ((n : Int) + 1)]) (M' := (sr (sr M 69 T) 70 A)) rfl ?_
    refine Hx.br (c := ((n : Int) + 1) < 13) (t := 47) (f := 98) rfl (fun h1 => ?_) (fun h1 => ?_)
    · skip
      refine Hx.run 4 (pc' := 55) (L' := [some (vr 64), some (vi i), some (vr 70), some (vi (A (n : Int))), some (vi 1), some (vi ((n : Int) + 1))]) (st' := [vi 11, vi (A (n : Int))]) (M' := (sr (sr M 69 T) 70 A)) rfl ?_
      refine Hx.br (c := (A (n : Int)) = 11) (t := 58) (f := 63) rfl (fun h2 => ?_) (fun h2 => ?_)
      · skip
        refine Hx.run 6 (pc' := 91) (L' := [some (vr 64), some (vi i), some (vr 70), some (vi 11), some (vi 1), some (vi ((n : Int) + 1))]) (st' := [vi 11, vi ((n : Int) + 1), vr 70]) (M' := (sr (sr M 69 T) 70 A)) rfl ?_
        refine Hx.astI (n := 13) rfl rfl (by (first | omega | (simp [sr, up] <;> omega))) ?_
        refine Hx.inc rfl rfl (by (first | omega | (simp [sr, up] <;> omega))) ?_
        refine Hx.run 0 (pc' := 95) (L' := [some (vr 64), some (vi i), some (vr 70), some (vi 11), some (vi 1), some (vi (((n : Int) + 1) + 1))]) (st' := []) (M' := (up (sr (sr M 69 T) 70 A) 70 ((n : Int) + 1) 11)) rfl ?_
        refine Hx.run 1 (pc' := 40) (L' := [some (vr 64), some (vi i), some (vr 70), some (vi 11), some (vi 1), some (vi (((n : Int) + 1) + 1))]) (st' := []) (M' := (up (sr (sr M 69 T) 70 A) 70 ((n : Int) + 1) 11)) rfl ?_
        rw [sr_up]
        have h9 := ih (n + 1) (st1 A ((n : Int) + 1) 11) (by omega) (WP_st1 hW (Or.inl ⟨by omega, rfl⟩)) (by rw [show ((n + 1 : Nat) : Int) = (n : Int) + 1 from rfl, st1_at]; omega) (by omega)
        rw [show ((n + 1 : Nat) : Int) = (n : Int) + 1 from rfl, st1_at] at h9
        exact h9
      · skip
        refine Hx.run 9 (pc' := 75) (L' := [some (vr 64), some (vi i), some (vr 70), some (vi (A (n : Int))), some (vi 1), some (vi ((n : Int) + 1))]) (st' := [vi i, vi 22, vr 65, vi 0, vr 64, vi (A (n : Int)), vr 64, vi (A (n : Int))]) (M' := (sr (sr M 69 T) 70 A)) rfl ?_
        refine Hx.add rfl (by (first | omega | (simp [sr, up] <;> omega))) ?_
        refine Hx.aldI (n := 1032) rfl rfl (by (first | omega | (simp [sr, up] <;> omega))) ?_
        refine Hx.run 0 (pc' := 77) (L' := [some (vr 64), some (vi i), some (vr 70), some (vi (A (n : Int))), some (vi 1), some (vi ((n : Int) + 1))]) (st' := [vi (M 65 (22 + i)), vi 0, vr 64, vi (A (n : Int)), vr 64, vi (A (n : Int))]) (M' := (sr (sr M 69 T) 70 A)) rfl ?_
        refine Hx.call (t := 146) (as := [vr 64, vi 0, vi (M 65 (22 + i))]) (pc' := 80) (rest := [vi (A (n : Int)), vr 64, vi (A (n : Int))]) rfl (r_bars_0 (M 65 (22 + i)) (sr (sr M 69 T) 70 A) (by (first | omega | (simp [sr, up] <;> omega))) (by (first | omega | (simp [sr, up] <;> omega)))) ?_
        rintro _ _ ⟨rfl, rfl⟩
        refine Hx.run 0 (pc' := 80) (L' := [some (vr 64), some (vi i), some (vr 70), some (vi (A (n : Int))), some (vi 1), some (vi ((n : Int) + 1))]) (st' := [vi (bb (M 65 (7 + (M 65 (22 + i)))) (bcF (M 65 (4 + (M 65 (22 + i)))) ((M 65 2) % 24))), vi (A (n : Int)), vr 64, vi (A (n : Int))]) (M' := (sr (sr M 69 T) 70 A)) rfl ?_
        refine Hx.call (t := 183) (as := [vr 64, vi (A (n : Int)), vi (bb (M 65 (7 + (M 65 (22 + i)))) (bcF (M 65 (4 + (M 65 (22 + i)))) ((M 65 2) % 24)))]) (pc' := 83) (rest := [vi (A (n : Int))]) rfl (r_firstFrom (A (n : Int)) (sfF (M 65 (10 + i)) (M 65 (16 + i)) (M 65 (34 + i)) ((M 65 2) % 24)) (bb (M 65 (7 + (M 65 (22 + i)))) (bcF (M 65 (4 + (M 65 (22 + i)))) ((M 65 2) % 24))) (sr (sr M 69 T) 70 A) sR (by omega) (by omega) (by omega) hL) ?_
        rintro _ _ ⟨kq, hkF, rfl, rfl⟩
        obtain ⟨hk1, hk2, hk3, hk4, -⟩ := id hkF
        refine Hx.run 0 (pc' := 83) (L' := [some (vr 64), some (vi i), some (vr 70), some (vi (A (n : Int))), some (vi 1), some (vi ((n : Int) + 1))]) (st' := [vi kq, vi (A (n : Int))]) (M' := (sr (sr M 69 T) 70 A)) rfl ?_
        refine Hx.call (t := 184) (as := [vi (A (n : Int)), vi kq]) (pc' := 86) (rest := []) rfl (r_stepUp (A (n : Int)) kq (sr (sr M 69 T) 70 A) (by (first | omega | (simp [sr, up] <;> omega))) (by (first | omega | (simp [sr, up] <;> omega)))) ?_
        rintro _ _ ⟨rfl, rfl⟩
        refine Hx.run 0 (pc' := 86) (L' := [some (vr 64), some (vi i), some (vr 70), some (vi (A (n : Int))), some (vi 1), some (vi ((n : Int) + 1))]) (st' := [vi (min 11 ((A (n : Int)) + kq))]) (M' := (sr (sr M 69 T) 70 A)) rfl ?_
        refine Hx.run 4 (pc' := 91) (L' := [some (vr 64), some (vi i), some (vr 70), some (vi (min 11 ((A (n : Int)) + kq))), some (vi 1), some (vi ((n : Int) + 1))]) (st' := [vi (min 11 ((A (n : Int)) + kq)), vi ((n : Int) + 1), vr 70]) (M' := (sr (sr M 69 T) 70 A)) rfl ?_
        refine Hx.astI (n := 13) rfl rfl (by (first | omega | (simp [sr, up] <;> omega))) ?_
        refine Hx.inc rfl rfl (by (first | omega | (simp [sr, up] <;> omega))) ?_
        refine Hx.run 0 (pc' := 95) (L' := [some (vr 64), some (vi i), some (vr 70), some (vi (min 11 ((A (n : Int)) + kq))), some (vi 1), some (vi (((n : Int) + 1) + 1))]) (st' := []) (M' := (up (sr (sr M 69 T) 70 A) 70 ((n : Int) + 1) (min 11 ((A (n : Int)) + kq)))) rfl ?_
        refine Hx.run 1 (pc' := 40) (L' := [some (vr 64), some (vi i), some (vr 70), some (vi (min 11 ((A (n : Int)) + kq))), some (vi 1), some (vi (((n : Int) + 1) + 1))]) (st' := []) (M' := (up (sr (sr M 69 T) 70 A) 70 ((n : Int) + 1) (min 11 ((A (n : Int)) + kq)))) rfl ?_
        have hm : min 11 (A (n : Int) + kq) = A (n : Int) + kq := by omega
        have hv : TV (sfF (M 65 (10 + i)) (M 65 (16 + i)) (M 65 (34 + i)) ((M 65 2) % 24)) (bb (M 65 (7 + (M 65 (22 + i)))) (bcF (M 65 (4 + (M 65 (22 + i)))) ((M 65 2) % 24))) (A (n : Int) + kq) < 1000000 := by have := hk4.2; rw [hm] at this; omega
        rw [hm, sr_up]
        have h9 := ih (n + 1) (st1 A ((n : Int) + 1) (A (n : Int) + kq)) (by omega) (WP_st1 hW (Or.inr ⟨by omega, kq, hkF, rfl⟩)) (by rw [show ((n + 1 : Nat) : Int) = (n : Int) + 1 from rfl, st1_at]; exact hv) (by omega)
        rw [show ((n + 1 : Nat) : Int) = (n : Int) + 1 from rfl, st1_at] at h9
        exact h9
    · skip
      refine Hx.run 1 (pc' := 100) (L' := [some (vr 64), some (vi i), some (vr 70), some (vi (A (n : Int))), some (vi 1), some (vi ((n : Int) + 1))]) (st' := [vi 1]) (M' := (sr (sr M 69 T) 70 A)) rfl ?_
      refine Hx.ret rfl ?_
      have e : n = 12 := by omega
      subst e
      exact ⟨A, hW, rfl, rfl⟩
set_option maxRecDepth 100000 in
theorem rl_way_71 (i : Int) (M : Mm) (hg : (0 ≤ i ∧ i < 6) ∧ (0 ≤ M 65 (10 + i) ∧ M 65 (10 + i) ≤ 5) ∧ (1 ≤ M 65 (16 + i) ∧ M 65 (16 + i) ≤ 4) ∧ (0 ≤ M 65 (22 + i) ∧ M 65 (22 + i) ≤ 2) ∧ (0 ≤ M 65 (28 + i) ∧ M 65 (28 + i) ≤ 11) ∧ (0 ≤ M 65 (34 + i) ∧ M 65 (34 + i) ≤ 9)) (hf : (0 ≤ (M 65 (22 + i)) ∧ (M 65 (22 + i)) < 3) ∧ (0 ≤ M 65 (4 + (M 65 (22 + i))) ∧ M 65 (4 + (M 65 (22 + i))) ≤ 5) ∧ (1 ≤ M 65 (7 + (M 65 (22 + i))) ∧ M 65 (7 + (M 65 (22 + i))) ≤ 10)) (hh : (0 ≤ M 65 2 ∧ M 65 2 ≤ 9999)) (T : Int → Int) (hT : ∀ x, 0 ≤ x → x ≤ 11 → T x = TV (sfF (M 65 (10 + i)) (M 65 (16 + i)) (M 65 (34 + i)) ((M 65 2) % 24)) (bb (M 65 (7 + (M 65 (22 + i)))) (bcF (M 65 (4 + (M 65 (22 + i)))) ((M 65 2) % 24))) x) : ∀ (kk : Nat) (n : Nat) (A : Int → Int), n ≤ 12 → WP (sfF (M 65 (10 + i)) (M 65 (16 + i)) (M 65 (34 + i)) ((M 65 2) % 24)) (bb (M 65 (7 + (M 65 (22 + i)))) (bcF (M 65 (4 + (M 65 (22 + i)))) ((M 65 2) % 24))) (M 65 (28 + i)) A n → TV (sfF (M 65 (10 + i)) (M 65 (16 + i)) (M 65 (34 + i)) ((M 65 2) % 24)) (bb (M 65 (7 + (M 65 (22 + i)))) (bcF (M 65 (4 + (M 65 (22 + i)))) ((M 65 2) % 24))) (A (n : Int)) < 1000000 → 12 - (n : Int) < (kk : Int) → Hx 190 40 [some (vr 64), some (vi i), some (vr 71), some (vi (A (n : Int))), some (vi 1), some (vi ((n : Int) + 1))] [] (sr (sr M 69 T) 71 A) (fun q0 M' => ∃ A : Int → Int, WP (sfF (M 65 (10 + i)) (M 65 (16 + i)) (M 65 (34 + i)) ((M 65 2) % 24)) (bb (M 65 (7 + (M 65 (22 + i)))) (bcF (M 65 (4 + (M 65 (22 + i)))) ((M 65 2) % 24))) (M 65 (28 + i)) A 12 ∧ q0 = some (vi 1) ∧ sr (sr M 69 T) 71 A = M') := by
  intro kk
  induction kk with
  | zero => intro n A _ _ _ hkk; exact absurd hkk (by omega)
  | succ kk ih =>
    intro n A hn hW hTn hkk
    have sR := sfF_rng (k := M 65 (10 + i)) (l := M 65 (16 + i)) (x := M 65 (34 + i)) (t := M 65 2 % 24) (by omega) (by omega)
    have bR := bb_rng (M 65 (7 + (M 65 (22 + i)))) (bcF (M 65 (4 + (M 65 (22 + i)))) (M 65 2 % 24))
    have hr := WP_rng (far := (sfF (M 65 (10 + i)) (M 65 (16 + i)) (M 65 (34 + i)) ((M 65 2) % 24))) (b := (bb (M 65 (7 + (M 65 (22 + i)))) (bcF (M 65 (4 + (M 65 (22 + i)))) ((M 65 2) % 24)))) (p := (M 65 (28 + i))) (by omega) hW n (Nat.le_refl n)
    have h11 := TV_11 (far := (sfF (M 65 (10 + i)) (M 65 (16 + i)) (M 65 (34 + i)) ((M 65 2) % 24))) (b := (bb (M 65 (7 + (M 65 (22 + i)))) (bcF (M 65 (4 + (M 65 (22 + i)))) ((M 65 2) % 24))))
    have hL : ∀ x, 0 ≤ x → x ≤ 11 → (sr (sr M 69 T) 71 A) 69 x = TV (sfF (M 65 (10 + i)) (M 65 (16 + i)) (M 65 (34 + i)) ((M 65 2) % 24)) (bb (M 65 (7 + (M 65 (22 + i)))) (bcF (M 65 (4 + (M 65 (22 + i)))) ((M 65 2) % 24))) x := fun x h1 h2 => hT x h1 h2
    refine Hx.run 2 (pc' := 44) (L' := [some (vr 64), some (vi i), some (vr 71), some (vi (A (n : Int))), some (vi 1), some (vi ((n : Int) + 1))]) (st' := [vi 13, vi ((n : Int) + 1)]) (M' := (sr (sr M 69 T) 71 A)) rfl ?_
    refine Hx.br (c := ((n : Int) + 1) < 13) (t := 47) (f := 98) rfl (fun h1 => ?_) (fun h1 => ?_)
    · skip
      refine Hx.run 4 (pc' := 55) (L' := [some (vr 64), some (vi i), some (vr 71), some (vi (A (n : Int))), some (vi 1), some (vi ((n : Int) + 1))]) (st' := [vi 11, vi (A (n : Int))]) (M' := (sr (sr M 69 T) 71 A)) rfl ?_
      refine Hx.br (c := (A (n : Int)) = 11) (t := 58) (f := 63) rfl (fun h2 => ?_) (fun h2 => ?_)
      · skip
        refine Hx.run 6 (pc' := 91) (L' := [some (vr 64), some (vi i), some (vr 71), some (vi 11), some (vi 1), some (vi ((n : Int) + 1))]) (st' := [vi 11, vi ((n : Int) + 1), vr 71]) (M' := (sr (sr M 69 T) 71 A)) rfl ?_
        refine Hx.astI (n := 13) rfl rfl (by (first | omega | (simp [sr, up] <;> omega))) ?_
        refine Hx.inc rfl rfl (by (first | omega | (simp [sr, up] <;> omega))) ?_
        refine Hx.run 0 (pc' := 95) (L' := [some (vr 64), some (vi i), some (vr 71), some (vi 11), some (vi 1), some (vi (((n : Int) + 1) + 1))]) (st' := []) (M' := (up (sr (sr M 69 T) 71 A) 71 ((n : Int) + 1) 11)) rfl ?_
        refine Hx.run 1 (pc' := 40) (L' := [some (vr 64), some (vi i), some (vr 71), some (vi 11), some (vi 1), some (vi (((n : Int) + 1) + 1))]) (st' := []) (M' := (up (sr (sr M 69 T) 71 A) 71 ((n : Int) + 1) 11)) rfl ?_
        rw [sr_up]
        have h9 := ih (n + 1) (st1 A ((n : Int) + 1) 11) (by omega) (WP_st1 hW (Or.inl ⟨by omega, rfl⟩)) (by rw [show ((n + 1 : Nat) : Int) = (n : Int) + 1 from rfl, st1_at]; omega) (by omega)
        rw [show ((n + 1 : Nat) : Int) = (n : Int) + 1 from rfl, st1_at] at h9
        exact h9
      · skip
        refine Hx.run 9 (pc' := 75) (L' := [some (vr 64), some (vi i), some (vr 71), some (vi (A (n : Int))), some (vi 1), some (vi ((n : Int) + 1))]) (st' := [vi i, vi 22, vr 65, vi 0, vr 64, vi (A (n : Int)), vr 64, vi (A (n : Int))]) (M' := (sr (sr M 69 T) 71 A)) rfl ?_
        refine Hx.add rfl (by (first | omega | (simp [sr, up] <;> omega))) ?_
        refine Hx.aldI (n := 1032) rfl rfl (by (first | omega | (simp [sr, up] <;> omega))) ?_
        refine Hx.run 0 (pc' := 77) (L' := [some (vr 64), some (vi i), some (vr 71), some (vi (A (n : Int))), some (vi 1), some (vi ((n : Int) + 1))]) (st' := [vi (M 65 (22 + i)), vi 0, vr 64, vi (A (n : Int)), vr 64, vi (A (n : Int))]) (M' := (sr (sr M 69 T) 71 A)) rfl ?_
        refine Hx.call (t := 146) (as := [vr 64, vi 0, vi (M 65 (22 + i))]) (pc' := 80) (rest := [vi (A (n : Int)), vr 64, vi (A (n : Int))]) rfl (r_bars_0 (M 65 (22 + i)) (sr (sr M 69 T) 71 A) (by (first | omega | (simp [sr, up] <;> omega))) (by (first | omega | (simp [sr, up] <;> omega)))) ?_
        rintro _ _ ⟨rfl, rfl⟩
        refine Hx.run 0 (pc' := 80) (L' := [some (vr 64), some (vi i), some (vr 71), some (vi (A (n : Int))), some (vi 1), some (vi ((n : Int) + 1))]) (st' := [vi (bb (M 65 (7 + (M 65 (22 + i)))) (bcF (M 65 (4 + (M 65 (22 + i)))) ((M 65 2) % 24))), vi (A (n : Int)), vr 64, vi (A (n : Int))]) (M' := (sr (sr M 69 T) 71 A)) rfl ?_
        refine Hx.call (t := 183) (as := [vr 64, vi (A (n : Int)), vi (bb (M 65 (7 + (M 65 (22 + i)))) (bcF (M 65 (4 + (M 65 (22 + i)))) ((M 65 2) % 24)))]) (pc' := 83) (rest := [vi (A (n : Int))]) rfl (r_firstFrom (A (n : Int)) (sfF (M 65 (10 + i)) (M 65 (16 + i)) (M 65 (34 + i)) ((M 65 2) % 24)) (bb (M 65 (7 + (M 65 (22 + i)))) (bcF (M 65 (4 + (M 65 (22 + i)))) ((M 65 2) % 24))) (sr (sr M 69 T) 71 A) sR (by omega) (by omega) (by omega) hL) ?_
        rintro _ _ ⟨kq, hkF, rfl, rfl⟩
        obtain ⟨hk1, hk2, hk3, hk4, -⟩ := id hkF
        refine Hx.run 0 (pc' := 83) (L' := [some (vr 64), some (vi i), some (vr 71), some (vi (A (n : Int))), some (vi 1), some (vi ((n : Int) + 1))]) (st' := [vi kq, vi (A (n : Int))]) (M' := (sr (sr M 69 T) 71 A)) rfl ?_
        refine Hx.call (t := 184) (as := [vi (A (n : Int)), vi kq]) (pc' := 86) (rest := []) rfl (r_stepUp (A (n : Int)) kq (sr (sr M 69 T) 71 A) (by (first | omega | (simp [sr, up] <;> omega))) (by (first | omega | (simp [sr, up] <;> omega)))) ?_
        rintro _ _ ⟨rfl, rfl⟩
        refine Hx.run 0 (pc' := 86) (L' := [some (vr 64), some (vi i), some (vr 71), some (vi (A (n : Int))), some (vi 1), some (vi ((n : Int) + 1))]) (st' := [vi (min 11 ((A (n : Int)) + kq))]) (M' := (sr (sr M 69 T) 71 A)) rfl ?_
        refine Hx.run 4 (pc' := 91) (L' := [some (vr 64), some (vi i), some (vr 71), some (vi (min 11 ((A (n : Int)) + kq))), some (vi 1), some (vi ((n : Int) + 1))]) (st' := [vi (min 11 ((A (n : Int)) + kq)), vi ((n : Int) + 1), vr 71]) (M' := (sr (sr M 69 T) 71 A)) rfl ?_
        refine Hx.astI (n := 13) rfl rfl (by (first | omega | (simp [sr, up] <;> omega))) ?_
        refine Hx.inc rfl rfl (by (first | omega | (simp [sr, up] <;> omega))) ?_
        refine Hx.run 0 (pc' := 95) (L' := [some (vr 64), some (vi i), some (vr 71), some (vi (min 11 ((A (n : Int)) + kq))), some (vi 1), some (vi (((n : Int) + 1) + 1))]) (st' := []) (M' := (up (sr (sr M 69 T) 71 A) 71 ((n : Int) + 1) (min 11 ((A (n : Int)) + kq)))) rfl ?_
        refine Hx.run 1 (pc' := 40) (L' := [some (vr 64), some (vi i), some (vr 71), some (vi (min 11 ((A (n : Int)) + kq))), some (vi 1), some (vi (((n : Int) + 1) + 1))]) (st' := []) (M' := (up (sr (sr M 69 T) 71 A) 71 ((n : Int) + 1) (min 11 ((A (n : Int)) + kq)))) rfl ?_
        have hm : min 11 (A (n : Int) + kq) = A (n : Int) + kq := by omega
        have hv : TV (sfF (M 65 (10 + i)) (M 65 (16 + i)) (M 65 (34 + i)) ((M 65 2) % 24)) (bb (M 65 (7 + (M 65 (22 + i)))) (bcF (M 65 (4 + (M 65 (22 + i)))) ((M 65 2) % 24))) (A (n : Int) + kq) < 1000000 := by have := hk4.2; rw [hm] at this; omega
        rw [hm, sr_up]
        have h9 := ih (n + 1) (st1 A ((n : Int) + 1) (A (n : Int) + kq)) (by omega) (WP_st1 hW (Or.inr ⟨by omega, kq, hkF, rfl⟩)) (by rw [show ((n + 1 : Nat) : Int) = (n : Int) + 1 from rfl, st1_at]; exact hv) (by omega)
        rw [show ((n + 1 : Nat) : Int) = (n : Int) + 1 from rfl, st1_at] at h9
        exact h9
    · skip
      refine Hx.run 1 (pc' := 100) (L' := [some (vr 64), some (vi i), some (vr 71), some (vi (A (n : Int))), some (vi 1), some (vi ((n : Int) + 1))]) (st' := [vi 1]) (M' := (sr (sr M 69 T) 71 A)) rfl ?_
      refine Hx.ret rfl ?_
      have e : n = 12 := by omega
      subst e
      exact ⟨A, hW, rfl, rfl⟩
