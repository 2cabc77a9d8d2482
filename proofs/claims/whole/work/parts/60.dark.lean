/-! dark of the reference (written by wip/whole/gen60.py) -/
set_option maxRecDepth 100000 in
set_option maxHeartbeats 4000000 in
theorem rl_darkA (i w c : Int) (M : Mm) (hg : (0 ≤ i ∧ i < 6) ∧ (0 ≤ M 65 (10 + i) ∧ M 65 (10 + i) ≤ 5) ∧ (1 ≤ M 65 (16 + i) ∧ M 65 (16 + i) ≤ 4) ∧ (0 ≤ M 65 (22 + i) ∧ M 65 (22 + i) ≤ 2) ∧ (0 ≤ M 65 (28 + i) ∧ M 65 (28 + i) ≤ 11) ∧ (0 ≤ M 65 (34 + i) ∧ M 65 (34 + i) ≤ 9)) (hf : (0 ≤ (M 65 (22 + i)) ∧ (M 65 (22 + i)) < 3) ∧ (0 ≤ M 65 (4 + (M 65 (22 + i))) ∧ M 65 (4 + (M 65 (22 + i))) ≤ 5) ∧ (1 ≤ M 65 (7 + (M 65 (22 + i))) ∧ M 65 (7 + (M 65 (22 + i))) ≤ 10)) (hh : (0 ≤ M 65 2 ∧ M 65 2 ≤ 9999)) (T : Int → Int) (hT : ∀ x, 0 ≤ x → x ≤ 11 → T x = TV (sfF (M 65 (10 + i)) (M 65 (16 + i)) (M 65 (34 + i)) ((M 65 2) % 24)) (bb (M 65 (7 + (M 65 (22 + i)))) (bcF (M 65 (4 + (M 65 (22 + i)))) ((M 65 2) % 24))) x) (hw : 0 ≤ w ∧ w ≤ 6) (hc : 0 ≤ c ∧ c ≤ 10) (hfn : (TV (sfF (M 65 (10 + i)) (M 65 (16 + i)) (M 65 (34 + i)) ((M 65 2) % 24)) (bb (M 65 (7 + (M 65 (22 + i)))) (bcF (M 65 (4 + (M 65 (22 + i)))) ((M 65 2) % 24))) (M 65 (28 + i))) < 1000000) (m : Nat) (hm : (m : Int) = min w (TV (sfF (M 65 (10 + i)) (M 65 (16 + i)) (M 65 (34 + i)) ((M 65 2) % 24)) (bb (M 65 (7 + (M 65 (22 + i)))) (bcF (M 65 (4 + (M 65 (22 + i)))) ((M 65 2) % 24))) (M 65 (28 + i)))) : ∀ (kk : Nat) (n : Nat) (A : Int → Int), n ≤ m → RowP (sfF (M 65 (10 + i)) (M 65 (16 + i)) (M 65 (34 + i)) ((M 65 2) % 24)) (bb (M 65 (7 + (M 65 (22 + i)))) (bcF (M 65 (4 + (M 65 (22 + i)))) ((M 65 2) % 24))) (M 65 (28 + i)) A n → 7 - (n : Int) < (kk : Int) → Hx 211 117 [some (vr 64), some (vi i), some (vi w), some (vi c), some (vi (bb (M 65 (7 + (M 65 (22 + i)))) (bcF (M 65 (4 + (M 65 (22 + i)))) ((M 65 2) % 24)))), some (vi ((M 65 (28 + i)) + psum A n)), some (vi (m : Int)), some (vi (n : Int)), none, none, none, none, none, none, none, none] [] (sr (sr M 69 T) 72 A) (fun q0 M' => q0 = some (vi 1) ∧ ∃ X Y : Nat, DkR (sfF (M 65 (10 + i)) (M 65 (16 + i)) (M 65 (34 + i)) ((M 65 2) % 24)) (bb (M 65 (7 + (M 65 (22 + i)))) (bcF (M 65 (4 + (M 65 (22 + i)))) ((M 65 2) % 24))) (M 65 (28 + i)) w c X Y ∧ M' 64 = st1 (st1 (M 64) 4 (frA X Y)) 5 (frB X Y) ∧ ∀ r, r ≠ 64 → r ≠ 69 → r ≠ 72 → M r = M' r) := by
  intro kk
  induction kk with
  | zero => intro n A _ _ hkk; exact absurd hkk (by omega)
  | succ kk ih =>
    intro n A hn hR hkk
    have sR := sfF_rng (k := M 65 (10 + i)) (l := M 65 (16 + i)) (x := M 65 (34 + i)) (t := M 65 2 % 24) (by omega) (by omega)
    have bR := bb_rng (M 65 (7 + (M 65 (22 + i)))) (bcF (M 65 (4 + (M 65 (22 + i)))) (M 65 2 % 24))
    have hpos := RowP_pos (far := (sfF (M 65 (10 + i)) (M 65 (16 + i)) (M 65 (34 + i)) ((M 65 2) % 24))) (b := (bb (M 65 (7 + (M 65 (22 + i)))) (bcF (M 65 (4 + (M 65 (22 + i)))) ((M 65 2) % 24)))) (p := (M 65 (28 + i))) (by omega) n hR
    have h11 := TV_11 (far := (sfF (M 65 (10 + i)) (M 65 (16 + i)) (M 65 (34 + i)) ((M 65 2) % 24))) (b := (bb (M 65 (7 + (M 65 (22 + i)))) (bcF (M 65 (4 + (M 65 (22 + i)))) ((M 65 2) % 24))))
    have hfin := TV_fin (far := (sfF (M 65 (10 + i)) (M 65 (16 + i)) (M 65 (34 + i)) ((M 65 2) % 24))) (b := (bb (M 65 (7 + (M 65 (22 + i)))) (bcF (M 65 (4 + (M 65 (22 + i)))) ((M 65 2) % 24)))) (x := (M 65 (28 + i))) (by omega) (by omega)
    have hL : ∀ x, 0 ≤ x → x ≤ 11 → (sr (sr M 69 T) 72 A) 69 x = TV (sfF (M 65 (10 + i)) (M 65 (16 + i)) (M 65 (34 + i)) ((M 65 2) % 24)) (bb (M 65 (7 + (M 65 (22 + i)))) (bcF (M 65 (4 + (M 65 (22 + i)))) ((M 65 2) % 24))) x := fun x h1 h2 => hT x h1 h2
    have hne : n < m → (M 65 (28 + i)) + psum A n ≤ 10 := by
      intro hlt
      rcases Int.lt_or_le 10 ((M 65 (28 + i)) + psum A n) with q | q
      · have e : (M 65 (28 + i)) + psum A n = 11 := by omega
        rw [e, h11] at hpos
        omega
      · exact q
    refine Hx.run 2 (pc' := 121) (L' := [some (vr 64), some (vi i), some (vi w), some (vi c), some (vi (bb (M 65 (7 + (M 65 (22 + i)))) (bcF (M 65 (4 + (M 65 (22 + i)))) ((M 65 2) % 24)))), some (vi ((M 65 (28 + i)) + psum A n)), some (vi (m : Int)), some (vi (n : Int)), none, none, none, none, none, none, none, none]) (st' := [vi (m : Int), vi (n : Int)]) (M' := (sr (sr M 69 T) 72 A)) rfl ?_
    refine Hx.br (c := (n : Int) < (m : Int)) (t := 124) (f := 159) rfl (fun h1 => ?_) (fun h1 => ?_)
    · skip
      refine Hx.run 6 (pc' := 135) (L' := [some (vr 64), some (vi i), some (vi w), some (vi c), some (vi (bb (M 65 (7 + (M 65 (22 + i)))) (bcF (M 65 (4 + (M 65 (22 + i)))) ((M 65 2) % 24)))), some (vi ((M 65 (28 + i)) + psum A n)), some (vi (m : Int)), some (vi (n : Int)), none, none, none, none, none, none, none, none]) (st' := [vi (bb (M 65 (7 + (M 65 (22 + i)))) (bcF (M 65 (4 + (M 65 (22 + i)))) ((M 65 2) % 24))), vi ((M 65 (28 + i)) + psum A n), vr 64, vi (n : Int), vr 72]) (M' := (sr (sr M 69 T) 72 A)) rfl ?_
      refine Hx.call (t := 183) (as := [vr 64, vi ((M 65 (28 + i)) + psum A n), vi (bb (M 65 (7 + (M 65 (22 + i)))) (bcF (M 65 (4 + (M 65 (22 + i)))) ((M 65 2) % 24)))]) (pc' := 138) (rest := [vi (n : Int), vr 72]) rfl (r_firstFrom ((M 65 (28 + i)) + psum A n) (sfF (M 65 (10 + i)) (M 65 (16 + i)) (M 65 (34 + i)) ((M 65 2) % 24)) (bb (M 65 (7 + (M 65 (22 + i)))) (bcF (M 65 (4 + (M 65 (22 + i)))) ((M 65 2) % 24))) (sr (sr M 69 T) 72 A) sR (by omega) (by omega) (by omega) hL) ?_
      rintro _ _ ⟨kq, hkF, rfl, rfl⟩
      obtain ⟨hk1, hk2, hk3, hk4, -⟩ := id hkF
      refine Hx.run 0 (pc' := 138) (L' := [some (vr 64), some (vi i), some (vi w), some (vi c), some (vi (bb (M 65 (7 + (M 65 (22 + i)))) (bcF (M 65 (4 + (M 65 (22 + i)))) ((M 65 2) % 24)))), some (vi ((M 65 (28 + i)) + psum A n)), some (vi (m : Int)), some (vi (n : Int)), none, none, none, none, none, none, none, none]) (st' := [vi kq, vi (n : Int), vr 72]) (M' := (sr (sr M 69 T) 72 A)) rfl ?_
      refine Hx.astI (n := 6) rfl rfl (by (first | omega | (simp [sr, up] <;> omega))) ?_
      refine Hx.run 4 (pc' := 147) (L' := [some (vr 64), some (vi i), some (vi w), some (vi c), some (vi (bb (M 65 (7 + (M 65 (22 + i)))) (bcF (M 65 (4 + (M 65 (22 + i)))) ((M 65 2) % 24)))), some (vi ((M 65 (28 + i)) + psum A n)), some (vi (m : Int)), some (vi (n : Int)), none, none, none, none, none, none, none, none]) (st' := [vi (n : Int), vr 72, vi ((M 65 (28 + i)) + psum A n)]) (M' := (up (sr (sr M 69 T) 72 A) 72 (n : Int) kq)) rfl ?_
      refine Hx.aldI (n := 6) rfl rfl (by (first | omega | (simp [sr, up] <;> omega))) ?_
      refine Hx.eqS (st' := [vi kq, vi ((M 65 (28 + i)) + psum A n)]) (by rw [show ((up (sr (sr M 69 T) 72 A) 72 (n : Int) kq) 72 (n : Int)) = kq from by rw [up_at]]) ?_
      refine Hx.call (t := 184) (as := [vi ((M 65 (28 + i)) + psum A n), vi kq]) (pc' := 151) (rest := []) rfl (r_stepUp ((M 65 (28 + i)) + psum A n) kq (up (sr (sr M 69 T) 72 A) 72 (n : Int) kq) (by (first | omega | (simp [sr, up] <;> omega))) (by (first | omega | (simp [sr, up] <;> omega)))) ?_
      rintro _ _ ⟨rfl, rfl⟩
      refine Hx.run 0 (pc' := 151) (L' := [some (vr 64), some (vi i), some (vi w), some (vi c), some (vi (bb (M 65 (7 + (M 65 (22 + i)))) (bcF (M 65 (4 + (M 65 (22 + i)))) ((M 65 2) % 24)))), some (vi ((M 65 (28 + i)) + psum A n)), some (vi (m : Int)), some (vi (n : Int)), none, none, none, none, none, none, none, none]) (st' := [vi (min 11 (((M 65 (28 + i)) + psum A n) + kq))]) (M' := (up (sr (sr M 69 T) 72 A) 72 (n : Int) kq)) rfl ?_
      refine Hx.run 1 (pc' := 153) (L' := [some (vr 64), some (vi i), some (vi w), some (vi c), some (vi (bb (M 65 (7 + (M 65 (22 + i)))) (bcF (M 65 (4 + (M 65 (22 + i)))) ((M 65 2) % 24)))), some (vi (min 11 (((M 65 (28 + i)) + psum A n) + kq))), some (vi (m : Int)), some (vi (n : Int)), none, none, none, none, none, none, none, none]) (st' := []) (M' := (up (sr (sr M 69 T) 72 A) 72 (n : Int) kq)) rfl ?_
      refine Hx.inc rfl rfl (by (first | omega | (simp [sr, up] <;> omega))) ?_
      refine Hx.run 0 (pc' := 156) (L' := [some (vr 64), some (vi i), some (vi w), some (vi c), some (vi (bb (M 65 (7 + (M 65 (22 + i)))) (bcF (M 65 (4 + (M 65 (22 + i)))) ((M 65 2) % 24)))), some (vi (min 11 (((M 65 (28 + i)) + psum A n) + kq))), some (vi (m : Int)), some (vi ((n : Int) + 1)), none, none, none, none, none, none, none, none]) (st' := []) (M' := (up (sr (sr M 69 T) 72 A) 72 (n : Int) kq)) rfl ?_
      refine Hx.run 1 (pc' := 117) (L' := [some (vr 64), some (vi i), some (vi w), some (vi c), some (vi (bb (M 65 (7 + (M 65 (22 + i)))) (bcF (M 65 (4 + (M 65 (22 + i)))) ((M 65 2) % 24)))), some (vi (min 11 (((M 65 (28 + i)) + psum A n) + kq))), some (vi (m : Int)), some (vi ((n : Int) + 1)), none, none, none, none, none, none, none, none]) (st' := []) (M' := (up (sr (sr M 69 T) 72 A) 72 (n : Int) kq)) rfl ?_
      rw [sr_up]
      have h9 := ih (n + 1) (st1 A n kq) (by omega) (RowP_st1 hR hkF) (by omega)
      rw [psum_succ, psum_st1 n (Nat.le_refl n), st1_at] at h9
      rw [show min 11 ((M 65 (28 + i)) + psum A n + kq) = (M 65 (28 + i)) + (psum A n + kq) by omega]
      exact h9
    · skip
      refine Hx.run 0 (pc' := 159) (L' := [some (vr 64), some (vi i), some (vi w), some (vi c), some (vi (bb (M 65 (7 + (M 65 (22 + i)))) (bcF (M 65 (4 + (M 65 (22 + i)))) ((M 65 2) % 24)))), some (vi ((M 65 (28 + i)) + psum A n)), some (vi (m : Int)), some (vi (n : Int)), none, none, none, none, none, none, none, none]) (st' := []) (M' := (sr (sr M 69 T) 72 A)) rfl ?_
      have e : n = m := by omega
      subst e
      have hAr : ∀ j : Nat, j < n → 0 ≤ (sr (sr M 69 T) 72 A) 72 j ∧ (sr (sr M 69 T) 72 A) 72 j ≤ 5 := fun j hj => by
        have z1 := (hR j hj).1
        have z2 := (hR j hj).2.1
        have z3 : 0 ≤ A j ∧ A j ≤ 5 := by omega
        exact z3
      refine Hx.run 6 (pc' := 168) (L' := [some (vr 64), some (vi i), some (vi w), some (vi c), some (vi (bb (M 65 (7 + (M 65 (22 + i)))) (bcF (M 65 (4 + (M 65 (22 + i)))) ((M 65 2) % 24)))), some (vi ((M 65 (28 + i)) + psum A n)), some (vi (n : Int)), some (vl 0), none, some (vl 1), none, some (vi 0), none, none, none, none]) (st' := []) (M' := (sr (sr M 69 T) 72 A)) rfl ?_
      have hnn : 0 ≤ dW (bb (M 65 (7 + (M 65 (22 + i)))) (bcF (M 65 (4 + (M 65 (22 + i)))) ((M 65 2) % 24))) c A n 0 (M 65 (28 + i)) := by
        rw [← rd_end]; exact (rd_rng (by omega) (by omega) _).1
      have hXU : dW (bb (M 65 (7 + (M 65 (22 + i)))) (bcF (M 65 (4 + (M 65 (22 + i)))) ((M 65 2) % 24))) c A n 0 (M 65 (28 + i)) = (((dW (bb (M 65 (7 + (M 65 (22 + i)))) (bcF (M 65 (4 + (M 65 (22 + i)))) ((M 65 2) % 24))) c A n 0 (M 65 (28 + i))).toNat : Nat) : Int) := by omega
      have h0 := rl_darkB i w c (bb (M 65 (7 + (M 65 (22 + i)))) (bcF (M 65 (4 + (M 65 (22 + i)))) ((M 65 2) % 24))) (sr (sr M 69 T) 72 A) n (by omega) (by omega) (by omega) (by show 0 ≤ (M 65 (28 + i)) ∧ (M 65 (28 + i)) ≤ 11; omega) (by omega) hAr (dW (bb (M 65 (7 + (M 65 (22 + i)))) (bcF (M 65 (4 + (M 65 (22 + i)))) ((M 65 2) % 24))) c A n 0 (M 65 (28 + i))).toNat hXU (some (vi ((M 65 (28 + i)) + psum A n))) 10 0 (by omega) (by omega)
      refine Hx.imp h0 ?_
      rintro q0 M' ⟨rfl, rfl⟩
      refine ⟨rfl, (dW (bb (M 65 (7 + (M 65 (22 + i)))) (bcF (M 65 (4 + (M 65 (22 + i)))) ((M 65 2) % 24))) c A n 0 (M 65 (28 + i))).toNat, 10 ^ n, Or.inr ⟨hfn, A, n, hR, hm, hXU.symm, rfl⟩, ?_, ?_⟩
      · rw [up_row, up_row]; rfl
      · intro r h64 h69 h72; funext j; simp [up, sr, h64, h69, h72]
set_option maxRecDepth 100000 in
set_option maxHeartbeats 4000000 in
theorem R_dark (i w c : Int) (M : Mm) (hI : RI M 0) (hs : (0 ≤ M 68 0 ∧ M 68 0 ≤ 600) ∧ (0 ≤ M 68 1 ∧ M 68 1 ≤ 600) ∧ (0 ≤ M 68 2 ∧ M 68 2 ≤ 600)) : Ct 211 [vr 64, vi i, vi w, vi c] M (fun q0 M' => (¬ ((0 ≤ i ∧ i < M 65 1) ∧ (0 ≤ w ∧ w ≤ 6) ∧ (0 ≤ c ∧ c ≤ 10)) ∧ q0 = some (vi (-2)) ∧ up M 68 0 (M 68 0 + 1) = M') ∨ (((0 ≤ i ∧ i < M 65 1) ∧ (0 ≤ w ∧ w ≤ 6) ∧ (0 ≤ c ∧ c ≤ 10)) ∧ q0 = some (vi 1) ∧ ∃ X Y : Nat, DkR (sfF (M 65 (10 + i)) (M 65 (16 + i)) (M 65 (34 + i)) ((M 65 2) % 24)) (bb (M 65 (7 + (M 65 (22 + i)))) (bcF (M 65 (4 + (M 65 (22 + i)))) ((M 65 2) % 24))) (M 65 (28 + i)) w c X Y ∧ M' 64 = st1 (st1 (M 64) 4 (frA X Y)) 5 (frB X Y) ∧ ∀ r, r ≠ 64 → r ≠ 69 → r ≠ 72 → M r = M' r)) := by
  obtain ⟨r0, r1, r2, r3, r40, r61, r80, r111, rF, rG⟩ := (show (0 ≤ M 65 0 ∧ M 65 0 ≤ 3) ∧ (0 ≤ M 65 1 ∧ M 65 1 ≤ 6) ∧ (0 ≤ M 65 2 ∧ M 65 2 ≤ 9999) ∧ (0 ≤ M 65 3 ∧ M 65 3 ≤ 9000) ∧ (0 ≤ M 65 40 ∧ M 65 40 ≤ 5) ∧ (0 ≤ M 65 61 ∧ M 65 61 ≤ 6) ∧ (0 ≤ M 65 80 ∧ M 65 80 ≤ 6) ∧ (0 ≤ M 65 111 ∧ M 65 111 ≤ 8) ∧ (∀ f : Int, 0 ≤ f → f < M 65 0 → (0 ≤ M 65 (4 + f) ∧ M 65 (4 + f) ≤ 5) ∧ (1 ≤ M 65 (7 + f) ∧ M 65 (7 + f) ≤ 10)) ∧ (∀ i : Int, 0 ≤ i → i < M 65 1 → (0 ≤ M 65 (10 + i) ∧ M 65 (10 + i) ≤ 5) ∧ (1 ≤ M 65 (16 + i) ∧ M 65 (16 + i) ≤ 4) ∧ (0 ≤ M 65 (22 + i) ∧ M 65 (22 + i) < M 65 0) ∧ (0 ≤ M 65 (28 + i) ∧ M 65 (28 + i) ≤ 11) ∧ (0 ≤ M 65 (34 + i) ∧ M 65 (34 + i) ≤ 9)) from hI)
  refine Hx.run 2 (pc' := 2) (L' := [some (vr 64), some (vi i), some (vi w), some (vi c), none, none, none, none, none, none, none, none, none, none, none, none]) (st' := [vi i, vr 64]) (M' := M) rfl ?_
  refine Hx.call (t := 137) (as := [vr 64, vi i]) (pc' := 5) (rest := []) rfl (r_isGoer i M (by (first | omega | (simp only [sr65]; omega)))) ?_
  rintro _ _ (⟨q141, rfl, rfl⟩ | ⟨q141, rfl, rfl⟩)
  · skip
    have gq141 := rG i q141.1 q141.2
    have fq141 := rF (M 65 (22 + i)) (by omega) (by omega)
    refine Hx.run 5 (pc' := 14) (L' := [some (vr 64), some (vi i), some (vi w), some (vi c), none, none, none, none, none, none, none, none, none, none, none, none]) (st' := [vl 6, vl 0, vl w]) (M' := M) rfl ?_
    refine Hx.call (t := 130) (as := [vl w, vl 0, vl 6]) (pc' := 17) (rest := []) rfl (r_in w 0 6 M) ?_
    rintro _ _ (⟨q142, rfl, rfl⟩ | ⟨q142, rfl, rfl⟩)
    · skip
      refine Hx.run 5 (pc' := 26) (L' := [some (vr 64), some (vi i), some (vi w), some (vi c), none, none, none, none, none, none, none, none, none, none, none, none]) (st' := [vl 10, vl 0, vl c]) (M' := M) rfl ?_
      refine Hx.call (t := 130) (as := [vl c, vl 0, vl 10]) (pc' := 29) (rest := []) rfl (r_in c 0 10 M) ?_
      rintro _ _ (⟨q143, rfl, rfl⟩ | ⟨q143, rfl, rfl⟩)
      · skip
        refine Hx.run 3 (pc' := 41) (L' := [some (vr 64), some (vi i), some (vi w), some (vi c), none, none, none, none, none, none, none, none, none, none, none, none]) (st' := [vi i, vr 64]) (M' := M) rfl ?_
        refine Hx.call (t := 185) (as := [vr 64, vi i]) (pc' := 44) (rest := []) rfl (r_laysNow i M (by (first | omega | (simp only [sr65]; omega))) (by (first | omega | (simp only [sr65]; omega))) (by (first | omega | (simp only [sr65]; omega)))) ?_
        rintro _ _ ⟨T, hT, rfl, rfl⟩
        have hTp := hT (M 65 (28 + i)) (by omega) (by omega)
        have hfin := TV_fin (far := (sfF (M 65 (10 + i)) (M 65 (16 + i)) (M 65 (34 + i)) ((M 65 2) % 24))) (b := (bb (M 65 (7 + (M 65 (22 + i)))) (bcF (M 65 (4 + (M 65 (22 + i)))) ((M 65 2) % 24)))) (x := (M 65 (28 + i))) (by omega) (by omega)
        refine Hx.run 0 (pc' := 44) (L' := [some (vr 64), some (vi i), some (vi w), some (vi c), none, none, none, none, none, none, none, none, none, none, none, none]) (st' := []) (M' := (sr M 69 T)) rfl ?_
        refine Hx.run 6 (pc' := 53) (L' := [some (vr 64), some (vi i), some (vi w), some (vi c), none, none, none, none, none, none, none, none, none, none, none, none]) (st' := [vi i, vi 22, vr 65, vi 0, vr 64]) (M' := (sr M 69 T)) rfl ?_
        refine Hx.add rfl (by (first | omega | (simp only [sr65]; omega))) ?_
        refine Hx.aldI (n := 1032) rfl rfl (by (first | omega | (simp only [sr65]; omega))) ?_
        refine Hx.run 0 (pc' := 55) (L' := [some (vr 64), some (vi i), some (vi w), some (vi c), none, none, none, none, none, none, none, none, none, none, none, none]) (st' := [vi (M 65 (22 + i)), vi 0, vr 64]) (M' := (sr M 69 T)) rfl ?_
        refine Hx.call (t := 146) (as := [vr 64, vi 0, vi (M 65 (22 + i))]) (pc' := 58) (rest := []) rfl (r_bars_0 (M 65 (22 + i)) (sr M 69 T) (by (first | omega | (simp only [sr65]; omega))) (by (first | omega | (simp only [sr65]; omega)))) ?_
        rintro _ _ ⟨rfl, rfl⟩
        refine Hx.run 0 (pc' := 58) (L' := [some (vr 64), some (vi i), some (vi w), some (vi c), none, none, none, none, none, none, none, none, none, none, none, none]) (st' := [vi (bb (M 65 (7 + (M 65 (22 + i)))) (bcF (M 65 (4 + (M 65 (22 + i)))) ((M 65 2) % 24)))]) (M' := (sr M 69 T)) rfl ?_
        refine Hx.run 5 (pc' := 67) (L' := [some (vr 64), some (vi i), some (vi w), some (vi c), some (vi (bb (M 65 (7 + (M 65 (22 + i)))) (bcF (M 65 (4 + (M 65 (22 + i)))) ((M 65 2) % 24)))), none, none, none, none, none, none, none, none, none, none, none]) (st' := [vi i, vi 28, vr 65]) (M' := (sr M 69 T)) rfl ?_
        refine Hx.add rfl (by (first | omega | (simp only [sr65]; omega))) ?_
        refine Hx.aldI (n := 1032) rfl rfl (by (first | omega | (simp only [sr65]; omega))) ?_
        refine Hx.run 0 (pc' := 69) (L' := [some (vr 64), some (vi i), some (vi w), some (vi c), some (vi (bb (M 65 (7 + (M 65 (22 + i)))) (bcF (M 65 (4 + (M 65 (22 + i)))) ((M 65 2) % 24)))), none, none, none, none, none, none, none, none, none, none, none]) (st' := [vi (M 65 (28 + i))]) (M' := (sr M 69 T)) rfl ?_
        refine Hx.run 4 (pc' := 77) (L' := [some (vr 64), some (vi i), some (vi w), some (vi c), some (vi (bb (M 65 (7 + (M 65 (22 + i)))) (bcF (M 65 (4 + (M 65 (22 + i)))) ((M 65 2) % 24)))), some (vi (M 65 (28 + i))), none, none, none, none, none, none, none, none, none, none]) (st' := [vi (M 65 (28 + i)), vr 69]) (M' := (sr M 69 T)) rfl ?_
        refine Hx.aldI (n := 12) rfl rfl (by (first | omega | (simp only [sr65]; omega))) ?_
        refine Hx.run 0 (pc' := 78) (L' := [some (vr 64), some (vi i), some (vi w), some (vi c), some (vi (bb (M 65 (7 + (M 65 (22 + i)))) (bcF (M 65 (4 + (M 65 (22 + i)))) ((M 65 2) % 24)))), some (vi (M 65 (28 + i))), none, none, none, none, none, none, none, none, none, none]) (st' := [vi (T (M 65 (28 + i)))]) (M' := (sr M 69 T)) rfl ?_
        refine Hx.run 1 (pc' := 80) (L' := [some (vr 64), some (vi i), some (vi w), some (vi c), some (vi (bb (M 65 (7 + (M 65 (22 + i)))) (bcF (M 65 (4 + (M 65 (22 + i)))) ((M 65 2) % 24)))), some (vi (M 65 (28 + i))), none, none, none, none, none, none, none, none, none, none]) (st' := [vi 1000000, vi (T (M 65 (28 + i)))]) (M' := (sr M 69 T)) rfl ?_
        refine Hx.br (c := (T (M 65 (28 + i))) < 1000000) (t := 90) (f := 83) rfl (fun h1 => ?_) (fun h1 => ?_)
        · skip
          refine Hx.run 3 (pc' := 96) (L' := [some (vr 64), some (vi i), some (vi w), some (vi c), some (vi (bb (M 65 (7 + (M 65 (22 + i)))) (bcF (M 65 (4 + (M 65 (22 + i)))) ((M 65 2) % 24)))), some (vi (M 65 (28 + i))), none, none, none, none, none, none, none, none, none, none]) (st' := [vi (M 65 (28 + i)), vr 69]) (M' := (sr M 69 T)) rfl ?_
          refine Hx.aldI (n := 12) rfl rfl (by (first | omega | (simp only [sr65]; omega))) ?_
          refine Hx.run 0 (pc' := 97) (L' := [some (vr 64), some (vi i), some (vi w), some (vi c), some (vi (bb (M 65 (7 + (M 65 (22 + i)))) (bcF (M 65 (4 + (M 65 (22 + i)))) ((M 65 2) % 24)))), some (vi (M 65 (28 + i))), none, none, none, none, none, none, none, none, none, none]) (st' := [vi (T (M 65 (28 + i)))]) (M' := (sr M 69 T)) rfl ?_
          refine Hx.run 1 (pc' := 98) (L' := [some (vr 64), some (vi i), some (vi w), some (vi c), some (vi (bb (M 65 (7 + (M 65 (22 + i)))) (bcF (M 65 (4 + (M 65 (22 + i)))) ((M 65 2) % 24)))), some (vi (M 65 (28 + i))), none, none, none, none, none, none, none, none, none, none]) (st' := [vi w, vi (T (M 65 (28 + i)))]) (M' := (sr M 69 T)) rfl ?_
          refine Hx.br (c := (T (M 65 (28 + i))) < w) (t := 101) (f := 111) rfl (fun h2 => ?_) (fun h2 => ?_)
          · skip
            refine Hx.run 3 (pc' := 107) (L' := [some (vr 64), some (vi i), some (vi w), some (vi c), some (vi (bb (M 65 (7 + (M 65 (22 + i)))) (bcF (M 65 (4 + (M 65 (22 + i)))) ((M 65 2) % 24)))), some (vi (M 65 (28 + i))), none, none, none, none, none, none, none, none, none, none]) (st' := [vi (M 65 (28 + i)), vr 69]) (M' := (sr M 69 T)) rfl ?_
            refine Hx.aldI (n := 12) rfl rfl (by (first | omega | (simp only [sr65]; omega))) ?_
            refine Hx.run 0 (pc' := 108) (L' := [some (vr 64), some (vi i), some (vi w), some (vi c), some (vi (bb (M 65 (7 + (M 65 (22 + i)))) (bcF (M 65 (4 + (M 65 (22 + i)))) ((M 65 2) % 24)))), some (vi (M 65 (28 + i))), none, none, none, none, none, none, none, none, none, none]) (st' := [vi (T (M 65 (28 + i)))]) (M' := (sr M 69 T)) rfl ?_
            refine Hx.run 4 (pc' := 117) (L' := [some (vr 64), some (vi i), some (vi w), some (vi c), some (vi (bb (M 65 (7 + (M 65 (22 + i)))) (bcF (M 65 (4 + (M 65 (22 + i)))) ((M 65 2) % 24)))), some (vi (M 65 (28 + i))), some (vi (T (M 65 (28 + i)))), some (vi 0), none, none, none, none, none, none, none, none]) (st' := []) (M' := (sr M 69 T)) rfl ?_
            have h0 := rl_darkA i w c M (by omega) (by omega) (by omega) T hT (by omega) (by omega) (by omega) (min w (TV (sfF (M 65 (10 + i)) (M 65 (16 + i)) (M 65 (34 + i)) ((M 65 2) % 24)) (bb (M 65 (7 + (M 65 (22 + i)))) (bcF (M 65 (4 + (M 65 (22 + i)))) ((M 65 2) % 24))) (M 65 (28 + i)))).toNat (by omega) 20 0 (M 72) (by omega) (fun m hm => absurd hm (by omega)) (by omega)
            rw [show sr (sr M 69 T) 72 (M 72) = sr M 69 T from sr_self (M := sr M 69 T), show psum (M 72) 0 = 0 from rfl, Int.add_zero, show (((min w (TV (sfF (M 65 (10 + i)) (M 65 (16 + i)) (M 65 (34 + i)) ((M 65 2) % 24)) (bb (M 65 (7 + (M 65 (22 + i)))) (bcF (M 65 (4 + (M 65 (22 + i)))) ((M 65 2) % 24))) (M 65 (28 + i)))).toNat : Nat) : Int) = (T (M 65 (28 + i))) by omega] at h0
            exact Hx.imp h0 (fun r M' h => Or.inr ⟨by omega, h⟩)
          · skip
            refine Hx.run 4 (pc' := 117) (L' := [some (vr 64), some (vi i), some (vi w), some (vi c), some (vi (bb (M 65 (7 + (M 65 (22 + i)))) (bcF (M 65 (4 + (M 65 (22 + i)))) ((M 65 2) % 24)))), some (vi (M 65 (28 + i))), some (vi w), some (vi 0), none, none, none, none, none, none, none, none]) (st' := []) (M' := (sr M 69 T)) rfl ?_
            have h0 := rl_darkA i w c M (by omega) (by omega) (by omega) T hT (by omega) (by omega) (by omega) (min w (TV (sfF (M 65 (10 + i)) (M 65 (16 + i)) (M 65 (34 + i)) ((M 65 2) % 24)) (bb (M 65 (7 + (M 65 (22 + i)))) (bcF (M 65 (4 + (M 65 (22 + i)))) ((M 65 2) % 24))) (M 65 (28 + i)))).toNat (by omega) 20 0 (M 72) (by omega) (fun m hm => absurd hm (by omega)) (by omega)
            rw [show sr (sr M 69 T) 72 (M 72) = sr M 69 T from sr_self (M := sr M 69 T), show psum (M 72) 0 = 0 from rfl, Int.add_zero, show (((min w (TV (sfF (M 65 (10 + i)) (M 65 (16 + i)) (M 65 (34 + i)) ((M 65 2) % 24)) (bb (M 65 (7 + (M 65 (22 + i)))) (bcF (M 65 (4 + (M 65 (22 + i)))) ((M 65 2) % 24))) (M 65 (28 + i)))).toNat : Nat) : Int) = w by omega] at h0
            exact Hx.imp h0 (fun r M' h => Or.inr ⟨by omega, h⟩)
        · skip
          refine Hx.run 3 (pc' := 86) (L' := [some (vr 64), some (vi i), some (vi w), some (vi c), some (vi (bb (M 65 (7 + (M 65 (22 + i)))) (bcF (M 65 (4 + (M 65 (22 + i)))) ((M 65 2) % 24)))), some (vi (M 65 (28 + i))), none, none, none, none, none, none, none, none, none, none]) (st' := [vl 1, vl 0, vr 64]) (M' := (sr M 69 T)) rfl ?_
          refine Hx.call (t := 210) (as := [vr 64, vl 0, vl 1]) (pc' := 89) (rest := []) rfl (r_tells 0 1 (sr M 69 T) (by decide) (by decide) (by decide)) ?_
          rintro _ _ ⟨rfl, rfl⟩
          refine Hx.run 0 (pc' := 89) (L' := [some (vr 64), some (vi i), some (vi w), some (vi c), some (vi (bb (M 65 (7 + (M 65 (22 + i)))) (bcF (M 65 (4 + (M 65 (22 + i)))) ((M 65 2) % 24)))), some (vi (M 65 (28 + i))), none, none, none, none, none, none, none, none, none, none]) (st' := [vi 1]) (M' := (up (up (sr M 69 T) 64 4 (frA 0 1)) 64 5 (frB 0 1))) rfl ?_
          refine Hx.ret rfl ?_
          first
            | exact Or.inl ⟨by omega, rfl, rfl⟩
            | (refine Or.inr ⟨by omega, rfl, 0, 1, Or.inl ⟨by omega, rfl, rfl⟩, ?_, ?_⟩
               · rw [up_row, up_row]; rfl
               · intro r h64 h69 h72; funext j; simp [up, sr, h64, h69, h72])
      · skip
        refine Hx.run 3 (pc' := 35) (L' := [some (vr 64), some (vi i), some (vi w), some (vi c), none, none, none, none, none, none, none, none, none, none, none, none]) (st' := [vi (-2), vr 64]) (M' := M) rfl ?_
        refine Hx.call (t := 132) (as := [vr 64, vi (-2)]) (pc' := 38) (rest := []) rfl (r_bad (-2) M (by (first | omega | (simp only [sr65]; omega)))) ?_
        rintro _ _ ⟨rfl, rfl⟩
        refine Hx.run 0 (pc' := 38) (L' := [some (vr 64), some (vi i), some (vi w), some (vi c), none, none, none, none, none, none, none, none, none, none, none, none]) (st' := [vi (-2)]) (M' := (up M 68 0 ((M 68 0) + 1))) rfl ?_
        refine Hx.ret rfl ?_
        first
          | exact Or.inl ⟨by omega, rfl, rfl⟩
          | (refine Or.inr ⟨by omega, rfl, 0, 1, Or.inl ⟨by omega, rfl, rfl⟩, ?_, ?_⟩
             · rw [up_row, up_row]; rfl
             · intro r h64 h69 h72; funext j; simp [up, sr, h64, h69, h72])
    · skip
      refine Hx.run 3 (pc' := 35) (L' := [some (vr 64), some (vi i), some (vi w), some (vi c), none, none, none, none, none, none, none, none, none, none, none, none]) (st' := [vi (-2), vr 64]) (M' := M) rfl ?_
      refine Hx.call (t := 132) (as := [vr 64, vi (-2)]) (pc' := 38) (rest := []) rfl (r_bad (-2) M (by (first | omega | (simp only [sr65]; omega)))) ?_
      rintro _ _ ⟨rfl, rfl⟩
      refine Hx.run 0 (pc' := 38) (L' := [some (vr 64), some (vi i), some (vi w), some (vi c), none, none, none, none, none, none, none, none, none, none, none, none]) (st' := [vi (-2)]) (M' := (up M 68 0 ((M 68 0) + 1))) rfl ?_
      refine Hx.ret rfl ?_
      first
        | exact Or.inl ⟨by omega, rfl, rfl⟩
        | (refine Or.inr ⟨by omega, rfl, 0, 1, Or.inl ⟨by omega, rfl, rfl⟩, ?_, ?_⟩
           · rw [up_row, up_row]; rfl
           · intro r h64 h69 h72; funext j; simp [up, sr, h64, h69, h72])
  · skip
    refine Hx.run 3 (pc' := 35) (L' := [some (vr 64), some (vi i), some (vi w), some (vi c), none, none, none, none, none, none, none, none, none, none, none, none]) (st' := [vi (-2), vr 64]) (M' := M) rfl ?_
    refine Hx.call (t := 132) (as := [vr 64, vi (-2)]) (pc' := 38) (rest := []) rfl (r_bad (-2) M (by (first | omega | (simp only [sr65]; omega)))) ?_
    rintro _ _ ⟨rfl, rfl⟩
    refine Hx.run 0 (pc' := 38) (L' := [some (vr 64), some (vi i), some (vi w), some (vi c), none, none, none, none, none, none, none, none, none, none, none, none]) (st' := [vi (-2)]) (M' := (up M 68 0 ((M 68 0) + 1))) rfl ?_
    refine Hx.ret rfl ?_
    first
      | exact Or.inl ⟨by omega, rfl, rfl⟩
      | (refine Or.inr ⟨by omega, rfl, 0, 1, Or.inl ⟨by omega, rfl, rfl⟩, ?_, ?_⟩
         · rw [up_row, up_row]; rfl
         · intro r h64 h69 h72; funext j; simp [up, sr, h64, h69, h72])
