/-! up: the reference (written by wip/whole/gen35.py) -/
theorem sr65 {M : Mm} {T : Int → Int} : sr M 69 T 65 = M 65 := sr_ne (by decide)
set_option maxRecDepth 100000 in
theorem r_laysNow (i : Int) (M : Mm) (hg : (0 ≤ i ∧ i < 6) ∧ (0 ≤ M 65 (10 + i) ∧ M 65 (10 + i) ≤ 5) ∧ (1 ≤ M 65 (16 + i) ∧ M 65 (16 + i) ≤ 4) ∧ (0 ≤ M 65 (22 + i) ∧ M 65 (22 + i) ≤ 2) ∧ (0 ≤ M 65 (28 + i) ∧ M 65 (28 + i) ≤ 11) ∧ (0 ≤ M 65 (34 + i) ∧ M 65 (34 + i) ≤ 9)) (hf : (0 ≤ (M 65 (22 + i)) ∧ (M 65 (22 + i)) < 3) ∧ (0 ≤ M 65 (4 + (M 65 (22 + i))) ∧ M 65 (4 + (M 65 (22 + i))) ≤ 5) ∧ (1 ≤ M 65 (7 + (M 65 (22 + i))) ∧ M 65 (7 + (M 65 (22 + i))) ≤ 10)) (hh : (0 ≤ M 65 2 ∧ M 65 2 ≤ 9999)) : Ct 185 [vr 64, vi i] M (fun q0 M' => ∃ T : Int → Int, (∀ x, 0 ≤ x → x ≤ 11 → T x = TV (sfF (M 65 (10 + i)) (M 65 (16 + i)) (M 65 (34 + i)) ((M 65 2) % 24)) (bb (M 65 (7 + (M 65 (22 + i)))) (bcF (M 65 (4 + (M 65 (22 + i)))) ((M 65 2) % 24))) x) ∧ q0 = none ∧ sr M 69 T = M') := by
  have sR := sfF_rng (k := M 65 (10 + i)) (l := M 65 (16 + i)) (x := M 65 (34 + i)) (t := M 65 2 % 24) (by omega) (by omega)
  have bR := bb_rng (M 65 (7 + (M 65 (22 + i)))) (bcF (M 65 (4 + (M 65 (22 + i)))) (M 65 2 % 24))
  refine Hx.run 4 (pc' := 4) (L' := [some (vr 64), some (vi i)]) (st' := [vi i, vi 0, vr 64, vr 64]) (M' := M) rfl ?_
  refine Hx.call (t := 147) (as := [vr 64, vi 0, vi i]) (pc' := 7) (rest := [vr 64]) rfl (r_stridesIn_0 i M (by omega) (by omega)) ?_
  rintro _ _ ⟨rfl, rfl⟩
  refine Hx.run 0 (pc' := 7) (L' := [some (vr 64), some (vi i)]) (st' := [vi (sfF (M 65 (10 + i)) (M 65 (16 + i)) (M 65 (34 + i)) ((M 65 2) % 24)), vr 64]) (M' := M) rfl ?_
  refine Hx.run 6 (pc' := 16) (L' := [some (vr 64), some (vi i)]) (st' := [vi i, vi 22, vr 65, vi 0, vr 64, vi (sfF (M 65 (10 + i)) (M 65 (16 + i)) (M 65 (34 + i)) ((M 65 2) % 24)), vr 64]) (M' := M) rfl ?_
  refine Hx.add rfl (by omega) ?_
  refine Hx.aldI (n := 1032) rfl rfl (by omega) ?_
  refine Hx.call (t := 146) (as := [vr 64, vi 0, vi (M 65 (22 + i))]) (pc' := 21) (rest := [vi (sfF (M 65 (10 + i)) (M 65 (16 + i)) (M 65 (34 + i)) ((M 65 2) % 24)), vr 64]) rfl (r_bars_0 (M 65 (22 + i)) M (by omega) (by omega)) ?_
  rintro _ _ ⟨rfl, rfl⟩
  refine Hx.run 0 (pc' := 21) (L' := [some (vr 64), some (vi i)]) (st' := [vi (bb (M 65 (7 + (M 65 (22 + i)))) (bcF (M 65 (4 + (M 65 (22 + i)))) ((M 65 2) % 24))), vi (sfF (M 65 (10 + i)) (M 65 (16 + i)) (M 65 (34 + i)) ((M 65 2) % 24)), vr 64]) (M' := M) rfl ?_
  refine Hx.call (t := 182) (as := [vr 64, vi (sfF (M 65 (10 + i)) (M 65 (16 + i)) (M 65 (34 + i)) ((M 65 2) % 24)), vi (bb (M 65 (7 + (M 65 (22 + i)))) (bcF (M 65 (4 + (M 65 (22 + i)))) ((M 65 2) % 24)))]) (pc' := 24) (rest := []) rfl (r_laysLeft (sfF (M 65 (10 + i)) (M 65 (16 + i)) (M 65 (34 + i)) ((M 65 2) % 24)) (bb (M 65 (7 + (M 65 (22 + i)))) (bcF (M 65 (4 + (M 65 (22 + i)))) ((M 65 2) % 24))) M (by omega) (by omega)) ?_
  rintro _ _ ⟨rfl, rfl⟩
  refine Hx.run 0 (pc' := 24) (L' := [some (vr 64), some (vi i)]) (st' := []) (M' := (sr M 69 (tbl (sfF (M 65 (10 + i)) (M 65 (16 + i)) (M 65 (34 + i)) ((M 65 2) % 24)).toNat (bb (M 65 (7 + (M 65 (22 + i)))) (bcF (M 65 (4 + (M 65 (22 + i)))) ((M 65 2) % 24))) (M 69) 11))) rfl ?_
  refine Hx.ret rfl ?_
  exact ⟨_, fun x h1 h2 => TV_tbl (by omega) (by omega) h2, rfl, rfl⟩
set_option maxRecDepth 100000 in
theorem rl_up (i k : Int) (M : Mm) (hg : (0 ≤ i ∧ i < 6) ∧ (0 ≤ M 65 (10 + i) ∧ M 65 (10 + i) ≤ 5) ∧ (1 ≤ M 65 (16 + i) ∧ M 65 (16 + i) ≤ 4) ∧ (0 ≤ M 65 (22 + i) ∧ M 65 (22 + i) ≤ 2) ∧ (0 ≤ M 65 (28 + i) ∧ M 65 (28 + i) ≤ 11) ∧ (0 ≤ M 65 (34 + i) ∧ M 65 (34 + i) ≤ 9)) (hf : (0 ≤ (M 65 (22 + i)) ∧ (M 65 (22 + i)) < 3) ∧ (0 ≤ M 65 (4 + (M 65 (22 + i))) ∧ M 65 (4 + (M 65 (22 + i))) ≤ 5) ∧ (1 ≤ M 65 (7 + (M 65 (22 + i))) ∧ M 65 (7 + (M 65 (22 + i))) ≤ 10)) (hh : (0 ≤ M 65 2 ∧ M 65 2 ≤ 9999)) (T : Int → Int) (hT : ∀ x, 0 ≤ x → x ≤ 11 → T x = TV (sfF (M 65 (10 + i)) (M 65 (16 + i)) (M 65 (34 + i)) ((M 65 2) % 24)) (bb (M 65 (7 + (M 65 (22 + i)))) (bcF (M 65 (4 + (M 65 (22 + i)))) ((M 65 2) % 24))) x) (hk0 : 0 ≤ k) (hk : k < TV (sfF (M 65 (10 + i)) (M 65 (16 + i)) (M 65 (34 + i)) ((M 65 2) % 24)) (bb (M 65 (7 + (M 65 (22 + i)))) (bcF (M 65 (4 + (M 65 (22 + i)))) ((M 65 2) % 24))) (M 65 (28 + i))) (hfn : TV (sfF (M 65 (10 + i)) (M 65 (16 + i)) (M 65 (34 + i)) ((M 65 2) % 24)) (bb (M 65 (7 + (M 65 (22 + i)))) (bcF (M 65 (4 + (M 65 (22 + i)))) ((M 65 2) % 24))) (M 65 (28 + i)) < 1000000) : ∀ (kk : Nat) (n : Nat) (A : Int → Int) (by_ : Int), (n : Int) ≤ k + 1 → RowP (sfF (M 65 (10 + i)) (M 65 (16 + i)) (M 65 (34 + i)) ((M 65 2) % 24)) (bb (M 65 (7 + (M 65 (22 + i)))) (bcF (M 65 (4 + (M 65 (22 + i)))) ((M 65 2) % 24))) (M 65 (28 + i)) A n → (0 < (n : Int) → A ((n : Int) - 1) = by_) → k + 1 - (n : Int) < (kk : Int) → Hx 186 80 [some (vr 64), some (vi i), some (vi k), some (vi ((M 65 (28 + i)) + psum A n)), some (vi (TV (sfF (M 65 (10 + i)) (M 65 (16 + i)) (M 65 (34 + i)) ((M 65 2) % 24)) (bb (M 65 (7 + (M 65 (22 + i)))) (bcF (M 65 (4 + (M 65 (22 + i)))) ((M 65 2) % 24))) (M 65 (28 + i)))), some (vi by_), some (vi (n : Int))] [] (sr M 69 T) (fun q0 M' => ∃ A : Int → Int, RowP (sfF (M 65 (10 + i)) (M 65 (16 + i)) (M 65 (34 + i)) ((M 65 2) % 24)) (bb (M 65 (7 + (M 65 (22 + i)))) (bcF (M 65 (4 + (M 65 (22 + i)))) ((M 65 2) % 24))) (M 65 (28 + i)) A (k.toNat + 1) ∧ q0 = some (vi (A k)) ∧ sr M 69 T = M') := by
  intro kk
  induction kk with
  | zero => intro n A by_ _ _ _ hkk; exact absurd hkk (by omega)
  | succ kk ih =>
    intro n A by_ hn hR hby hkk
    have sR := sfF_rng (k := M 65 (10 + i)) (l := M 65 (16 + i)) (x := M 65 (34 + i)) (t := M 65 2 % 24) (by omega) (by omega)
    have bR := bb_rng (M 65 (7 + (M 65 (22 + i)))) (bcF (M 65 (4 + (M 65 (22 + i)))) (M 65 2 % 24))
    have hpos := RowP_pos (far := (sfF (M 65 (10 + i)) (M 65 (16 + i)) (M 65 (34 + i)) ((M 65 2) % 24))) (b := (bb (M 65 (7 + (M 65 (22 + i)))) (bcF (M 65 (4 + (M 65 (22 + i)))) ((M 65 2) % 24)))) (p := (M 65 (28 + i))) (by omega) n hR
    have h11 := TV_11 (far := (sfF (M 65 (10 + i)) (M 65 (16 + i)) (M 65 (34 + i)) ((M 65 2) % 24))) (b := (bb (M 65 (7 + (M 65 (22 + i)))) (bcF (M 65 (4 + (M 65 (22 + i)))) ((M 65 2) % 24))))
    have hfin := TV_fin (far := (sfF (M 65 (10 + i)) (M 65 (16 + i)) (M 65 (34 + i)) ((M 65 2) % 24))) (b := (bb (M 65 (7 + (M 65 (22 + i)))) (bcF (M 65 (4 + (M 65 (22 + i)))) ((M 65 2) % 24)))) (x := (M 65 (28 + i))) (by omega) (by omega)
    have hL : ∀ x, 0 ≤ x → x ≤ 11 → (sr M 69 T) 69 x = TV (sfF (M 65 (10 + i)) (M 65 (16 + i)) (M 65 (34 + i)) ((M 65 2) % 24)) (bb (M 65 (7 + (M 65 (22 + i)))) (bcF (M 65 (4 + (M 65 (22 + i)))) ((M 65 2) % 24))) x := fun x h1 h2 => by rw [sr_at]; exact hT x h1 h2
    have hne : (n : Int) ≤ k → (M 65 (28 + i)) + psum A n ≤ 10 := by
      intro hlt
      rcases Int.lt_or_le 10 ((M 65 (28 + i)) + psum A n) with q | q
      · have e : (M 65 (28 + i)) + psum A n = 11 := by omega
        rw [e, h11] at hpos
        omega
      · exact q
    refine Hx.run 2 (pc' := 83) (L' := [some (vr 64), some (vi i), some (vi k), some (vi ((M 65 (28 + i)) + psum A n)), some (vi (TV (sfF (M 65 (10 + i)) (M 65 (16 + i)) (M 65 (34 + i)) ((M 65 2) % 24)) (bb (M 65 (7 + (M 65 (22 + i)))) (bcF (M 65 (4 + (M 65 (22 + i)))) ((M 65 2) % 24))) (M 65 (28 + i)))), some (vi by_), some (vi (n : Int))]) (st' := [vi k, vi (n : Int)]) (M' := (sr M 69 T)) rfl ?_
    refine Hx.br (c := k < (n : Int)) (t := 120) (f := 86) rfl (fun h1 => ?_) (fun h1 => ?_)
    · skip
      refine Hx.run 1 (pc' := 122) (L' := [some (vr 64), some (vi i), some (vi k), some (vi ((M 65 (28 + i)) + psum A n)), some (vi (TV (sfF (M 65 (10 + i)) (M 65 (16 + i)) (M 65 (34 + i)) ((M 65 2) % 24)) (bb (M 65 (7 + (M 65 (22 + i)))) (bcF (M 65 (4 + (M 65 (22 + i)))) ((M 65 2) % 24))) (M 65 (28 + i)))), some (vi by_), some (vi (n : Int))]) (st' := [vi by_]) (M' := (sr M 69 T)) rfl ?_
      refine Hx.ret rfl ?_
      have e : (n : Int) = k + 1 := by omega
      refine ⟨A, by rw [show k.toNat + 1 = n by omega]; exact hR, some_vi ?_, rfl⟩
      rw [← hby (by omega), e, show k + 1 - 1 = k by omega]
    · skip
      refine Hx.run 8 (pc' := 97) (L' := [some (vr 64), some (vi i), some (vi k), some (vi ((M 65 (28 + i)) + psum A n)), some (vi (TV (sfF (M 65 (10 + i)) (M 65 (16 + i)) (M 65 (34 + i)) ((M 65 2) % 24)) (bb (M 65 (7 + (M 65 (22 + i)))) (bcF (M 65 (4 + (M 65 (22 + i)))) ((M 65 2) % 24))) (M 65 (28 + i)))), some (vi by_), some (vi (n : Int))]) (st' := [vi i, vi 22, vr 65, vi 0, vr 64, vi ((M 65 (28 + i)) + psum A n), vr 64]) (M' := (sr M 69 T)) rfl ?_
      refine Hx.add rfl (by (first | omega | (simp only [sr65]; omega))) ?_
      refine Hx.aldI (n := 1032) rfl rfl (by (first | omega | (simp only [sr65]; omega))) ?_
      refine Hx.run 0 (pc' := 99) (L' := [some (vr 64), some (vi i), some (vi k), some (vi ((M 65 (28 + i)) + psum A n)), some (vi (TV (sfF (M 65 (10 + i)) (M 65 (16 + i)) (M 65 (34 + i)) ((M 65 2) % 24)) (bb (M 65 (7 + (M 65 (22 + i)))) (bcF (M 65 (4 + (M 65 (22 + i)))) ((M 65 2) % 24))) (M 65 (28 + i)))), some (vi by_), some (vi (n : Int))]) (st' := [vi (M 65 (22 + i)), vi 0, vr 64, vi ((M 65 (28 + i)) + psum A n), vr 64]) (M' := (sr M 69 T)) rfl ?_
      refine Hx.call (t := 146) (as := [vr 64, vi 0, vi (M 65 (22 + i))]) (pc' := 102) (rest := [vi ((M 65 (28 + i)) + psum A n), vr 64]) rfl (r_bars_0 (M 65 (22 + i)) (sr M 69 T) (by (first | omega | (simp only [sr65]; omega))) (by (first | omega | (simp only [sr65]; omega)))) ?_
      rintro _ _ ⟨rfl, rfl⟩
      refine Hx.run 0 (pc' := 102) (L' := [some (vr 64), some (vi i), some (vi k), some (vi ((M 65 (28 + i)) + psum A n)), some (vi (TV (sfF (M 65 (10 + i)) (M 65 (16 + i)) (M 65 (34 + i)) ((M 65 2) % 24)) (bb (M 65 (7 + (M 65 (22 + i)))) (bcF (M 65 (4 + (M 65 (22 + i)))) ((M 65 2) % 24))) (M 65 (28 + i)))), some (vi by_), some (vi (n : Int))]) (st' := [vi (bb (M 65 (7 + (M 65 (22 + i)))) (bcF (M 65 (4 + (M 65 (22 + i)))) ((M 65 2) % 24))), vi ((M 65 (28 + i)) + psum A n), vr 64]) (M' := (sr M 69 T)) rfl ?_
      refine Hx.call (t := 183) (as := [vr 64, vi ((M 65 (28 + i)) + psum A n), vi (bb (M 65 (7 + (M 65 (22 + i)))) (bcF (M 65 (4 + (M 65 (22 + i)))) ((M 65 2) % 24)))]) (pc' := 105) (rest := []) rfl (r_firstFrom ((M 65 (28 + i)) + psum A n) (sfF (M 65 (10 + i)) (M 65 (16 + i)) (M 65 (34 + i)) ((M 65 2) % 24)) (bb (M 65 (7 + (M 65 (22 + i)))) (bcF (M 65 (4 + (M 65 (22 + i)))) ((M 65 2) % 24))) (sr M 69 T) sR (by omega) (by omega) (by omega) hL) ?_
      rintro _ _ ⟨kq, hkF, rfl, rfl⟩
      obtain ⟨hk1, hk2, hk3, hk4, -⟩ := id hkF
      refine Hx.run 0 (pc' := 105) (L' := [some (vr 64), some (vi i), some (vi k), some (vi ((M 65 (28 + i)) + psum A n)), some (vi (TV (sfF (M 65 (10 + i)) (M 65 (16 + i)) (M 65 (34 + i)) ((M 65 2) % 24)) (bb (M 65 (7 + (M 65 (22 + i)))) (bcF (M 65 (4 + (M 65 (22 + i)))) ((M 65 2) % 24))) (M 65 (28 + i)))), some (vi by_), some (vi (n : Int))]) (st' := [vi kq]) (M' := (sr M 69 T)) rfl ?_
      refine Hx.run 3 (pc' := 110) (L' := [some (vr 64), some (vi i), some (vi k), some (vi ((M 65 (28 + i)) + psum A n)), some (vi (TV (sfF (M 65 (10 + i)) (M 65 (16 + i)) (M 65 (34 + i)) ((M 65 2) % 24)) (bb (M 65 (7 + (M 65 (22 + i)))) (bcF (M 65 (4 + (M 65 (22 + i)))) ((M 65 2) % 24))) (M 65 (28 + i)))), some (vi kq), some (vi (n : Int))]) (st' := [vi kq, vi ((M 65 (28 + i)) + psum A n)]) (M' := (sr M 69 T)) rfl ?_
      refine Hx.call (t := 184) (as := [vi ((M 65 (28 + i)) + psum A n), vi kq]) (pc' := 113) (rest := []) rfl (r_stepUp ((M 65 (28 + i)) + psum A n) kq (sr M 69 T) (by (first | omega | (simp only [sr65]; omega))) (by (first | omega | (simp only [sr65]; omega)))) ?_
      rintro _ _ ⟨rfl, rfl⟩
      refine Hx.run 0 (pc' := 113) (L' := [some (vr 64), some (vi i), some (vi k), some (vi ((M 65 (28 + i)) + psum A n)), some (vi (TV (sfF (M 65 (10 + i)) (M 65 (16 + i)) (M 65 (34 + i)) ((M 65 2) % 24)) (bb (M 65 (7 + (M 65 (22 + i)))) (bcF (M 65 (4 + (M 65 (22 + i)))) ((M 65 2) % 24))) (M 65 (28 + i)))), some (vi kq), some (vi (n : Int))]) (st' := [vi (min 11 (((M 65 (28 + i)) + psum A n) + kq))]) (M' := (sr M 69 T)) rfl ?_
      refine Hx.run 1 (pc' := 114) (L' := [some (vr 64), some (vi i), some (vi k), some (vi (min 11 (((M 65 (28 + i)) + psum A n) + kq))), some (vi (TV (sfF (M 65 (10 + i)) (M 65 (16 + i)) (M 65 (34 + i)) ((M 65 2) % 24)) (bb (M 65 (7 + (M 65 (22 + i)))) (bcF (M 65 (4 + (M 65 (22 + i)))) ((M 65 2) % 24))) (M 65 (28 + i)))), some (vi kq), some (vi (n : Int))]) (st' := []) (M' := (sr M 69 T)) rfl ?_
      refine Hx.inc rfl rfl (by (first | omega | (simp only [sr65]; omega))) ?_
      refine Hx.run 0 (pc' := 117) (L' := [some (vr 64), some (vi i), some (vi k), some (vi (min 11 (((M 65 (28 + i)) + psum A n) + kq))), some (vi (TV (sfF (M 65 (10 + i)) (M 65 (16 + i)) (M 65 (34 + i)) ((M 65 2) % 24)) (bb (M 65 (7 + (M 65 (22 + i)))) (bcF (M 65 (4 + (M 65 (22 + i)))) ((M 65 2) % 24))) (M 65 (28 + i)))), some (vi kq), some (vi ((n : Int) + 1))]) (st' := []) (M' := (sr M 69 T)) rfl ?_
      refine Hx.run 1 (pc' := 80) (L' := [some (vr 64), some (vi i), some (vi k), some (vi (min 11 (((M 65 (28 + i)) + psum A n) + kq))), some (vi (TV (sfF (M 65 (10 + i)) (M 65 (16 + i)) (M 65 (34 + i)) ((M 65 2) % 24)) (bb (M 65 (7 + (M 65 (22 + i)))) (bcF (M 65 (4 + (M 65 (22 + i)))) ((M 65 2) % 24))) (M 65 (28 + i)))), some (vi kq), some (vi ((n : Int) + 1))]) (st' := []) (M' := (sr M 69 T)) rfl ?_
      have h9 := ih (n + 1) (st1 A n kq) kq (by omega) (RowP_st1 hR hkF) (fun _ => by rw [show ((n + 1 : Nat) : Int) - 1 = (n : Int) by omega, st1_at]) (by omega)
      rw [psum_succ, psum_st1 n (Nat.le_refl n), st1_at] at h9
      rw [show min 11 ((M 65 (28 + i)) + psum A n + kq) = (M 65 (28 + i)) + (psum A n + kq) by omega]
      exact h9
set_option maxRecDepth 100000 in
set_option maxHeartbeats 4000000 in
theorem R_up (i k : Int) (M : Mm) (hI : RI M 0) (hs : (0 ≤ M 68 0 ∧ M 68 0 ≤ 600) ∧ (0 ≤ M 68 1 ∧ M 68 1 ≤ 600) ∧ (0 ≤ M 68 2 ∧ M 68 2 ≤ 600)) : Ct 186 [vr 64, vi i, vi k] M (fun q0 M' => ((¬ (0 ≤ i ∧ i < M 65 1) ∨ k < -1) ∧ q0 = some (vi (-10)) ∧ up M 68 0 (M 68 0 + 1) = M') ∨ (((0 ≤ i ∧ i < M 65 1) ∧ -1 ≤ k) ∧ ∃ T : Int → Int, sr M 69 T = M' ∧ ((1000000 ≤ (TV (sfF (M 65 (10 + i)) (M 65 (16 + i)) (M 65 (34 + i)) ((M 65 2) % 24)) (bb (M 65 (7 + (M 65 (22 + i)))) (bcF (M 65 (4 + (M 65 (22 + i)))) ((M 65 2) % 24))) (M 65 (28 + i))) ∧ q0 = some (vi (-6))) ∨ ((TV (sfF (M 65 (10 + i)) (M 65 (16 + i)) (M 65 (34 + i)) ((M 65 2) % 24)) (bb (M 65 (7 + (M 65 (22 + i)))) (bcF (M 65 (4 + (M 65 (22 + i)))) ((M 65 2) % 24))) (M 65 (28 + i))) < 1000000 ∧ k = -1 ∧ q0 = some (vi (TV (sfF (M 65 (10 + i)) (M 65 (16 + i)) (M 65 (34 + i)) ((M 65 2) % 24)) (bb (M 65 (7 + (M 65 (22 + i)))) (bcF (M 65 (4 + (M 65 (22 + i)))) ((M 65 2) % 24))) (M 65 (28 + i))))) ∨ ((TV (sfF (M 65 (10 + i)) (M 65 (16 + i)) (M 65 (34 + i)) ((M 65 2) % 24)) (bb (M 65 (7 + (M 65 (22 + i)))) (bcF (M 65 (4 + (M 65 (22 + i)))) ((M 65 2) % 24))) (M 65 (28 + i))) < 1000000 ∧ 0 ≤ k ∧ (TV (sfF (M 65 (10 + i)) (M 65 (16 + i)) (M 65 (34 + i)) ((M 65 2) % 24)) (bb (M 65 (7 + (M 65 (22 + i)))) (bcF (M 65 (4 + (M 65 (22 + i)))) ((M 65 2) % 24))) (M 65 (28 + i))) ≤ k ∧ q0 = some (vi (-5))) ∨ ((TV (sfF (M 65 (10 + i)) (M 65 (16 + i)) (M 65 (34 + i)) ((M 65 2) % 24)) (bb (M 65 (7 + (M 65 (22 + i)))) (bcF (M 65 (4 + (M 65 (22 + i)))) ((M 65 2) % 24))) (M 65 (28 + i))) < 1000000 ∧ 0 ≤ k ∧ k < (TV (sfF (M 65 (10 + i)) (M 65 (16 + i)) (M 65 (34 + i)) ((M 65 2) % 24)) (bb (M 65 (7 + (M 65 (22 + i)))) (bcF (M 65 (4 + (M 65 (22 + i)))) ((M 65 2) % 24))) (M 65 (28 + i))) ∧ ∃ A : Int → Int, RowP (sfF (M 65 (10 + i)) (M 65 (16 + i)) (M 65 (34 + i)) ((M 65 2) % 24)) (bb (M 65 (7 + (M 65 (22 + i)))) (bcF (M 65 (4 + (M 65 (22 + i)))) ((M 65 2) % 24))) (M 65 (28 + i)) A (k.toNat + 1) ∧ q0 = some (vi (A k)))))) := by
  obtain ⟨r0, r1, r2, r3, r40, r61, r80, r111, rF, rG⟩ := (show (0 ≤ M 65 0 ∧ M 65 0 ≤ 3) ∧ (0 ≤ M 65 1 ∧ M 65 1 ≤ 6) ∧ (0 ≤ M 65 2 ∧ M 65 2 ≤ 9999) ∧ (0 ≤ M 65 3 ∧ M 65 3 ≤ 9000) ∧ (0 ≤ M 65 40 ∧ M 65 40 ≤ 5) ∧ (0 ≤ M 65 61 ∧ M 65 61 ≤ 6) ∧ (0 ≤ M 65 80 ∧ M 65 80 ≤ 6) ∧ (0 ≤ M 65 111 ∧ M 65 111 ≤ 8) ∧ (∀ f : Int, 0 ≤ f → f < M 65 0 → (0 ≤ M 65 (4 + f) ∧ M 65 (4 + f) ≤ 5) ∧ (1 ≤ M 65 (7 + f) ∧ M 65 (7 + f) ≤ 10)) ∧ (∀ i : Int, 0 ≤ i → i < M 65 1 → (0 ≤ M 65 (10 + i) ∧ M 65 (10 + i) ≤ 5) ∧ (1 ≤ M 65 (16 + i) ∧ M 65 (16 + i) ≤ 4) ∧ (0 ≤ M 65 (22 + i) ∧ M 65 (22 + i) < M 65 0) ∧ (0 ≤ M 65 (28 + i) ∧ M 65 (28 + i) ≤ 11) ∧ (0 ≤ M 65 (34 + i) ∧ M 65 (34 + i) ≤ 9)) from hI)
  refine Hx.run 2 (pc' := 2) (L' := [some (vr 64), some (vi i), some (vi k), none, none, none, none]) (st' := [vi i, vr 64]) (M' := M) rfl ?_
  refine Hx.call (t := 137) (as := [vr 64, vi i]) (pc' := 5) (rest := []) rfl (r_isGoer i M (by (first | omega | (simp only [sr65]; omega)))) ?_
  rintro _ _ (⟨q92, rfl, rfl⟩ | ⟨q92, rfl, rfl⟩)
  · skip
    have gq92 := rG i q92.1 q92.2
    have fq92 := rF (M 65 (22 + i)) (by omega) (by omega)
    refine Hx.run 3 (pc' := 10) (L' := [some (vr 64), some (vi i), some (vi k), none, none, none, none]) (st' := [vi (-1), vi k]) (M' := M) rfl ?_
    refine Hx.br (c := k < (-1)) (t := 13) (f := 20) rfl (fun h1 => ?_) (fun h1 => ?_)
    · skip
      refine Hx.run 2 (pc' := 16) (L' := [some (vr 64), some (vi i), some (vi k), none, none, none, none]) (st' := [vi (-10), vr 64]) (M' := M) rfl ?_
      refine Hx.call (t := 132) (as := [vr 64, vi (-10)]) (pc' := 19) (rest := []) rfl (r_bad (-10) M (by (first | omega | (simp only [sr65]; omega)))) ?_
      rintro _ _ ⟨rfl, rfl⟩
      refine Hx.run 0 (pc' := 19) (L' := [some (vr 64), some (vi i), some (vi k), none, none, none, none]) (st' := [vi (-10)]) (M' := (up M 68 0 ((M 68 0) + 1))) rfl ?_
      refine Hx.ret rfl ?_
      first
        | exact Or.inl ⟨by omega, rfl, rfl⟩
        | exact Or.inr ⟨by omega, T, rfl, Or.inl ⟨by omega, rfl⟩⟩
        | exact Or.inr ⟨by omega, T, rfl, Or.inr (Or.inl ⟨by omega, by omega, some_vi (by omega)⟩)⟩
        | exact Or.inr ⟨by omega, T, rfl, Or.inr (Or.inr (Or.inl ⟨by omega, by omega, by omega, rfl⟩))⟩
    · skip
      refine Hx.run 2 (pc' := 22) (L' := [some (vr 64), some (vi i), some (vi k), none, none, none, none]) (st' := [vi i, vr 64]) (M' := M) rfl ?_
      refine Hx.call (t := 185) (as := [vr 64, vi i]) (pc' := 25) (rest := []) rfl (r_laysNow i M (by (first | omega | (simp only [sr65]; omega))) (by (first | omega | (simp only [sr65]; omega))) (by (first | omega | (simp only [sr65]; omega)))) ?_
      rintro _ _ ⟨T, hT, rfl, rfl⟩
      have hTp := hT (M 65 (28 + i)) (by omega) (by omega)
      have hfin := TV_fin (far := (sfF (M 65 (10 + i)) (M 65 (16 + i)) (M 65 (34 + i)) ((M 65 2) % 24))) (b := (bb (M 65 (7 + (M 65 (22 + i)))) (bcF (M 65 (4 + (M 65 (22 + i)))) ((M 65 2) % 24)))) (x := (M 65 (28 + i))) (by omega) (by omega)
      refine Hx.run 0 (pc' := 25) (L' := [some (vr 64), some (vi i), some (vi k), none, none, none, none]) (st' := []) (M' := (sr M 69 T)) rfl ?_
      refine Hx.run 4 (pc' := 32) (L' := [some (vr 64), some (vi i), some (vi k), none, none, none, none]) (st' := [vi i, vi 28, vr 65]) (M' := (sr M 69 T)) rfl ?_
      refine Hx.add rfl (by (first | omega | (simp only [sr65]; omega))) ?_
      refine Hx.aldI (n := 1032) rfl rfl (by (first | omega | (simp only [sr65]; omega))) ?_
      refine Hx.run 0 (pc' := 34) (L' := [some (vr 64), some (vi i), some (vi k), none, none, none, none]) (st' := [vi (M 65 (28 + i))]) (M' := (sr M 69 T)) rfl ?_
      refine Hx.run 4 (pc' := 40) (L' := [some (vr 64), some (vi i), some (vi k), some (vi (M 65 (28 + i))), none, none, none]) (st' := [vi (M 65 (28 + i)), vr 69]) (M' := (sr M 69 T)) rfl ?_
      refine Hx.aldI (n := 12) rfl rfl (by (first | omega | (simp only [sr65]; omega))) ?_
      refine Hx.run 0 (pc' := 41) (L' := [some (vr 64), some (vi i), some (vi k), some (vi (M 65 (28 + i))), none, none, none]) (st' := [vi (T (M 65 (28 + i)))]) (M' := (sr M 69 T)) rfl ?_
      refine Hx.run 1 (pc' := 43) (L' := [some (vr 64), some (vi i), some (vi k), some (vi (M 65 (28 + i))), none, none, none]) (st' := [vi 1000000, vi (T (M 65 (28 + i)))]) (M' := (sr M 69 T)) rfl ?_
      refine Hx.br (c := (T (M 65 (28 + i))) < 1000000) (t := 49) (f := 46) rfl (fun h2 => ?_) (fun h2 => ?_)
      · skip
        refine Hx.run 3 (pc' := 54) (L' := [some (vr 64), some (vi i), some (vi k), some (vi (M 65 (28 + i))), none, none, none]) (st' := [vi (M 65 (28 + i)), vr 69]) (M' := (sr M 69 T)) rfl ?_
        refine Hx.aldI (n := 12) rfl rfl (by (first | omega | (simp only [sr65]; omega))) ?_
        refine Hx.run 0 (pc' := 55) (L' := [some (vr 64), some (vi i), some (vi k), some (vi (M 65 (28 + i))), none, none, none]) (st' := [vi (T (M 65 (28 + i)))]) (M' := (sr M 69 T)) rfl ?_
        refine Hx.run 3 (pc' := 59) (L' := [some (vr 64), some (vi i), some (vi k), some (vi (M 65 (28 + i))), some (vi (T (M 65 (28 + i)))), none, none]) (st' := [vi (-1), vi k]) (M' := (sr M 69 T)) rfl ?_
        refine Hx.br (c := k = (-1)) (t := 62) (f := 65) rfl (fun h3 => ?_) (fun h3 => ?_)
        · skip
          refine Hx.run 1 (pc' := 64) (L' := [some (vr 64), some (vi i), some (vi k), some (vi (M 65 (28 + i))), some (vi (T (M 65 (28 + i)))), none, none]) (st' := [vi (T (M 65 (28 + i)))]) (M' := (sr M 69 T)) rfl ?_
          refine Hx.ret rfl ?_
          first
            | exact Or.inl ⟨by omega, rfl, rfl⟩
            | exact Or.inr ⟨by omega, T, rfl, Or.inl ⟨by omega, rfl⟩⟩
            | exact Or.inr ⟨by omega, T, rfl, Or.inr (Or.inl ⟨by omega, by omega, some_vi (by omega)⟩)⟩
            | exact Or.inr ⟨by omega, T, rfl, Or.inr (Or.inr (Or.inl ⟨by omega, by omega, by omega, rfl⟩))⟩
        · skip
          refine Hx.run 2 (pc' := 68) (L' := [some (vr 64), some (vi i), some (vi k), some (vi (M 65 (28 + i))), some (vi (T (M 65 (28 + i)))), none, none]) (st' := [vi (T (M 65 (28 + i))), vi k]) (M' := (sr M 69 T)) rfl ?_
          refine Hx.br (c := k < (T (M 65 (28 + i)))) (t := 74) (f := 71) rfl (fun h4 => ?_) (fun h4 => ?_)
          · skip
            refine Hx.run 4 (pc' := 80) (L' := [some (vr 64), some (vi i), some (vi k), some (vi (M 65 (28 + i))), some (vi (T (M 65 (28 + i)))), some (vi 0), some (vi 0)]) (st' := []) (M' := (sr M 69 T)) rfl ?_
            have h0 := rl_up i k M (by omega) (by omega) (by omega) T hT (by omega) (by omega) (by omega) (k.toNat + 5) 0 (fun _ => 0) 0 (by omega) (fun m hm => absurd hm (by omega)) (fun q => absurd q (by decide)) (by omega)
            rw [show psum (fun _ => (0 : Int)) 0 = 0 from rfl, Int.add_zero] at h0
            rw [← hT (M 65 (28 + i)) (by omega) (by omega)] at h0
            refine Hx.imp h0 ?_
            rintro q0 M1 ⟨A, hA, rfl, rfl⟩
            exact Or.inr ⟨by omega, T, rfl, Or.inr (Or.inr (Or.inr ⟨by omega, by omega, by omega, A, hA, rfl⟩))⟩
          · skip
            refine Hx.run 1 (pc' := 73) (L' := [some (vr 64), some (vi i), some (vi k), some (vi (M 65 (28 + i))), some (vi (T (M 65 (28 + i)))), none, none]) (st' := [vi (-5)]) (M' := (sr M 69 T)) rfl ?_
            refine Hx.ret rfl ?_
            first
              | exact Or.inl ⟨by omega, rfl, rfl⟩
              | exact Or.inr ⟨by omega, T, rfl, Or.inl ⟨by omega, rfl⟩⟩
              | exact Or.inr ⟨by omega, T, rfl, Or.inr (Or.inl ⟨by omega, by omega, some_vi (by omega)⟩)⟩
              | exact Or.inr ⟨by omega, T, rfl, Or.inr (Or.inr (Or.inl ⟨by omega, by omega, by omega, rfl⟩))⟩
      · skip
        refine Hx.run 1 (pc' := 48) (L' := [some (vr 64), some (vi i), some (vi k), some (vi (M 65 (28 + i))), none, none, none]) (st' := [vi (-6)]) (M' := (sr M 69 T)) rfl ?_
        refine Hx.ret rfl ?_
        first
          | exact Or.inl ⟨by omega, rfl, rfl⟩
          | exact Or.inr ⟨by omega, T, rfl, Or.inl ⟨by omega, rfl⟩⟩
          | exact Or.inr ⟨by omega, T, rfl, Or.inr (Or.inl ⟨by omega, by omega, some_vi (by omega)⟩)⟩
          | exact Or.inr ⟨by omega, T, rfl, Or.inr (Or.inr (Or.inl ⟨by omega, by omega, by omega, rfl⟩))⟩
  · skip
    refine Hx.run 3 (pc' := 16) (L' := [some (vr 64), some (vi i), some (vi k), none, none, none, none]) (st' := [vi (-10), vr 64]) (M' := M) rfl ?_
    refine Hx.call (t := 132) (as := [vr 64, vi (-10)]) (pc' := 19) (rest := []) rfl (r_bad (-10) M (by (first | omega | (simp only [sr65]; omega)))) ?_
    rintro _ _ ⟨rfl, rfl⟩
    refine Hx.run 0 (pc' := 19) (L' := [some (vr 64), some (vi i), some (vi k), none, none, none, none]) (st' := [vi (-10)]) (M' := (up M 68 0 ((M 68 0) + 1))) rfl ?_
    refine Hx.ret rfl ?_
    first
      | exact Or.inl ⟨by omega, rfl, rfl⟩
      | exact Or.inr ⟨by omega, T, rfl, Or.inl ⟨by omega, rfl⟩⟩
      | exact Or.inr ⟨by omega, T, rfl, Or.inr (Or.inl ⟨by omega, by omega, some_vi (by omega)⟩)⟩
      | exact Or.inr ⟨by omega, T, rfl, Or.inr (Or.inr (Or.inl ⟨by omega, by omega, by omega, rfl⟩))⟩
