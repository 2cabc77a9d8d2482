/-! laysWay, the contract (written by wip/whole/gen47.py) -/
set_option maxRecDepth 100000 in
theorem r_laysWay_70 (i : Int) (M : Mm) (hg : (0 ≤ i ∧ i < 6) ∧ (0 ≤ M 65 (10 + i) ∧ M 65 (10 + i) ≤ 5) ∧ (1 ≤ M 65 (16 + i) ∧ M 65 (16 + i) ≤ 4) ∧ (0 ≤ M 65 (22 + i) ∧ M 65 (22 + i) ≤ 2) ∧ (0 ≤ M 65 (28 + i) ∧ M 65 (28 + i) ≤ 11) ∧ (0 ≤ M 65 (34 + i) ∧ M 65 (34 + i) ≤ 9)) (hf : (0 ≤ (M 65 (22 + i)) ∧ (M 65 (22 + i)) < 3) ∧ (0 ≤ M 65 (4 + (M 65 (22 + i))) ∧ M 65 (4 + (M 65 (22 + i))) ≤ 5) ∧ (1 ≤ M 65 (7 + (M 65 (22 + i))) ∧ M 65 (7 + (M 65 (22 + i))) ≤ 10)) (hh : (0 ≤ M 65 2 ∧ M 65 2 ≤ 9999)) : Ct 190 [vr 64, vi i, vr 70] M (fun q0 M' => ∃ T A : Int → Int, sr (sr M 69 T) 70 A = M' ∧ ((1000000 ≤ (TV (sfF (M 65 (10 + i)) (M 65 (16 + i)) (M 65 (34 + i)) ((M 65 2) % 24)) (bb (M 65 (7 + (M 65 (22 + i)))) (bcF (M 65 (4 + (M 65 (22 + i)))) ((M 65 2) % 24))) (M 65 (28 + i))) ∧ q0 = some (vi 0)) ∨ ((TV (sfF (M 65 (10 + i)) (M 65 (16 + i)) (M 65 (34 + i)) ((M 65 2) % 24)) (bb (M 65 (7 + (M 65 (22 + i)))) (bcF (M 65 (4 + (M 65 (22 + i)))) ((M 65 2) % 24))) (M 65 (28 + i))) < 1000000 ∧ q0 = some (vi 1) ∧ WP (sfF (M 65 (10 + i)) (M 65 (16 + i)) (M 65 (34 + i)) ((M 65 2) % 24)) (bb (M 65 (7 + (M 65 (22 + i)))) (bcF (M 65 (4 + (M 65 (22 + i)))) ((M 65 2) % 24))) (M 65 (28 + i)) A 12))) := by
  refine Hx.run 2 (pc' := 2) (L' := [some (vr 64), some (vi i), some (vr 70), none, none, none]) (st' := [vi i, vr 64]) (M' := M) rfl ?_
  refine Hx.call (t := 185) (as := [vr 64, vi i]) (pc' := 5) (rest := []) rfl (r_laysNow i M (by (first | omega | (simp only [sr65]; omega))) (by (first | omega | (simp only [sr65]; omega))) (by (first | omega | (simp only [sr65]; omega)))) ?_
  rintro _ _ ⟨T, hT, rfl, rfl⟩
  have hTp := hT (M 65 (28 + i)) (by omega) (by omega)
  refine Hx.run 0 (pc' := 5) (L' := [some (vr 64), some (vi i), some (vr 70), none, none, none]) (st' := []) (M' := (sr M 69 T)) rfl ?_
  refine Hx.run 4 (pc' := 12) (L' := [some (vr 64), some (vi i), some (vr 70), none, none, none]) (st' := [vi i, vi 28, vr 65]) (M' := (sr M 69 T)) rfl ?_
  refine Hx.add rfl (by (first | omega | (simp only [sr65]; omega))) ?_
  refine Hx.aldI (n := 1032) rfl rfl (by (first | omega | (simp only [sr65]; omega))) ?_
  refine Hx.run 0 (pc' := 14) (L' := [some (vr 64), some (vi i), some (vr 70), none, none, none]) (st' := [vi (M 65 (28 + i))]) (M' := (sr M 69 T)) rfl ?_
  refine Hx.run 4 (pc' := 20) (L' := [some (vr 64), some (vi i), some (vr 70), some (vi (M 65 (28 + i))), none, none]) (st' := [vi (M 65 (28 + i)), vr 69]) (M' := (sr M 69 T)) rfl ?_
  refine Hx.aldI (n := 12) rfl rfl (by (first | omega | (simp only [sr65]; omega))) ?_
  refine Hx.run 0 (pc' := 21) (L' := [some (vr 64), some (vi i), some (vr 70), some (vi (M 65 (28 + i))), none, none]) (st' := [vi (T (M 65 (28 + i)))]) (M' := (sr M 69 T)) rfl ?_
  refine Hx.run 1 (pc' := 23) (L' := [some (vr 64), some (vi i), some (vr 70), some (vi (M 65 (28 + i))), none, none]) (st' := [vi 1000000, vi (T (M 65 (28 + i)))]) (M' := (sr M 69 T)) rfl ?_
  refine Hx.br (c := (T (M 65 (28 + i))) < 1000000) (t := 26) (f := 30) rfl (fun h1 => ?_) (fun h1 => ?_)
  · skip
    refine Hx.run 6 (pc' := 36) (L' := [some (vr 64), some (vi i), some (vr 70), some (vi (M 65 (28 + i))), some (vi 1), none]) (st' := [vi (M 65 (28 + i)), vi 0, vr 70]) (M' := (sr M 69 T)) rfl ?_
    refine Hx.astI (n := 13) rfl rfl (by (first | omega | (simp only [sr65]; omega))) ?_
    refine Hx.run 2 (pc' := 40) (L' := [some (vr 64), some (vi i), some (vr 70), some (vi (M 65 (28 + i))), some (vi 1), some (vi 1)]) (st' := []) (M' := (up (sr M 69 T) 70 0 (M 65 (28 + i)))) rfl ?_
    have h0 := rl_way_70 i M (by omega) (by omega) (by omega) T hT 20 0 (st1 (M 70) 0 (M 65 (28 + i))) (by omega) ⟨st1_at, fun m hm => absurd hm (by omega)⟩ (by rw [show ((0 : Nat) : Int) = 0 from rfl, st1_at]; omega) (by omega)
    rw [show ((0 : Nat) : Int) = 0 from rfl, st1_at, ← sr_up, show sr (sr M 69 T) 70 (M 70) = sr M 69 T from sr_self (M := sr M 69 T)] at h0
    exact Hx.imp h0 (fun r M' ⟨A, a1, a2, a3⟩ => ⟨T, A, a3, Or.inr ⟨by omega, a2, a1⟩⟩)
  · skip
    refine Hx.run 5 (pc' := 36) (L' := [some (vr 64), some (vi i), some (vr 70), some (vi (M 65 (28 + i))), some (vi 0), none]) (st' := [vi (M 65 (28 + i)), vi 0, vr 70]) (M' := (sr M 69 T)) rfl ?_
    refine Hx.astI (n := 13) rfl rfl (by (first | omega | (simp only [sr65]; omega))) ?_
    refine Hx.run 2 (pc' := 40) (L' := [some (vr 64), some (vi i), some (vr 70), some (vi (M 65 (28 + i))), some (vi 0), some (vi 1)]) (st' := []) (M' := (up (sr M 69 T) 70 0 (M 65 (28 + i)))) rfl ?_
    refine Hx.run 6 (pc' := 100) (L' := [some (vr 64), some (vi i), some (vr 70), some (vi (M 65 (28 + i))), some (vi 0), some (vi 1)]) (st' := [vi 0]) (M' := (up (sr M 69 T) 70 0 (M 65 (28 + i)))) rfl ?_
    refine Hx.ret rfl ?_
    exact ⟨T, st1 (M 70) 0 (M 65 (28 + i)), by rw [← sr_up]; exact congrArg (fun z => up z 70 0 (M 65 (28 + i))) (sr_self (M := sr M 69 T)), Or.inl ⟨by omega, rfl⟩⟩
set_option maxRecDepth 100000 in
theorem r_laysWay_71 (i : Int) (M : Mm) (hg : (0 ≤ i ∧ i < 6) ∧ (0 ≤ M 65 (10 + i) ∧ M 65 (10 + i) ≤ 5) ∧ (1 ≤ M 65 (16 + i) ∧ M 65 (16 + i) ≤ 4) ∧ (0 ≤ M 65 (22 + i) ∧ M 65 (22 + i) ≤ 2) ∧ (0 ≤ M 65 (28 + i) ∧ M 65 (28 + i) ≤ 11) ∧ (0 ≤ M 65 (34 + i) ∧ M 65 (34 + i) ≤ 9)) (hf : (0 ≤ (M 65 (22 + i)) ∧ (M 65 (22 + i)) < 3) ∧ (0 ≤ M 65 (4 + (M 65 (22 + i))) ∧ M 65 (4 + (M 65 (22 + i))) ≤ 5) ∧ (1 ≤ M 65 (7 + (M 65 (22 + i))) ∧ M 65 (7 + (M 65 (22 + i))) ≤ 10)) (hh : (0 ≤ M 65 2 ∧ M 65 2 ≤ 9999)) : Ct 190 [vr 64, vi i, vr 71] M (fun q0 M' => ∃ T A : Int → Int, sr (sr M 69 T) 71 A = M' ∧ ((1000000 ≤ (TV (sfF (M 65 (10 + i)) (M 65 (16 + i)) (M 65 (34 + i)) ((M 65 2) % 24)) (bb (M 65 (7 + (M 65 (22 + i)))) (bcF (M 65 (4 + (M 65 (22 + i)))) ((M 65 2) % 24))) (M 65 (28 + i))) ∧ q0 = some (vi 0)) ∨ ((TV (sfF (M 65 (10 + i)) (M 65 (16 + i)) (M 65 (34 + i)) ((M 65 2) % 24)) (bb (M 65 (7 + (M 65 (22 + i)))) (bcF (M 65 (4 + (M 65 (22 + i)))) ((M 65 2) % 24))) (M 65 (28 + i))) < 1000000 ∧ q0 = some (vi 1) ∧ WP (sfF (M 65 (10 + i)) (M 65 (16 + i)) (M 65 (34 + i)) ((M 65 2) % 24)) (bb (M 65 (7 + (M 65 (22 + i)))) (bcF (M 65 (4 + (M 65 (22 + i)))) ((M 65 2) % 24))) (M 65 (28 + i)) A 12))) := by
  refine Hx.run 2 (pc' := 2) (L' := [some (vr 64), some (vi i), some (vr 71), none, none, none]) (st' := [vi i, vr 64]) (M' := M) rfl ?_
  refine Hx.call (t := 185) (as := [vr 64, vi i]) (pc' := 5) (rest := []) rfl (r_laysNow i M (by (first | omega | (simp only [sr65]; omega))) (by (first | omega | (simp only [sr65]; omega))) (by (first | omega | (simp only [sr65]; omega)))) ?_
  rintro _ _ ⟨T, hT, rfl, rfl⟩
  have hTp := hT (M 65 (28 + i)) (by omega) (by omega)
  refine Hx.run 0 (pc' := 5) (L' := [some (vr 64), some (vi i), some (vr 71), none, none, none]) (st' := []) (M' := (sr M 69 T)) rfl ?_
  refine Hx.run 4 (pc' := 12) (L' := [some (vr 64), some (vi i), some (vr 71), none, none, none]) (st' := [vi i, vi 28, vr 65]) (M' := (sr M 69 T)) rfl ?_
  refine Hx.add rfl (by (first | omega | (simp only [sr65]; omega))) ?_
  refine Hx.aldI (n := 1032) rfl rfl (by (first | omega | (simp only [sr65]; omega))) ?_
  refine Hx.run 0 (pc' := 14) (L' := [some (vr 64), some (vi i), some (vr 71), none, none, none]) (st' := [vi (M 65 (28 + i))]) (M' := (sr M 69 T)) rfl ?_
  refine Hx.run 4 (pc' := 20) (L' := [some (vr 64), some (vi i), some (vr 71), some (vi (M 65 (28 + i))), none, none]) (st' := [vi (M 65 (28 + i)), vr 69]) (M' := (sr M 69 T)) rfl ?_
  refine Hx.aldI (n := 12) rfl rfl (by (first | omega | (simp only [sr65]; omega))) ?_
  refine Hx.run 0 (pc' := 21) (L' := [some (vr 64), some (vi i), some (vr 71), some (vi (M 65 (28 + i))), none, none]) (st' := [vi (T (M 65 (28 + i)))]) (M' := (sr M 69 T)) rfl ?_
  refine Hx.run 1 (pc' := 23) (L' := [some (vr 64), some (vi i), some (vr 71), some (vi (M 65 (28 + i))), none, none]) (st' := [vi 1000000, vi (T (M 65 (28 + i)))]) (M' := (sr M 69 T)) rfl ?_
  refine Hx.br (c := (T (M 65 (28 + i))) < 1000000) (t := 26) (f := 30) rfl (fun h1 => ?_) (fun h1 => ?_)
  · skip
    refine Hx.run 6 (pc' := 36) (L' := [some (vr 64), some (vi i), some (vr 71), some (vi (M 65 (28 + i))), some (vi 1), none]) (st' := [vi (M 65 (28 + i)), vi 0, vr 71]) (M' := (sr M 69 T)) rfl ?_
    refine Hx.astI (n := 13) rfl rfl (by (first | omega | (simp only [sr65]; omega))) ?_
    refine Hx.run 2 (pc' := 40) (L' := [some (vr 64), some (vi i), some (vr 71), some (vi (M 65 (28 + i))), some (vi 1), some (vi 1)]) (st' := []) (M' := (up (sr M 69 T) 71 0 (M 65 (28 + i)))) rfl ?_
    have h0 := rl_way_71 i M (by omega) (by omega) (by omega) T hT 20 0 (st1 (M 71) 0 (M 65 (28 + i))) (by omega) ⟨st1_at, fun m hm => absurd hm (by omega)⟩ (by rw [show ((0 : Nat) : Int) = 0 from rfl, st1_at]; omega) (by omega)
    rw [show ((0 : Nat) : Int) = 0 from rfl, st1_at, ← sr_up, show sr (sr M 69 T) 71 (M 71) = sr M 69 T from sr_self (M := sr M 69 T)] at h0
    exact Hx.imp h0 (fun r M' ⟨A, a1, a2, a3⟩ => ⟨T, A, a3, Or.inr ⟨by omega, a2, a1⟩⟩)
  · skip
    refine Hx.run 5 (pc' := 36) (L' := [some (vr 64), some (vi i), some (vr 71), some (vi (M 65 (28 + i))), some (vi 0), none]) (st' := [vi (M 65 (28 + i)), vi 0, vr 71]) (M' := (sr M 69 T)) rfl ?_
    refine Hx.astI (n := 13) rfl rfl (by (first | omega | (simp only [sr65]; omega))) ?_
    refine Hx.run 2 (pc' := 40) (L' := [some (vr 64), some (vi i), some (vr 71), some (vi (M 65 (28 + i))), some (vi 0), some (vi 1)]) (st' := []) (M' := (up (sr M 69 T) 71 0 (M 65 (28 + i)))) rfl ?_
    refine Hx.run 6 (pc' := 100) (L' := [some (vr 64), some (vi i), some (vr 71), some (vi (M 65 (28 + i))), some (vi 0), some (vi 1)]) (st' := [vi 0]) (M' := (up (sr M 69 T) 71 0 (M 65 (28 + i)))) rfl ?_
    refine Hx.ret rfl ?_
    exact ⟨T, st1 (M 71) 0 (M 65 (28 + i)), by rw [← sr_up]; exact congrArg (fun z => up z 71 0 (M 65 (28 + i))) (sr_self (M := sr M 69 T)), Or.inl ⟨by omega, rfl⟩⟩
