/-! the reference: a stride; what may be undone (written by wip/whole/gen24.py) -/
theorem up_eq {M : Mm} {r : Nat} {i v j : Int} (h : j = i) : up M r i v r j = v := by rw [h, up_at]
set_option maxRecDepth 100000 in
set_option maxHeartbeats 4000000 in
theorem r_goes_0 (i d : Int) (M : Mm) (hg : (0 ≤ i ∧ i < 6) ∧ (0 ≤ M 65 (10 + i) ∧ M 65 (10 + i) ≤ 5) ∧ (1 ≤ M 65 (16 + i) ∧ M 65 (16 + i) ≤ 4) ∧ (0 ≤ M 65 (22 + i) ∧ M 65 (22 + i) ≤ 2) ∧ (0 ≤ M 65 (28 + i) ∧ M 65 (28 + i) ≤ 11) ∧ (0 ≤ M 65 (34 + i) ∧ M 65 (34 + i) ≤ 9)) (hf : (0 ≤ (M 65 (22 + i)) ∧ (M 65 (22 + i)) < 3) ∧ (0 ≤ M 65 (4 + (M 65 (22 + i))) ∧ M 65 (4 + (M 65 (22 + i))) ≤ 5) ∧ (1 ≤ M 65 (7 + (M 65 (22 + i))) ∧ M 65 (7 + (M 65 (22 + i))) ≤ 10)) (hh : (0 ≤ M 65 2 ∧ M 65 2 ≤ 9999)) (hd : 1 ≤ d ∧ d ≤ 9) (hfa : 0 ≤ M 65 3 ∧ M 65 3 ≤ 9999) : Ct 170 [vr 64, vi 0, vi i, vi d] M (fun q0 M' => (hb (bb (M 65 (7 + (M 65 (22 + i)))) (bcF (M 65 (4 + (M 65 (22 + i)))) ((M 65 2) % 24))) (min 11 ((M 65 (28 + i)) + d)) ∧ q0 = none ∧ up (up M 65 (28 + i) 0) 65 3 (min 9999 ((M 65 3) + 1)) = M') ∨ (¬ hb (bb (M 65 (7 + (M 65 (22 + i)))) (bcF (M 65 (4 + (M 65 (22 + i)))) ((M 65 2) % 24))) (min 11 ((M 65 (28 + i)) + d)) ∧ q0 = none ∧ up (up M 65 (28 + i) (min 11 ((M 65 (28 + i)) + d))) 65 3 (M 65 3) = M')) := by
  have hbb := bb_rng (M 65 (7 + (M 65 (22 + i)))) (bcF (M 65 (4 + (M 65 (22 + i)))) (M 65 2 % 24))
  refine Hx.run 4 (pc' := 7) (L' := [some (vr 64), some (vi 0), some (vi i), some (vi d), none, none]) (st' := [vi 28, vi 0, vr 65]) (M' := M) rfl ?_
  refine Hx.add rfl (by omega) ?_
  refine Hx.run 0 (pc' := 8) (L' := [some (vr 64), some (vi 0), some (vi i), some (vi d), none, none]) (st' := [vi 28, vr 65]) (M' := M) rfl ?_
  refine Hx.run 1 (pc' := 9) (L' := [some (vr 64), some (vi 0), some (vi i), some (vi d), none, none]) (st' := [vi i, vi 28, vr 65]) (M' := M) rfl ?_
  refine Hx.add rfl (by omega) ?_
  refine Hx.aldI (n := 1032) rfl rfl (by omega) ?_
  refine Hx.run 1 (pc' := 12) (L' := [some (vr 64), some (vi 0), some (vi i), some (vi d), none, none]) (st' := [vi d, vi (M 65 (28 + i))]) (M' := M) rfl ?_
  refine Hx.add rfl (by omega) ?_
  refine Hx.run 3 (pc' := 19) (L' := [some (vr 64), some (vi 0), some (vi i), some (vi d), some (vi ((M 65 (28 + i)) + d)), none]) (st' := [vi 11, vi ((M 65 (28 + i)) + d)]) (M' := M) rfl ?_
  refine Hx.br (c := 11 < ((M 65 (28 + i)) + d)) (t := 22) (f := 27) rfl (fun h1 => ?_) (fun h1 => ?_)
  · skip
    refine Hx.run 9 (pc' := 40) (L' := [some (vr 64), some (vi 0), some (vi i), some (vi d), some (vi 11), none]) (st' := [vi 22, vi 0, vr 65, vi 0, vr 64]) (M' := M) rfl ?_
    refine Hx.add rfl (by omega) ?_
    refine Hx.run 0 (pc' := 41) (L' := [some (vr 64), some (vi 0), some (vi i), some (vi d), some (vi 11), none]) (st' := [vi 22, vr 65, vi 0, vr 64]) (M' := M) rfl ?_
    refine Hx.run 1 (pc' := 42) (L' := [some (vr 64), some (vi 0), some (vi i), some (vi d), some (vi 11), none]) (st' := [vi i, vi 22, vr 65, vi 0, vr 64]) (M' := M) rfl ?_
    refine Hx.add rfl (by omega) ?_
    refine Hx.aldI (n := 1032) rfl rfl (by omega) ?_
    refine Hx.call (t := 146) (as := [vr 64, vi 0, vi (M 65 (22 + i))]) (pc' := 47) (rest := []) rfl (r_bars_0 (M 65 (22 + i)) M (by omega) (by omega)) ?_
    rintro _ _ ⟨rfl, rfl⟩
    refine Hx.run 0 (pc' := 47) (L' := [some (vr 64), some (vi 0), some (vi i), some (vi d), some (vi 11), none]) (st' := [vi (bb (M 65 (7 + (M 65 (22 + i)))) (bcF (M 65 (4 + (M 65 (22 + i)))) ((M 65 2) % 24)))]) (M' := M) rfl ?_
    refine Hx.run 1 (pc' := 49) (L' := [some (vr 64), some (vi 0), some (vi i), some (vi d), some (vi 11), none]) (st' := [vi 11, vi (bb (M 65 (7 + (M 65 (22 + i)))) (bcF (M 65 (4 + (M 65 (22 + i)))) ((M 65 2) % 24)))]) (M' := M) rfl ?_
    refine Hx.call (t := 131) (as := [vi (bb (M 65 (7 + (M 65 (22 + i)))) (bcF (M 65 (4 + (M 65 (22 + i)))) ((M 65 2) % 24))), vi 11]) (pc' := 52) (rest := []) rfl (r_has (bb (M 65 (7 + (M 65 (22 + i)))) (bcF (M 65 (4 + (M 65 (22 + i)))) ((M 65 2) % 24))) 11 M (by omega) (by omega)) ?_
    rintro _ _ (⟨q38, rfl, rfl⟩ | ⟨q38, rfl, rfl⟩)
    · skip
      refine Hx.run 5 (pc' := 61) (L' := [some (vr 64), some (vi 0), some (vi i), some (vi d), some (vi 11), some (vi 1)]) (st' := [vi 28, vi 0, vr 65]) (M' := M) rfl ?_
      refine Hx.add rfl (by omega) ?_
      refine Hx.run 0 (pc' := 62) (L' := [some (vr 64), some (vi 0), some (vi i), some (vi d), some (vi 11), some (vi 1)]) (st' := [vi 28, vr 65]) (M' := M) rfl ?_
      refine Hx.run 1 (pc' := 63) (L' := [some (vr 64), some (vi 0), some (vi i), some (vi d), some (vi 11), some (vi 1)]) (st' := [vi i, vi 28, vr 65]) (M' := M) rfl ?_
      refine Hx.add rfl (by omega) ?_
      refine Hx.run 4 (pc' := 75) (L' := [some (vr 64), some (vi 0), some (vi i), some (vi d), some (vi 11), some (vi 1)]) (st' := [vi 0, vi (28 + i), vr 65]) (M' := M) rfl ?_
      refine Hx.astI (n := 1032) rfl rfl (by omega) ?_
      refine Hx.run 4 (pc' := 82) (L' := [some (vr 64), some (vi 0), some (vi i), some (vi d), some (vi 11), some (vi 1)]) (st' := [vi 3, vi 0, vr 65]) (M' := (up M 65 (28 + i) 0)) rfl ?_
      refine Hx.add rfl (by omega) ?_
      refine Hx.run 0 (pc' := 83) (L' := [some (vr 64), some (vi 0), some (vi i), some (vi d), some (vi 11), some (vi 1)]) (st' := [vi 3, vr 65]) (M' := (up M 65 (28 + i) 0)) rfl ?_
      refine Hx.run 1 (pc' := 84) (L' := [some (vr 64), some (vi 0), some (vi i), some (vi d), some (vi 11), some (vi 1)]) (st' := [vi 3, vr 65, vi 3, vr 65]) (M' := (up M 65 (28 + i) 0)) rfl ?_
      refine Hx.aldI (n := 1032) rfl rfl (by omega) ?_
      refine Hx.eqS (st' := [vi (M 65 3), vi 3, vr 65]) (by rw [show ((up M 65 (28 + i) 0) 65 3) = (M 65 3) from by rw [up_off (by omega)]]) ?_
      refine Hx.run 6 (pc' := 96) (L' := [some (vr 64), some (vi 0), some (vi i), some (vi d), some (vi 11), some (vi 1)]) (st' := [vi 3, vi 0, vr 65, vi (M 65 3), vi 3, vr 65]) (M' := (up M 65 (28 + i) 0)) rfl ?_
      refine Hx.add rfl (by omega) ?_
      refine Hx.run 0 (pc' := 97) (L' := [some (vr 64), some (vi 0), some (vi i), some (vi d), some (vi 11), some (vi 1)]) (st' := [vi 3, vr 65, vi (M 65 3), vi 3, vr 65]) (M' := (up M 65 (28 + i) 0)) rfl ?_
      refine Hx.aldI (n := 1032) rfl rfl (by omega) ?_
      refine Hx.eqS (st' := [vi (M 65 3), vi (M 65 3), vi 3, vr 65]) (by rw [show ((up M 65 (28 + i) 0) 65 3) = (M 65 3) from by rw [up_off (by omega)]]) ?_
      refine Hx.run 1 (pc' := 101) (L' := [some (vr 64), some (vi 0), some (vi i), some (vi d), some (vi 11), some (vi 1)]) (st' := [vi 9999, vi (M 65 3), vi (M 65 3), vi 3, vr 65]) (M' := (up M 65 (28 + i) 0)) rfl ?_
      refine Hx.br (c := (M 65 3) < 9999) (t := 104) (f := 108) rfl (fun h2 => ?_) (fun h2 => ?_)
      · skip
        refine Hx.run 2 (pc' := 109) (L' := [some (vr 64), some (vi 0), some (vi i), some (vi d), some (vi 11), some (vi 1)]) (st' := [vi 1, vi (M 65 3), vi 3, vr 65]) (M' := (up M 65 (28 + i) 0)) rfl ?_
        refine Hx.add rfl (by omega) ?_
        refine Hx.astI (n := 1032) rfl rfl (by omega) ?_
        refine Hx.ret rfl ?_
        exact Or.inl ⟨(by rw [show (min 11 ((M 65 (28 + i)) + d)) = 11 by omega]; exact q38), rfl, by rw [show min 9999 ((M 65 3) + 1) = ((M 65 3) + 1) by omega]⟩
      · skip
        refine Hx.run 1 (pc' := 109) (L' := [some (vr 64), some (vi 0), some (vi i), some (vi d), some (vi 11), some (vi 1)]) (st' := [vi 0, vi (M 65 3), vi 3, vr 65]) (M' := (up M 65 (28 + i) 0)) rfl ?_
        refine Hx.add rfl (by omega) ?_
        refine Hx.astI (n := 1032) rfl rfl (by omega) ?_
        refine Hx.ret rfl ?_
        exact Or.inl ⟨(by rw [show (min 11 ((M 65 (28 + i)) + d)) = 11 by omega]; exact q38), rfl, by rw [show min 9999 ((M 65 3) + 1) = ((M 65 3) + 0) by omega]⟩
    · skip
      refine Hx.run 5 (pc' := 61) (L' := [some (vr 64), some (vi 0), some (vi i), some (vi d), some (vi 11), some (vi 0)]) (st' := [vi 28, vi 0, vr 65]) (M' := M) rfl ?_
      refine Hx.add rfl (by omega) ?_
      refine Hx.run 0 (pc' := 62) (L' := [some (vr 64), some (vi 0), some (vi i), some (vi d), some (vi 11), some (vi 0)]) (st' := [vi 28, vr 65]) (M' := M) rfl ?_
      refine Hx.run 1 (pc' := 63) (L' := [some (vr 64), some (vi 0), some (vi i), some (vi d), some (vi 11), some (vi 0)]) (st' := [vi i, vi 28, vr 65]) (M' := M) rfl ?_
      refine Hx.add rfl (by omega) ?_
      refine Hx.run 3 (pc' := 75) (L' := [some (vr 64), some (vi 0), some (vi i), some (vi d), some (vi 11), some (vi 0)]) (st' := [vi 11, vi (28 + i), vr 65]) (M' := M) rfl ?_
      refine Hx.astI (n := 1032) rfl rfl (by omega) ?_
      refine Hx.run 4 (pc' := 82) (L' := [some (vr 64), some (vi 0), some (vi i), some (vi d), some (vi 11), some (vi 0)]) (st' := [vi 3, vi 0, vr 65]) (M' := (up M 65 (28 + i) 11)) rfl ?_
      refine Hx.add rfl (by omega) ?_
      refine Hx.run 0 (pc' := 83) (L' := [some (vr 64), some (vi 0), some (vi i), some (vi d), some (vi 11), some (vi 0)]) (st' := [vi 3, vr 65]) (M' := (up M 65 (28 + i) 11)) rfl ?_
      refine Hx.run 1 (pc' := 84) (L' := [some (vr 64), some (vi 0), some (vi i), some (vi d), some (vi 11), some (vi 0)]) (st' := [vi 3, vr 65, vi 3, vr 65]) (M' := (up M 65 (28 + i) 11)) rfl ?_
      refine Hx.aldI (n := 1032) rfl rfl (by omega) ?_
      refine Hx.eqS (st' := [vi (M 65 3), vi 3, vr 65]) (by rw [show ((up M 65 (28 + i) 11) 65 3) = (M 65 3) from by rw [up_off (by omega)]]) ?_
      refine Hx.run 3 (pc' := 109) (L' := [some (vr 64), some (vi 0), some (vi i), some (vi d), some (vi 11), some (vi 0)]) (st' := [vi 0, vi (M 65 3), vi 3, vr 65]) (M' := (up M 65 (28 + i) 11)) rfl ?_
      refine Hx.add rfl (by omega) ?_
      refine Hx.astI (n := 1032) rfl rfl (by omega) ?_
      refine Hx.ret rfl ?_
      exact Or.inr ⟨(by rw [show (min 11 ((M 65 (28 + i)) + d)) = 11 by omega]; exact q38), rfl, by rw [show (min 11 ((M 65 (28 + i)) + d)) = 11 by omega, show ((M 65 3) + 0) = M 65 3 by omega]⟩
  · skip
    refine Hx.run 8 (pc' := 40) (L' := [some (vr 64), some (vi 0), some (vi i), some (vi d), some (vi ((M 65 (28 + i)) + d)), none]) (st' := [vi 22, vi 0, vr 65, vi 0, vr 64]) (M' := M) rfl ?_
    refine Hx.add rfl (by omega) ?_
    refine Hx.run 0 (pc' := 41) (L' := [some (vr 64), some (vi 0), some (vi i), some (vi d), some (vi ((M 65 (28 + i)) + d)), none]) (st' := [vi 22, vr 65, vi 0, vr 64]) (M' := M) rfl ?_
    refine Hx.run 1 (pc' := 42) (L' := [some (vr 64), some (vi 0), some (vi i), some (vi d), some (vi ((M 65 (28 + i)) + d)), none]) (st' := [vi i, vi 22, vr 65, vi 0, vr 64]) (M' := M) rfl ?_
    refine Hx.add rfl (by omega) ?_
    refine Hx.aldI (n := 1032) rfl rfl (by omega) ?_
    refine Hx.call (t := 146) (as := [vr 64, vi 0, vi (M 65 (22 + i))]) (pc' := 47) (rest := []) rfl (r_bars_0 (M 65 (22 + i)) M (by omega) (by omega)) ?_
    rintro _ _ ⟨rfl, rfl⟩
    refine Hx.run 0 (pc' := 47) (L' := [some (vr 64), some (vi 0), some (vi i), some (vi d), some (vi ((M 65 (28 + i)) + d)), none]) (st' := [vi (bb (M 65 (7 + (M 65 (22 + i)))) (bcF (M 65 (4 + (M 65 (22 + i)))) ((M 65 2) % 24)))]) (M' := M) rfl ?_
    refine Hx.run 1 (pc' := 49) (L' := [some (vr 64), some (vi 0), some (vi i), some (vi d), some (vi ((M 65 (28 + i)) + d)), none]) (st' := [vi ((M 65 (28 + i)) + d), vi (bb (M 65 (7 + (M 65 (22 + i)))) (bcF (M 65 (4 + (M 65 (22 + i)))) ((M 65 2) % 24)))]) (M' := M) rfl ?_
    refine Hx.call (t := 131) (as := [vi (bb (M 65 (7 + (M 65 (22 + i)))) (bcF (M 65 (4 + (M 65 (22 + i)))) ((M 65 2) % 24))), vi ((M 65 (28 + i)) + d)]) (pc' := 52) (rest := []) rfl (r_has (bb (M 65 (7 + (M 65 (22 + i)))) (bcF (M 65 (4 + (M 65 (22 + i)))) ((M 65 2) % 24))) ((M 65 (28 + i)) + d) M (by omega) (by omega)) ?_
    rintro _ _ (⟨q39, rfl, rfl⟩ | ⟨q39, rfl, rfl⟩)
    · skip
      refine Hx.run 5 (pc' := 61) (L' := [some (vr 64), some (vi 0), some (vi i), some (vi d), some (vi ((M 65 (28 + i)) + d)), some (vi 1)]) (st' := [vi 28, vi 0, vr 65]) (M' := M) rfl ?_
      refine Hx.add rfl (by omega) ?_
      refine Hx.run 0 (pc' := 62) (L' := [some (vr 64), some (vi 0), some (vi i), some (vi d), some (vi ((M 65 (28 + i)) + d)), some (vi 1)]) (st' := [vi 28, vr 65]) (M' := M) rfl ?_
      refine Hx.run 1 (pc' := 63) (L' := [some (vr 64), some (vi 0), some (vi i), some (vi d), some (vi ((M 65 (28 + i)) + d)), some (vi 1)]) (st' := [vi i, vi 28, vr 65]) (M' := M) rfl ?_
      refine Hx.add rfl (by omega) ?_
      refine Hx.run 4 (pc' := 75) (L' := [some (vr 64), some (vi 0), some (vi i), some (vi d), some (vi ((M 65 (28 + i)) + d)), some (vi 1)]) (st' := [vi 0, vi (28 + i), vr 65]) (M' := M) rfl ?_
      refine Hx.astI (n := 1032) rfl rfl (by omega) ?_
      refine Hx.run 4 (pc' := 82) (L' := [some (vr 64), some (vi 0), some (vi i), some (vi d), some (vi ((M 65 (28 + i)) + d)), some (vi 1)]) (st' := [vi 3, vi 0, vr 65]) (M' := (up M 65 (28 + i) 0)) rfl ?_
      refine Hx.add rfl (by omega) ?_
      refine Hx.run 0 (pc' := 83) (L' := [some (vr 64), some (vi 0), some (vi i), some (vi d), some (vi ((M 65 (28 + i)) + d)), some (vi 1)]) (st' := [vi 3, vr 65]) (M' := (up M 65 (28 + i) 0)) rfl ?_
      refine Hx.run 1 (pc' := 84) (L' := [some (vr 64), some (vi 0), some (vi i), some (vi d), some (vi ((M 65 (28 + i)) + d)), some (vi 1)]) (st' := [vi 3, vr 65, vi 3, vr 65]) (M' := (up M 65 (28 + i) 0)) rfl ?_
      refine Hx.aldI (n := 1032) rfl rfl (by omega) ?_
      refine Hx.eqS (st' := [vi (M 65 3), vi 3, vr 65]) (by rw [show ((up M 65 (28 + i) 0) 65 3) = (M 65 3) from by rw [up_off (by omega)]]) ?_
      refine Hx.run 6 (pc' := 96) (L' := [some (vr 64), some (vi 0), some (vi i), some (vi d), some (vi ((M 65 (28 + i)) + d)), some (vi 1)]) (st' := [vi 3, vi 0, vr 65, vi (M 65 3), vi 3, vr 65]) (M' := (up M 65 (28 + i) 0)) rfl ?_
      refine Hx.add rfl (by omega) ?_
      refine Hx.run 0 (pc' := 97) (L' := [some (vr 64), some (vi 0), some (vi i), some (vi d), some (vi ((M 65 (28 + i)) + d)), some (vi 1)]) (st' := [vi 3, vr 65, vi (M 65 3), vi 3, vr 65]) (M' := (up M 65 (28 + i) 0)) rfl ?_
      refine Hx.aldI (n := 1032) rfl rfl (by omega) ?_
      refine Hx.eqS (st' := [vi (M 65 3), vi (M 65 3), vi 3, vr 65]) (by rw [show ((up M 65 (28 + i) 0) 65 3) = (M 65 3) from by rw [up_off (by omega)]]) ?_
      refine Hx.run 1 (pc' := 101) (L' := [some (vr 64), some (vi 0), some (vi i), some (vi d), some (vi ((M 65 (28 + i)) + d)), some (vi 1)]) (st' := [vi 9999, vi (M 65 3), vi (M 65 3), vi 3, vr 65]) (M' := (up M 65 (28 + i) 0)) rfl ?_
      refine Hx.br (c := (M 65 3) < 9999) (t := 104) (f := 108) rfl (fun h3 => ?_) (fun h3 => ?_)
      · skip
        refine Hx.run 2 (pc' := 109) (L' := [some (vr 64), some (vi 0), some (vi i), some (vi d), some (vi ((M 65 (28 + i)) + d)), some (vi 1)]) (st' := [vi 1, vi (M 65 3), vi 3, vr 65]) (M' := (up M 65 (28 + i) 0)) rfl ?_
        refine Hx.add rfl (by omega) ?_
        refine Hx.astI (n := 1032) rfl rfl (by omega) ?_
        refine Hx.ret rfl ?_
        exact Or.inl ⟨(by rw [show (min 11 ((M 65 (28 + i)) + d)) = ((M 65 (28 + i)) + d) by omega]; exact q39), rfl, by rw [show min 9999 ((M 65 3) + 1) = ((M 65 3) + 1) by omega]⟩
      · skip
        refine Hx.run 1 (pc' := 109) (L' := [some (vr 64), some (vi 0), some (vi i), some (vi d), some (vi ((M 65 (28 + i)) + d)), some (vi 1)]) (st' := [vi 0, vi (M 65 3), vi 3, vr 65]) (M' := (up M 65 (28 + i) 0)) rfl ?_
        refine Hx.add rfl (by omega) ?_
        refine Hx.astI (n := 1032) rfl rfl (by omega) ?_
        refine Hx.ret rfl ?_
        exact Or.inl ⟨(by rw [show (min 11 ((M 65 (28 + i)) + d)) = ((M 65 (28 + i)) + d) by omega]; exact q39), rfl, by rw [show min 9999 ((M 65 3) + 1) = ((M 65 3) + 0) by omega]⟩
    · skip
      refine Hx.run 5 (pc' := 61) (L' := [some (vr 64), some (vi 0), some (vi i), some (vi d), some (vi ((M 65 (28 + i)) + d)), some (vi 0)]) (st' := [vi 28, vi 0, vr 65]) (M' := M) rfl ?_
      refine Hx.add rfl (by omega) ?_
      refine Hx.run 0 (pc' := 62) (L' := [some (vr 64), some (vi 0), some (vi i), some (vi d), some (vi ((M 65 (28 + i)) + d)), some (vi 0)]) (st' := [vi 28, vr 65]) (M' := M) rfl ?_
      refine Hx.run 1 (pc' := 63) (L' := [some (vr 64), some (vi 0), some (vi i), some (vi d), some (vi ((M 65 (28 + i)) + d)), some (vi 0)]) (st' := [vi i, vi 28, vr 65]) (M' := M) rfl ?_
      refine Hx.add rfl (by omega) ?_
      refine Hx.run 3 (pc' := 75) (L' := [some (vr 64), some (vi 0), some (vi i), some (vi d), some (vi ((M 65 (28 + i)) + d)), some (vi 0)]) (st' := [vi ((M 65 (28 + i)) + d), vi (28 + i), vr 65]) (M' := M) rfl ?_
      refine Hx.astI (n := 1032) rfl rfl (by omega) ?_
      refine Hx.run 4 (pc' := 82) (L' := [some (vr 64), some (vi 0), some (vi i), some (vi d), some (vi ((M 65 (28 + i)) + d)), some (vi 0)]) (st' := [vi 3, vi 0, vr 65]) (M' := (up M 65 (28 + i) ((M 65 (28 + i)) + d))) rfl ?_
      refine Hx.add rfl (by omega) ?_
      refine Hx.run 0 (pc' := 83) (L' := [some (vr 64), some (vi 0), some (vi i), some (vi d), some (vi ((M 65 (28 + i)) + d)), some (vi 0)]) (st' := [vi 3, vr 65]) (M' := (up M 65 (28 + i) ((M 65 (28 + i)) + d))) rfl ?_
      refine Hx.run 1 (pc' := 84) (L' := [some (vr 64), some (vi 0), some (vi i), some (vi d), some (vi ((M 65 (28 + i)) + d)), some (vi 0)]) (st' := [vi 3, vr 65, vi 3, vr 65]) (M' := (up M 65 (28 + i) ((M 65 (28 + i)) + d))) rfl ?_
      refine Hx.aldI (n := 1032) rfl rfl (by omega) ?_
      refine Hx.eqS (st' := [vi (M 65 3), vi 3, vr 65]) (by rw [show ((up M 65 (28 + i) ((M 65 (28 + i)) + d)) 65 3) = (M 65 3) from by rw [up_off (by omega)]]) ?_
      refine Hx.run 3 (pc' := 109) (L' := [some (vr 64), some (vi 0), some (vi i), some (vi d), some (vi ((M 65 (28 + i)) + d)), some (vi 0)]) (st' := [vi 0, vi (M 65 3), vi 3, vr 65]) (M' := (up M 65 (28 + i) ((M 65 (28 + i)) + d))) rfl ?_
      refine Hx.add rfl (by omega) ?_
      refine Hx.astI (n := 1032) rfl rfl (by omega) ?_
      refine Hx.ret rfl ?_
      exact Or.inr ⟨(by rw [show (min 11 ((M 65 (28 + i)) + d)) = ((M 65 (28 + i)) + d) by omega]; exact q39), rfl, by rw [show (min 11 ((M 65 (28 + i)) + d)) = ((M 65 (28 + i)) + d) by omega, show ((M 65 3) + 0) = M 65 3 by omega]⟩
set_option maxRecDepth 100000 in
set_option maxHeartbeats 4000000 in
theorem r_goes_744 (i d : Int) (M : Mm) (hg : (0 ≤ i ∧ i < 6) ∧ (0 ≤ M 65 (754 + i) ∧ M 65 (754 + i) ≤ 5) ∧ (1 ≤ M 65 (760 + i) ∧ M 65 (760 + i) ≤ 4) ∧ (0 ≤ M 65 (766 + i) ∧ M 65 (766 + i) ≤ 2) ∧ (0 ≤ M 65 (772 + i) ∧ M 65 (772 + i) ≤ 11) ∧ (0 ≤ M 65 (778 + i) ∧ M 65 (778 + i) ≤ 9)) (hf : (0 ≤ (M 65 (766 + i)) ∧ (M 65 (766 + i)) < 3) ∧ (0 ≤ M 65 (748 + (M 65 (766 + i))) ∧ M 65 (748 + (M 65 (766 + i))) ≤ 5) ∧ (1 ≤ M 65 (751 + (M 65 (766 + i))) ∧ M 65 (751 + (M 65 (766 + i))) ≤ 10)) (hh : (0 ≤ M 65 746 ∧ M 65 746 ≤ 9999)) (hd : 1 ≤ d ∧ d ≤ 9) (hfa : 0 ≤ M 65 747 ∧ M 65 747 ≤ 9999) : Ct 170 [vr 64, vi 744, vi i, vi d] M (fun q0 M' => (hb (bb (M 65 (751 + (M 65 (766 + i)))) (bcF (M 65 (748 + (M 65 (766 + i)))) ((M 65 746) % 24))) (min 11 ((M 65 (772 + i)) + d)) ∧ q0 = none ∧ up (up M 65 (772 + i) 0) 65 747 (min 9999 ((M 65 747) + 1)) = M') ∨ (¬ hb (bb (M 65 (751 + (M 65 (766 + i)))) (bcF (M 65 (748 + (M 65 (766 + i)))) ((M 65 746) % 24))) (min 11 ((M 65 (772 + i)) + d)) ∧ q0 = none ∧ up (up M 65 (772 + i) (min 11 ((M 65 (772 + i)) + d))) 65 747 (M 65 747) = M')) := by
  have hbb := bb_rng (M 65 (751 + (M 65 (766 + i)))) (bcF (M 65 (748 + (M 65 (766 + i)))) (M 65 746 % 24))
  refine Hx.run 4 (pc' := 7) (L' := [some (vr 64), some (vi 744), some (vi i), some (vi d), none, none]) (st' := [vi 28, vi 744, vr 65]) (M' := M) rfl ?_
  refine Hx.add rfl (by omega) ?_
  refine Hx.run 0 (pc' := 8) (L' := [some (vr 64), some (vi 744), some (vi i), some (vi d), none, none]) (st' := [vi 772, vr 65]) (M' := M) rfl ?_
  refine Hx.run 1 (pc' := 9) (L' := [some (vr 64), some (vi 744), some (vi i), some (vi d), none, none]) (st' := [vi i, vi 772, vr 65]) (M' := M) rfl ?_
  refine Hx.add rfl (by omega) ?_
  refine Hx.aldI (n := 1032) rfl rfl (by omega) ?_
  refine Hx.run 1 (pc' := 12) (L' := [some (vr 64), some (vi 744), some (vi i), some (vi d), none, none]) (st' := [vi d, vi (M 65 (772 + i))]) (M' := M) rfl ?_
  refine Hx.add rfl (by omega) ?_
  refine Hx.run 3 (pc' := 19) (L' := [some (vr 64), some (vi 744), some (vi i), some (vi d), some (vi ((M 65 (772 + i)) + d)), none]) (st' := [vi 11, vi ((M 65 (772 + i)) + d)]) (M' := M) rfl ?_
  refine Hx.br (c := 11 < ((M 65 (772 + i)) + d)) (t := 22) (f := 27) rfl (fun h1 => ?_) (fun h1 => ?_)
  · skip
    refine Hx.run 9 (pc' := 40) (L' := [some (vr 64), some (vi 744), some (vi i), some (vi d), some (vi 11), none]) (st' := [vi 22, vi 744, vr 65, vi 744, vr 64]) (M' := M) rfl ?_
    refine Hx.add rfl (by omega) ?_
    refine Hx.run 0 (pc' := 41) (L' := [some (vr 64), some (vi 744), some (vi i), some (vi d), some (vi 11), none]) (st' := [vi 766, vr 65, vi 744, vr 64]) (M' := M) rfl ?_
    refine Hx.run 1 (pc' := 42) (L' := [some (vr 64), some (vi 744), some (vi i), some (vi d), some (vi 11), none]) (st' := [vi i, vi 766, vr 65, vi 744, vr 64]) (M' := M) rfl ?_
    refine Hx.add rfl (by omega) ?_
    refine Hx.aldI (n := 1032) rfl rfl (by omega) ?_
    refine Hx.call (t := 146) (as := [vr 64, vi 744, vi (M 65 (766 + i))]) (pc' := 47) (rest := []) rfl (r_bars_744 (M 65 (766 + i)) M (by omega) (by omega)) ?_
    rintro _ _ ⟨rfl, rfl⟩
    refine Hx.run 0 (pc' := 47) (L' := [some (vr 64), some (vi 744), some (vi i), some (vi d), some (vi 11), none]) (st' := [vi (bb (M 65 (751 + (M 65 (766 + i)))) (bcF (M 65 (748 + (M 65 (766 + i)))) ((M 65 746) % 24)))]) (M' := M) rfl ?_
    refine Hx.run 1 (pc' := 49) (L' := [some (vr 64), some (vi 744), some (vi i), some (vi d), some (vi 11), none]) (st' := [vi 11, vi (bb (M 65 (751 + (M 65 (766 + i)))) (bcF (M 65 (748 + (M 65 (766 + i)))) ((M 65 746) % 24)))]) (M' := M) rfl ?_
    refine Hx.call (t := 131) (as := [vi (bb (M 65 (751 + (M 65 (766 + i)))) (bcF (M 65 (748 + (M 65 (766 + i)))) ((M 65 746) % 24))), vi 11]) (pc' := 52) (rest := []) rfl (r_has (bb (M 65 (751 + (M 65 (766 + i)))) (bcF (M 65 (748 + (M 65 (766 + i)))) ((M 65 746) % 24))) 11 M (by omega) (by omega)) ?_
    rintro _ _ (⟨q40, rfl, rfl⟩ | ⟨q40, rfl, rfl⟩)
    · skip
      refine Hx.run 5 (pc' := 61) (L' := [some (vr 64), some (vi 744), some (vi i), some (vi d), some (vi 11), some (vi 1)]) (st' := [vi 28, vi 744, vr 65]) (M' := M) rfl ?_
      refine Hx.add rfl (by omega) ?_
      refine Hx.run 0 (pc' := 62) (L' := [some (vr 64), some (vi 744), some (vi i), some (vi d), some (vi 11), some (vi 1)]) (st' := [vi 772, vr 65]) (M' := M) rfl ?_
      refine Hx.run 1 (pc' := 63) (L' := [some (vr 64), some (vi 744), some (vi i), some (vi d), some (vi 11), some (vi 1)]) (st' := [vi i, vi 772, vr 65]) (M' := M) rfl ?_
      refine Hx.add rfl (by omega) ?_
      refine Hx.run 4 (pc' := 75) (L' := [some (vr 64), some (vi 744), some (vi i), some (vi d), some (vi 11), some (vi 1)]) (st' := [vi 0, vi (772 + i), vr 65]) (M' := M) rfl ?_
      refine Hx.astI (n := 1032) rfl rfl (by omega) ?_
      refine Hx.run 4 (pc' := 82) (L' := [some (vr 64), some (vi 744), some (vi i), some (vi d), some (vi 11), some (vi 1)]) (st' := [vi 3, vi 744, vr 65]) (M' := (up M 65 (772 + i) 0)) rfl ?_
      refine Hx.add rfl (by omega) ?_
      refine Hx.run 0 (pc' := 83) (L' := [some (vr 64), some (vi 744), some (vi i), some (vi d), some (vi 11), some (vi 1)]) (st' := [vi 747, vr 65]) (M' := (up M 65 (772 + i) 0)) rfl ?_
      refine Hx.run 1 (pc' := 84) (L' := [some (vr 64), some (vi 744), some (vi i), some (vi d), some (vi 11), some (vi 1)]) (st' := [vi 747, vr 65, vi 747, vr 65]) (M' := (up M 65 (772 + i) 0)) rfl ?_
      refine Hx.aldI (n := 1032) rfl rfl (by omega) ?_
      refine Hx.eqS (st' := [vi (M 65 747), vi 747, vr 65]) (by rw [show ((up M 65 (772 + i) 0) 65 747) = (M 65 747) from by rw [up_off (by omega)]]) ?_
      refine Hx.run 6 (pc' := 96) (L' := [some (vr 64), some (vi 744), some (vi i), some (vi d), some (vi 11), some (vi 1)]) (st' := [vi 3, vi 744, vr 65, vi (M 65 747), vi 747, vr 65]) (M' := (up M 65 (772 + i) 0)) rfl ?_
      refine Hx.add rfl (by omega) ?_
      refine Hx.run 0 (pc' := 97) (L' := [some (vr 64), some (vi 744), some (vi i), some (vi d), some (vi 11), some (vi 1)]) (st' := [vi 747, vr 65, vi (M 65 747), vi 747, vr 65]) (M' := (up M 65 (772 + i) 0)) rfl ?_
      refine Hx.aldI (n := 1032) rfl rfl (by omega) ?_
      refine Hx.eqS (st' := [vi (M 65 747), vi (M 65 747), vi 747, vr 65]) (by rw [show ((up M 65 (772 + i) 0) 65 747) = (M 65 747) from by rw [up_off (by omega)]]) ?_
      refine Hx.run 1 (pc' := 101) (L' := [some (vr 64), some (vi 744), some (vi i), some (vi d), some (vi 11), some (vi 1)]) (st' := [vi 9999, vi (M 65 747), vi (M 65 747), vi 747, vr 65]) (M' := (up M 65 (772 + i) 0)) rfl ?_
      refine Hx.br (c := (M 65 747) < 9999) (t := 104) (f := 108) rfl (fun h2 => ?_) (fun h2 => ?_)
      · skip
        refine Hx.run 2 (pc' := 109) (L' := [some (vr 64), some (vi 744), some (vi i), some (vi d), some (vi 11), some (vi 1)]) (st' := [vi 1, vi (M 65 747), vi 747, vr 65]) (M' := (up M 65 (772 + i) 0)) rfl ?_
        refine Hx.add rfl (by omega) ?_
        refine Hx.astI (n := 1032) rfl rfl (by omega) ?_
        refine Hx.ret rfl ?_
        exact Or.inl ⟨(by rw [show (min 11 ((M 65 (772 + i)) + d)) = 11 by omega]; exact q40), rfl, by rw [show min 9999 ((M 65 747) + 1) = ((M 65 747) + 1) by omega]⟩
      · skip
        refine Hx.run 1 (pc' := 109) (L' := [some (vr 64), some (vi 744), some (vi i), some (vi d), some (vi 11), some (vi 1)]) (st' := [vi 0, vi (M 65 747), vi 747, vr 65]) (M' := (up M 65 (772 + i) 0)) rfl ?_
        refine Hx.add rfl (by omega) ?_
        refine Hx.astI (n := 1032) rfl rfl (by omega) ?_
        refine Hx.ret rfl ?_
        exact Or.inl ⟨(by rw [show (min 11 ((M 65 (772 + i)) + d)) = 11 by omega]; exact q40), rfl, by rw [show min 9999 ((M 65 747) + 1) = ((M 65 747) + 0) by omega]⟩
    · skip
      refine Hx.run 5 (pc' := 61) (L' := [some (vr 64), some (vi 744), some (vi i), some (vi d), some (vi 11), some (vi 0)]) (st' := [vi 28, vi 744, vr 65]) (M' := M) rfl ?_
      refine Hx.add rfl (by omega) ?_
      refine Hx.run 0 (pc' := 62) (L' := [some (vr 64), some (vi 744), some (vi i), some (vi d), some (vi 11), some (vi 0)]) (st' := [vi 772, vr 65]) (M' := M) rfl ?_
      refine Hx.run 1 (pc' := 63) (L' := [some (vr 64), some (vi 744), some (vi i), some (vi d), some (vi 11), some (vi 0)]) (st' := [vi i, vi 772, vr 65]) (M' := M) rfl ?_
      refine Hx.add rfl (by omega) ?_
      refine Hx.run 3 (pc' := 75) (L' := [some (vr 64), some (vi 744), some (vi i), some (vi d), some (vi 11), some (vi 0)]) (st' := [vi 11, vi (772 + i), vr 65]) (M' := M) rfl ?_
      refine Hx.astI (n := 1032) rfl rfl (by omega) ?_
      refine Hx.run 4 (pc' := 82) (L' := [some (vr 64), some (vi 744), some (vi i), some (vi d), some (vi 11), some (vi 0)]) (st' := [vi 3, vi 744, vr 65]) (M' := (up M 65 (772 + i) 11)) rfl ?_
      refine Hx.add rfl (by omega) ?_
      refine Hx.run 0 (pc' := 83) (L' := [some (vr 64), some (vi 744), some (vi i), some (vi d), some (vi 11), some (vi 0)]) (st' := [vi 747, vr 65]) (M' := (up M 65 (772 + i) 11)) rfl ?_
      refine Hx.run 1 (pc' := 84) (L' := [some (vr 64), some (vi 744), some (vi i), some (vi d), some (vi 11), some (vi 0)]) (st' := [vi 747, vr 65, vi 747, vr 65]) (M' := (up M 65 (772 + i) 11)) rfl ?_
      refine Hx.aldI (n := 1032) rfl rfl (by omega) ?_
      refine Hx.eqS (st' := [vi (M 65 747), vi 747, vr 65]) (by rw [show ((up M 65 (772 + i) 11) 65 747) = (M 65 747) from by rw [up_off (by omega)]]) ?_
      refine Hx.run 3 (pc' := 109) (L' := [some (vr 64), some (vi 744), some (vi i), some (vi d), some (vi 11), some (vi 0)]) (st' := [vi 0, vi (M 65 747), vi 747, vr 65]) (M' := (up M 65 (772 + i) 11)) rfl ?_
      refine Hx.add rfl (by omega) ?_
      refine Hx.astI (n := 1032) rfl rfl (by omega) ?_
      refine Hx.ret rfl ?_
      exact Or.inr ⟨(by rw [show (min 11 ((M 65 (772 + i)) + d)) = 11 by omega]; exact q40), rfl, by rw [show (min 11 ((M 65 (772 + i)) + d)) = 11 by omega, show ((M 65 747) + 0) = M 65 747 by omega]⟩
  · skip
    refine Hx.run 8 (pc' := 40) (L' := [some (vr 64), some (vi 744), some (vi i), some (vi d), some (vi ((M 65 (772 + i)) + d)), none]) (st' := [vi 22, vi 744, vr 65, vi 744, vr 64]) (M' := M) rfl ?_
    refine Hx.add rfl (by omega) ?_
    refine Hx.run 0 (pc' := 41) (L' := [some (vr 64), some (vi 744), some (vi i), some (vi d), some (vi ((M 65 (772 + i)) + d)), none]) (st' := [vi 766, vr 65, vi 744, vr 64]) (M' := M) rfl ?_
    refine Hx.run 1 (pc' := 42) (L' := [some (vr 64), some (vi 744), some (vi i), some (vi d), some (vi ((M 65 (772 + i)) + d)), none]) (st' := [vi i, vi 766, vr 65, vi 744, vr 64]) (M' := M) rfl ?_
    refine Hx.add rfl (by omega) ?_
    refine Hx.aldI (n := 1032) rfl rfl (by omega) ?_
    refine Hx.call (t := 146) (as := [vr 64, vi 744, vi (M 65 (766 + i))]) (pc' := 47) (rest := []) rfl (r_bars_744 (M 65 (766 + i)) M (by omega) (by omega)) ?_
    rintro _ _ ⟨rfl, rfl⟩
    refine Hx.run 0 (pc' := 47) (L' := [some (vr 64), some (vi 744), some (vi i), some (vi d), some (vi ((M 65 (772 + i)) + d)), none]) (st' := [vi (bb (M 65 (751 + (M 65 (766 + i)))) (bcF (M 65 (748 + (M 65 (766 + i)))) ((M 65 746) % 24)))]) (M' := M) rfl ?_
    refine Hx.run 1 (pc' := 49) (L' := [some (vr 64), some (vi 744), some (vi i), some (vi d), some (vi ((M 65 (772 + i)) + d)), none]) (st' := [vi ((M 65 (772 + i)) + d), vi (bb (M 65 (751 + (M 65 (766 + i)))) (bcF (M 65 (748 + (M 65 (766 + i)))) ((M 65 746) % 24)))]) (M' := M) rfl ?_
    refine Hx.call (t := 131) (as := [vi (bb (M 65 (751 + (M 65 (766 + i)))) (bcF (M 65 (748 + (M 65 (766 + i)))) ((M 65 746) % 24))), vi ((M 65 (772 + i)) + d)]) (pc' := 52) (rest := []) rfl (r_has (bb (M 65 (751 + (M 65 (766 + i)))) (bcF (M 65 (748 + (M 65 (766 + i)))) ((M 65 746) % 24))) ((M 65 (772 + i)) + d) M (by omega) (by omega)) ?_
    rintro _ _ (⟨q41, rfl, rfl⟩ | ⟨q41, rfl, rfl⟩)
    · skip
      refine Hx.run 5 (pc' := 61) (L' := [some (vr 64), some (vi 744), some (vi i), some (vi d), some (vi ((M 65 (772 + i)) + d)), some (vi 1)]) (st' := [vi 28, vi 744, vr 65]) (M' := M) rfl ?_
      refine Hx.add rfl (by omega) ?_
      refine Hx.run 0 (pc' := 62) (L' := [some (vr 64), some (vi 744), some (vi i), some (vi d), some (vi ((M 65 (772 + i)) + d)), some (vi 1)]) (st' := [vi 772, vr 65]) (M' := M) rfl ?_
      refine Hx.run 1 (pc' := 63) (L' := [some (vr 64), some (vi 744), some (vi i), some (vi d), some (vi ((M 65 (772 + i)) + d)), some (vi 1)]) (st' := [vi i, vi 772, vr 65]) (M' := M) rfl ?_
      refine Hx.add rfl (by omega) ?_
      refine Hx.run 4 (pc' := 75) (L' := [some (vr 64), some (vi 744), some (vi i), some (vi d), some (vi ((M 65 (772 + i)) + d)), some (vi 1)]) (st' := [vi 0, vi (772 + i), vr 65]) (M' := M) rfl ?_
      refine Hx.astI (n := 1032) rfl rfl (by omega) ?_
      refine Hx.run 4 (pc' := 82) (L' := [some (vr 64), some (vi 744), some (vi i), some (vi d), some (vi ((M 65 (772 + i)) + d)), some (vi 1)]) (st' := [vi 3, vi 744, vr 65]) (M' := (up M 65 (772 + i) 0)) rfl ?_
      refine Hx.add rfl (by omega) ?_
      refine Hx.run 0 (pc' := 83) (L' := [some (vr 64), some (vi 744), some (vi i), some (vi d), some (vi ((M 65 (772 + i)) + d)), some (vi 1)]) (st' := [vi 747, vr 65]) (M' := (up M 65 (772 + i) 0)) rfl ?_
      refine Hx.run 1 (pc' := 84) (L' := [some (vr 64), some (vi 744), some (vi i), some (vi d), some (vi ((M 65 (772 + i)) + d)), some (vi 1)]) (st' := [vi 747, vr 65, vi 747, vr 65]) (M' := (up M 65 (772 + i) 0)) rfl ?_
      refine Hx.aldI (n := 1032) rfl rfl (by omega) ?_
      refine Hx.eqS (st' := [vi (M 65 747), vi 747, vr 65]) (by rw [show ((up M 65 (772 + i) 0) 65 747) = (M 65 747) from by rw [up_off (by omega)]]) ?_
      refine Hx.run 6 (pc' := 96) (L' := [some (vr 64), some (vi 744), some (vi i), some (vi d), some (vi ((M 65 (772 + i)) + d)), some (vi 1)]) (st' := [vi 3, vi 744, vr 65, vi (M 65 747), vi 747, vr 65]) (M' := (up M 65 (772 + i) 0)) rfl ?_
      refine Hx.add rfl (by omega) ?_
      refine Hx.run 0 (pc' := 97) (L' := [some (vr 64), some (vi 744), some (vi i), some (vi d), some (vi ((M 65 (772 + i)) + d)), some (vi 1)]) (st' := [vi 747, vr 65, vi (M 65 747), vi 747, vr 65]) (M' := (up M 65 (772 + i) 0)) rfl ?_
      refine Hx.aldI (n := 1032) rfl rfl (by omega) ?_
      refine Hx.eqS (st' := [vi (M 65 747), vi (M 65 747), vi 747, vr 65]) (by rw [show ((up M 65 (772 + i) 0) 65 747) = (M 65 747) from by rw [up_off (by omega)]]) ?_
      refine Hx.run 1 (pc' := 101) (L' := [some (vr 64), some (vi 744), some (vi i), some (vi d), some (vi ((M 65 (772 + i)) + d)), some (vi 1)]) (st' := [vi 9999, vi (M 65 747), vi (M 65 747), vi 747, vr 65]) (M' := (up M 65 (772 + i) 0)) rfl ?_
      refine Hx.br (c := (M 65 747) < 9999) (t := 104) (f := 108) rfl (fun h3 => ?_) (fun h3 => ?_)
      · skip
        refine Hx.run 2 (pc' := 109) (L' := [some (vr 64), some (vi 744), some (vi i), some (vi d), some (vi ((M 65 (772 + i)) + d)), some (vi 1)]) (st' := [vi 1, vi (M 65 747), vi 747, vr 65]) (M' := (up M 65 (772 + i) 0)) rfl ?_
        refine Hx.add rfl (by omega) ?_
        refine Hx.astI (n := 1032) rfl rfl (by omega) ?_
        refine Hx.ret rfl ?_
        exact Or.inl ⟨(by rw [show (min 11 ((M 65 (772 + i)) + d)) = ((M 65 (772 + i)) + d) by omega]; exact q41), rfl, by rw [show min 9999 ((M 65 747) + 1) = ((M 65 747) + 1) by omega]⟩
      · skip
        refine Hx.run 1 (pc' := 109) (L' := [some (vr 64), some (vi 744), some (vi i), some (vi d), some (vi ((M 65 (772 + i)) + d)), some (vi 1)]) (st' := [vi 0, vi (M 65 747), vi 747, vr 65]) (M' := (up M 65 (772 + i) 0)) rfl ?_
        refine Hx.add rfl (by omega) ?_
        refine Hx.astI (n := 1032) rfl rfl (by omega) ?_
        refine Hx.ret rfl ?_
        exact Or.inl ⟨(by rw [show (min 11 ((M 65 (772 + i)) + d)) = ((M 65 (772 + i)) + d) by omega]; exact q41), rfl, by rw [show min 9999 ((M 65 747) + 1) = ((M 65 747) + 0) by omega]⟩
    · skip
      refine Hx.run 5 (pc' := 61) (L' := [some (vr 64), some (vi 744), some (vi i), some (vi d), some (vi ((M 65 (772 + i)) + d)), some (vi 0)]) (st' := [vi 28, vi 744, vr 65]) (M' := M) rfl ?_
      refine Hx.add rfl (by omega) ?_
      refine Hx.run 0 (pc' := 62) (L' := [some (vr 64), some (vi 744), some (vi i), some (vi d), some (vi ((M 65 (772 + i)) + d)), some (vi 0)]) (st' := [vi 772, vr 65]) (M' := M) rfl ?_
      refine Hx.run 1 (pc' := 63) (L' := [some (vr 64), some (vi 744), some (vi i), some (vi d), some (vi ((M 65 (772 + i)) + d)), some (vi 0)]) (st' := [vi i, vi 772, vr 65]) (M' := M) rfl ?_
      refine Hx.add rfl (by omega) ?_
      refine Hx.run 3 (pc' := 75) (L' := [some (vr 64), some (vi 744), some (vi i), some (vi d), some (vi ((M 65 (772 + i)) + d)), some (vi 0)]) (st' := [vi ((M 65 (772 + i)) + d), vi (772 + i), vr 65]) (M' := M) rfl ?_
      refine Hx.astI (n := 1032) rfl rfl (by omega) ?_
      refine Hx.run 4 (pc' := 82) (L' := [some (vr 64), some (vi 744), some (vi i), some (vi d), some (vi ((M 65 (772 + i)) + d)), some (vi 0)]) (st' := [vi 3, vi 744, vr 65]) (M' := (up M 65 (772 + i) ((M 65 (772 + i)) + d))) rfl ?_
      refine Hx.add rfl (by omega) ?_
      refine Hx.run 0 (pc' := 83) (L' := [some (vr 64), some (vi 744), some (vi i), some (vi d), some (vi ((M 65 (772 + i)) + d)), some (vi 0)]) (st' := [vi 747, vr 65]) (M' := (up M 65 (772 + i) ((M 65 (772 + i)) + d))) rfl ?_
      refine Hx.run 1 (pc' := 84) (L' := [some (vr 64), some (vi 744), some (vi i), some (vi d), some (vi ((M 65 (772 + i)) + d)), some (vi 0)]) (st' := [vi 747, vr 65, vi 747, vr 65]) (M' := (up M 65 (772 + i) ((M 65 (772 + i)) + d))) rfl ?_
      refine Hx.aldI (n := 1032) rfl rfl (by omega) ?_
      refine Hx.eqS (st' := [vi (M 65 747), vi 747, vr 65]) (by rw [show ((up M 65 (772 + i) ((M 65 (772 + i)) + d)) 65 747) = (M 65 747) from by rw [up_off (by omega)]]) ?_
      refine Hx.run 3 (pc' := 109) (L' := [some (vr 64), some (vi 744), some (vi i), some (vi d), some (vi ((M 65 (772 + i)) + d)), some (vi 0)]) (st' := [vi 0, vi (M 65 747), vi 747, vr 65]) (M' := (up M 65 (772 + i) ((M 65 (772 + i)) + d))) rfl ?_
      refine Hx.add rfl (by omega) ?_
      refine Hx.astI (n := 1032) rfl rfl (by omega) ?_
      refine Hx.ret rfl ?_
      exact Or.inr ⟨(by rw [show (min 11 ((M 65 (772 + i)) + d)) = ((M 65 (772 + i)) + d) by omega]; exact q41), rfl, by rw [show (min 11 ((M 65 (772 + i)) + d)) = ((M 65 (772 + i)) + d) by omega, show ((M 65 747) + 0) = M 65 747 by omega]⟩
set_option maxRecDepth 100000 in
set_option maxHeartbeats 4000000 in
theorem r_goes_992 (i d : Int) (M : Mm) (hg : (0 ≤ i ∧ i < 6) ∧ (0 ≤ M 65 (1002 + i) ∧ M 65 (1002 + i) ≤ 5) ∧ (1 ≤ M 65 (1008 + i) ∧ M 65 (1008 + i) ≤ 4) ∧ (0 ≤ M 65 (1014 + i) ∧ M 65 (1014 + i) ≤ 2) ∧ (0 ≤ M 65 (1020 + i) ∧ M 65 (1020 + i) ≤ 11) ∧ (0 ≤ M 65 (1026 + i) ∧ M 65 (1026 + i) ≤ 9)) (hf : (0 ≤ (M 65 (1014 + i)) ∧ (M 65 (1014 + i)) < 3) ∧ (0 ≤ M 65 (996 + (M 65 (1014 + i))) ∧ M 65 (996 + (M 65 (1014 + i))) ≤ 5) ∧ (1 ≤ M 65 (999 + (M 65 (1014 + i))) ∧ M 65 (999 + (M 65 (1014 + i))) ≤ 10)) (hh : (0 ≤ M 65 994 ∧ M 65 994 ≤ 9999)) (hd : 1 ≤ d ∧ d ≤ 9) (hfa : 0 ≤ M 65 995 ∧ M 65 995 ≤ 9999) : Ct 170 [vr 64, vi 992, vi i, vi d] M (fun q0 M' => (hb (bb (M 65 (999 + (M 65 (1014 + i)))) (bcF (M 65 (996 + (M 65 (1014 + i)))) ((M 65 994) % 24))) (min 11 ((M 65 (1020 + i)) + d)) ∧ q0 = none ∧ up (up M 65 (1020 + i) 0) 65 995 (min 9999 ((M 65 995) + 1)) = M') ∨ (¬ hb (bb (M 65 (999 + (M 65 (1014 + i)))) (bcF (M 65 (996 + (M 65 (1014 + i)))) ((M 65 994) % 24))) (min 11 ((M 65 (1020 + i)) + d)) ∧ q0 = none ∧ up (up M 65 (1020 + i) (min 11 ((M 65 (1020 + i)) + d))) 65 995 (M 65 995) = M')) := by
  have hbb := bb_rng (M 65 (999 + (M 65 (1014 + i)))) (bcF (M 65 (996 + (M 65 (1014 + i)))) (M 65 994 % 24))
  refine Hx.run 4 (pc' := 7) (L' := [some (vr 64), some (vi 992), some (vi i), some (vi d), none, none]) (st' := [vi 28, vi 992, vr 65]) (M' := M) rfl ?_
  refine Hx.add rfl (by omega) ?_
  refine Hx.run 0 (pc' := 8) (L' := [some (vr 64), some (vi 992), some (vi i), some (vi d), none, none]) (st' := [vi 1020, vr 65]) (M' := M) rfl ?_
  refine Hx.run 1 (pc' := 9) (L' := [some (vr 64), some (vi 992), some (vi i), some (vi d), none, none]) (st' := [vi i, vi 1020, vr 65]) (M' := M) rfl ?_
  refine Hx.add rfl (by omega) ?_
  refine Hx.aldI (n := 1032) rfl rfl (by omega) ?_
  refine Hx.run 1 (pc' := 12) (L' := [some (vr 64), some (vi 992), some (vi i), some (vi d), none, none]) (st' := [vi d, vi (M 65 (1020 + i))]) (M' := M) rfl ?_
  refine Hx.add rfl (by omega) ?_
  refine Hx.run 3 (pc' := 19) (L' := [some (vr 64), some (vi 992), some (vi i), some (vi d), some (vi ((M 65 (1020 + i)) + d)), none]) (st' := [vi 11, vi ((M 65 (1020 + i)) + d)]) (M' := M) rfl ?_
  refine Hx.br (c := 11 < ((M 65 (1020 + i)) + d)) (t := 22) (f := 27) rfl (fun h1 => ?_) (fun h1 => ?_)
  · skip
    refine Hx.run 9 (pc' := 40) (L' := [some (vr 64), some (vi 992), some (vi i), some (vi d), some (vi 11), none]) (st' := [vi 22, vi 992, vr 65, vi 992, vr 64]) (M' := M) rfl ?_
    refine Hx.add rfl (by omega) ?_
    refine Hx.run 0 (pc' := 41) (L' := [some (vr 64), some (vi 992), some (vi i), some (vi d), some (vi 11), none]) (st' := [vi 1014, vr 65, vi 992, vr 64]) (M' := M) rfl ?_
    refine Hx.run 1 (pc' := 42) (L' := [some (vr 64), some (vi 992), some (vi i), some (vi d), some (vi 11), none]) (st' := [vi i, vi 1014, vr 65, vi 992, vr 64]) (M' := M) rfl ?_
    refine Hx.add rfl (by omega) ?_
    refine Hx.aldI (n := 1032) rfl rfl (by omega) ?_
    refine Hx.call (t := 146) (as := [vr 64, vi 992, vi (M 65 (1014 + i))]) (pc' := 47) (rest := []) rfl (r_bars_992 (M 65 (1014 + i)) M (by omega) (by omega)) ?_
    rintro _ _ ⟨rfl, rfl⟩
    refine Hx.run 0 (pc' := 47) (L' := [some (vr 64), some (vi 992), some (vi i), some (vi d), some (vi 11), none]) (st' := [vi (bb (M 65 (999 + (M 65 (1014 + i)))) (bcF (M 65 (996 + (M 65 (1014 + i)))) ((M 65 994) % 24)))]) (M' := M) rfl ?_
    refine Hx.run 1 (pc' := 49) (L' := [some (vr 64), some (vi 992), some (vi i), some (vi d), some (vi 11), none]) (st' := [vi 11, vi (bb (M 65 (999 + (M 65 (1014 + i)))) (bcF (M 65 (996 + (M 65 (1014 + i)))) ((M 65 994) % 24)))]) (M' := M) rfl ?_
    refine Hx.call (t := 131) (as := [vi (bb (M 65 (999 + (M 65 (1014 + i)))) (bcF (M 65 (996 + (M 65 (1014 + i)))) ((M 65 994) % 24))), vi 11]) (pc' := 52) (rest := []) rfl (r_has (bb (M 65 (999 + (M 65 (1014 + i)))) (bcF (M 65 (996 + (M 65 (1014 + i)))) ((M 65 994) % 24))) 11 M (by omega) (by omega)) ?_
    rintro _ _ (⟨q42, rfl, rfl⟩ | ⟨q42, rfl, rfl⟩)
    · skip
      refine Hx.run 5 (pc' := 61) (L' := [some (vr 64), some (vi 992), some (vi i), some (vi d), some (vi 11), some (vi 1)]) (st' := [vi 28, vi 992, vr 65]) (M' := M) rfl ?_
      refine Hx.add rfl (by omega) ?_
      refine Hx.run 0 (pc' := 62) (L' := [some (vr 64), some (vi 992), some (vi i), some (vi d), some (vi 11), some (vi 1)]) (st' := [vi 1020, vr 65]) (M' := M) rfl ?_
      refine Hx.run 1 (pc' := 63) (L' := [some (vr 64), some (vi 992), some (vi i), some (vi d), some (vi 11), some (vi 1)]) (st' := [vi i, vi 1020, vr 65]) (M' := M) rfl ?_
      refine Hx.add rfl (by omega) ?_
      refine Hx.run 4 (pc' := 75) (L' := [some (vr 64), some (vi 992), some (vi i), some (vi d), some (vi 11), some (vi 1)]) (st' := [vi 0, vi (1020 + i), vr 65]) (M' := M) rfl ?_
      refine Hx.astI (n := 1032) rfl rfl (by omega) ?_
      refine Hx.run 4 (pc' := 82) (L' := [some (vr 64), some (vi 992), some (vi i), some (vi d), some (vi 11), some (vi 1)]) (st' := [vi 3, vi 992, vr 65]) (M' := (up M 65 (1020 + i) 0)) rfl ?_
      refine Hx.add rfl (by omega) ?_
      refine Hx.run 0 (pc' := 83) (L' := [some (vr 64), some (vi 992), some (vi i), some (vi d), some (vi 11), some (vi 1)]) (st' := [vi 995, vr 65]) (M' := (up M 65 (1020 + i) 0)) rfl ?_
      refine Hx.run 1 (pc' := 84) (L' := [some (vr 64), some (vi 992), some (vi i), some (vi d), some (vi 11), some (vi 1)]) (st' := [vi 995, vr 65, vi 995, vr 65]) (M' := (up M 65 (1020 + i) 0)) rfl ?_
      refine Hx.aldI (n := 1032) rfl rfl (by omega) ?_
      refine Hx.eqS (st' := [vi (M 65 995), vi 995, vr 65]) (by rw [show ((up M 65 (1020 + i) 0) 65 995) = (M 65 995) from by rw [up_off (by omega)]]) ?_
      refine Hx.run 6 (pc' := 96) (L' := [some (vr 64), some (vi 992), some (vi i), some (vi d), some (vi 11), some (vi 1)]) (st' := [vi 3, vi 992, vr 65, vi (M 65 995), vi 995, vr 65]) (M' := (up M 65 (1020 + i) 0)) rfl ?_
      refine Hx.add rfl (by omega) ?_
      refine Hx.run 0 (pc' := 97) (L' := [some (vr 64), some (vi 992), some (vi i), some (vi d), some (vi 11), some (vi 1)]) (st' := [vi 995, vr 65, vi (M 65 995), vi 995, vr 65]) (M' := (up M 65 (1020 + i) 0)) rfl ?_
      refine Hx.aldI (n := 1032) rfl rfl (by omega) ?_
      refine Hx.eqS (st' := [vi (M 65 995), vi (M 65 995), vi 995, vr 65]) (by rw [show ((up M 65 (1020 + i) 0) 65 995) = (M 65 995) from by rw [up_off (by omega)]]) ?_
      refine Hx.run 1 (pc' := 101) (L' := [some (vr 64), some (vi 992), some (vi i), some (vi d), some (vi 11), some (vi 1)]) (st' := [vi 9999, vi (M 65 995), vi (M 65 995), vi 995, vr 65]) (M' := (up M 65 (1020 + i) 0)) rfl ?_
      refine Hx.br (c := (M 65 995) < 9999) (t := 104) (f := 108) rfl (fun h2 => ?_) (fun h2 => ?_)
      · skip
        refine Hx.run 2 (pc' := 109) (L' := [some (vr 64), some (vi 992), some (vi i), some (vi d), some (vi 11), some (vi 1)]) (st' := [vi 1, vi (M 65 995), vi 995, vr 65]) (M' := (up M 65 (1020 + i) 0)) rfl ?_
        refine Hx.add rfl (by omega) ?_
        refine Hx.astI (n := 1032) rfl rfl (by omega) ?_
        refine Hx.ret rfl ?_
        exact Or.inl ⟨(by rw [show (min 11 ((M 65 (1020 + i)) + d)) = 11 by omega]; exact q42), rfl, by rw [show min 9999 ((M 65 995) + 1) = ((M 65 995) + 1) by omega]⟩
      · skip
        refine Hx.run 1 (pc' := 109) (L' := [some (vr 64), some (vi 992), some (vi i), some (vi d), some (vi 11), some (vi 1)]) (st' := [vi 0, vi (M 65 995), vi 995, vr 65]) (M' := (up M 65 (1020 + i) 0)) rfl ?_
        refine Hx.add rfl (by omega) ?_
        refine Hx.astI (n := 1032) rfl rfl (by omega) ?_
        refine Hx.ret rfl ?_
        exact Or.inl ⟨(by rw [show (min 11 ((M 65 (1020 + i)) + d)) = 11 by omega]; exact q42), rfl, by rw [show min 9999 ((M 65 995) + 1) = ((M 65 995) + 0) by omega]⟩
    · skip
      refine Hx.run 5 (pc' := 61) (L' := [some (vr 64), some (vi 992), some (vi i), some (vi d), some (vi 11), some (vi 0)]) (st' := [vi 28, vi 992, vr 65]) (M' := M) rfl ?_
      refine Hx.add rfl (by omega) ?_
      refine Hx.run 0 (pc' := 62) (L' := [some (vr 64), some (vi 992), some (vi i), some (vi d), some (vi 11), some (vi 0)]) (st' := [vi 1020, vr 65]) (M' := M) rfl ?_
      refine Hx.run 1 (pc' := 63) (L' := [some (vr 64), some (vi 992), some (vi i), some (vi d), some (vi 11), some (vi 0)]) (st' := [vi i, vi 1020, vr 65]) (M' := M) rfl ?_
      refine Hx.add rfl (by omega) ?_
      refine Hx.run 3 (pc' := 75) (L' := [some (vr 64), some (vi 992), some (vi i), some (vi d), some (vi 11), some (vi 0)]) (st' := [vi 11, vi (1020 + i), vr 65]) (M' := M) rfl ?_
      refine Hx.astI (n := 1032) rfl rfl (by omega) ?_
      refine Hx.run 4 (pc' := 82) (L' := [some (vr 64), some (vi 992), some (vi i), some (vi d), some (vi 11), some (vi 0)]) (st' := [vi 3, vi 992, vr 65]) (M' := (up M 65 (1020 + i) 11)) rfl ?_
      refine Hx.add rfl (by omega) ?_
      refine Hx.run 0 (pc' := 83) (L' := [some (vr 64), some (vi 992), some (vi i), some (vi d), some (vi 11), some (vi 0)]) (st' := [vi 995, vr 65]) (M' := (up M 65 (1020 + i) 11)) rfl ?_
      refine Hx.run 1 (pc' := 84) (L' := [some (vr 64), some (vi 992), some (vi i), some (vi d), some (vi 11), some (vi 0)]) (st' := [vi 995, vr 65, vi 995, vr 65]) (M' := (up M 65 (1020 + i) 11)) rfl ?_
      refine Hx.aldI (n := 1032) rfl rfl (by omega) ?_
      refine Hx.eqS (st' := [vi (M 65 995), vi 995, vr 65]) (by rw [show ((up M 65 (1020 + i) 11) 65 995) = (M 65 995) from by rw [up_off (by omega)]]) ?_
      refine Hx.run 3 (pc' := 109) (L' := [some (vr 64), some (vi 992), some (vi i), some (vi d), some (vi 11), some (vi 0)]) (st' := [vi 0, vi (M 65 995), vi 995, vr 65]) (M' := (up M 65 (1020 + i) 11)) rfl ?_
      refine Hx.add rfl (by omega) ?_
      refine Hx.astI (n := 1032) rfl rfl (by omega) ?_
      refine Hx.ret rfl ?_
      exact Or.inr ⟨(by rw [show (min 11 ((M 65 (1020 + i)) + d)) = 11 by omega]; exact q42), rfl, by rw [show (min 11 ((M 65 (1020 + i)) + d)) = 11 by omega, show ((M 65 995) + 0) = M 65 995 by omega]⟩
  · skip
    refine Hx.run 8 (pc' := 40) (L' := [some (vr 64), some (vi 992), some (vi i), some (vi d), some (vi ((M 65 (1020 + i)) + d)), none]) (st' := [vi 22, vi 992, vr 65, vi 992, vr 64]) (M' := M) rfl ?_
    refine Hx.add rfl (by omega) ?_
    refine Hx.run 0 (pc' := 41) (L' := [some (vr 64), some (vi 992), some (vi i), some (vi d), some (vi ((M 65 (1020 + i)) + d)), none]) (st' := [vi 1014, vr 65, vi 992, vr 64]) (M' := M) rfl ?_
    refine Hx.run 1 (pc' := 42) (L' := [some (vr 64), some (vi 992), some (vi i), some (vi d), some (vi ((M 65 (1020 + i)) + d)), none]) (st' := [vi i, vi 1014, vr 65, vi 992, vr 64]) (M' := M) rfl ?_
    refine Hx.add rfl (by omega) ?_
    refine Hx.aldI (n := 1032) rfl rfl (by omega) ?_
    refine Hx.call (t := 146) (as := [vr 64, vi 992, vi (M 65 (1014 + i))]) (pc' := 47) (rest := []) rfl (r_bars_992 (M 65 (1014 + i)) M (by omega) (by omega)) ?_
    rintro _ _ ⟨rfl, rfl⟩
    refine Hx.run 0 (pc' := 47) (L' := [some (vr 64), some (vi 992), some (vi i), some (vi d), some (vi ((M 65 (1020 + i)) + d)), none]) (st' := [vi (bb (M 65 (999 + (M 65 (1014 + i)))) (bcF (M 65 (996 + (M 65 (1014 + i)))) ((M 65 994) % 24)))]) (M' := M) rfl ?_
    refine Hx.run 1 (pc' := 49) (L' := [some (vr 64), some (vi 992), some (vi i), some (vi d), some (vi ((M 65 (1020 + i)) + d)), none]) (st' := [vi ((M 65 (1020 + i)) + d), vi (bb (M 65 (999 + (M 65 (1014 + i)))) (bcF (M 65 (996 + (M 65 (1014 + i)))) ((M 65 994) % 24)))]) (M' := M) rfl ?_
    refine Hx.call (t := 131) (as := [vi (bb (M 65 (999 + (M 65 (1014 + i)))) (bcF (M 65 (996 + (M 65 (1014 + i)))) ((M 65 994) % 24))), vi ((M 65 (1020 + i)) + d)]) (pc' := 52) (rest := []) rfl (r_has (bb (M 65 (999 + (M 65 (1014 + i)))) (bcF (M 65 (996 + (M 65 (1014 + i)))) ((M 65 994) % 24))) ((M 65 (1020 + i)) + d) M (by omega) (by omega)) ?_
    rintro _ _ (⟨q43, rfl, rfl⟩ | ⟨q43, rfl, rfl⟩)
    · skip
      refine Hx.run 5 (pc' := 61) (L' := [some (vr 64), some (vi 992), some (vi i), some (vi d), some (vi ((M 65 (1020 + i)) + d)), some (vi 1)]) (st' := [vi 28, vi 992, vr 65]) (M' := M) rfl ?_
      refine Hx.add rfl (by omega) ?_
      refine Hx.run 0 (pc' := 62) (L' := [some (vr 64), some (vi 992), some (vi i), some (vi d), some (vi ((M 65 (1020 + i)) + d)), some (vi 1)]) (st' := [vi 1020, vr 65]) (M' := M) rfl ?_
      refine Hx.run 1 (pc' := 63) (L' := [some (vr 64), some (vi 992), some (vi i), some (vi d), some (vi ((M 65 (1020 + i)) + d)), some (vi 1)]) (st' := [vi i, vi 1020, vr 65]) (M' := M) rfl ?_
      refine Hx.add rfl (by omega) ?_
      refine Hx.run 4 (pc' := 75) (L' := [some (vr 64), some (vi 992), some (vi i), some (vi d), some (vi ((M 65 (1020 + i)) + d)), some (vi 1)]) (st' := [vi 0, vi (1020 + i), vr 65]) (M' := M) rfl ?_
      refine Hx.astI (n := 1032) rfl rfl (by omega) ?_
      refine Hx.run 4 (pc' := 82) (L' := [some (vr 64), some (vi 992), some (vi i), some (vi d), some (vi ((M 65 (1020 + i)) + d)), some (vi 1)]) (st' := [vi 3, vi 992, vr 65]) (M' := (up M 65 (1020 + i) 0)) rfl ?_
      refine Hx.add rfl (by omega) ?_
      refine Hx.run 0 (pc' := 83) (L' := [some (vr 64), some (vi 992), some (vi i), some (vi d), some (vi ((M 65 (1020 + i)) + d)), some (vi 1)]) (st' := [vi 995, vr 65]) (M' := (up M 65 (1020 + i) 0)) rfl ?_
      refine Hx.run 1 (pc' := 84) (L' := [some (vr 64), some (vi 992), some (vi i), some (vi d), some (vi ((M 65 (1020 + i)) + d)), some (vi 1)]) (st' := [vi 995, vr 65, vi 995, vr 65]) (M' := (up M 65 (1020 + i) 0)) rfl ?_
      refine Hx.aldI (n := 1032) rfl rfl (by omega) ?_
      refine Hx.eqS (st' := [vi (M 65 995), vi 995, vr 65]) (by rw [show ((up M 65 (1020 + i) 0) 65 995) = (M 65 995) from by rw [up_off (by omega)]]) ?_
      refine Hx.run 6 (pc' := 96) (L' := [some (vr 64), some (vi 992), some (vi i), some (vi d), some (vi ((M 65 (1020 + i)) + d)), some (vi 1)]) (st' := [vi 3, vi 992, vr 65, vi (M 65 995), vi 995, vr 65]) (M' := (up M 65 (1020 + i) 0)) rfl ?_
      refine Hx.add rfl (by omega) ?_
      refine Hx.run 0 (pc' := 97) (L' := [some (vr 64), some (vi 992), some (vi i), some (vi d), some (vi ((M 65 (1020 + i)) + d)), some (vi 1)]) (st' := [vi 995, vr 65, vi (M 65 995), vi 995, vr 65]) (M' := (up M 65 (1020 + i) 0)) rfl ?_
      refine Hx.aldI (n := 1032) rfl rfl (by omega) ?_
      refine Hx.eqS (st' := [vi (M 65 995), vi (M 65 995), vi 995, vr 65]) (by rw [show ((up M 65 (1020 + i) 0) 65 995) = (M 65 995) from by rw [up_off (by omega)]]) ?_
      refine Hx.run 1 (pc' := 101) (L' := [some (vr 64), some (vi 992), some (vi i), some (vi d), some (vi ((M 65 (1020 + i)) + d)), some (vi 1)]) (st' := [vi 9999, vi (M 65 995), vi (M 65 995), vi 995, vr 65]) (M' := (up M 65 (1020 + i) 0)) rfl ?_
      refine Hx.br (c := (M 65 995) < 9999) (t := 104) (f := 108) rfl (fun h3 => ?_) (fun h3 => ?_)
      · skip
        refine Hx.run 2 (pc' := 109) (L' := [some (vr 64), some (vi 992), some (vi i), some (vi d), some (vi ((M 65 (1020 + i)) + d)), some (vi 1)]) (st' := [vi 1, vi (M 65 995), vi 995, vr 65]) (M' := (up M 65 (1020 + i) 0)) rfl ?_
        refine Hx.add rfl (by omega) ?_
        refine Hx.astI (n := 1032) rfl rfl (by omega) ?_
        refine Hx.ret rfl ?_
        exact Or.inl ⟨(by rw [show (min 11 ((M 65 (1020 + i)) + d)) = ((M 65 (1020 + i)) + d) by omega]; exact q43), rfl, by rw [show min 9999 ((M 65 995) + 1) = ((M 65 995) + 1) by omega]⟩
      · skip
        refine Hx.run 1 (pc' := 109) (L' := [some (vr 64), some (vi 992), some (vi i), some (vi d), some (vi ((M 65 (1020 + i)) + d)), some (vi 1)]) (st' := [vi 0, vi (M 65 995), vi 995, vr 65]) (M' := (up M 65 (1020 + i) 0)) rfl ?_
        refine Hx.add rfl (by omega) ?_
        refine Hx.astI (n := 1032) rfl rfl (by omega) ?_
        refine Hx.ret rfl ?_
        exact Or.inl ⟨(by rw [show (min 11 ((M 65 (1020 + i)) + d)) = ((M 65 (1020 + i)) + d) by omega]; exact q43), rfl, by rw [show min 9999 ((M 65 995) + 1) = ((M 65 995) + 0) by omega]⟩
    · skip
      refine Hx.run 5 (pc' := 61) (L' := [some (vr 64), some (vi 992), some (vi i), some (vi d), some (vi ((M 65 (1020 + i)) + d)), some (vi 0)]) (st' := [vi 28, vi 992, vr 65]) (M' := M) rfl ?_
      refine Hx.add rfl (by omega) ?_
      refine Hx.run 0 (pc' := 62) (L' := [some (vr 64), some (vi 992), some (vi i), some (vi d), some (vi ((M 65 (1020 + i)) + d)), some (vi 0)]) (st' := [vi 1020, vr 65]) (M' := M) rfl ?_
      refine Hx.run 1 (pc' := 63) (L' := [some (vr 64), some (vi 992), some (vi i), some (vi d), some (vi ((M 65 (1020 + i)) + d)), some (vi 0)]) (st' := [vi i, vi 1020, vr 65]) (M' := M) rfl ?_
      refine Hx.add rfl (by omega) ?_
      refine Hx.run 3 (pc' := 75) (L' := [some (vr 64), some (vi 992), some (vi i), some (vi d), some (vi ((M 65 (1020 + i)) + d)), some (vi 0)]) (st' := [vi ((M 65 (1020 + i)) + d), vi (1020 + i), vr 65]) (M' := M) rfl ?_
      refine Hx.astI (n := 1032) rfl rfl (by omega) ?_
      refine Hx.run 4 (pc' := 82) (L' := [some (vr 64), some (vi 992), some (vi i), some (vi d), some (vi ((M 65 (1020 + i)) + d)), some (vi 0)]) (st' := [vi 3, vi 992, vr 65]) (M' := (up M 65 (1020 + i) ((M 65 (1020 + i)) + d))) rfl ?_
      refine Hx.add rfl (by omega) ?_
      refine Hx.run 0 (pc' := 83) (L' := [some (vr 64), some (vi 992), some (vi i), some (vi d), some (vi ((M 65 (1020 + i)) + d)), some (vi 0)]) (st' := [vi 995, vr 65]) (M' := (up M 65 (1020 + i) ((M 65 (1020 + i)) + d))) rfl ?_
      refine Hx.run 1 (pc' := 84) (L' := [some (vr 64), some (vi 992), some (vi i), some (vi d), some (vi ((M 65 (1020 + i)) + d)), some (vi 0)]) (st' := [vi 995, vr 65, vi 995, vr 65]) (M' := (up M 65 (1020 + i) ((M 65 (1020 + i)) + d))) rfl ?_
      refine Hx.aldI (n := 1032) rfl rfl (by omega) ?_
      refine Hx.eqS (st' := [vi (M 65 995), vi 995, vr 65]) (by rw [show ((up M 65 (1020 + i) ((M 65 (1020 + i)) + d)) 65 995) = (M 65 995) from by rw [up_off (by omega)]]) ?_
      refine Hx.run 3 (pc' := 109) (L' := [some (vr 64), some (vi 992), some (vi i), some (vi d), some (vi ((M 65 (1020 + i)) + d)), some (vi 0)]) (st' := [vi 0, vi (M 65 995), vi 995, vr 65]) (M' := (up M 65 (1020 + i) ((M 65 (1020 + i)) + d))) rfl ?_
      refine Hx.add rfl (by omega) ?_
      refine Hx.astI (n := 1032) rfl rfl (by omega) ?_
      refine Hx.ret rfl ?_
      exact Or.inr ⟨(by rw [show (min 11 ((M 65 (1020 + i)) + d)) = ((M 65 (1020 + i)) + d) by omega]; exact q43), rfl, by rw [show (min 11 ((M 65 (1020 + i)) + d)) = ((M 65 (1020 + i)) + d) by omega, show ((M 65 995) + 0) = M 65 995 by omega]⟩
