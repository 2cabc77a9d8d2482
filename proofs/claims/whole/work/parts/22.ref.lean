/-! the reference: bars, strides, copies (written by wip/whole/gen22.py) -/
theorem bf_or2 {s : Int} {j : Nat} (hs : 1 ≤ s ∧ s ≤ 10) (hj : j < 3) (h : s + j < 11) : i2 fior (bb s (j : Int)) (i2 fshl 1 (s + (j : Int))) = bb s ((j + 1 : Nat) : Int) := by
  obtain ⟨i, rfl⟩ : ∃ i : Nat, s = i := ⟨s.toNat, by omega⟩
  have := bf_or ⟨i, by omega⟩ ⟨j, by omega⟩ (by show 1 ≤ i; omega) (by show i + j < 11; omega)
  simpa using this
theorem bf_cut2 {s n : Int} {j : Nat} (hs : 1 ≤ s ∧ s ≤ 10) (hn : 0 ≤ n ∧ n ≤ 3) (h : s + j = 11) (hj : (j : Int) ≤ n) : bb s (j : Int) = bb s n := by
  obtain ⟨i, rfl⟩ : ∃ i : Nat, s = i := ⟨s.toNat, by omega⟩
  obtain ⟨k, rfl⟩ : ∃ k : Nat, n = k := ⟨n.toNat, by omega⟩
  have := bf_cut ⟨i, by omega⟩ ⟨j, by omega⟩ ⟨k, by omega⟩ (by show 1 ≤ i; omega) (by show i + j = 11; omega) (by show j ≤ k; omega)
  simpa using this
set_option maxRecDepth 100000 in
theorem rl_barsFrom (k s t : Int) (M : Mm) (hk : 0 ≤ k ∧ k ≤ 5) (hs : 1 ≤ s ∧ s ≤ 10) (ht : 0 ≤ t ∧ t < 24) : ∀ (kk : Nat) (j : Nat), (j : Int) ≤ bcF k t ∧ s + (j : Int) ≤ 11 → 11 - s - (j : Int) < (kk : Int) → Hx 145 5 [some (vi k), some (vi s), some (vi t), some (vi (bb s (j : Int))), some (vi (s + (j : Int)))] [] M (fun q0 M' => q0 = some (vi (bb s (bcF k t))) ∧ M = M') := by
  intro kk
  induction kk with
  | zero => intro j _ hkk; exact absurd hkk (by omega)
  | succ kk ih =>
    intro j hj hkk
    have hbc := bcF_rng (k := k) (t := t)
    refine Hx.run 4 (pc' := 10) (L' := [some (vi k), some (vi s), some (vi t), some (vi (bb s (j : Int))), some (vi (s + (j : Int)))]) (st' := [vi t, vi k, vi s, vi (s + (j : Int))]) (M' := M) rfl ?_
    refine Hx.call (t := 142) (as := [vi k, vi t]) (pc' := 13) (rest := [vi s, vi (s + (j : Int))]) rfl (r_barsOf k t M (by omega) (by omega)) ?_
    rintro _ _ ⟨rfl, rfl⟩
    refine Hx.run 0 (pc' := 13) (L' := [some (vi k), some (vi s), some (vi t), some (vi (bb s (j : Int))), some (vi (s + (j : Int)))]) (st' := [vi (bcF k t), vi s, vi (s + (j : Int))]) (M' := M) rfl ?_
    refine Hx.add rfl (by omega) ?_
    refine Hx.br (c := (s + (j : Int)) < (s + (bcF k t))) (t := 17) (f := 37) rfl (fun h1 => ?_) (fun h1 => ?_)
    · skip
      refine Hx.run 2 (pc' := 21) (L' := [some (vi k), some (vi s), some (vi t), some (vi (bb s (j : Int))), some (vi (s + (j : Int)))]) (st' := [vi 11, vi (s + (j : Int))]) (M' := M) rfl ?_
      refine Hx.br (c := (s + (j : Int)) < 11) (t := 24) (f := 37) rfl (fun h2 => ?_) (fun h2 => ?_)
      · skip
        refine Hx.run 6 (pc' := 31) (L' := [some (vi k), some (vi s), some (vi t), some (vi (i2 fior (bb s (j : Int)) (i2 fshl 1 (s + (j : Int))))), some (vi (s + (j : Int)))]) (st' := []) (M' := M) rfl ?_
        refine Hx.inc rfl rfl (by omega) ?_
        refine Hx.run 0 (pc' := 34) (L' := [some (vi k), some (vi s), some (vi t), some (vi (i2 fior (bb s (j : Int)) (i2 fshl 1 (s + (j : Int))))), some (vi ((s + (j : Int)) + 1))]) (st' := []) (M' := M) rfl ?_
        refine Hx.run 1 (pc' := 5) (L' := [some (vi k), some (vi s), some (vi t), some (vi (i2 fior (bb s (j : Int)) (i2 fshl 1 (s + (j : Int))))), some (vi ((s + (j : Int)) + 1))]) (st' := []) (M' := M) rfl ?_
        rw [bf_or2 hs (by omega) (by omega)]
        have h9 := ih (j + 1) (by omega) (by omega)
        rw [show s + ((j + 1 : Nat) : Int) = s + (j : Int) + 1 by omega] at h9
        exact h9
      · skip
        refine Hx.run 1 (pc' := 38) (L' := [some (vi k), some (vi s), some (vi t), some (vi (bb s (j : Int))), some (vi (s + (j : Int)))]) (st' := [vi (bb s (j : Int))]) (M' := M) rfl ?_
        refine Hx.ret rfl ?_
        first | exact ⟨by rw [show (j : Int) = bcF k t by omega], rfl⟩ | exact ⟨some_vi (bf_cut2 hs (by omega) (by omega) (by omega)), rfl⟩
    · skip
      refine Hx.run 1 (pc' := 38) (L' := [some (vi k), some (vi s), some (vi t), some (vi (bb s (j : Int))), some (vi (s + (j : Int)))]) (st' := [vi (bb s (j : Int))]) (M' := M) rfl ?_
      refine Hx.ret rfl ?_
      first | exact ⟨by rw [show (j : Int) = bcF k t by omega], rfl⟩ | exact ⟨some_vi (bf_cut2 hs (by omega) (by omega) (by omega)), rfl⟩
set_option maxRecDepth 100000 in
theorem r_barsFrom (k s t : Int) (M : Mm) (hk : 0 ≤ k ∧ k ≤ 5) (hs : 1 ≤ s ∧ s ≤ 10) (ht : 0 ≤ t ∧ t < 24) : Ct 145 [vi k, vi s, vi t] M (fun q0 M' => q0 = some (vi (bb s (bcF k t))) ∧ M = M') := by
  refine Hx.run 4 (pc' := 5) (L' := [some (vi k), some (vi s), some (vi t), some (vi 0), some (vi s)]) (st' := []) (M' := M) rfl ?_
  have h0 := rl_barsFrom k s t M hk hs ht 20 0 (by have := bcF_rng (k := k) (t := t); omega) (by omega)
  rw [show ((0 : Nat) : Int) = 0 from rfl, bb_0, Int.add_zero] at h0
  exact h0
set_option maxRecDepth 100000 in
theorem r_bars_0 (f : Int) (M : Mm) (hf : (0 ≤ f ∧ f < 3) ∧ (0 ≤ M 65 (4 + f) ∧ M 65 (4 + f) ≤ 5) ∧ (1 ≤ M 65 (7 + f) ∧ M 65 (7 + f) ≤ 10)) (hh : (0 ≤ M 65 2 ∧ M 65 2 ≤ 9999)) : Ct 146 [vr 64, vi 0, vi f] M (fun q0 M' => q0 = some (vi (bb (M 65 (7 + f)) (bcF (M 65 (4 + f)) ((M 65 2) % 24)))) ∧ M = M') := by
  refine Hx.run 4 (pc' := 6) (L' := [some (vr 64), some (vi 0), some (vi f)]) (st' := [vi 4, vi 0, vr 65]) (M' := M) rfl ?_
  refine Hx.add rfl (by omega) ?_
  refine Hx.run 0 (pc' := 7) (L' := [some (vr 64), some (vi 0), some (vi f)]) (st' := [vi 4, vr 65]) (M' := M) rfl ?_
  refine Hx.run 1 (pc' := 8) (L' := [some (vr 64), some (vi 0), some (vi f)]) (st' := [vi f, vi 4, vr 65]) (M' := M) rfl ?_
  refine Hx.add rfl (by omega) ?_
  refine Hx.aldI (n := 1032) rfl rfl (by omega) ?_
  refine Hx.run 4 (pc' := 17) (L' := [some (vr 64), some (vi 0), some (vi f)]) (st' := [vi 7, vi 0, vr 65, vi (M 65 (4 + f))]) (M' := M) rfl ?_
  refine Hx.add rfl (by omega) ?_
  refine Hx.run 0 (pc' := 18) (L' := [some (vr 64), some (vi 0), some (vi f)]) (st' := [vi 7, vr 65, vi (M 65 (4 + f))]) (M' := M) rfl ?_
  refine Hx.run 1 (pc' := 19) (L' := [some (vr 64), some (vi 0), some (vi f)]) (st' := [vi f, vi 7, vr 65, vi (M 65 (4 + f))]) (M' := M) rfl ?_
  refine Hx.add rfl (by omega) ?_
  refine Hx.aldI (n := 1032) rfl rfl (by omega) ?_
  refine Hx.run 4 (pc' := 27) (L' := [some (vr 64), some (vi 0), some (vi f)]) (st' := [vi 2, vi 0, vr 65, vi (M 65 (7 + f)), vi (M 65 (4 + f))]) (M' := M) rfl ?_
  refine Hx.add rfl (by omega) ?_
  refine Hx.run 0 (pc' := 28) (L' := [some (vr 64), some (vi 0), some (vi f)]) (st' := [vi 2, vr 65, vi (M 65 (7 + f)), vi (M 65 (4 + f))]) (M' := M) rfl ?_
  refine Hx.run 2 (pc' := 31) (L' := [some (vr 64), some (vi 0), some (vi f)]) (st' := [vi 24, vi (M 65 2), vi (M 65 (7 + f)), vi (M 65 (4 + f))]) (M' := M) rfl ?_
  refine Hx.rem rfl (by omega) ?_
  refine Hx.call (t := 145) (as := [vi (M 65 (4 + f)), vi (M 65 (7 + f)), vi ((M 65 2) % 24)]) (pc' := 35) (rest := []) rfl (r_barsFrom (M 65 (4 + f)) (M 65 (7 + f)) ((M 65 2) % 24) M (by omega) (by omega) (by omega)) ?_
  rintro _ _ ⟨rfl, rfl⟩
  refine Hx.run 0 (pc' := 35) (L' := [some (vr 64), some (vi 0), some (vi f)]) (st' := [vi (bb (M 65 (7 + f)) (bcF (M 65 (4 + f)) ((M 65 2) % 24)))]) (M' := M) rfl ?_
  refine Hx.ret rfl ?_
  exact ⟨rfl, rfl⟩
set_option maxRecDepth 100000 in
theorem r_stridesIn_0 (i : Int) (M : Mm) (hg : (0 ≤ i ∧ i < 6) ∧ (0 ≤ M 65 (10 + i) ∧ M 65 (10 + i) ≤ 5) ∧ (1 ≤ M 65 (16 + i) ∧ M 65 (16 + i) ≤ 4) ∧ (0 ≤ M 65 (22 + i) ∧ M 65 (22 + i) ≤ 2) ∧ (0 ≤ M 65 (28 + i) ∧ M 65 (28 + i) ≤ 11) ∧ (0 ≤ M 65 (34 + i) ∧ M 65 (34 + i) ≤ 9)) (hh : (0 ≤ M 65 2 ∧ M 65 2 ≤ 9999)) : Ct 147 [vr 64, vi 0, vi i] M (fun q0 M' => q0 = some (vi (sfF (M 65 (10 + i)) (M 65 (16 + i)) (M 65 (34 + i)) ((M 65 2) % 24))) ∧ M = M') := by
  refine Hx.run 4 (pc' := 7) (L' := [some (vr 64), some (vi 0), some (vi i)]) (st' := [vi 10, vi 0, vr 65]) (M' := M) rfl ?_
  refine Hx.add rfl (by omega) ?_
  refine Hx.run 0 (pc' := 8) (L' := [some (vr 64), some (vi 0), some (vi i)]) (st' := [vi 10, vr 65]) (M' := M) rfl ?_
  refine Hx.run 1 (pc' := 9) (L' := [some (vr 64), some (vi 0), some (vi i)]) (st' := [vi i, vi 10, vr 65]) (M' := M) rfl ?_
  refine Hx.add rfl (by omega) ?_
  refine Hx.aldI (n := 1032) rfl rfl (by omega) ?_
  refine Hx.run 4 (pc' := 18) (L' := [some (vr 64), some (vi 0), some (vi i)]) (st' := [vi 16, vi 0, vr 65, vi (M 65 (10 + i))]) (M' := M) rfl ?_
  refine Hx.add rfl (by omega) ?_
  refine Hx.run 0 (pc' := 19) (L' := [some (vr 64), some (vi 0), some (vi i)]) (st' := [vi 16, vr 65, vi (M 65 (10 + i))]) (M' := M) rfl ?_
  refine Hx.run 1 (pc' := 20) (L' := [some (vr 64), some (vi 0), some (vi i)]) (st' := [vi i, vi 16, vr 65, vi (M 65 (10 + i))]) (M' := M) rfl ?_
  refine Hx.add rfl (by omega) ?_
  refine Hx.aldI (n := 1032) rfl rfl (by omega) ?_
  refine Hx.run 4 (pc' := 29) (L' := [some (vr 64), some (vi 0), some (vi i)]) (st' := [vi 34, vi 0, vr 65, vi (M 65 (16 + i)), vi (M 65 (10 + i))]) (M' := M) rfl ?_
  refine Hx.add rfl (by omega) ?_
  refine Hx.run 0 (pc' := 30) (L' := [some (vr 64), some (vi 0), some (vi i)]) (st' := [vi 34, vr 65, vi (M 65 (16 + i)), vi (M 65 (10 + i))]) (M' := M) rfl ?_
  refine Hx.run 1 (pc' := 31) (L' := [some (vr 64), some (vi 0), some (vi i)]) (st' := [vi i, vi 34, vr 65, vi (M 65 (16 + i)), vi (M 65 (10 + i))]) (M' := M) rfl ?_
  refine Hx.add rfl (by omega) ?_
  refine Hx.aldI (n := 1032) rfl rfl (by omega) ?_
  refine Hx.run 4 (pc' := 39) (L' := [some (vr 64), some (vi 0), some (vi i)]) (st' := [vi 2, vi 0, vr 65, vi (M 65 (34 + i)), vi (M 65 (16 + i)), vi (M 65 (10 + i))]) (M' := M) rfl ?_
  refine Hx.add rfl (by omega) ?_
  refine Hx.run 0 (pc' := 40) (L' := [some (vr 64), some (vi 0), some (vi i)]) (st' := [vi 2, vr 65, vi (M 65 (34 + i)), vi (M 65 (16 + i)), vi (M 65 (10 + i))]) (M' := M) rfl ?_
  refine Hx.run 2 (pc' := 43) (L' := [some (vr 64), some (vi 0), some (vi i)]) (st' := [vi 24, vi (M 65 2), vi (M 65 (34 + i)), vi (M 65 (16 + i)), vi (M 65 (10 + i))]) (M' := M) rfl ?_
  refine Hx.rem rfl (by omega) ?_
  refine Hx.call (t := 144) (as := [vi (M 65 (10 + i)), vi (M 65 (16 + i)), vi (M 65 (34 + i)), vi ((M 65 2) % 24)]) (pc' := 47) (rest := []) rfl (r_stridesOf (M 65 (10 + i)) (M 65 (16 + i)) (M 65 (34 + i)) ((M 65 2) % 24) M (by omega) (by omega) (by omega) (by omega)) ?_
  rintro _ _ ⟨rfl, rfl⟩
  refine Hx.run 0 (pc' := 47) (L' := [some (vr 64), some (vi 0), some (vi i)]) (st' := [vi (sfF (M 65 (10 + i)) (M 65 (16 + i)) (M 65 (34 + i)) ((M 65 2) % 24))]) (M' := M) rfl ?_
  refine Hx.ret rfl ?_
  exact ⟨rfl, rfl⟩
set_option maxRecDepth 100000 in
theorem r_bars_744 (f : Int) (M : Mm) (hf : (0 ≤ f ∧ f < 3) ∧ (0 ≤ M 65 (748 + f) ∧ M 65 (748 + f) ≤ 5) ∧ (1 ≤ M 65 (751 + f) ∧ M 65 (751 + f) ≤ 10)) (hh : (0 ≤ M 65 746 ∧ M 65 746 ≤ 9999)) : Ct 146 [vr 64, vi 744, vi f] M (fun q0 M' => q0 = some (vi (bb (M 65 (751 + f)) (bcF (M 65 (748 + f)) ((M 65 746) % 24)))) ∧ M = M') := by
  refine Hx.run 4 (pc' := 6) (L' := [some (vr 64), some (vi 744), some (vi f)]) (st' := [vi 4, vi 744, vr 65]) (M' := M) rfl ?_
  refine Hx.add rfl (by omega) ?_
  refine Hx.run 0 (pc' := 7) (L' := [some (vr 64), some (vi 744), some (vi f)]) (st' := [vi 748, vr 65]) (M' := M) rfl ?_
  refine Hx.run 1 (pc' := 8) (L' := [some (vr 64), some (vi 744), some (vi f)]) (st' := [vi f, vi 748, vr 65]) (M' := M) rfl ?_
  refine Hx.add rfl (by omega) ?_
  refine Hx.aldI (n := 1032) rfl rfl (by omega) ?_
  refine Hx.run 4 (pc' := 17) (L' := [some (vr 64), some (vi 744), some (vi f)]) (st' := [vi 7, vi 744, vr 65, vi (M 65 (748 + f))]) (M' := M) rfl ?_
  refine Hx.add rfl (by omega) ?_
  refine Hx.run 0 (pc' := 18) (L' := [some (vr 64), some (vi 744), some (vi f)]) (st' := [vi 751, vr 65, vi (M 65 (748 + f))]) (M' := M) rfl ?_
  refine Hx.run 1 (pc' := 19) (L' := [some (vr 64), some (vi 744), some (vi f)]) (st' := [vi f, vi 751, vr 65, vi (M 65 (748 + f))]) (M' := M) rfl ?_
  refine Hx.add rfl (by omega) ?_
  refine Hx.aldI (n := 1032) rfl rfl (by omega) ?_
  refine Hx.run 4 (pc' := 27) (L' := [some (vr 64), some (vi 744), some (vi f)]) (st' := [vi 2, vi 744, vr 65, vi (M 65 (751 + f)), vi (M 65 (748 + f))]) (M' := M) rfl ?_
  refine Hx.add rfl (by omega) ?_
  refine Hx.run 0 (pc' := 28) (L' := [some (vr 64), some (vi 744), some (vi f)]) (st' := [vi 746, vr 65, vi (M 65 (751 + f)), vi (M 65 (748 + f))]) (M' := M) rfl ?_
  refine Hx.run 2 (pc' := 31) (L' := [some (vr 64), some (vi 744), some (vi f)]) (st' := [vi 24, vi (M 65 746), vi (M 65 (751 + f)), vi (M 65 (748 + f))]) (M' := M) rfl ?_
  refine Hx.rem rfl (by omega) ?_
  refine Hx.call (t := 145) (as := [vi (M 65 (748 + f)), vi (M 65 (751 + f)), vi ((M 65 746) % 24)]) (pc' := 35) (rest := []) rfl (r_barsFrom (M 65 (748 + f)) (M 65 (751 + f)) ((M 65 746) % 24) M (by omega) (by omega) (by omega)) ?_
  rintro _ _ ⟨rfl, rfl⟩
  refine Hx.run 0 (pc' := 35) (L' := [some (vr 64), some (vi 744), some (vi f)]) (st' := [vi (bb (M 65 (751 + f)) (bcF (M 65 (748 + f)) ((M 65 746) % 24)))]) (M' := M) rfl ?_
  refine Hx.ret rfl ?_
  exact ⟨rfl, rfl⟩
set_option maxRecDepth 100000 in
theorem r_stridesIn_744 (i : Int) (M : Mm) (hg : (0 ≤ i ∧ i < 6) ∧ (0 ≤ M 65 (754 + i) ∧ M 65 (754 + i) ≤ 5) ∧ (1 ≤ M 65 (760 + i) ∧ M 65 (760 + i) ≤ 4) ∧ (0 ≤ M 65 (766 + i) ∧ M 65 (766 + i) ≤ 2) ∧ (0 ≤ M 65 (772 + i) ∧ M 65 (772 + i) ≤ 11) ∧ (0 ≤ M 65 (778 + i) ∧ M 65 (778 + i) ≤ 9)) (hh : (0 ≤ M 65 746 ∧ M 65 746 ≤ 9999)) : Ct 147 [vr 64, vi 744, vi i] M (fun q0 M' => q0 = some (vi (sfF (M 65 (754 + i)) (M 65 (760 + i)) (M 65 (778 + i)) ((M 65 746) % 24))) ∧ M = M') := by
  refine Hx.run 4 (pc' := 7) (L' := [some (vr 64), some (vi 744), some (vi i)]) (st' := [vi 10, vi 744, vr 65]) (M' := M) rfl ?_
  refine Hx.add rfl (by omega) ?_
  refine Hx.run 0 (pc' := 8) (L' := [some (vr 64), some (vi 744), some (vi i)]) (st' := [vi 754, vr 65]) (M' := M) rfl ?_
  refine Hx.run 1 (pc' := 9) (L' := [some (vr 64), some (vi 744), some (vi i)]) (st' := [vi i, vi 754, vr 65]) (M' := M) rfl ?_
  refine Hx.add rfl (by omega) ?_
  refine Hx.aldI (n := 1032) rfl rfl (by omega) ?_
  refine Hx.run 4 (pc' := 18) (L' := [some (vr 64), some (vi 744), some (vi i)]) (st' := [vi 16, vi 744, vr 65, vi (M 65 (754 + i))]) (M' := M) rfl ?_
  refine Hx.add rfl (by omega) ?_
  refine Hx.run 0 (pc' := 19) (L' := [some (vr 64), some (vi 744), some (vi i)]) (st' := [vi 760, vr 65, vi (M 65 (754 + i))]) (M' := M) rfl ?_
  refine Hx.run 1 (pc' := 20) (L' := [some (vr 64), some (vi 744), some (vi i)]) (st' := [vi i, vi 760, vr 65, vi (M 65 (754 + i))]) (M' := M) rfl ?_
  refine Hx.add rfl (by omega) ?_
  refine Hx.aldI (n := 1032) rfl rfl (by omega) ?_
  refine Hx.run 4 (pc' := 29) (L' := [some (vr 64), some (vi 744), some (vi i)]) (st' := [vi 34, vi 744, vr 65, vi (M 65 (760 + i)), vi (M 65 (754 + i))]) (M' := M) rfl ?_
  refine Hx.add rfl (by omega) ?_
  refine Hx.run 0 (pc' := 30) (L' := [some (vr 64), some (vi 744), some (vi i)]) (st' := [vi 778, vr 65, vi (M 65 (760 + i)), vi (M 65 (754 + i))]) (M' := M) rfl ?_
  refine Hx.run 1 (pc' := 31) (L' := [some (vr 64), some (vi 744), some (vi i)]) (st' := [vi i, vi 778, vr 65, vi (M 65 (760 + i)), vi (M 65 (754 + i))]) (M' := M) rfl ?_
  refine Hx.add rfl (by omega) ?_
  refine Hx.aldI (n := 1032) rfl rfl (by omega) ?_
  refine Hx.run 4 (pc' := 39) (L' := [some (vr 64), some (vi 744), some (vi i)]) (st' := [vi 2, vi 744, vr 65, vi (M 65 (778 + i)), vi (M 65 (760 + i)), vi (M 65 (754 + i))]) (M' := M) rfl ?_
  refine Hx.add rfl (by omega) ?_
  refine Hx.run 0 (pc' := 40) (L' := [some (vr 64), some (vi 744), some (vi i)]) (st' := [vi 746, vr 65, vi (M 65 (778 + i)), vi (M 65 (760 + i)), vi (M 65 (754 + i))]) (M' := M) rfl ?_
  refine Hx.run 2 (pc' := 43) (L' := [some (vr 64), some (vi 744), some (vi i)]) (st' := [vi 24, vi (M 65 746), vi (M 65 (778 + i)), vi (M 65 (760 + i)), vi (M 65 (754 + i))]) (M' := M) rfl ?_
  refine Hx.rem rfl (by omega) ?_
  refine Hx.call (t := 144) (as := [vi (M 65 (754 + i)), vi (M 65 (760 + i)), vi (M 65 (778 + i)), vi ((M 65 746) % 24)]) (pc' := 47) (rest := []) rfl (r_stridesOf (M 65 (754 + i)) (M 65 (760 + i)) (M 65 (778 + i)) ((M 65 746) % 24) M (by omega) (by omega) (by omega) (by omega)) ?_
  rintro _ _ ⟨rfl, rfl⟩
  refine Hx.run 0 (pc' := 47) (L' := [some (vr 64), some (vi 744), some (vi i)]) (st' := [vi (sfF (M 65 (754 + i)) (M 65 (760 + i)) (M 65 (778 + i)) ((M 65 746) % 24))]) (M' := M) rfl ?_
  refine Hx.ret rfl ?_
  exact ⟨rfl, rfl⟩
set_option maxRecDepth 100000 in
theorem r_bars_992 (f : Int) (M : Mm) (hf : (0 ≤ f ∧ f < 3) ∧ (0 ≤ M 65 (996 + f) ∧ M 65 (996 + f) ≤ 5) ∧ (1 ≤ M 65 (999 + f) ∧ M 65 (999 + f) ≤ 10)) (hh : (0 ≤ M 65 994 ∧ M 65 994 ≤ 9999)) : Ct 146 [vr 64, vi 992, vi f] M (fun q0 M' => q0 = some (vi (bb (M 65 (999 + f)) (bcF (M 65 (996 + f)) ((M 65 994) % 24)))) ∧ M = M') := by
  refine Hx.run 4 (pc' := 6) (L' := [some (vr 64), some (vi 992), some (vi f)]) (st' := [vi 4, vi 992, vr 65]) (M' := M) rfl ?_
  refine Hx.add rfl (by omega) ?_
  refine Hx.run 0 (pc' := 7) (L' := [some (vr 64), some (vi 992), some (vi f)]) (st' := [vi 996, vr 65]) (M' := M) rfl ?_
  refine Hx.run 1 (pc' := 8) (L' := [some (vr 64), some (vi 992), some (vi f)]) (st' := [vi f, vi 996, vr 65]) (M' := M) rfl ?_
  refine Hx.add rfl (by omega) ?_
  refine Hx.aldI (n := 1032) rfl rfl (by omega) ?_
  refine Hx.run 4 (pc' := 17) (L' := [some (vr 64), some (vi 992), some (vi f)]) (st' := [vi 7, vi 992, vr 65, vi (M 65 (996 + f))]) (M' := M) rfl ?_
  refine Hx.add rfl (by omega) ?_
  refine Hx.run 0 (pc' := 18) (L' := [some (vr 64), some (vi 992), some (vi f)]) (st' := [vi 999, vr 65, vi (M 65 (996 + f))]) (M' := M) rfl ?_
  refine Hx.run 1 (pc' := 19) (L' := [some (vr 64), some (vi 992), some (vi f)]) (st' := [vi f, vi 999, vr 65, vi (M 65 (996 + f))]) (M' := M) rfl ?_
  refine Hx.add rfl (by omega) ?_
  refine Hx.aldI (n := 1032) rfl rfl (by omega) ?_
  refine Hx.run 4 (pc' := 27) (L' := [some (vr 64), some (vi 992), some (vi f)]) (st' := [vi 2, vi 992, vr 65, vi (M 65 (999 + f)), vi (M 65 (996 + f))]) (M' := M) rfl ?_
  refine Hx.add rfl (by omega) ?_
  refine Hx.run 0 (pc' := 28) (L' := [some (vr 64), some (vi 992), some (vi f)]) (st' := [vi 994, vr 65, vi (M 65 (999 + f)), vi (M 65 (996 + f))]) (M' := M) rfl ?_
  refine Hx.run 2 (pc' := 31) (L' := [some (vr 64), some (vi 992), some (vi f)]) (st' := [vi 24, vi (M 65 994), vi (M 65 (999 + f)), vi (M 65 (996 + f))]) (M' := M) rfl ?_
  refine Hx.rem rfl (by omega) ?_
  refine Hx.call (t := 145) (as := [vi (M 65 (996 + f)), vi (M 65 (999 + f)), vi ((M 65 994) % 24)]) (pc' := 35) (rest := []) rfl (r_barsFrom (M 65 (996 + f)) (M 65 (999 + f)) ((M 65 994) % 24) M (by omega) (by omega) (by omega)) ?_
  rintro _ _ ⟨rfl, rfl⟩
  refine Hx.run 0 (pc' := 35) (L' := [some (vr 64), some (vi 992), some (vi f)]) (st' := [vi (bb (M 65 (999 + f)) (bcF (M 65 (996 + f)) ((M 65 994) % 24)))]) (M' := M) rfl ?_
  refine Hx.ret rfl ?_
  exact ⟨rfl, rfl⟩
set_option maxRecDepth 100000 in
theorem r_stridesIn_992 (i : Int) (M : Mm) (hg : (0 ≤ i ∧ i < 6) ∧ (0 ≤ M 65 (1002 + i) ∧ M 65 (1002 + i) ≤ 5) ∧ (1 ≤ M 65 (1008 + i) ∧ M 65 (1008 + i) ≤ 4) ∧ (0 ≤ M 65 (1014 + i) ∧ M 65 (1014 + i) ≤ 2) ∧ (0 ≤ M 65 (1020 + i) ∧ M 65 (1020 + i) ≤ 11) ∧ (0 ≤ M 65 (1026 + i) ∧ M 65 (1026 + i) ≤ 9)) (hh : (0 ≤ M 65 994 ∧ M 65 994 ≤ 9999)) : Ct 147 [vr 64, vi 992, vi i] M (fun q0 M' => q0 = some (vi (sfF (M 65 (1002 + i)) (M 65 (1008 + i)) (M 65 (1026 + i)) ((M 65 994) % 24))) ∧ M = M') := by
  refine Hx.run 4 (pc' := 7) (L' := [some (vr 64), some (vi 992), some (vi i)]) (st' := [vi 10, vi 992, vr 65]) (M' := M) rfl ?_
  refine Hx.add rfl (by omega) ?_
  refine Hx.run 0 (pc' := 8) (L' := [some (vr 64), some (vi 992), some (vi i)]) (st' := [vi 1002, vr 65]) (M' := M) rfl ?_
  refine Hx.run 1 (pc' := 9) (L' := [some (vr 64), some (vi 992), some (vi i)]) (st' := [vi i, vi 1002, vr 65]) (M' := M) rfl ?_
  refine Hx.add rfl (by omega) ?_
  refine Hx.aldI (n := 1032) rfl rfl (by omega) ?_
  refine Hx.run 4 (pc' := 18) (L' := [some (vr 64), some (vi 992), some (vi i)]) (st' := [vi 16, vi 992, vr 65, vi (M 65 (1002 + i))]) (M' := M) rfl ?_
  refine Hx.add rfl (by omega) ?_
  refine Hx.run 0 (pc' := 19) (L' := [some (vr 64), some (vi 992), some (vi i)]) (st' := [vi 1008, vr 65, vi (M 65 (1002 + i))]) (M' := M) rfl ?_
  refine Hx.run 1 (pc' := 20) (L' := [some (vr 64), some (vi 992), some (vi i)]) (st' := [vi i, vi 1008, vr 65, vi (M 65 (1002 + i))]) (M' := M) rfl ?_
  refine Hx.add rfl (by omega) ?_
  refine Hx.aldI (n := 1032) rfl rfl (by omega) ?_
  refine Hx.run 4 (pc' := 29) (L' := [some (vr 64), some (vi 992), some (vi i)]) (st' := [vi 34, vi 992, vr 65, vi (M 65 (1008 + i)), vi (M 65 (1002 + i))]) (M' := M) rfl ?_
  refine Hx.add rfl (by omega) ?_
  refine Hx.run 0 (pc' := 30) (L' := [some (vr 64), some (vi 992), some (vi i)]) (st' := [vi 1026, vr 65, vi (M 65 (1008 + i)), vi (M 65 (1002 + i))]) (M' := M) rfl ?_
  refine Hx.run 1 (pc' := 31) (L' := [some (vr 64), some (vi 992), some (vi i)]) (st' := [vi i, vi 1026, vr 65, vi (M 65 (1008 + i)), vi (M 65 (1002 + i))]) (M' := M) rfl ?_
  refine Hx.add rfl (by omega) ?_
  refine Hx.aldI (n := 1032) rfl rfl (by omega) ?_
  refine Hx.run 4 (pc' := 39) (L' := [some (vr 64), some (vi 992), some (vi i)]) (st' := [vi 2, vi 992, vr 65, vi (M 65 (1026 + i)), vi (M 65 (1008 + i)), vi (M 65 (1002 + i))]) (M' := M) rfl ?_
  refine Hx.add rfl (by omega) ?_
  refine Hx.run 0 (pc' := 40) (L' := [some (vr 64), some (vi 992), some (vi i)]) (st' := [vi 994, vr 65, vi (M 65 (1026 + i)), vi (M 65 (1008 + i)), vi (M 65 (1002 + i))]) (M' := M) rfl ?_
  refine Hx.run 2 (pc' := 43) (L' := [some (vr 64), some (vi 992), some (vi i)]) (st' := [vi 24, vi (M 65 994), vi (M 65 (1026 + i)), vi (M 65 (1008 + i)), vi (M 65 (1002 + i))]) (M' := M) rfl ?_
  refine Hx.rem rfl (by omega) ?_
  refine Hx.call (t := 144) (as := [vi (M 65 (1002 + i)), vi (M 65 (1008 + i)), vi (M 65 (1026 + i)), vi ((M 65 994) % 24)]) (pc' := 47) (rest := []) rfl (r_stridesOf (M 65 (1002 + i)) (M 65 (1008 + i)) (M 65 (1026 + i)) ((M 65 994) % 24) M (by omega) (by omega) (by omega) (by omega)) ?_
  rintro _ _ ⟨rfl, rfl⟩
  refine Hx.run 0 (pc' := 47) (L' := [some (vr 64), some (vi 992), some (vi i)]) (st' := [vi (sfF (M 65 (1002 + i)) (M 65 (1008 + i)) (M 65 (1026 + i)) ((M 65 994) % 24))]) (M' := M) rfl ?_
  refine Hx.ret rfl ?_
  exact ⟨rfl, rfl⟩
set_option maxRecDepth 100000 in
theorem r_passes_0 (d : Int) (M : Mm) (hd : 0 ≤ d ∧ d ≤ 99) (hh : (0 ≤ M 65 2 ∧ M 65 2 ≤ 9999)) : Ct 171 [vr 64, vi 0, vi d] M (fun q0 M' => q0 = none ∧ up M 65 2 (min 9999 (M 65 2 + d)) = M') := by
  refine Hx.run 4 (pc' := 6) (L' := [some (vr 64), some (vi 0), some (vi d)]) (st' := [vi 2, vi 0, vr 65]) (M' := M) rfl ?_
  refine Hx.add rfl (by omega) ?_
  refine Hx.run 0 (pc' := 7) (L' := [some (vr 64), some (vi 0), some (vi d)]) (st' := [vi 2, vr 65]) (M' := M) rfl ?_
  refine Hx.run 4 (pc' := 13) (L' := [some (vr 64), some (vi 0), some (vi d)]) (st' := [vi 2, vi 0, vr 65, vi 2, vr 65]) (M' := M) rfl ?_
  refine Hx.add rfl (by omega) ?_
  refine Hx.run 0 (pc' := 14) (L' := [some (vr 64), some (vi 0), some (vi d)]) (st' := [vi 2, vr 65, vi 2, vr 65]) (M' := M) rfl ?_
  refine Hx.run 2 (pc' := 16) (L' := [some (vr 64), some (vi 0), some (vi d)]) (st' := [vi d, vi (M 65 2), vi 2, vr 65]) (M' := M) rfl ?_
  refine Hx.add rfl (by omega) ?_
  refine Hx.run 1 (pc' := 20) (L' := [some (vr 64), some (vi 0), some (vi d)]) (st' := [vi 9999, vi ((M 65 2) + d), vi 2, vr 65]) (M' := M) rfl ?_
  refine Hx.br (c := 9999 < ((M 65 2) + d)) (t := 23) (f := 29) rfl (fun h1 => ?_) (fun h1 => ?_)
  · skip
    refine Hx.run 2 (pc' := 39) (L' := [some (vr 64), some (vi 0), some (vi d)]) (st' := [vi 9999, vi 2, vr 65]) (M' := M) rfl ?_
    refine Hx.astI (n := 1032) rfl rfl (by omega) ?_
    refine Hx.ret rfl ?_
    first | exact ⟨rfl, by rw [show min 9999 (M 65 2 + d) = 9999 by omega]⟩ | exact ⟨rfl, by rw [show min 9999 (M 65 2 + d) = M 65 2 + d by omega]⟩
  · skip
    refine Hx.run 4 (pc' := 35) (L' := [some (vr 64), some (vi 0), some (vi d)]) (st' := [vi 2, vi 0, vr 65, vi 2, vr 65]) (M' := M) rfl ?_
    refine Hx.add rfl (by omega) ?_
    refine Hx.run 0 (pc' := 36) (L' := [some (vr 64), some (vi 0), some (vi d)]) (st' := [vi 2, vr 65, vi 2, vr 65]) (M' := M) rfl ?_
    refine Hx.run 2 (pc' := 38) (L' := [some (vr 64), some (vi 0), some (vi d)]) (st' := [vi d, vi (M 65 2), vi 2, vr 65]) (M' := M) rfl ?_
    refine Hx.add rfl (by omega) ?_
    refine Hx.astI (n := 1032) rfl rfl (by omega) ?_
    refine Hx.ret rfl ?_
    first | exact ⟨rfl, by rw [show min 9999 (M 65 2 + d) = 9999 by omega]⟩ | exact ⟨rfl, by rw [show min 9999 (M 65 2 + d) = M 65 2 + d by omega]⟩
set_option maxRecDepth 100000 in
theorem r_passes_744 (d : Int) (M : Mm) (hd : 0 ≤ d ∧ d ≤ 99) (hh : (0 ≤ M 65 746 ∧ M 65 746 ≤ 9999)) : Ct 171 [vr 64, vi 744, vi d] M (fun q0 M' => q0 = none ∧ up M 65 746 (min 9999 (M 65 746 + d)) = M') := by
  refine Hx.run 4 (pc' := 6) (L' := [some (vr 64), some (vi 744), some (vi d)]) (st' := [vi 2, vi 744, vr 65]) (M' := M) rfl ?_
  refine Hx.add rfl (by omega) ?_
  refine Hx.run 0 (pc' := 7) (L' := [some (vr 64), some (vi 744), some (vi d)]) (st' := [vi 746, vr 65]) (M' := M) rfl ?_
  refine Hx.run 4 (pc' := 13) (L' := [some (vr 64), some (vi 744), some (vi d)]) (st' := [vi 2, vi 744, vr 65, vi 746, vr 65]) (M' := M) rfl ?_
  refine Hx.add rfl (by omega) ?_
  refine Hx.run 0 (pc' := 14) (L' := [some (vr 64), some (vi 744), some (vi d)]) (st' := [vi 746, vr 65, vi 746, vr 65]) (M' := M) rfl ?_
  refine Hx.run 2 (pc' := 16) (L' := [some (vr 64), some (vi 744), some (vi d)]) (st' := [vi d, vi (M 65 746), vi 746, vr 65]) (M' := M) rfl ?_
  refine Hx.add rfl (by omega) ?_
  refine Hx.run 1 (pc' := 20) (L' := [some (vr 64), some (vi 744), some (vi d)]) (st' := [vi 9999, vi ((M 65 746) + d), vi 746, vr 65]) (M' := M) rfl ?_
  refine Hx.br (c := 9999 < ((M 65 746) + d)) (t := 23) (f := 29) rfl (fun h1 => ?_) (fun h1 => ?_)
  · skip
    refine Hx.run 2 (pc' := 39) (L' := [some (vr 64), some (vi 744), some (vi d)]) (st' := [vi 9999, vi 746, vr 65]) (M' := M) rfl ?_
    refine Hx.astI (n := 1032) rfl rfl (by omega) ?_
    refine Hx.ret rfl ?_
    first | exact ⟨rfl, by rw [show min 9999 (M 65 746 + d) = 9999 by omega]⟩ | exact ⟨rfl, by rw [show min 9999 (M 65 746 + d) = M 65 746 + d by omega]⟩
  · skip
    refine Hx.run 4 (pc' := 35) (L' := [some (vr 64), some (vi 744), some (vi d)]) (st' := [vi 2, vi 744, vr 65, vi 746, vr 65]) (M' := M) rfl ?_
    refine Hx.add rfl (by omega) ?_
    refine Hx.run 0 (pc' := 36) (L' := [some (vr 64), some (vi 744), some (vi d)]) (st' := [vi 746, vr 65, vi 746, vr 65]) (M' := M) rfl ?_
    refine Hx.run 2 (pc' := 38) (L' := [some (vr 64), some (vi 744), some (vi d)]) (st' := [vi d, vi (M 65 746), vi 746, vr 65]) (M' := M) rfl ?_
    refine Hx.add rfl (by omega) ?_
    refine Hx.astI (n := 1032) rfl rfl (by omega) ?_
    refine Hx.ret rfl ?_
    first | exact ⟨rfl, by rw [show min 9999 (M 65 746 + d) = 9999 by omega]⟩ | exact ⟨rfl, by rw [show min 9999 (M 65 746 + d) = M 65 746 + d by omega]⟩
set_option maxRecDepth 100000 in
theorem r_passes_992 (d : Int) (M : Mm) (hd : 0 ≤ d ∧ d ≤ 99) (hh : (0 ≤ M 65 994 ∧ M 65 994 ≤ 9999)) : Ct 171 [vr 64, vi 992, vi d] M (fun q0 M' => q0 = none ∧ up M 65 994 (min 9999 (M 65 994 + d)) = M') := by
  refine Hx.run 4 (pc' := 6) (L' := [some (vr 64), some (vi 992), some (vi d)]) (st' := [vi 2, vi 992, vr 65]) (M' := M) rfl ?_
  refine Hx.add rfl (by omega) ?_
  refine Hx.run 0 (pc' := 7) (L' := [some (vr 64), some (vi 992), some (vi d)]) (st' := [vi 994, vr 65]) (M' := M) rfl ?_
  refine Hx.run 4 (pc' := 13) (L' := [some (vr 64), some (vi 992), some (vi d)]) (st' := [vi 2, vi 992, vr 65, vi 994, vr 65]) (M' := M) rfl ?_
  refine Hx.add rfl (by omega) ?_
  refine Hx.run 0 (pc' := 14) (L' := [some (vr 64), some (vi 992), some (vi d)]) (st' := [vi 994, vr 65, vi 994, vr 65]) (M' := M) rfl ?_
  refine Hx.run 2 (pc' := 16) (L' := [some (vr 64), some (vi 992), some (vi d)]) (st' := [vi d, vi (M 65 994), vi 994, vr 65]) (M' := M) rfl ?_
  refine Hx.add rfl (by omega) ?_
  refine Hx.run 1 (pc' := 20) (L' := [some (vr 64), some (vi 992), some (vi d)]) (st' := [vi 9999, vi ((M 65 994) + d), vi 994, vr 65]) (M' := M) rfl ?_
  refine Hx.br (c := 9999 < ((M 65 994) + d)) (t := 23) (f := 29) rfl (fun h1 => ?_) (fun h1 => ?_)
  · skip
    refine Hx.run 2 (pc' := 39) (L' := [some (vr 64), some (vi 992), some (vi d)]) (st' := [vi 9999, vi 994, vr 65]) (M' := M) rfl ?_
    refine Hx.astI (n := 1032) rfl rfl (by omega) ?_
    refine Hx.ret rfl ?_
    first | exact ⟨rfl, by rw [show min 9999 (M 65 994 + d) = 9999 by omega]⟩ | exact ⟨rfl, by rw [show min 9999 (M 65 994 + d) = M 65 994 + d by omega]⟩
  · skip
    refine Hx.run 4 (pc' := 35) (L' := [some (vr 64), some (vi 992), some (vi d)]) (st' := [vi 2, vi 992, vr 65, vi 994, vr 65]) (M' := M) rfl ?_
    refine Hx.add rfl (by omega) ?_
    refine Hx.run 0 (pc' := 36) (L' := [some (vr 64), some (vi 992), some (vi d)]) (st' := [vi 994, vr 65, vi 994, vr 65]) (M' := M) rfl ?_
    refine Hx.run 2 (pc' := 38) (L' := [some (vr 64), some (vi 992), some (vi d)]) (st' := [vi d, vi (M 65 994), vi 994, vr 65]) (M' := M) rfl ?_
    refine Hx.add rfl (by omega) ?_
    refine Hx.astI (n := 1032) rfl rfl (by omega) ?_
    refine Hx.ret rfl ?_
    first | exact ⟨rfl, by rw [show min 9999 (M 65 994 + d) = 9999 by omega]⟩ | exact ⟨rfl, by rw [show min 9999 (M 65 994 + d) = M 65 994 + d by omega]⟩
/-- 248 numbers from place f on come to place t on -/
def cpW (M : Mm) (f t n : Int) : Mm := cp M 65 f 65 t n
theorem cpW_up {M : Mm} {f t i : Int} (hi : 0 ≤ i) (hd : f + 248 ≤ t ∨ t + 248 ≤ f) (hi2 : i < 248) : up (cpW M f t i) 65 (t + i) (cpW M f t i 65 (f + i)) = cpW M f t (i + 1) := by
  funext a b
  have e : cpW M f t i 65 (f + i) = M 65 (f + i) := if_neg (fun q => by omega)
  rw [e]
  simp only [up, cpW, cp]
  by_cases ha : a = 65
  · by_cases hb : b = t + i
    · rw [if_pos ⟨ha, hb⟩, if_pos ⟨ha, by omega, by omega⟩, hb]
      rw [show f + (t + i - t) = f + i by omega]
    · rw [if_neg (fun q => hb q.2)]
      by_cases hc : t ≤ b ∧ b < t + i
      · rw [if_pos ⟨ha, hc⟩, if_pos ⟨ha, by omega, by omega⟩]
      · rw [if_neg (fun q => hc q.2), if_neg (fun q => hc ⟨by omega, by omega⟩)]
  · rw [if_neg (fun q => ha q.1), if_neg (fun q => ha q.1), if_neg (fun q => ha q.1)]
theorem cpW_0 {M : Mm} {f t : Int} : cpW M f t 0 = M := by
  funext a b
  simp only [cpW, cp]
  rw [if_neg (fun q => by omega)]
set_option maxRecDepth 100000 in
theorem rl_copy (f t : Int) (M : Mm) (hf : 0 ≤ f ∧ f + 248 ≤ 1032) (ht : 0 ≤ t ∧ t + 248 ≤ 1032) (hd : f + 248 ≤ t ∨ t + 248 ≤ f) : ∀ (kk : Nat) (i : Int), 0 ≤ i ∧ i ≤ 248 → 248 - i < (kk : Int) → Hx 135 2 [some (vr 64), some (vi f), some (vi t), some (vi i)] [] (cpW M f t i) (fun q0 M' => q0 = none ∧ cpW M f t 248 = M') := by
  intro kk
  induction kk with
  | zero => intro i _ hkk; exact absurd hkk (by omega)
  | succ kk ih =>
    intro i hi hkk
    refine Hx.run 2 (pc' := 6) (L' := [some (vr 64), some (vi f), some (vi t), some (vi i)]) (st' := [vi 248, vi i]) (M' := (cpW M f t i)) rfl ?_
    refine Hx.br (c := i < 248) (t := 9) (f := 31) rfl (fun h1 => ?_) (fun h1 => ?_)
    · skip
      refine Hx.run 4 (pc' := 15) (L' := [some (vr 64), some (vi f), some (vi t), some (vi i)]) (st' := [vi i, vi t, vr 65]) (M' := (cpW M f t i)) rfl ?_
      refine Hx.add rfl (by omega) ?_
      refine Hx.run 4 (pc' := 22) (L' := [some (vr 64), some (vi f), some (vi t), some (vi i)]) (st' := [vi i, vi f, vr 65, vi (t + i), vr 65]) (M' := (cpW M f t i)) rfl ?_
      refine Hx.add rfl (by omega) ?_
      refine Hx.aldI (n := 1032) rfl rfl (by omega) ?_
      refine Hx.astI (n := 1032) rfl rfl (by omega) ?_
      refine Hx.inc rfl rfl (by omega) ?_
      refine Hx.run 0 (pc' := 28) (L' := [some (vr 64), some (vi f), some (vi t), some (vi (i + 1))]) (st' := []) (M' := (up (cpW M f t i) 65 (t + i) ((cpW M f t i) 65 (f + i)))) rfl ?_
      refine Hx.run 1 (pc' := 2) (L' := [some (vr 64), some (vi f), some (vi t), some (vi (i + 1))]) (st' := []) (M' := (up (cpW M f t i) 65 (t + i) ((cpW M f t i) 65 (f + i)))) rfl ?_
      rw [cpW_up (by omega) hd (by omega)]
      exact ih (i + 1) (by omega) (by omega)
    · skip
      refine Hx.ret rfl ?_
      have e : i = 248 := by omega
      subst e
      exact ⟨rfl, rfl⟩
set_option maxRecDepth 100000 in
theorem r_copy (f t : Int) (M : Mm) (hf : 0 ≤ f ∧ f + 248 ≤ 1032) (ht : 0 ≤ t ∧ t + 248 ≤ 1032) (hd : f + 248 ≤ t ∨ t + 248 ≤ f) : Ct 135 [vr 64, vi f, vi t] M (fun q0 M' => q0 = none ∧ cpW M f t 248 = M') := by
  refine Hx.run 2 (pc' := 2) (L' := [some (vr 64), some (vi f), some (vi t), some (vi 0)]) (st' := []) (M' := M) rfl ?_
  have h0 := rl_copy f t M hf ht hd 300 0 (by omega) (by omega)
  rw [cpW_0] at h0
  exact h0
theorem fl_up2 {M : Mm} {q i v : Int} (hi : 0 ≤ i) : up (fl M 65 q (q + i) v) 65 (q + i) v = fl M 65 q (q + (i + 1)) v := by
  rw [fl_up (by omega), show q + i + 1 = q + (i + 1) by omega]
set_option maxRecDepth 100000 in
theorem rl_empties (q : Int) (M : Mm) (hq : 0 ≤ q ∧ q + 248 ≤ 1032) : ∀ (kk : Nat) (i : Int), 0 ≤ i ∧ i ≤ 248 → 248 - i < (kk : Int) → Hx 136 2 [some (vr 64), some (vi q), some (vi i)] [] (fl M 65 q (q + i) 0) (fun q0 M' => q0 = none ∧ fl M 65 q (q + 248) 0 = M') := by
  intro kk
  induction kk with
  | zero => intro i _ hkk; exact absurd hkk (by omega)
  | succ kk ih =>
    intro i hi hkk
    refine Hx.run 2 (pc' := 6) (L' := [some (vr 64), some (vi q), some (vi i)]) (st' := [vi 248, vi i]) (M' := (fl M 65 q (q + i) 0)) rfl ?_
    refine Hx.br (c := i < 248) (t := 9) (f := 24) rfl (fun h1 => ?_) (fun h1 => ?_)
    · skip
      refine Hx.run 4 (pc' := 15) (L' := [some (vr 64), some (vi q), some (vi i)]) (st' := [vi i, vi q, vr 65]) (M' := (fl M 65 q (q + i) 0)) rfl ?_
      refine Hx.add rfl (by omega) ?_
      refine Hx.run 1 (pc' := 17) (L' := [some (vr 64), some (vi q), some (vi i)]) (st' := [vi 0, vi (q + i), vr 65]) (M' := (fl M 65 q (q + i) 0)) rfl ?_
      refine Hx.astI (n := 1032) rfl rfl (by omega) ?_
      refine Hx.inc rfl rfl (by omega) ?_
      refine Hx.run 0 (pc' := 21) (L' := [some (vr 64), some (vi q), some (vi (i + 1))]) (st' := []) (M' := (up (fl M 65 q (q + i) 0) 65 (q + i) 0)) rfl ?_
      refine Hx.run 1 (pc' := 2) (L' := [some (vr 64), some (vi q), some (vi (i + 1))]) (st' := []) (M' := (up (fl M 65 q (q + i) 0) 65 (q + i) 0)) rfl ?_
      rw [fl_up2 (by omega)]
      exact ih (i + 1) (by omega) (by omega)
    · skip
      refine Hx.ret rfl ?_
      have e : i = 248 := by omega
      subst e
      exact ⟨rfl, rfl⟩
set_option maxRecDepth 100000 in
theorem r_empties (q : Int) (M : Mm) (hq : 0 ≤ q ∧ q + 248 ≤ 1032) : Ct 136 [vr 64, vi q] M (fun q0 M' => q0 = none ∧ fl M 65 q (q + 248) 0 = M') := by
  refine Hx.run 2 (pc' := 2) (L' := [some (vr 64), some (vi q), some (vi 0)]) (st' := []) (M' := M) rfl ?_
  have h0 := rl_empties q M hq 300 0 (by omega) (by omega)
  rw [Int.add_zero, fl_0] at h0
  exact h0
