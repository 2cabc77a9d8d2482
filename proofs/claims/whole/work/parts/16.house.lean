/-! the members of a house and of a ledger (written by wip/whole/gen16.py) -/
theorem bcF_rng {k t : Int} : 0 ≤ bcF k t ∧ bcF k t ≤ 3 := by
  unfold bcF; repeat' split
  all_goals omega
theorem sfF_rng {k l x t : Int} (hl : 1 ≤ l ∧ l ≤ 4) (hx : 0 ≤ x ∧ x ≤ 9) : 1 ≤ sfF k l x t ∧ sfF k l x t ≤ 5 := by
  unfold sfF; repeat' split
  all_goals omega
set_option maxRecDepth 100000 in
theorem c_barsAt_1 (f t : Int) (M : Mm) (hf : (0 ≤ f ∧ f < 3) ∧ (0 ≤ M 2 f ∧ M 2 f ≤ 5) ∧ (1 ≤ M 6 (12 + f) ∧ M 6 (12 + f) ≤ 10)) (ht : 0 ≤ t ∧ t < 24) : Ct 28 [vr 1, vi f, vi t] M (fun q0 M' => q0 = some (vi (bb (M 6 (12 + f)) (bcF (M 2 f) t))) ∧ M = M') := by
  have hbc := bcF_rng (k := M 2 f) (t := t)
  refine Hx.run 4 (pc' := 7) (L' := [some (vr 1), some (vi f), some (vi t)]) (st' := [vi f, vi 12, vr 6]) (M' := M) rfl ?_
  refine Hx.add rfl (by omega) ?_
  refine Hx.call (t := 121) (as := [vr 6, vi (12 + f)]) (pc' := 11) (rest := []) rfl (c_at (r := 6) (n := 17) rfl (by decide) (i := (12 + f)) (by omega) M) ?_
  rintro _ _ ⟨rfl, rfl⟩
  refine Hx.run 0 (pc' := 11) (L' := [some (vr 1), some (vi f), some (vi t)]) (st' := [vi (M 6 (12 + f))]) (M' := M) rfl ?_
  refine Hx.run 3 (pc' := 16) (L' := [some (vr 1), some (vi f), some (vi t)]) (st' := [vi f, vr 2, vi (M 6 (12 + f))]) (M' := M) rfl ?_
  refine Hx.call (t := 121) (as := [vr 2, vi f]) (pc' := 19) (rest := [vi (M 6 (12 + f))]) rfl (c_at (r := 2) (n := 3) rfl (by decide) (i := f) (by omega) M) ?_
  rintro _ _ ⟨rfl, rfl⟩
  refine Hx.run 0 (pc' := 19) (L' := [some (vr 1), some (vi f), some (vi t)]) (st' := [vi (M 2 f), vi (M 6 (12 + f))]) (M' := M) rfl ?_
  refine Hx.run 1 (pc' := 20) (L' := [some (vr 1), some (vi f), some (vi t)]) (st' := [vi t, vi (M 2 f), vi (M 6 (12 + f))]) (M' := M) rfl ?_
  refine Hx.call (t := 124) (as := [vi (M 2 f), vi t]) (pc' := 23) (rest := [vi (M 6 (12 + f))]) rfl (c_barCount (M 2 f) t M (by omega) (by omega)) ?_
  rintro _ _ ⟨rfl, rfl⟩
  refine Hx.run 0 (pc' := 23) (L' := [some (vr 1), some (vi f), some (vi t)]) (st' := [vi (bcF (M 2 f) t), vi (M 6 (12 + f))]) (M' := M) rfl ?_
  refine Hx.call (t := 125) (as := [vi (M 6 (12 + f)), vi (bcF (M 2 f) t)]) (pc' := 26) (rest := []) rfl (c_barBits (M 6 (12 + f)) (bcF (M 2 f) t) M (by omega) (by omega)) ?_
  rintro _ _ ⟨rfl, rfl⟩
  refine Hx.run 0 (pc' := 26) (L' := [some (vr 1), some (vi f), some (vi t)]) (st' := [vi (bb (M 6 (12 + f)) (bcF (M 2 f) t))]) (M' := M) rfl ?_
  refine Hx.ret rfl ?_
  exact ⟨rfl, rfl⟩
set_option maxRecDepth 100000 in
theorem c_barsFor_1 (i : Int) (M : Mm) (hg : (0 ≤ i ∧ i < 6) ∧ (0 ≤ M 3 i ∧ M 3 i ≤ 5) ∧ (1 ≤ M 4 i ∧ M 4 i ≤ 4) ∧ (0 ≤ M 5 i ∧ M 5 i < 3) ∧ (0 ≤ M 6 i ∧ M 6 i ≤ 11) ∧ (0 ≤ M 6 (6 + i) ∧ M 6 (6 + i) ≤ 9)) (hf : (0 ≤ (M 5 i) ∧ (M 5 i) < 3) ∧ (0 ≤ M 2 (M 5 i) ∧ M 2 (M 5 i) ≤ 5) ∧ (1 ≤ M 6 (12 + (M 5 i)) ∧ M 6 (12 + (M 5 i)) ≤ 10)) (hh : (0 ≤ M 6 16 ∧ M 6 16 ≤ 9999)) : Ct 29 [vr 1, vi i] M (fun q0 M' => q0 = some (vi (bb (M 6 (12 + (M 5 i))) (bcF (M 2 (M 5 i)) (M 6 16 % 24)))) ∧ M = M') := by
  refine Hx.run 3 (pc' := 3) (L' := [some (vr 1), some (vi i)]) (st' := [vi i, vr 1, vr 1]) (M' := M) rfl ?_
  refine Hx.call (t := 17) (as := [vr 1, vi i]) (pc' := 6) (rest := [vr 1]) rfl (c_flightOf_1 i (by omega) M) ?_
  rintro _ _ ⟨rfl, rfl⟩
  refine Hx.run 0 (pc' := 6) (L' := [some (vr 1), some (vi i)]) (st' := [vi (M 5 i), vr 1]) (M' := M) rfl ?_
  refine Hx.run 1 (pc' := 7) (L' := [some (vr 1), some (vi i)]) (st' := [vr 1, vi (M 5 i), vr 1]) (M' := M) rfl ?_
  refine Hx.call (t := 24) (as := [vr 1]) (pc' := 10) (rest := [vi (M 5 i), vr 1]) rfl (c_hourOfDay_1  M (by omega)) ?_
  rintro _ _ ⟨rfl, rfl⟩
  refine Hx.run 0 (pc' := 10) (L' := [some (vr 1), some (vi i)]) (st' := [vi (M 6 16 % 24), vi (M 5 i), vr 1]) (M' := M) rfl ?_
  refine Hx.call (t := 28) (as := [vr 1, vi (M 5 i), vi (M 6 16 % 24)]) (pc' := 13) (rest := []) rfl (c_barsAt_1 (M 5 i) (M 6 16 % 24) M (by omega) (by omega)) ?_
  rintro _ _ ⟨rfl, rfl⟩
  refine Hx.run 0 (pc' := 13) (L' := [some (vr 1), some (vi i)]) (st' := [vi (bb (M 6 (12 + (M 5 i))) (bcF (M 2 (M 5 i)) (M 6 16 % 24)))]) (M' := M) rfl ?_
  refine Hx.ret rfl ?_
  exact ⟨rfl, rfl⟩
set_option maxRecDepth 100000 in
theorem c_reachAt_1 (i t : Int) (M : Mm) (hg : (0 ≤ i ∧ i < 6) ∧ (0 ≤ M 3 i ∧ M 3 i ≤ 5) ∧ (1 ≤ M 4 i ∧ M 4 i ≤ 4) ∧ (0 ≤ M 5 i ∧ M 5 i < 3) ∧ (0 ≤ M 6 i ∧ M 6 i ≤ 11) ∧ (0 ≤ M 6 (6 + i) ∧ M 6 (6 + i) ≤ 9)) (ht : 0 ≤ t ∧ t < 24) : Ct 31 [vr 1, vi i, vi t] M (fun q0 M' => q0 = some (vi (sfF (M 3 i) (M 4 i) (M 6 (6 + i)) t)) ∧ M = M') := by
  refine Hx.run 3 (pc' := 5) (L' := [some (vr 1), some (vi i), some (vi t)]) (st' := [vi i, vr 3]) (M' := M) rfl ?_
  refine Hx.call (t := 121) (as := [vr 3, vi i]) (pc' := 8) (rest := []) rfl (c_at (r := 3) (n := 6) rfl (by decide) (i := i) (by omega) M) ?_
  rintro _ _ ⟨rfl, rfl⟩
  refine Hx.run 0 (pc' := 8) (L' := [some (vr 1), some (vi i), some (vi t)]) (st' := [vi (M 3 i)]) (M' := M) rfl ?_
  refine Hx.run 3 (pc' := 13) (L' := [some (vr 1), some (vi i), some (vi t)]) (st' := [vi i, vr 4, vi (M 3 i)]) (M' := M) rfl ?_
  refine Hx.call (t := 121) (as := [vr 4, vi i]) (pc' := 16) (rest := [vi (M 3 i)]) rfl (c_at (r := 4) (n := 6) rfl (by decide) (i := i) (by omega) M) ?_
  rintro _ _ ⟨rfl, rfl⟩
  refine Hx.run 0 (pc' := 16) (L' := [some (vr 1), some (vi i), some (vi t)]) (st' := [vi (M 4 i), vi (M 3 i)]) (M' := M) rfl ?_
  refine Hx.run 4 (pc' := 23) (L' := [some (vr 1), some (vi i), some (vi t)]) (st' := [vi i, vi 6, vr 6, vi (M 4 i), vi (M 3 i)]) (M' := M) rfl ?_
  refine Hx.add rfl (by omega) ?_
  refine Hx.call (t := 121) (as := [vr 6, vi (6 + i)]) (pc' := 27) (rest := [vi (M 4 i), vi (M 3 i)]) rfl (c_at (r := 6) (n := 17) rfl (by decide) (i := (6 + i)) (by omega) M) ?_
  rintro _ _ ⟨rfl, rfl⟩
  refine Hx.run 0 (pc' := 27) (L' := [some (vr 1), some (vi i), some (vi t)]) (st' := [vi (M 6 (6 + i)), vi (M 4 i), vi (M 3 i)]) (M' := M) rfl ?_
  refine Hx.run 1 (pc' := 28) (L' := [some (vr 1), some (vi i), some (vi t)]) (st' := [vi t, vi (M 6 (6 + i)), vi (M 4 i), vi (M 3 i)]) (M' := M) rfl ?_
  refine Hx.call (t := 129) (as := [vi (M 3 i), vi (M 4 i), vi (M 6 (6 + i)), vi t]) (pc' := 31) (rest := []) rfl (c_strideOf (M 3 i) (M 4 i) (M 6 (6 + i)) t M (by omega) (by omega) (by omega) (by omega)) ?_
  rintro _ _ ⟨rfl, rfl⟩
  refine Hx.run 0 (pc' := 31) (L' := [some (vr 1), some (vi i), some (vi t)]) (st' := [vi (sfF (M 3 i) (M 4 i) (M 6 (6 + i)) t)]) (M' := M) rfl ?_
  refine Hx.ret rfl ?_
  exact ⟨rfl, rfl⟩
set_option maxRecDepth 100000 in
theorem c_reach_1 (i : Int) (M : Mm) (hg : (0 ≤ i ∧ i < 6) ∧ (0 ≤ M 3 i ∧ M 3 i ≤ 5) ∧ (1 ≤ M 4 i ∧ M 4 i ≤ 4) ∧ (0 ≤ M 5 i ∧ M 5 i < 3) ∧ (0 ≤ M 6 i ∧ M 6 i ≤ 11) ∧ (0 ≤ M 6 (6 + i) ∧ M 6 (6 + i) ≤ 9)) (hh : (0 ≤ M 6 16 ∧ M 6 16 ≤ 9999)) : Ct 30 [vr 1, vi i] M (fun q0 M' => q0 = some (vi (sfF (M 3 i) (M 4 i) (M 6 (6 + i)) (M 6 16 % 24))) ∧ M = M') := by
  refine Hx.run 3 (pc' := 3) (L' := [some (vr 1), some (vi i)]) (st' := [vr 1, vi i, vr 1]) (M' := M) rfl ?_
  refine Hx.call (t := 24) (as := [vr 1]) (pc' := 6) (rest := [vi i, vr 1]) rfl (c_hourOfDay_1  M (by omega)) ?_
  rintro _ _ ⟨rfl, rfl⟩
  refine Hx.run 0 (pc' := 6) (L' := [some (vr 1), some (vi i)]) (st' := [vi (M 6 16 % 24), vi i, vr 1]) (M' := M) rfl ?_
  refine Hx.call (t := 31) (as := [vr 1, vi i, vi (M 6 16 % 24)]) (pc' := 9) (rest := []) rfl (c_reachAt_1 i (M 6 16 % 24) M (by omega) (by omega)) ?_
  rintro _ _ ⟨rfl, rfl⟩
  refine Hx.run 0 (pc' := 9) (L' := [some (vr 1), some (vi i)]) (st' := [vi (sfF (M 3 i) (M 4 i) (M 6 (6 + i)) (M 6 16 % 24))]) (M' := M) rfl ?_
  refine Hx.ret rfl ?_
  exact ⟨rfl, rfl⟩
set_option maxRecDepth 100000 in
theorem c_pass_1 (d : Int) (M : Mm) (hd : 0 ≤ d ∧ d ≤ 99) (hh : (0 ≤ M 6 16 ∧ M 6 16 ≤ 9999)) : Ct 25 [vr 1, vi d] M (fun q0 M' => q0 = none ∧ up M 6 16 (min 9999 (M 6 16 + d)) = M') := by
  refine Hx.run 5 (pc' := 10) (L' := [some (vr 1), some (vi d)]) (st' := [vr 1, vi 9999, vi 16, vr 6]) (M' := M) rfl ?_
  refine Hx.call (t := 23) (as := [vr 1]) (pc' := 13) (rest := [vi 9999, vi 16, vr 6]) rfl (c_hour_1 M) ?_
  rintro _ _ ⟨rfl, rfl⟩
  refine Hx.run 0 (pc' := 13) (L' := [some (vr 1), some (vi d)]) (st' := [vi (M 6 16), vi 9999, vi 16, vr 6]) (M' := M) rfl ?_
  refine Hx.run 1 (pc' := 14) (L' := [some (vr 1), some (vi d)]) (st' := [vi d, vi (M 6 16), vi 9999, vi 16, vr 6]) (M' := M) rfl ?_
  refine Hx.add rfl (by omega) ?_
  refine Hx.call (t := 226) (as := [vi 9999, vi ((M 6 16) + d)]) (pc' := 18) (rest := [vi 16, vr 6]) rfl (c_min 9999 ((M 6 16) + d) M) ?_
  rintro _ _ ⟨rfl, rfl⟩
  refine Hx.run 0 (pc' := 18) (L' := [some (vr 1), some (vi d)]) (st' := [vi (min 9999 ((M 6 16) + d)), vi 16, vr 6]) (M' := M) rfl ?_
  refine Hx.call (t := 122) (as := [vr 6, vi 16, vi (min 9999 ((M 6 16) + d))]) (pc' := 21) (rest := []) rfl (c_put (r := 6) (n := 17) rfl (by decide) (i := 16) (by omega) (min 9999 ((M 6 16) + d)) M) ?_
  rintro _ _ ⟨rfl, rfl⟩
  refine Hx.run 0 (pc' := 21) (L' := [some (vr 1), some (vi d)]) (st' := []) (M' := (up M 6 16 (min 9999 ((M 6 16) + d)))) rfl ?_
  refine Hx.ret rfl ?_
  exact ⟨rfl, rfl⟩
set_option maxRecDepth 100000 in
theorem c_addFlight_1 (kd s : Int) (M : Mm) (hx : 0 ≤ M 1 0 ∧ M 1 0 < 3) : Ct 9 [vr 1, vi kd, vi s] M (fun q0 M' => q0 = some (vi (M 1 0)) ∧ up (up (up (up M 2 (M 1 0) kd) 6 (12 + (M 1 0)) s) 1 0 (M 1 0 + 1)) 1 2 0 = M') := by
  refine Hx.run 7 (pc' := 11) (L' := [some (vr 1), some (vi kd), some (vi s), some (vi (M 1 0))]) (st' := [vi kd, vi (M 1 0), vr 2]) (M' := M) rfl ?_
  refine Hx.call (t := 122) (as := [vr 2, vi (M 1 0), vi kd]) (pc' := 14) (rest := []) rfl (c_put (r := 2) (n := 3) rfl (by decide) (i := (M 1 0)) (by omega) kd M) ?_
  rintro _ _ ⟨rfl, rfl⟩
  refine Hx.run 0 (pc' := 14) (L' := [some (vr 1), some (vi kd), some (vi s), some (vi (M 1 0))]) (st' := []) (M' := (up M 2 (M 1 0) kd)) rfl ?_
  refine Hx.run 3 (pc' := 17) (L' := [some (vr 1), some (vi kd), some (vi s), some (vi (M 1 0))]) (st' := [vi s, vi (M 1 0), vr 1]) (M' := (up M 2 (M 1 0) kd)) rfl ?_
  refine Hx.call (t := 15) (as := [vr 1, vi (M 1 0), vi s]) (pc' := 20) (rest := []) rfl (c_setOwnerStep_1 (M 1 0) s (up M 2 (M 1 0) kd) (by omega)) ?_
  rintro _ _ ⟨rfl, rfl⟩
  refine Hx.run 0 (pc' := 20) (L' := [some (vr 1), some (vi kd), some (vi s), some (vi (M 1 0))]) (st' := []) (M' := (up (up M 2 (M 1 0) kd) 6 (12 + (M 1 0)) s)) rfl ?_
  refine Hx.run 4 (pc' := 26) (L' := [some (vr 1), some (vi kd), some (vi s), some (vi (M 1 0))]) (st' := [vi 1, vi (M 1 0), vr 1]) (M' := (up (up M 2 (M 1 0) kd) 6 (12 + (M 1 0)) s)) rfl ?_
  refine Hx.add rfl (by omega) ?_
  refine Hx.run 5 (pc' := 36) (L' := [some (vr 1), some (vi kd), some (vi s), some (vi (M 1 0))]) (st' := [vi (M 1 0)]) (M' := (up (up (up (up M 2 (M 1 0) kd) 6 (12 + (M 1 0)) s) 1 0 ((M 1 0) + 1)) 1 2 0)) rfl ?_
  refine Hx.ret rfl ?_
  exact ⟨rfl, rfl⟩
set_option maxRecDepth 100000 in
theorem c_addGoer_1 (kd l f : Int) (M : Mm) (hx : 0 ≤ M 1 1 ∧ M 1 1 < 6) : Ct 10 [vr 1, vi kd, vi l, vi f] M (fun q0 M' => q0 = some (vi (M 1 1)) ∧ up (up (up (up (up (up (up M 3 (M 1 1) kd) 4 (M 1 1) l) 5 (M 1 1) f) 6 (M 1 1) 0) 6 (6 + (M 1 1)) 0) 1 1 (M 1 1 + 1)) 1 2 0 = M') := by
  refine Hx.run 7 (pc' := 13) (L' := [some (vr 1), some (vi kd), some (vi l), some (vi f), some (vi (M 1 1))]) (st' := [vi kd, vi (M 1 1), vr 3]) (M' := M) rfl ?_
  refine Hx.call (t := 122) (as := [vr 3, vi (M 1 1), vi kd]) (pc' := 16) (rest := []) rfl (c_put (r := 3) (n := 6) rfl (by decide) (i := (M 1 1)) (by omega) kd M) ?_
  rintro _ _ ⟨rfl, rfl⟩
  refine Hx.run 0 (pc' := 16) (L' := [some (vr 1), some (vi kd), some (vi l), some (vi f), some (vi (M 1 1))]) (st' := []) (M' := (up M 3 (M 1 1) kd)) rfl ?_
  refine Hx.run 4 (pc' := 23) (L' := [some (vr 1), some (vi kd), some (vi l), some (vi f), some (vi (M 1 1))]) (st' := [vi l, vi (M 1 1), vr 4]) (M' := (up M 3 (M 1 1) kd)) rfl ?_
  refine Hx.call (t := 122) (as := [vr 4, vi (M 1 1), vi l]) (pc' := 26) (rest := []) rfl (c_put (r := 4) (n := 6) rfl (by decide) (i := (M 1 1)) (by omega) l (up M 3 (M 1 1) kd)) ?_
  rintro _ _ ⟨rfl, rfl⟩
  refine Hx.run 0 (pc' := 26) (L' := [some (vr 1), some (vi kd), some (vi l), some (vi f), some (vi (M 1 1))]) (st' := []) (M' := (up (up M 3 (M 1 1) kd) 4 (M 1 1) l)) rfl ?_
  refine Hx.run 4 (pc' := 33) (L' := [some (vr 1), some (vi kd), some (vi l), some (vi f), some (vi (M 1 1))]) (st' := [vi f, vi (M 1 1), vr 5]) (M' := (up (up M 3 (M 1 1) kd) 4 (M 1 1) l)) rfl ?_
  refine Hx.call (t := 122) (as := [vr 5, vi (M 1 1), vi f]) (pc' := 36) (rest := []) rfl (c_put (r := 5) (n := 6) rfl (by decide) (i := (M 1 1)) (by omega) f (up (up M 3 (M 1 1) kd) 4 (M 1 1) l)) ?_
  rintro _ _ ⟨rfl, rfl⟩
  refine Hx.run 0 (pc' := 36) (L' := [some (vr 1), some (vi kd), some (vi l), some (vi f), some (vi (M 1 1))]) (st' := []) (M' := (up (up (up M 3 (M 1 1) kd) 4 (M 1 1) l) 5 (M 1 1) f)) rfl ?_
  refine Hx.run 3 (pc' := 40) (L' := [some (vr 1), some (vi kd), some (vi l), some (vi f), some (vi (M 1 1))]) (st' := [vi 0, vi (M 1 1), vr 1]) (M' := (up (up (up M 3 (M 1 1) kd) 4 (M 1 1) l) 5 (M 1 1) f)) rfl ?_
  refine Hx.call (t := 19) (as := [vr 1, vi (M 1 1), vi 0]) (pc' := 43) (rest := []) rfl (c_setStep_1 (M 1 1) 0 (up (up (up M 3 (M 1 1) kd) 4 (M 1 1) l) 5 (M 1 1) f) (by omega)) ?_
  rintro _ _ ⟨rfl, rfl⟩
  refine Hx.run 0 (pc' := 43) (L' := [some (vr 1), some (vi kd), some (vi l), some (vi f), some (vi (M 1 1))]) (st' := []) (M' := (up (up (up (up M 3 (M 1 1) kd) 4 (M 1 1) l) 5 (M 1 1) f) 6 (M 1 1) 0)) rfl ?_
  refine Hx.run 3 (pc' := 47) (L' := [some (vr 1), some (vi kd), some (vi l), some (vi f), some (vi (M 1 1))]) (st' := [vi 0, vi (M 1 1), vr 1]) (M' := (up (up (up (up M 3 (M 1 1) kd) 4 (M 1 1) l) 5 (M 1 1) f) 6 (M 1 1) 0)) rfl ?_
  refine Hx.call (t := 21) (as := [vr 1, vi (M 1 1), vi 0]) (pc' := 50) (rest := []) rfl (c_setLoad_1 (M 1 1) 0 (up (up (up (up M 3 (M 1 1) kd) 4 (M 1 1) l) 5 (M 1 1) f) 6 (M 1 1) 0) (by omega)) ?_
  rintro _ _ ⟨rfl, rfl⟩
  refine Hx.run 0 (pc' := 50) (L' := [some (vr 1), some (vi kd), some (vi l), some (vi f), some (vi (M 1 1))]) (st' := []) (M' := (up (up (up (up (up M 3 (M 1 1) kd) 4 (M 1 1) l) 5 (M 1 1) f) 6 (M 1 1) 0) 6 (6 + (M 1 1)) 0)) rfl ?_
  refine Hx.run 4 (pc' := 56) (L' := [some (vr 1), some (vi kd), some (vi l), some (vi f), some (vi (M 1 1))]) (st' := [vi 1, vi (M 1 1), vr 1]) (M' := (up (up (up (up (up M 3 (M 1 1) kd) 4 (M 1 1) l) 5 (M 1 1) f) 6 (M 1 1) 0) 6 (6 + (M 1 1)) 0)) rfl ?_
  refine Hx.add rfl (by omega) ?_
  refine Hx.run 5 (pc' := 67) (L' := [some (vr 1), some (vi kd), some (vi l), some (vi f), some (vi (M 1 1))]) (st' := [vi (M 1 1)]) (M' := (up (up (up (up (up (up (up M 3 (M 1 1) kd) 4 (M 1 1) l) 5 (M 1 1) f) 6 (M 1 1) 0) 6 (6 + (M 1 1)) 0) 1 1 ((M 1 1) + 1)) 1 2 0)) rfl ?_
  refine Hx.ret rfl ?_
  exact ⟨rfl, rfl⟩
set_option maxRecDepth 100000 in
theorem c_stride_1 (i d : Int) (M : Mm) (hg : (0 ≤ i ∧ i < 6) ∧ (0 ≤ M 3 i ∧ M 3 i ≤ 5) ∧ (1 ≤ M 4 i ∧ M 4 i ≤ 4) ∧ (0 ≤ M 5 i ∧ M 5 i < 3) ∧ (0 ≤ M 6 i ∧ M 6 i ≤ 11) ∧ (0 ≤ M 6 (6 + i) ∧ M 6 (6 + i) ≤ 9)) (hf : (0 ≤ (M 5 i) ∧ (M 5 i) < 3) ∧ (0 ≤ M 2 (M 5 i) ∧ M 2 (M 5 i) ≤ 5) ∧ (1 ≤ M 6 (12 + (M 5 i)) ∧ M 6 (12 + (M 5 i)) ≤ 10)) (hh : (0 ≤ M 6 16 ∧ M 6 16 ≤ 9999)) (hd : 1 ≤ d ∧ d ≤ 9) (hfa : 0 ≤ M 6 15 ∧ M 6 15 ≤ 9999) : Ct 33 [vr 1, vi i, vi d] M (fun q0 M' => (hb (bb (M 6 (12 + (M 5 i))) (bcF (M 2 (M 5 i)) (M 6 16 % 24))) (min 11 ((M 6 i) + d)) ∧ q0 = some (vi 0) ∧ up (up M 6 15 (min 9999 (M 6 15 + 1))) 6 i 0 = M') ∨ (¬ hb (bb (M 6 (12 + (M 5 i))) (bcF (M 2 (M 5 i)) (M 6 16 % 24))) (min 11 ((M 6 i) + d)) ∧ q0 = some (vi (min 11 ((M 6 i) + d))) ∧ up M 6 i (min 11 ((M 6 i) + d)) = M')) := by
  have hbb := bb_rng (M 6 (12 + (M 5 i))) (bcF (M 2 (M 5 i)) (M 6 16 % 24))
  refine Hx.run 3 (pc' := 4) (L' := [some (vr 1), some (vi i), some (vi d), none]) (st' := [vi i, vr 1, vi 11]) (M' := M) rfl ?_
  refine Hx.call (t := 18) (as := [vr 1, vi i]) (pc' := 7) (rest := [vi 11]) rfl (c_stepOf_1 i (by omega) M) ?_
  rintro _ _ ⟨rfl, rfl⟩
  refine Hx.run 0 (pc' := 7) (L' := [some (vr 1), some (vi i), some (vi d), none]) (st' := [vi (M 6 i), vi 11]) (M' := M) rfl ?_
  refine Hx.run 1 (pc' := 8) (L' := [some (vr 1), some (vi i), some (vi d), none]) (st' := [vi d, vi (M 6 i), vi 11]) (M' := M) rfl ?_
  refine Hx.add rfl (by omega) ?_
  refine Hx.call (t := 226) (as := [vi 11, vi ((M 6 i) + d)]) (pc' := 12) (rest := []) rfl (c_min 11 ((M 6 i) + d) M) ?_
  rintro _ _ ⟨rfl, rfl⟩
  refine Hx.run 0 (pc' := 12) (L' := [some (vr 1), some (vi i), some (vi d), none]) (st' := [vi (min 11 ((M 6 i) + d))]) (M' := M) rfl ?_
  refine Hx.run 3 (pc' := 15) (L' := [some (vr 1), some (vi i), some (vi d), some (vi (min 11 ((M 6 i) + d)))]) (st' := [vi i, vr 1]) (M' := M) rfl ?_
  refine Hx.call (t := 29) (as := [vr 1, vi i]) (pc' := 18) (rest := []) rfl (c_barsFor_1 i M (by omega) (by omega) (by omega)) ?_
  rintro _ _ ⟨rfl, rfl⟩
  refine Hx.run 0 (pc' := 18) (L' := [some (vr 1), some (vi i), some (vi d), some (vi (min 11 ((M 6 i) + d)))]) (st' := [vi (bb (M 6 (12 + (M 5 i))) (bcF (M 2 (M 5 i)) (M 6 16 % 24)))]) (M' := M) rfl ?_
  refine Hx.run 1 (pc' := 19) (L' := [some (vr 1), some (vi i), some (vi d), some (vi (min 11 ((M 6 i) + d)))]) (st' := [vi (min 11 ((M 6 i) + d)), vi (bb (M 6 (12 + (M 5 i))) (bcF (M 2 (M 5 i)) (M 6 16 % 24)))]) (M' := M) rfl ?_
  refine Hx.call (t := 128) (as := [vi (bb (M 6 (12 + (M 5 i))) (bcF (M 2 (M 5 i)) (M 6 16 % 24))), vi (min 11 ((M 6 i) + d))]) (pc' := 22) (rest := []) rfl (c_isBarred (bb (M 6 (12 + (M 5 i))) (bcF (M 2 (M 5 i)) (M 6 16 % 24))) (min 11 ((M 6 i) + d)) M (by omega) (by omega)) ?_
  rintro _ _ (⟨q1, rfl, rfl⟩ | ⟨q1, rfl, rfl⟩)
  · skip
    refine Hx.run 8 (pc' := 37) (L' := [some (vr 1), some (vi i), some (vi d), some (vi 0)]) (st' := [vr 1, vi 9999, vi 15, vr 6]) (M' := M) rfl ?_
    refine Hx.call (t := 22) (as := [vr 1]) (pc' := 40) (rest := [vi 9999, vi 15, vr 6]) rfl (c_falls_1 M) ?_
    rintro _ _ ⟨rfl, rfl⟩
    refine Hx.run 0 (pc' := 40) (L' := [some (vr 1), some (vi i), some (vi d), some (vi 0)]) (st' := [vi (M 6 15), vi 9999, vi 15, vr 6]) (M' := M) rfl ?_
    refine Hx.run 1 (pc' := 41) (L' := [some (vr 1), some (vi i), some (vi d), some (vi 0)]) (st' := [vi 1, vi (M 6 15), vi 9999, vi 15, vr 6]) (M' := M) rfl ?_
    refine Hx.add rfl (by omega) ?_
    refine Hx.call (t := 226) (as := [vi 9999, vi ((M 6 15) + 1)]) (pc' := 45) (rest := [vi 15, vr 6]) rfl (c_min 9999 ((M 6 15) + 1) M) ?_
    rintro _ _ ⟨rfl, rfl⟩
    refine Hx.run 0 (pc' := 45) (L' := [some (vr 1), some (vi i), some (vi d), some (vi 0)]) (st' := [vi (min 9999 ((M 6 15) + 1)), vi 15, vr 6]) (M' := M) rfl ?_
    refine Hx.call (t := 122) (as := [vr 6, vi 15, vi (min 9999 ((M 6 15) + 1))]) (pc' := 48) (rest := []) rfl (c_put (r := 6) (n := 17) rfl (by decide) (i := 15) (by omega) (min 9999 ((M 6 15) + 1)) M) ?_
    rintro _ _ ⟨rfl, rfl⟩
    refine Hx.run 0 (pc' := 48) (L' := [some (vr 1), some (vi i), some (vi d), some (vi 0)]) (st' := []) (M' := (up M 6 15 (min 9999 ((M 6 15) + 1)))) rfl ?_
    refine Hx.run 3 (pc' := 51) (L' := [some (vr 1), some (vi i), some (vi d), some (vi 0)]) (st' := [vi 0, vi i, vr 1]) (M' := (up M 6 15 (min 9999 ((M 6 15) + 1)))) rfl ?_
    refine Hx.call (t := 19) (as := [vr 1, vi i, vi 0]) (pc' := 54) (rest := []) rfl (c_setStep_1 i 0 (up M 6 15 (min 9999 ((M 6 15) + 1))) (by omega)) ?_
    rintro _ _ ⟨rfl, rfl⟩
    refine Hx.run 0 (pc' := 54) (L' := [some (vr 1), some (vi i), some (vi d), some (vi 0)]) (st' := []) (M' := (up (up M 6 15 (min 9999 ((M 6 15) + 1))) 6 i 0)) rfl ?_
    refine Hx.run 1 (pc' := 55) (L' := [some (vr 1), some (vi i), some (vi d), some (vi 0)]) (st' := [vi 0]) (M' := (up (up M 6 15 (min 9999 ((M 6 15) + 1))) 6 i 0)) rfl ?_
    refine Hx.ret rfl ?_
    first | exact Or.inl ⟨by assumption, rfl, rfl⟩ | exact Or.inr ⟨by assumption, rfl, rfl⟩
  · skip
    refine Hx.run 4 (pc' := 51) (L' := [some (vr 1), some (vi i), some (vi d), some (vi (min 11 ((M 6 i) + d)))]) (st' := [vi (min 11 ((M 6 i) + d)), vi i, vr 1]) (M' := M) rfl ?_
    refine Hx.call (t := 19) (as := [vr 1, vi i, vi (min 11 ((M 6 i) + d))]) (pc' := 54) (rest := []) rfl (c_setStep_1 i (min 11 ((M 6 i) + d)) M (by omega)) ?_
    rintro _ _ ⟨rfl, rfl⟩
    refine Hx.run 0 (pc' := 54) (L' := [some (vr 1), some (vi i), some (vi d), some (vi (min 11 ((M 6 i) + d)))]) (st' := []) (M' := (up M 6 i (min 11 ((M 6 i) + d)))) rfl ?_
    refine Hx.run 1 (pc' := 55) (L' := [some (vr 1), some (vi i), some (vi d), some (vi (min 11 ((M 6 i) + d)))]) (st' := [vi (min 11 ((M 6 i) + d))]) (M' := (up M 6 i (min 11 ((M 6 i) + d)))) rfl ?_
    refine Hx.ret rfl ?_
    first | exact Or.inl ⟨by assumption, rfl, rfl⟩ | exact Or.inr ⟨by assumption, rfl, rfl⟩
set_option maxRecDepth 100000 in
theorem c_barsAt_40 (f t : Int) (M : Mm) (hf : (0 ≤ f ∧ f < 3) ∧ (0 ≤ M 41 f ∧ M 41 f ≤ 5) ∧ (1 ≤ M 45 (12 + f) ∧ M 45 (12 + f) ≤ 10)) (ht : 0 ≤ t ∧ t < 24) : Ct 28 [vr 40, vi f, vi t] M (fun q0 M' => q0 = some (vi (bb (M 45 (12 + f)) (bcF (M 41 f) t))) ∧ M = M') := by
  have hbc := bcF_rng (k := M 41 f) (t := t)
  refine Hx.run 4 (pc' := 7) (L' := [some (vr 40), some (vi f), some (vi t)]) (st' := [vi f, vi 12, vr 45]) (M' := M) rfl ?_
  refine Hx.add rfl (by omega) ?_
  refine Hx.call (t := 121) (as := [vr 45, vi (12 + f)]) (pc' := 11) (rest := []) rfl (c_at (r := 45) (n := 17) rfl (by decide) (i := (12 + f)) (by omega) M) ?_
  rintro _ _ ⟨rfl, rfl⟩
  refine Hx.run 0 (pc' := 11) (L' := [some (vr 40), some (vi f), some (vi t)]) (st' := [vi (M 45 (12 + f))]) (M' := M) rfl ?_
  refine Hx.run 3 (pc' := 16) (L' := [some (vr 40), some (vi f), some (vi t)]) (st' := [vi f, vr 41, vi (M 45 (12 + f))]) (M' := M) rfl ?_
  refine Hx.call (t := 121) (as := [vr 41, vi f]) (pc' := 19) (rest := [vi (M 45 (12 + f))]) rfl (c_at (r := 41) (n := 3) rfl (by decide) (i := f) (by omega) M) ?_
  rintro _ _ ⟨rfl, rfl⟩
  refine Hx.run 0 (pc' := 19) (L' := [some (vr 40), some (vi f), some (vi t)]) (st' := [vi (M 41 f), vi (M 45 (12 + f))]) (M' := M) rfl ?_
  refine Hx.run 1 (pc' := 20) (L' := [some (vr 40), some (vi f), some (vi t)]) (st' := [vi t, vi (M 41 f), vi (M 45 (12 + f))]) (M' := M) rfl ?_
  refine Hx.call (t := 124) (as := [vi (M 41 f), vi t]) (pc' := 23) (rest := [vi (M 45 (12 + f))]) rfl (c_barCount (M 41 f) t M (by omega) (by omega)) ?_
  rintro _ _ ⟨rfl, rfl⟩
  refine Hx.run 0 (pc' := 23) (L' := [some (vr 40), some (vi f), some (vi t)]) (st' := [vi (bcF (M 41 f) t), vi (M 45 (12 + f))]) (M' := M) rfl ?_
  refine Hx.call (t := 125) (as := [vi (M 45 (12 + f)), vi (bcF (M 41 f) t)]) (pc' := 26) (rest := []) rfl (c_barBits (M 45 (12 + f)) (bcF (M 41 f) t) M (by omega) (by omega)) ?_
  rintro _ _ ⟨rfl, rfl⟩
  refine Hx.run 0 (pc' := 26) (L' := [some (vr 40), some (vi f), some (vi t)]) (st' := [vi (bb (M 45 (12 + f)) (bcF (M 41 f) t))]) (M' := M) rfl ?_
  refine Hx.ret rfl ?_
  exact ⟨rfl, rfl⟩
set_option maxRecDepth 100000 in
theorem c_barsFor_40 (i : Int) (M : Mm) (hg : (0 ≤ i ∧ i < 6) ∧ (0 ≤ M 42 i ∧ M 42 i ≤ 5) ∧ (1 ≤ M 43 i ∧ M 43 i ≤ 4) ∧ (0 ≤ M 44 i ∧ M 44 i < 3) ∧ (0 ≤ M 45 i ∧ M 45 i ≤ 11) ∧ (0 ≤ M 45 (6 + i) ∧ M 45 (6 + i) ≤ 9)) (hf : (0 ≤ (M 44 i) ∧ (M 44 i) < 3) ∧ (0 ≤ M 41 (M 44 i) ∧ M 41 (M 44 i) ≤ 5) ∧ (1 ≤ M 45 (12 + (M 44 i)) ∧ M 45 (12 + (M 44 i)) ≤ 10)) (hh : (0 ≤ M 45 16 ∧ M 45 16 ≤ 9999)) : Ct 29 [vr 40, vi i] M (fun q0 M' => q0 = some (vi (bb (M 45 (12 + (M 44 i))) (bcF (M 41 (M 44 i)) (M 45 16 % 24)))) ∧ M = M') := by
  refine Hx.run 3 (pc' := 3) (L' := [some (vr 40), some (vi i)]) (st' := [vi i, vr 40, vr 40]) (M' := M) rfl ?_
  refine Hx.call (t := 17) (as := [vr 40, vi i]) (pc' := 6) (rest := [vr 40]) rfl (c_flightOf_40 i (by omega) M) ?_
  rintro _ _ ⟨rfl, rfl⟩
  refine Hx.run 0 (pc' := 6) (L' := [some (vr 40), some (vi i)]) (st' := [vi (M 44 i), vr 40]) (M' := M) rfl ?_
  refine Hx.run 1 (pc' := 7) (L' := [some (vr 40), some (vi i)]) (st' := [vr 40, vi (M 44 i), vr 40]) (M' := M) rfl ?_
  refine Hx.call (t := 24) (as := [vr 40]) (pc' := 10) (rest := [vi (M 44 i), vr 40]) rfl (c_hourOfDay_40  M (by omega)) ?_
  rintro _ _ ⟨rfl, rfl⟩
  refine Hx.run 0 (pc' := 10) (L' := [some (vr 40), some (vi i)]) (st' := [vi (M 45 16 % 24), vi (M 44 i), vr 40]) (M' := M) rfl ?_
  refine Hx.call (t := 28) (as := [vr 40, vi (M 44 i), vi (M 45 16 % 24)]) (pc' := 13) (rest := []) rfl (c_barsAt_40 (M 44 i) (M 45 16 % 24) M (by omega) (by omega)) ?_
  rintro _ _ ⟨rfl, rfl⟩
  refine Hx.run 0 (pc' := 13) (L' := [some (vr 40), some (vi i)]) (st' := [vi (bb (M 45 (12 + (M 44 i))) (bcF (M 41 (M 44 i)) (M 45 16 % 24)))]) (M' := M) rfl ?_
  refine Hx.ret rfl ?_
  exact ⟨rfl, rfl⟩
set_option maxRecDepth 100000 in
theorem c_reachAt_40 (i t : Int) (M : Mm) (hg : (0 ≤ i ∧ i < 6) ∧ (0 ≤ M 42 i ∧ M 42 i ≤ 5) ∧ (1 ≤ M 43 i ∧ M 43 i ≤ 4) ∧ (0 ≤ M 44 i ∧ M 44 i < 3) ∧ (0 ≤ M 45 i ∧ M 45 i ≤ 11) ∧ (0 ≤ M 45 (6 + i) ∧ M 45 (6 + i) ≤ 9)) (ht : 0 ≤ t ∧ t < 24) : Ct 31 [vr 40, vi i, vi t] M (fun q0 M' => q0 = some (vi (sfF (M 42 i) (M 43 i) (M 45 (6 + i)) t)) ∧ M = M') := by
  refine Hx.run 3 (pc' := 5) (L' := [some (vr 40), some (vi i), some (vi t)]) (st' := [vi i, vr 42]) (M' := M) rfl ?_
  refine Hx.call (t := 121) (as := [vr 42, vi i]) (pc' := 8) (rest := []) rfl (c_at (r := 42) (n := 6) rfl (by decide) (i := i) (by omega) M) ?_
  rintro _ _ ⟨rfl, rfl⟩
  refine Hx.run 0 (pc' := 8) (L' := [some (vr 40), some (vi i), some (vi t)]) (st' := [vi (M 42 i)]) (M' := M) rfl ?_
  refine Hx.run 3 (pc' := 13) (L' := [some (vr 40), some (vi i), some (vi t)]) (st' := [vi i, vr 43, vi (M 42 i)]) (M' := M) rfl ?_
  refine Hx.call (t := 121) (as := [vr 43, vi i]) (pc' := 16) (rest := [vi (M 42 i)]) rfl (c_at (r := 43) (n := 6) rfl (by decide) (i := i) (by omega) M) ?_
  rintro _ _ ⟨rfl, rfl⟩
  refine Hx.run 0 (pc' := 16) (L' := [some (vr 40), some (vi i), some (vi t)]) (st' := [vi (M 43 i), vi (M 42 i)]) (M' := M) rfl ?_
  refine Hx.run 4 (pc' := 23) (L' := [some (vr 40), some (vi i), some (vi t)]) (st' := [vi i, vi 6, vr 45, vi (M 43 i), vi (M 42 i)]) (M' := M) rfl ?_
  refine Hx.add rfl (by omega) ?_
  refine Hx.call (t := 121) (as := [vr 45, vi (6 + i)]) (pc' := 27) (rest := [vi (M 43 i), vi (M 42 i)]) rfl (c_at (r := 45) (n := 17) rfl (by decide) (i := (6 + i)) (by omega) M) ?_
  rintro _ _ ⟨rfl, rfl⟩
  refine Hx.run 0 (pc' := 27) (L' := [some (vr 40), some (vi i), some (vi t)]) (st' := [vi (M 45 (6 + i)), vi (M 43 i), vi (M 42 i)]) (M' := M) rfl ?_
  refine Hx.run 1 (pc' := 28) (L' := [some (vr 40), some (vi i), some (vi t)]) (st' := [vi t, vi (M 45 (6 + i)), vi (M 43 i), vi (M 42 i)]) (M' := M) rfl ?_
  refine Hx.call (t := 129) (as := [vi (M 42 i), vi (M 43 i), vi (M 45 (6 + i)), vi t]) (pc' := 31) (rest := []) rfl (c_strideOf (M 42 i) (M 43 i) (M 45 (6 + i)) t M (by omega) (by omega) (by omega) (by omega)) ?_
  rintro _ _ ⟨rfl, rfl⟩
  refine Hx.run 0 (pc' := 31) (L' := [some (vr 40), some (vi i), some (vi t)]) (st' := [vi (sfF (M 42 i) (M 43 i) (M 45 (6 + i)) t)]) (M' := M) rfl ?_
  refine Hx.ret rfl ?_
  exact ⟨rfl, rfl⟩
set_option maxRecDepth 100000 in
theorem c_reach_40 (i : Int) (M : Mm) (hg : (0 ≤ i ∧ i < 6) ∧ (0 ≤ M 42 i ∧ M 42 i ≤ 5) ∧ (1 ≤ M 43 i ∧ M 43 i ≤ 4) ∧ (0 ≤ M 44 i ∧ M 44 i < 3) ∧ (0 ≤ M 45 i ∧ M 45 i ≤ 11) ∧ (0 ≤ M 45 (6 + i) ∧ M 45 (6 + i) ≤ 9)) (hh : (0 ≤ M 45 16 ∧ M 45 16 ≤ 9999)) : Ct 30 [vr 40, vi i] M (fun q0 M' => q0 = some (vi (sfF (M 42 i) (M 43 i) (M 45 (6 + i)) (M 45 16 % 24))) ∧ M = M') := by
  refine Hx.run 3 (pc' := 3) (L' := [some (vr 40), some (vi i)]) (st' := [vr 40, vi i, vr 40]) (M' := M) rfl ?_
  refine Hx.call (t := 24) (as := [vr 40]) (pc' := 6) (rest := [vi i, vr 40]) rfl (c_hourOfDay_40  M (by omega)) ?_
  rintro _ _ ⟨rfl, rfl⟩
  refine Hx.run 0 (pc' := 6) (L' := [some (vr 40), some (vi i)]) (st' := [vi (M 45 16 % 24), vi i, vr 40]) (M' := M) rfl ?_
  refine Hx.call (t := 31) (as := [vr 40, vi i, vi (M 45 16 % 24)]) (pc' := 9) (rest := []) rfl (c_reachAt_40 i (M 45 16 % 24) M (by omega) (by omega)) ?_
  rintro _ _ ⟨rfl, rfl⟩
  refine Hx.run 0 (pc' := 9) (L' := [some (vr 40), some (vi i)]) (st' := [vi (sfF (M 42 i) (M 43 i) (M 45 (6 + i)) (M 45 16 % 24))]) (M' := M) rfl ?_
  refine Hx.ret rfl ?_
  exact ⟨rfl, rfl⟩
set_option maxRecDepth 100000 in
theorem c_pass_40 (d : Int) (M : Mm) (hd : 0 ≤ d ∧ d ≤ 99) (hh : (0 ≤ M 45 16 ∧ M 45 16 ≤ 9999)) : Ct 25 [vr 40, vi d] M (fun q0 M' => q0 = none ∧ up M 45 16 (min 9999 (M 45 16 + d)) = M') := by
  refine Hx.run 5 (pc' := 10) (L' := [some (vr 40), some (vi d)]) (st' := [vr 40, vi 9999, vi 16, vr 45]) (M' := M) rfl ?_
  refine Hx.call (t := 23) (as := [vr 40]) (pc' := 13) (rest := [vi 9999, vi 16, vr 45]) rfl (c_hour_40 M) ?_
  rintro _ _ ⟨rfl, rfl⟩
  refine Hx.run 0 (pc' := 13) (L' := [some (vr 40), some (vi d)]) (st' := [vi (M 45 16), vi 9999, vi 16, vr 45]) (M' := M) rfl ?_
  refine Hx.run 1 (pc' := 14) (L' := [some (vr 40), some (vi d)]) (st' := [vi d, vi (M 45 16), vi 9999, vi 16, vr 45]) (M' := M) rfl ?_
  refine Hx.add rfl (by omega) ?_
  refine Hx.call (t := 226) (as := [vi 9999, vi ((M 45 16) + d)]) (pc' := 18) (rest := [vi 16, vr 45]) rfl (c_min 9999 ((M 45 16) + d) M) ?_
  rintro _ _ ⟨rfl, rfl⟩
  refine Hx.run 0 (pc' := 18) (L' := [some (vr 40), some (vi d)]) (st' := [vi (min 9999 ((M 45 16) + d)), vi 16, vr 45]) (M' := M) rfl ?_
  refine Hx.call (t := 122) (as := [vr 45, vi 16, vi (min 9999 ((M 45 16) + d))]) (pc' := 21) (rest := []) rfl (c_put (r := 45) (n := 17) rfl (by decide) (i := 16) (by omega) (min 9999 ((M 45 16) + d)) M) ?_
  rintro _ _ ⟨rfl, rfl⟩
  refine Hx.run 0 (pc' := 21) (L' := [some (vr 40), some (vi d)]) (st' := []) (M' := (up M 45 16 (min 9999 ((M 45 16) + d)))) rfl ?_
  refine Hx.ret rfl ?_
  exact ⟨rfl, rfl⟩
set_option maxRecDepth 100000 in
theorem c_addFlight_40 (kd s : Int) (M : Mm) (hx : 0 ≤ M 40 0 ∧ M 40 0 < 3) : Ct 9 [vr 40, vi kd, vi s] M (fun q0 M' => q0 = some (vi (M 40 0)) ∧ up (up (up (up M 41 (M 40 0) kd) 45 (12 + (M 40 0)) s) 40 0 (M 40 0 + 1)) 40 2 0 = M') := by
  refine Hx.run 7 (pc' := 11) (L' := [some (vr 40), some (vi kd), some (vi s), some (vi (M 40 0))]) (st' := [vi kd, vi (M 40 0), vr 41]) (M' := M) rfl ?_
  refine Hx.call (t := 122) (as := [vr 41, vi (M 40 0), vi kd]) (pc' := 14) (rest := []) rfl (c_put (r := 41) (n := 3) rfl (by decide) (i := (M 40 0)) (by omega) kd M) ?_
  rintro _ _ ⟨rfl, rfl⟩
  refine Hx.run 0 (pc' := 14) (L' := [some (vr 40), some (vi kd), some (vi s), some (vi (M 40 0))]) (st' := []) (M' := (up M 41 (M 40 0) kd)) rfl ?_
  refine Hx.run 3 (pc' := 17) (L' := [some (vr 40), some (vi kd), some (vi s), some (vi (M 40 0))]) (st' := [vi s, vi (M 40 0), vr 40]) (M' := (up M 41 (M 40 0) kd)) rfl ?_
  refine Hx.call (t := 15) (as := [vr 40, vi (M 40 0), vi s]) (pc' := 20) (rest := []) rfl (c_setOwnerStep_40 (M 40 0) s (up M 41 (M 40 0) kd) (by omega)) ?_
  rintro _ _ ⟨rfl, rfl⟩
  refine Hx.run 0 (pc' := 20) (L' := [some (vr 40), some (vi kd), some (vi s), some (vi (M 40 0))]) (st' := []) (M' := (up (up M 41 (M 40 0) kd) 45 (12 + (M 40 0)) s)) rfl ?_
  refine Hx.run 4 (pc' := 26) (L' := [some (vr 40), some (vi kd), some (vi s), some (vi (M 40 0))]) (st' := [vi 1, vi (M 40 0), vr 40]) (M' := (up (up M 41 (M 40 0) kd) 45 (12 + (M 40 0)) s)) rfl ?_
  refine Hx.add rfl (by omega) ?_
  refine Hx.run 5 (pc' := 36) (L' := [some (vr 40), some (vi kd), some (vi s), some (vi (M 40 0))]) (st' := [vi (M 40 0)]) (M' := (up (up (up (up M 41 (M 40 0) kd) 45 (12 + (M 40 0)) s) 40 0 ((M 40 0) + 1)) 40 2 0)) rfl ?_
  refine Hx.ret rfl ?_
  exact ⟨rfl, rfl⟩
set_option maxRecDepth 100000 in
theorem c_addGoer_40 (kd l f : Int) (M : Mm) (hx : 0 ≤ M 40 1 ∧ M 40 1 < 6) : Ct 10 [vr 40, vi kd, vi l, vi f] M (fun q0 M' => q0 = some (vi (M 40 1)) ∧ up (up (up (up (up (up (up M 42 (M 40 1) kd) 43 (M 40 1) l) 44 (M 40 1) f) 45 (M 40 1) 0) 45 (6 + (M 40 1)) 0) 40 1 (M 40 1 + 1)) 40 2 0 = M') := by
  refine Hx.run 7 (pc' := 13) (L' := [some (vr 40), some (vi kd), some (vi l), some (vi f), some (vi (M 40 1))]) (st' := [vi kd, vi (M 40 1), vr 42]) (M' := M) rfl ?_
  refine Hx.call (t := 122) (as := [vr 42, vi (M 40 1), vi kd]) (pc' := 16) (rest := []) rfl (c_put (r := 42) (n := 6) rfl (by decide) (i := (M 40 1)) (by omega) kd M) ?_
  rintro _ _ ⟨rfl, rfl⟩
  refine Hx.run 0 (pc' := 16) (L' := [some (vr 40), some (vi kd), some (vi l), some (vi f), some (vi (M 40 1))]) (st' := []) (M' := (up M 42 (M 40 1) kd)) rfl ?_
  refine Hx.run 4 (pc' := 23) (L' := [some (vr 40), some (vi kd), some (vi l), some (vi f), some (vi (M 40 1))]) (st' := [vi l, vi (M 40 1), vr 43]) (M' := (up M 42 (M 40 1) kd)) rfl ?_
  refine Hx.call (t := 122) (as := [vr 43, vi (M 40 1), vi l]) (pc' := 26) (rest := []) rfl (c_put (r := 43) (n := 6) rfl (by decide) (i := (M 40 1)) (by omega) l (up M 42 (M 40 1) kd)) ?_
  rintro _ _ ⟨rfl, rfl⟩
  refine Hx.run 0 (pc' := 26) (L' := [some (vr 40), some (vi kd), some (vi l), some (vi f), some (vi (M 40 1))]) (st' := []) (M' := (up (up M 42 (M 40 1) kd) 43 (M 40 1) l)) rfl ?_
  refine Hx.run 4 (pc' := 33) (L' := [some (vr 40), some (vi kd), some (vi l), some (vi f), some (vi (M 40 1))]) (st' := [vi f, vi (M 40 1), vr 44]) (M' := (up (up M 42 (M 40 1) kd) 43 (M 40 1) l)) rfl ?_
  refine Hx.call (t := 122) (as := [vr 44, vi (M 40 1), vi f]) (pc' := 36) (rest := []) rfl (c_put (r := 44) (n := 6) rfl (by decide) (i := (M 40 1)) (by omega) f (up (up M 42 (M 40 1) kd) 43 (M 40 1) l)) ?_
  rintro _ _ ⟨rfl, rfl⟩
  refine Hx.run 0 (pc' := 36) (L' := [some (vr 40), some (vi kd), some (vi l), some (vi f), some (vi (M 40 1))]) (st' := []) (M' := (up (up (up M 42 (M 40 1) kd) 43 (M 40 1) l) 44 (M 40 1) f)) rfl ?_
  refine Hx.run 3 (pc' := 40) (L' := [some (vr 40), some (vi kd), some (vi l), some (vi f), some (vi (M 40 1))]) (st' := [vi 0, vi (M 40 1), vr 40]) (M' := (up (up (up M 42 (M 40 1) kd) 43 (M 40 1) l) 44 (M 40 1) f)) rfl ?_
  refine Hx.call (t := 19) (as := [vr 40, vi (M 40 1), vi 0]) (pc' := 43) (rest := []) rfl (c_setStep_40 (M 40 1) 0 (up (up (up M 42 (M 40 1) kd) 43 (M 40 1) l) 44 (M 40 1) f) (by omega)) ?_
  rintro _ _ ⟨rfl, rfl⟩
  refine Hx.run 0 (pc' := 43) (L' := [some (vr 40), some (vi kd), some (vi l), some (vi f), some (vi (M 40 1))]) (st' := []) (M' := (up (up (up (up M 42 (M 40 1) kd) 43 (M 40 1) l) 44 (M 40 1) f) 45 (M 40 1) 0)) rfl ?_
  refine Hx.run 3 (pc' := 47) (L' := [some (vr 40), some (vi kd), some (vi l), some (vi f), some (vi (M 40 1))]) (st' := [vi 0, vi (M 40 1), vr 40]) (M' := (up (up (up (up M 42 (M 40 1) kd) 43 (M 40 1) l) 44 (M 40 1) f) 45 (M 40 1) 0)) rfl ?_
  refine Hx.call (t := 21) (as := [vr 40, vi (M 40 1), vi 0]) (pc' := 50) (rest := []) rfl (c_setLoad_40 (M 40 1) 0 (up (up (up (up M 42 (M 40 1) kd) 43 (M 40 1) l) 44 (M 40 1) f) 45 (M 40 1) 0) (by omega)) ?_
  rintro _ _ ⟨rfl, rfl⟩
  refine Hx.run 0 (pc' := 50) (L' := [some (vr 40), some (vi kd), some (vi l), some (vi f), some (vi (M 40 1))]) (st' := []) (M' := (up (up (up (up (up M 42 (M 40 1) kd) 43 (M 40 1) l) 44 (M 40 1) f) 45 (M 40 1) 0) 45 (6 + (M 40 1)) 0)) rfl ?_
  refine Hx.run 4 (pc' := 56) (L' := [some (vr 40), some (vi kd), some (vi l), some (vi f), some (vi (M 40 1))]) (st' := [vi 1, vi (M 40 1), vr 40]) (M' := (up (up (up (up (up M 42 (M 40 1) kd) 43 (M 40 1) l) 44 (M 40 1) f) 45 (M 40 1) 0) 45 (6 + (M 40 1)) 0)) rfl ?_
  refine Hx.add rfl (by omega) ?_
  refine Hx.run 5 (pc' := 67) (L' := [some (vr 40), some (vi kd), some (vi l), some (vi f), some (vi (M 40 1))]) (st' := [vi (M 40 1)]) (M' := (up (up (up (up (up (up (up M 42 (M 40 1) kd) 43 (M 40 1) l) 44 (M 40 1) f) 45 (M 40 1) 0) 45 (6 + (M 40 1)) 0) 40 1 ((M 40 1) + 1)) 40 2 0)) rfl ?_
  refine Hx.ret rfl ?_
  exact ⟨rfl, rfl⟩
set_option maxRecDepth 100000 in
theorem c_stride_40 (i d : Int) (M : Mm) (hg : (0 ≤ i ∧ i < 6) ∧ (0 ≤ M 42 i ∧ M 42 i ≤ 5) ∧ (1 ≤ M 43 i ∧ M 43 i ≤ 4) ∧ (0 ≤ M 44 i ∧ M 44 i < 3) ∧ (0 ≤ M 45 i ∧ M 45 i ≤ 11) ∧ (0 ≤ M 45 (6 + i) ∧ M 45 (6 + i) ≤ 9)) (hf : (0 ≤ (M 44 i) ∧ (M 44 i) < 3) ∧ (0 ≤ M 41 (M 44 i) ∧ M 41 (M 44 i) ≤ 5) ∧ (1 ≤ M 45 (12 + (M 44 i)) ∧ M 45 (12 + (M 44 i)) ≤ 10)) (hh : (0 ≤ M 45 16 ∧ M 45 16 ≤ 9999)) (hd : 1 ≤ d ∧ d ≤ 9) (hfa : 0 ≤ M 45 15 ∧ M 45 15 ≤ 9999) : Ct 33 [vr 40, vi i, vi d] M (fun q0 M' => (hb (bb (M 45 (12 + (M 44 i))) (bcF (M 41 (M 44 i)) (M 45 16 % 24))) (min 11 ((M 45 i) + d)) ∧ q0 = some (vi 0) ∧ up (up M 45 15 (min 9999 (M 45 15 + 1))) 45 i 0 = M') ∨ (¬ hb (bb (M 45 (12 + (M 44 i))) (bcF (M 41 (M 44 i)) (M 45 16 % 24))) (min 11 ((M 45 i) + d)) ∧ q0 = some (vi (min 11 ((M 45 i) + d))) ∧ up M 45 i (min 11 ((M 45 i) + d)) = M')) := by
  have hbb := bb_rng (M 45 (12 + (M 44 i))) (bcF (M 41 (M 44 i)) (M 45 16 % 24))
  refine Hx.run 3 (pc' := 4) (L' := [some (vr 40), some (vi i), some (vi d), none]) (st' := [vi i, vr 40, vi 11]) (M' := M) rfl ?_
  refine Hx.call (t := 18) (as := [vr 40, vi i]) (pc' := 7) (rest := [vi 11]) rfl (c_stepOf_40 i (by omega) M) ?_
  rintro _ _ ⟨rfl, rfl⟩
  refine Hx.run 0 (pc' := 7) (L' := [some (vr 40), some (vi i), some (vi d), none]) (st' := [vi (M 45 i), vi 11]) (M' := M) rfl ?_
  refine Hx.run 1 (pc' := 8) (L' := [some (vr 40), some (vi i), some (vi d), none]) (st' := [vi d, vi (M 45 i), vi 11]) (M' := M) rfl ?_
  refine Hx.add rfl (by omega) ?_
  refine Hx.call (t := 226) (as := [vi 11, vi ((M 45 i) + d)]) (pc' := 12) (rest := []) rfl (c_min 11 ((M 45 i) + d) M) ?_
  rintro _ _ ⟨rfl, rfl⟩
  refine Hx.run 0 (pc' := 12) (L' := [some (vr 40), some (vi i), some (vi d), none]) (st' := [vi (min 11 ((M 45 i) + d))]) (M' := M) rfl ?_
  refine Hx.run 3 (pc' := 15) (L' := [some (vr 40), some (vi i), some (vi d), some (vi (min 11 ((M 45 i) + d)))]) (st' := [vi i, vr 40]) (M' := M) rfl ?_
  refine Hx.call (t := 29) (as := [vr 40, vi i]) (pc' := 18) (rest := []) rfl (c_barsFor_40 i M (by omega) (by omega) (by omega)) ?_
  rintro _ _ ⟨rfl, rfl⟩
  refine Hx.run 0 (pc' := 18) (L' := [some (vr 40), some (vi i), some (vi d), some (vi (min 11 ((M 45 i) + d)))]) (st' := [vi (bb (M 45 (12 + (M 44 i))) (bcF (M 41 (M 44 i)) (M 45 16 % 24)))]) (M' := M) rfl ?_
  refine Hx.run 1 (pc' := 19) (L' := [some (vr 40), some (vi i), some (vi d), some (vi (min 11 ((M 45 i) + d)))]) (st' := [vi (min 11 ((M 45 i) + d)), vi (bb (M 45 (12 + (M 44 i))) (bcF (M 41 (M 44 i)) (M 45 16 % 24)))]) (M' := M) rfl ?_
  refine Hx.call (t := 128) (as := [vi (bb (M 45 (12 + (M 44 i))) (bcF (M 41 (M 44 i)) (M 45 16 % 24))), vi (min 11 ((M 45 i) + d))]) (pc' := 22) (rest := []) rfl (c_isBarred (bb (M 45 (12 + (M 44 i))) (bcF (M 41 (M 44 i)) (M 45 16 % 24))) (min 11 ((M 45 i) + d)) M (by omega) (by omega)) ?_
  rintro _ _ (⟨q2, rfl, rfl⟩ | ⟨q2, rfl, rfl⟩)
  · skip
    refine Hx.run 8 (pc' := 37) (L' := [some (vr 40), some (vi i), some (vi d), some (vi 0)]) (st' := [vr 40, vi 9999, vi 15, vr 45]) (M' := M) rfl ?_
    refine Hx.call (t := 22) (as := [vr 40]) (pc' := 40) (rest := [vi 9999, vi 15, vr 45]) rfl (c_falls_40 M) ?_
    rintro _ _ ⟨rfl, rfl⟩
    refine Hx.run 0 (pc' := 40) (L' := [some (vr 40), some (vi i), some (vi d), some (vi 0)]) (st' := [vi (M 45 15), vi 9999, vi 15, vr 45]) (M' := M) rfl ?_
    refine Hx.run 1 (pc' := 41) (L' := [some (vr 40), some (vi i), some (vi d), some (vi 0)]) (st' := [vi 1, vi (M 45 15), vi 9999, vi 15, vr 45]) (M' := M) rfl ?_
    refine Hx.add rfl (by omega) ?_
    refine Hx.call (t := 226) (as := [vi 9999, vi ((M 45 15) + 1)]) (pc' := 45) (rest := [vi 15, vr 45]) rfl (c_min 9999 ((M 45 15) + 1) M) ?_
    rintro _ _ ⟨rfl, rfl⟩
    refine Hx.run 0 (pc' := 45) (L' := [some (vr 40), some (vi i), some (vi d), some (vi 0)]) (st' := [vi (min 9999 ((M 45 15) + 1)), vi 15, vr 45]) (M' := M) rfl ?_
    refine Hx.call (t := 122) (as := [vr 45, vi 15, vi (min 9999 ((M 45 15) + 1))]) (pc' := 48) (rest := []) rfl (c_put (r := 45) (n := 17) rfl (by decide) (i := 15) (by omega) (min 9999 ((M 45 15) + 1)) M) ?_
    rintro _ _ ⟨rfl, rfl⟩
    refine Hx.run 0 (pc' := 48) (L' := [some (vr 40), some (vi i), some (vi d), some (vi 0)]) (st' := []) (M' := (up M 45 15 (min 9999 ((M 45 15) + 1)))) rfl ?_
    refine Hx.run 3 (pc' := 51) (L' := [some (vr 40), some (vi i), some (vi d), some (vi 0)]) (st' := [vi 0, vi i, vr 40]) (M' := (up M 45 15 (min 9999 ((M 45 15) + 1)))) rfl ?_
    refine Hx.call (t := 19) (as := [vr 40, vi i, vi 0]) (pc' := 54) (rest := []) rfl (c_setStep_40 i 0 (up M 45 15 (min 9999 ((M 45 15) + 1))) (by omega)) ?_
    rintro _ _ ⟨rfl, rfl⟩
    refine Hx.run 0 (pc' := 54) (L' := [some (vr 40), some (vi i), some (vi d), some (vi 0)]) (st' := []) (M' := (up (up M 45 15 (min 9999 ((M 45 15) + 1))) 45 i 0)) rfl ?_
    refine Hx.run 1 (pc' := 55) (L' := [some (vr 40), some (vi i), some (vi d), some (vi 0)]) (st' := [vi 0]) (M' := (up (up M 45 15 (min 9999 ((M 45 15) + 1))) 45 i 0)) rfl ?_
    refine Hx.ret rfl ?_
    first | exact Or.inl ⟨by assumption, rfl, rfl⟩ | exact Or.inr ⟨by assumption, rfl, rfl⟩
  · skip
    refine Hx.run 4 (pc' := 51) (L' := [some (vr 40), some (vi i), some (vi d), some (vi (min 11 ((M 45 i) + d)))]) (st' := [vi (min 11 ((M 45 i) + d)), vi i, vr 40]) (M' := M) rfl ?_
    refine Hx.call (t := 19) (as := [vr 40, vi i, vi (min 11 ((M 45 i) + d))]) (pc' := 54) (rest := []) rfl (c_setStep_40 i (min 11 ((M 45 i) + d)) M (by omega)) ?_
    rintro _ _ ⟨rfl, rfl⟩
    refine Hx.run 0 (pc' := 54) (L' := [some (vr 40), some (vi i), some (vi d), some (vi (min 11 ((M 45 i) + d)))]) (st' := []) (M' := (up M 45 i (min 11 ((M 45 i) + d)))) rfl ?_
    refine Hx.run 1 (pc' := 55) (L' := [some (vr 40), some (vi i), some (vi d), some (vi (min 11 ((M 45 i) + d)))]) (st' := [vi (min 11 ((M 45 i) + d))]) (M' := (up M 45 i (min 11 ((M 45 i) + d)))) rfl ?_
    refine Hx.ret rfl ?_
    first | exact Or.inl ⟨by assumption, rfl, rfl⟩ | exact Or.inr ⟨by assumption, rfl, rfl⟩
