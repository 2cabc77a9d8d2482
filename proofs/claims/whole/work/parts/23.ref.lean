/-! the reference: it grows, strides, minds (written by wip/whole/gen23.py) -/
theorem Hx.eqS {y pc : Nat} {L : Lc} {st st' : List PV} {M : Mm} {P : Option PV → Mm → Prop} (e : st = st') (h : Hx y pc L st' M P) : Hx y pc L st M P := by subst e; exact h
set_option maxRecDepth 100000 in
theorem r_addsFlight_0 (a b : Int) (M : Mm) (h : 0 ≤ M 65 0 ∧ M 65 0 < 3) : Ct 149 [vr 64, vi 0, vi a, vi b] M (fun q0 M' => q0 = none ∧ (up (up (up M 65 (4 + (M 65 0)) a) 65 (7 + (M 65 0)) b) 65 0 ((M 65 0) + 1)) = M') := by
  refine Hx.run 4 (pc' := 6) (L' := [some (vr 64), some (vi 0), some (vi a), some (vi b)]) (st' := [vi 4, vi 0, vr 65]) (M' := M) rfl ?_
  refine Hx.add rfl (by omega) ?_
  refine Hx.run 0 (pc' := 7) (L' := [some (vr 64), some (vi 0), some (vi a), some (vi b)]) (st' := [vi 4, vr 65]) (M' := M) rfl ?_
  refine Hx.run 4 (pc' := 13) (L' := [some (vr 64), some (vi 0), some (vi a), some (vi b)]) (st' := [vi 0, vi 0, vr 65, vi 4, vr 65]) (M' := M) rfl ?_
  refine Hx.add rfl (by omega) ?_
  refine Hx.run 0 (pc' := 14) (L' := [some (vr 64), some (vi 0), some (vi a), some (vi b)]) (st' := [vi 0, vr 65, vi 4, vr 65]) (M' := M) rfl ?_
  refine Hx.run 1 (pc' := 15) (L' := [some (vr 64), some (vi 0), some (vi a), some (vi b)]) (st' := [vi (M 65 0), vi 4, vr 65]) (M' := M) rfl ?_
  refine Hx.add rfl (by omega) ?_
  refine Hx.run 1 (pc' := 17) (L' := [some (vr 64), some (vi 0), some (vi a), some (vi b)]) (st' := [vi a, vi (4 + (M 65 0)), vr 65]) (M' := M) rfl ?_
  refine Hx.astI (n := 1032) rfl rfl (by omega) ?_
  refine Hx.run 4 (pc' := 25) (L' := [some (vr 64), some (vi 0), some (vi a), some (vi b)]) (st' := [vi 7, vi 0, vr 65]) (M' := (up M 65 (4 + (M 65 0)) a)) rfl ?_
  refine Hx.add rfl (by omega) ?_
  refine Hx.run 0 (pc' := 26) (L' := [some (vr 64), some (vi 0), some (vi a), some (vi b)]) (st' := [vi 7, vr 65]) (M' := (up M 65 (4 + (M 65 0)) a)) rfl ?_
  refine Hx.run 4 (pc' := 32) (L' := [some (vr 64), some (vi 0), some (vi a), some (vi b)]) (st' := [vi 0, vi 0, vr 65, vi 7, vr 65]) (M' := (up M 65 (4 + (M 65 0)) a)) rfl ?_
  refine Hx.add rfl (by omega) ?_
  refine Hx.run 0 (pc' := 33) (L' := [some (vr 64), some (vi 0), some (vi a), some (vi b)]) (st' := [vi 0, vr 65, vi 7, vr 65]) (M' := (up M 65 (4 + (M 65 0)) a)) rfl ?_
  refine Hx.aldI (n := 1032) rfl rfl (by omega) ?_
  refine Hx.eqS (st' := [vi (M 65 0), vi 7, vr 65]) (by rw [show ((up M 65 (4 + (M 65 0)) a) 65 0) = (M 65 0) from by rw [up_off (by omega)]]) ?_
  refine Hx.add rfl (by omega) ?_
  refine Hx.run 1 (pc' := 36) (L' := [some (vr 64), some (vi 0), some (vi a), some (vi b)]) (st' := [vi b, vi (7 + (M 65 0)), vr 65]) (M' := (up M 65 (4 + (M 65 0)) a)) rfl ?_
  refine Hx.astI (n := 1032) rfl rfl (by omega) ?_
  refine Hx.run 4 (pc' := 43) (L' := [some (vr 64), some (vi 0), some (vi a), some (vi b)]) (st' := [vi 0, vi 0, vr 65]) (M' := (up (up M 65 (4 + (M 65 0)) a) 65 (7 + (M 65 0)) b)) rfl ?_
  refine Hx.add rfl (by omega) ?_
  refine Hx.run 0 (pc' := 44) (L' := [some (vr 64), some (vi 0), some (vi a), some (vi b)]) (st' := [vi 0, vr 65]) (M' := (up (up M 65 (4 + (M 65 0)) a) 65 (7 + (M 65 0)) b)) rfl ?_
  refine Hx.run 1 (pc' := 45) (L' := [some (vr 64), some (vi 0), some (vi a), some (vi b)]) (st' := [vi 0, vr 65, vi 0, vr 65]) (M' := (up (up M 65 (4 + (M 65 0)) a) 65 (7 + (M 65 0)) b)) rfl ?_
  refine Hx.aldI (n := 1032) rfl rfl (by omega) ?_
  refine Hx.eqS (st' := [vi (M 65 0), vi 0, vr 65]) (by rw [show ((up (up M 65 (4 + (M 65 0)) a) 65 (7 + (M 65 0)) b) 65 0) = (M 65 0) from by rw [up_off (by omega), up_off (by omega)]]) ?_
  refine Hx.run 1 (pc' := 47) (L' := [some (vr 64), some (vi 0), some (vi a), some (vi b)]) (st' := [vi 1, vi (M 65 0), vi 0, vr 65]) (M' := (up (up M 65 (4 + (M 65 0)) a) 65 (7 + (M 65 0)) b)) rfl ?_
  refine Hx.add rfl (by omega) ?_
  refine Hx.astI (n := 1032) rfl rfl (by omega) ?_
  refine Hx.ret rfl ?_
  exact ⟨rfl, rfl⟩
set_option maxRecDepth 100000 in
theorem r_addsGoer_0 (a b c : Int) (M : Mm) (h : 0 ≤ M 65 1 ∧ M 65 1 < 6) : Ct 151 [vr 64, vi 0, vi a, vi b, vi c] M (fun q0 M' => q0 = none ∧ (up (up (up (up (up (up M 65 (10 + (M 65 1)) a) 65 (16 + (M 65 1)) b) 65 (22 + (M 65 1)) c) 65 (28 + (M 65 1)) 0) 65 (34 + (M 65 1)) 0) 65 1 ((M 65 1) + 1)) = M') := by
  refine Hx.run 4 (pc' := 6) (L' := [some (vr 64), some (vi 0), some (vi a), some (vi b), some (vi c), none]) (st' := [vi 1, vi 0, vr 65]) (M' := M) rfl ?_
  refine Hx.add rfl (by omega) ?_
  refine Hx.run 0 (pc' := 7) (L' := [some (vr 64), some (vi 0), some (vi a), some (vi b), some (vi c), none]) (st' := [vi 1, vr 65]) (M' := M) rfl ?_
  refine Hx.run 6 (pc' := 17) (L' := [some (vr 64), some (vi 0), some (vi a), some (vi b), some (vi c), some (vi (M 65 1))]) (st' := [vi 10, vi 0, vr 65]) (M' := M) rfl ?_
  refine Hx.add rfl (by omega) ?_
  refine Hx.run 0 (pc' := 18) (L' := [some (vr 64), some (vi 0), some (vi a), some (vi b), some (vi c), some (vi (M 65 1))]) (st' := [vi 10, vr 65]) (M' := M) rfl ?_
  refine Hx.run 1 (pc' := 20) (L' := [some (vr 64), some (vi 0), some (vi a), some (vi b), some (vi c), some (vi (M 65 1))]) (st' := [vi (M 65 1), vi 10, vr 65]) (M' := M) rfl ?_
  refine Hx.add rfl (by omega) ?_
  refine Hx.run 1 (pc' := 22) (L' := [some (vr 64), some (vi 0), some (vi a), some (vi b), some (vi c), some (vi (M 65 1))]) (st' := [vi a, vi (10 + (M 65 1)), vr 65]) (M' := M) rfl ?_
  refine Hx.astI (n := 1032) rfl rfl (by omega) ?_
  refine Hx.run 4 (pc' := 30) (L' := [some (vr 64), some (vi 0), some (vi a), some (vi b), some (vi c), some (vi (M 65 1))]) (st' := [vi 16, vi 0, vr 65]) (M' := (up M 65 (10 + (M 65 1)) a)) rfl ?_
  refine Hx.add rfl (by omega) ?_
  refine Hx.run 0 (pc' := 31) (L' := [some (vr 64), some (vi 0), some (vi a), some (vi b), some (vi c), some (vi (M 65 1))]) (st' := [vi 16, vr 65]) (M' := (up M 65 (10 + (M 65 1)) a)) rfl ?_
  refine Hx.run 1 (pc' := 33) (L' := [some (vr 64), some (vi 0), some (vi a), some (vi b), some (vi c), some (vi (M 65 1))]) (st' := [vi (M 65 1), vi 16, vr 65]) (M' := (up M 65 (10 + (M 65 1)) a)) rfl ?_
  refine Hx.add rfl (by omega) ?_
  refine Hx.run 1 (pc' := 35) (L' := [some (vr 64), some (vi 0), some (vi a), some (vi b), some (vi c), some (vi (M 65 1))]) (st' := [vi b, vi (16 + (M 65 1)), vr 65]) (M' := (up M 65 (10 + (M 65 1)) a)) rfl ?_
  refine Hx.astI (n := 1032) rfl rfl (by omega) ?_
  refine Hx.run 4 (pc' := 43) (L' := [some (vr 64), some (vi 0), some (vi a), some (vi b), some (vi c), some (vi (M 65 1))]) (st' := [vi 22, vi 0, vr 65]) (M' := (up (up M 65 (10 + (M 65 1)) a) 65 (16 + (M 65 1)) b)) rfl ?_
  refine Hx.add rfl (by omega) ?_
  refine Hx.run 0 (pc' := 44) (L' := [some (vr 64), some (vi 0), some (vi a), some (vi b), some (vi c), some (vi (M 65 1))]) (st' := [vi 22, vr 65]) (M' := (up (up M 65 (10 + (M 65 1)) a) 65 (16 + (M 65 1)) b)) rfl ?_
  refine Hx.run 1 (pc' := 46) (L' := [some (vr 64), some (vi 0), some (vi a), some (vi b), some (vi c), some (vi (M 65 1))]) (st' := [vi (M 65 1), vi 22, vr 65]) (M' := (up (up M 65 (10 + (M 65 1)) a) 65 (16 + (M 65 1)) b)) rfl ?_
  refine Hx.add rfl (by omega) ?_
  refine Hx.run 1 (pc' := 49) (L' := [some (vr 64), some (vi 0), some (vi a), some (vi b), some (vi c), some (vi (M 65 1))]) (st' := [vi c, vi (22 + (M 65 1)), vr 65]) (M' := (up (up M 65 (10 + (M 65 1)) a) 65 (16 + (M 65 1)) b)) rfl ?_
  refine Hx.astI (n := 1032) rfl rfl (by omega) ?_
  refine Hx.run 4 (pc' := 57) (L' := [some (vr 64), some (vi 0), some (vi a), some (vi b), some (vi c), some (vi (M 65 1))]) (st' := [vi 28, vi 0, vr 65]) (M' := (up (up (up M 65 (10 + (M 65 1)) a) 65 (16 + (M 65 1)) b) 65 (22 + (M 65 1)) c)) rfl ?_
  refine Hx.add rfl (by omega) ?_
  refine Hx.run 0 (pc' := 58) (L' := [some (vr 64), some (vi 0), some (vi a), some (vi b), some (vi c), some (vi (M 65 1))]) (st' := [vi 28, vr 65]) (M' := (up (up (up M 65 (10 + (M 65 1)) a) 65 (16 + (M 65 1)) b) 65 (22 + (M 65 1)) c)) rfl ?_
  refine Hx.run 1 (pc' := 60) (L' := [some (vr 64), some (vi 0), some (vi a), some (vi b), some (vi c), some (vi (M 65 1))]) (st' := [vi (M 65 1), vi 28, vr 65]) (M' := (up (up (up M 65 (10 + (M 65 1)) a) 65 (16 + (M 65 1)) b) 65 (22 + (M 65 1)) c)) rfl ?_
  refine Hx.add rfl (by omega) ?_
  refine Hx.run 1 (pc' := 62) (L' := [some (vr 64), some (vi 0), some (vi a), some (vi b), some (vi c), some (vi (M 65 1))]) (st' := [vi 0, vi (28 + (M 65 1)), vr 65]) (M' := (up (up (up M 65 (10 + (M 65 1)) a) 65 (16 + (M 65 1)) b) 65 (22 + (M 65 1)) c)) rfl ?_
  refine Hx.astI (n := 1032) rfl rfl (by omega) ?_
  refine Hx.run 4 (pc' := 70) (L' := [some (vr 64), some (vi 0), some (vi a), some (vi b), some (vi c), some (vi (M 65 1))]) (st' := [vi 34, vi 0, vr 65]) (M' := (up (up (up (up M 65 (10 + (M 65 1)) a) 65 (16 + (M 65 1)) b) 65 (22 + (M 65 1)) c) 65 (28 + (M 65 1)) 0)) rfl ?_
  refine Hx.add rfl (by omega) ?_
  refine Hx.run 0 (pc' := 71) (L' := [some (vr 64), some (vi 0), some (vi a), some (vi b), some (vi c), some (vi (M 65 1))]) (st' := [vi 34, vr 65]) (M' := (up (up (up (up M 65 (10 + (M 65 1)) a) 65 (16 + (M 65 1)) b) 65 (22 + (M 65 1)) c) 65 (28 + (M 65 1)) 0)) rfl ?_
  refine Hx.run 1 (pc' := 73) (L' := [some (vr 64), some (vi 0), some (vi a), some (vi b), some (vi c), some (vi (M 65 1))]) (st' := [vi (M 65 1), vi 34, vr 65]) (M' := (up (up (up (up M 65 (10 + (M 65 1)) a) 65 (16 + (M 65 1)) b) 65 (22 + (M 65 1)) c) 65 (28 + (M 65 1)) 0)) rfl ?_
  refine Hx.add rfl (by omega) ?_
  refine Hx.run 1 (pc' := 75) (L' := [some (vr 64), some (vi 0), some (vi a), some (vi b), some (vi c), some (vi (M 65 1))]) (st' := [vi 0, vi (34 + (M 65 1)), vr 65]) (M' := (up (up (up (up M 65 (10 + (M 65 1)) a) 65 (16 + (M 65 1)) b) 65 (22 + (M 65 1)) c) 65 (28 + (M 65 1)) 0)) rfl ?_
  refine Hx.astI (n := 1032) rfl rfl (by omega) ?_
  refine Hx.run 4 (pc' := 82) (L' := [some (vr 64), some (vi 0), some (vi a), some (vi b), some (vi c), some (vi (M 65 1))]) (st' := [vi 1, vi 0, vr 65]) (M' := (up (up (up (up (up M 65 (10 + (M 65 1)) a) 65 (16 + (M 65 1)) b) 65 (22 + (M 65 1)) c) 65 (28 + (M 65 1)) 0) 65 (34 + (M 65 1)) 0)) rfl ?_
  refine Hx.add rfl (by omega) ?_
  refine Hx.run 0 (pc' := 83) (L' := [some (vr 64), some (vi 0), some (vi a), some (vi b), some (vi c), some (vi (M 65 1))]) (st' := [vi 1, vr 65]) (M' := (up (up (up (up (up M 65 (10 + (M 65 1)) a) 65 (16 + (M 65 1)) b) 65 (22 + (M 65 1)) c) 65 (28 + (M 65 1)) 0) 65 (34 + (M 65 1)) 0)) rfl ?_
  refine Hx.run 1 (pc' := 84) (L' := [some (vr 64), some (vi 0), some (vi a), some (vi b), some (vi c), some (vi (M 65 1))]) (st' := [vi 1, vr 65, vi 1, vr 65]) (M' := (up (up (up (up (up M 65 (10 + (M 65 1)) a) 65 (16 + (M 65 1)) b) 65 (22 + (M 65 1)) c) 65 (28 + (M 65 1)) 0) 65 (34 + (M 65 1)) 0)) rfl ?_
  refine Hx.aldI (n := 1032) rfl rfl (by omega) ?_
  refine Hx.eqS (st' := [vi (M 65 1), vi 1, vr 65]) (by rw [show ((up (up (up (up (up M 65 (10 + (M 65 1)) a) 65 (16 + (M 65 1)) b) 65 (22 + (M 65 1)) c) 65 (28 + (M 65 1)) 0) 65 (34 + (M 65 1)) 0) 65 1) = (M 65 1) from by rw [up_off (by omega), up_off (by omega), up_off (by omega), up_off (by omega), up_off (by omega)]]) ?_
  refine Hx.run 1 (pc' := 86) (L' := [some (vr 64), some (vi 0), some (vi a), some (vi b), some (vi c), some (vi (M 65 1))]) (st' := [vi 1, vi (M 65 1), vi 1, vr 65]) (M' := (up (up (up (up (up M 65 (10 + (M 65 1)) a) 65 (16 + (M 65 1)) b) 65 (22 + (M 65 1)) c) 65 (28 + (M 65 1)) 0) 65 (34 + (M 65 1)) 0)) rfl ?_
  refine Hx.add rfl (by omega) ?_
  refine Hx.astI (n := 1032) rfl rfl (by omega) ?_
  refine Hx.ret rfl ?_
  exact ⟨rfl, rfl⟩
set_option maxRecDepth 100000 in
theorem r_addsFlight_744 (a b : Int) (M : Mm) (h : 0 ≤ M 65 744 ∧ M 65 744 < 3) : Ct 149 [vr 64, vi 744, vi a, vi b] M (fun q0 M' => q0 = none ∧ (up (up (up M 65 (748 + (M 65 744)) a) 65 (751 + (M 65 744)) b) 65 744 ((M 65 744) + 1)) = M') := by
  refine Hx.run 4 (pc' := 6) (L' := [some (vr 64), some (vi 744), some (vi a), some (vi b)]) (st' := [vi 4, vi 744, vr 65]) (M' := M) rfl ?_
  refine Hx.add rfl (by omega) ?_
  refine Hx.run 0 (pc' := 7) (L' := [some (vr 64), some (vi 744), some (vi a), some (vi b)]) (st' := [vi 748, vr 65]) (M' := M) rfl ?_
  refine Hx.run 4 (pc' := 13) (L' := [some (vr 64), some (vi 744), some (vi a), some (vi b)]) (st' := [vi 0, vi 744, vr 65, vi 748, vr 65]) (M' := M) rfl ?_
  refine Hx.add rfl (by omega) ?_
  refine Hx.run 0 (pc' := 14) (L' := [some (vr 64), some (vi 744), some (vi a), some (vi b)]) (st' := [vi 744, vr 65, vi 748, vr 65]) (M' := M) rfl ?_
  refine Hx.run 1 (pc' := 15) (L' := [some (vr 64), some (vi 744), some (vi a), some (vi b)]) (st' := [vi (M 65 744), vi 748, vr 65]) (M' := M) rfl ?_
  refine Hx.add rfl (by omega) ?_
  refine Hx.run 1 (pc' := 17) (L' := [some (vr 64), some (vi 744), some (vi a), some (vi b)]) (st' := [vi a, vi (748 + (M 65 744)), vr 65]) (M' := M) rfl ?_
  refine Hx.astI (n := 1032) rfl rfl (by omega) ?_
  refine Hx.run 4 (pc' := 25) (L' := [some (vr 64), some (vi 744), some (vi a), some (vi b)]) (st' := [vi 7, vi 744, vr 65]) (M' := (up M 65 (748 + (M 65 744)) a)) rfl ?_
  refine Hx.add rfl (by omega) ?_
  refine Hx.run 0 (pc' := 26) (L' := [some (vr 64), some (vi 744), some (vi a), some (vi b)]) (st' := [vi 751, vr 65]) (M' := (up M 65 (748 + (M 65 744)) a)) rfl ?_
  refine Hx.run 4 (pc' := 32) (L' := [some (vr 64), some (vi 744), some (vi a), some (vi b)]) (st' := [vi 0, vi 744, vr 65, vi 751, vr 65]) (M' := (up M 65 (748 + (M 65 744)) a)) rfl ?_
  refine Hx.add rfl (by omega) ?_
  refine Hx.run 0 (pc' := 33) (L' := [some (vr 64), some (vi 744), some (vi a), some (vi b)]) (st' := [vi 744, vr 65, vi 751, vr 65]) (M' := (up M 65 (748 + (M 65 744)) a)) rfl ?_
  refine Hx.aldI (n := 1032) rfl rfl (by omega) ?_
  refine Hx.eqS (st' := [vi (M 65 744), vi 751, vr 65]) (by rw [show ((up M 65 (748 + (M 65 744)) a) 65 744) = (M 65 744) from by rw [up_off (by omega)]]) ?_
  refine Hx.add rfl (by omega) ?_
  refine Hx.run 1 (pc' := 36) (L' := [some (vr 64), some (vi 744), some (vi a), some (vi b)]) (st' := [vi b, vi (751 + (M 65 744)), vr 65]) (M' := (up M 65 (748 + (M 65 744)) a)) rfl ?_
  refine Hx.astI (n := 1032) rfl rfl (by omega) ?_
  refine Hx.run 4 (pc' := 43) (L' := [some (vr 64), some (vi 744), some (vi a), some (vi b)]) (st' := [vi 0, vi 744, vr 65]) (M' := (up (up M 65 (748 + (M 65 744)) a) 65 (751 + (M 65 744)) b)) rfl ?_
  refine Hx.add rfl (by omega) ?_
  refine Hx.run 0 (pc' := 44) (L' := [some (vr 64), some (vi 744), some (vi a), some (vi b)]) (st' := [vi 744, vr 65]) (M' := (up (up M 65 (748 + (M 65 744)) a) 65 (751 + (M 65 744)) b)) rfl ?_
  refine Hx.run 1 (pc' := 45) (L' := [some (vr 64), some (vi 744), some (vi a), some (vi b)]) (st' := [vi 744, vr 65, vi 744, vr 65]) (M' := (up (up M 65 (748 + (M 65 744)) a) 65 (751 + (M 65 744)) b)) rfl ?_
  refine Hx.aldI (n := 1032) rfl rfl (by omega) ?_
  refine Hx.eqS (st' := [vi (M 65 744), vi 744, vr 65]) (by rw [show ((up (up M 65 (748 + (M 65 744)) a) 65 (751 + (M 65 744)) b) 65 744) = (M 65 744) from by rw [up_off (by omega), up_off (by omega)]]) ?_
  refine Hx.run 1 (pc' := 47) (L' := [some (vr 64), some (vi 744), some (vi a), some (vi b)]) (st' := [vi 1, vi (M 65 744), vi 744, vr 65]) (M' := (up (up M 65 (748 + (M 65 744)) a) 65 (751 + (M 65 744)) b)) rfl ?_
  refine Hx.add rfl (by omega) ?_
  refine Hx.astI (n := 1032) rfl rfl (by omega) ?_
  refine Hx.ret rfl ?_
  exact ⟨rfl, rfl⟩
set_option maxRecDepth 100000 in
theorem r_addsGoer_744 (a b c : Int) (M : Mm) (h : 0 ≤ M 65 745 ∧ M 65 745 < 6) : Ct 151 [vr 64, vi 744, vi a, vi b, vi c] M (fun q0 M' => q0 = none ∧ (up (up (up (up (up (up M 65 (754 + (M 65 745)) a) 65 (760 + (M 65 745)) b) 65 (766 + (M 65 745)) c) 65 (772 + (M 65 745)) 0) 65 (778 + (M 65 745)) 0) 65 745 ((M 65 745) + 1)) = M') := by
  refine Hx.run 4 (pc' := 6) (L' := [some (vr 64), some (vi 744), some (vi a), some (vi b), some (vi c), none]) (st' := [vi 1, vi 744, vr 65]) (M' := M) rfl ?_
  refine Hx.add rfl (by omega) ?_
  refine Hx.run 0 (pc' := 7) (L' := [some (vr 64), some (vi 744), some (vi a), some (vi b), some (vi c), none]) (st' := [vi 745, vr 65]) (M' := M) rfl ?_
  refine Hx.run 6 (pc' := 17) (L' := [some (vr 64), some (vi 744), some (vi a), some (vi b), some (vi c), some (vi (M 65 745))]) (st' := [vi 10, vi 744, vr 65]) (M' := M) rfl ?_
  refine Hx.add rfl (by omega) ?_
  refine Hx.run 0 (pc' := 18) (L' := [some (vr 64), some (vi 744), some (vi a), some (vi b), some (vi c), some (vi (M 65 745))]) (st' := [vi 754, vr 65]) (M' := M) rfl ?_
  refine Hx.run 1 (pc' := 20) (L' := [some (vr 64), some (vi 744), some (vi a), some (vi b), some (vi c), some (vi (M 65 745))]) (st' := [vi (M 65 745), vi 754, vr 65]) (M' := M) rfl ?_
  refine Hx.add rfl (by omega) ?_
  refine Hx.run 1 (pc' := 22) (L' := [some (vr 64), some (vi 744), some (vi a), some (vi b), some (vi c), some (vi (M 65 745))]) (st' := [vi a, vi (754 + (M 65 745)), vr 65]) (M' := M) rfl ?_
  refine Hx.astI (n := 1032) rfl rfl (by omega) ?_
  refine Hx.run 4 (pc' := 30) (L' := [some (vr 64), some (vi 744), some (vi a), some (vi b), some (vi c), some (vi (M 65 745))]) (st' := [vi 16, vi 744, vr 65]) (M' := (up M 65 (754 + (M 65 745)) a)) rfl ?_
  refine Hx.add rfl (by omega) ?_
  refine Hx.run 0 (pc' := 31) (L' := [some (vr 64), some (vi 744), some (vi a), some (vi b), some (vi c), some (vi (M 65 745))]) (st' := [vi 760, vr 65]) (M' := (up M 65 (754 + (M 65 745)) a)) rfl ?_
  refine Hx.run 1 (pc' := 33) (L' := [some (vr 64), some (vi 744), some (vi a), some (vi b), some (vi c), some (vi (M 65 745))]) (st' := [vi (M 65 745), vi 760, vr 65]) (M' := (up M 65 (754 + (M 65 745)) a)) rfl ?_
  refine Hx.add rfl (by omega) ?_
  refine Hx.run 1 (pc' := 35) (L' := [some (vr 64), some (vi 744), some (vi a), some (vi b), some (vi c), some (vi (M 65 745))]) (st' := [vi b, vi (760 + (M 65 745)), vr 65]) (M' := (up M 65 (754 + (M 65 745)) a)) rfl ?_
  refine Hx.astI (n := 1032) rfl rfl (by omega) ?_
  refine Hx.run 4 (pc' := 43) (L' := [some (vr 64), some (vi 744), some (vi a), some (vi b), some (vi c), some (vi (M 65 745))]) (st' := [vi 22, vi 744, vr 65]) (M' := (up (up M 65 (754 + (M 65 745)) a) 65 (760 + (M 65 745)) b)) rfl ?_
  refine Hx.add rfl (by omega) ?_
  refine Hx.run 0 (pc' := 44) (L' := [some (vr 64), some (vi 744), some (vi a), some (vi b), some (vi c), some (vi (M 65 745))]) (st' := [vi 766, vr 65]) (M' := (up (up M 65 (754 + (M 65 745)) a) 65 (760 + (M 65 745)) b)) rfl ?_
  refine Hx.run 1 (pc' := 46) (L' := [some (vr 64), some (vi 744), some (vi a), some (vi b), some (vi c), some (vi (M 65 745))]) (st' := [vi (M 65 745), vi 766, vr 65]) (M' := (up (up M 65 (754 + (M 65 745)) a) 65 (760 + (M 65 745)) b)) rfl ?_
  refine Hx.add rfl (by omega) ?_
  refine Hx.run 1 (pc' := 49) (L' := [some (vr 64), some (vi 744), some (vi a), some (vi b), some (vi c), some (vi (M 65 745))]) (st' := [vi c, vi (766 + (M 65 745)), vr 65]) (M' := (up (up M 65 (754 + (M 65 745)) a) 65 (760 + (M 65 745)) b)) rfl ?_
  refine Hx.astI (n := 1032) rfl rfl (by omega) ?_
  refine Hx.run 4 (pc' := 57) (L' := [some (vr 64), some (vi 744), some (vi a), some (vi b), some (vi c), some (vi (M 65 745))]) (st' := [vi 28, vi 744, vr 65]) (M' := (up (up (up M 65 (754 + (M 65 745)) a) 65 (760 + (M 65 745)) b) 65 (766 + (M 65 745)) c)) rfl ?_
  refine Hx.add rfl (by omega) ?_
  refine Hx.run 0 (pc' := 58) (L' := [some (vr 64), some (vi 744), some (vi a), some (vi b), some (vi c), some (vi (M 65 745))]) (st' := [vi 772, vr 65]) (M' := (up (up (up M 65 (754 + (M 65 745)) a) 65 (760 + (M 65 745)) b) 65 (766 + (M 65 745)) c)) rfl ?_
  refine Hx.run 1 (pc' := 60) (L' := [some (vr 64), some (vi 744), some (vi a), some (vi b), some (vi c), some (vi (M 65 745))]) (st' := [vi (M 65 745), vi 772, vr 65]) (M' := (up (up (up M 65 (754 + (M 65 745)) a) 65 (760 + (M 65 745)) b) 65 (766 + (M 65 745)) c)) rfl ?_
  refine Hx.add rfl (by omega) ?_
  refine Hx.run 1 (pc' := 62) (L' := [some (vr 64), some (vi 744), some (vi a), some (vi b), some (vi c), some (vi (M 65 745))]) (st' := [vi 0, vi (772 + (M 65 745)), vr 65]) (M' := (up (up (up M 65 (754 + (M 65 745)) a) 65 (760 + (M 65 745)) b) 65 (766 + (M 65 745)) c)) rfl ?_
  refine Hx.astI (n := 1032) rfl rfl (by omega) ?_
  refine Hx.run 4 (pc' := 70) (L' := [some (vr 64), some (vi 744), some (vi a), some (vi b), some (vi c), some (vi (M 65 745))]) (st' := [vi 34, vi 744, vr 65]) (M' := (up (up (up (up M 65 (754 + (M 65 745)) a) 65 (760 + (M 65 745)) b) 65 (766 + (M 65 745)) c) 65 (772 + (M 65 745)) 0)) rfl ?_
  refine Hx.add rfl (by omega) ?_
  refine Hx.run 0 (pc' := 71) (L' := [some (vr 64), some (vi 744), some (vi a), some (vi b), some (vi c), some (vi (M 65 745))]) (st' := [vi 778, vr 65]) (M' := (up (up (up (up M 65 (754 + (M 65 745)) a) 65 (760 + (M 65 745)) b) 65 (766 + (M 65 745)) c) 65 (772 + (M 65 745)) 0)) rfl ?_
  refine Hx.run 1 (pc' := 73) (L' := [some (vr 64), some (vi 744), some (vi a), some (vi b), some (vi c), some (vi (M 65 745))]) (st' := [vi (M 65 745), vi 778, vr 65]) (M' := (up (up (up (up M 65 (754 + (M 65 745)) a) 65 (760 + (M 65 745)) b) 65 (766 + (M 65 745)) c) 65 (772 + (M 65 745)) 0)) rfl ?_
  refine Hx.add rfl (by omega) ?_
  refine Hx.run 1 (pc' := 75) (L' := [some (vr 64), some (vi 744), some (vi a), some (vi b), some (vi c), some (vi (M 65 745))]) (st' := [vi 0, vi (778 + (M 65 745)), vr 65]) (M' := (up (up (up (up M 65 (754 + (M 65 745)) a) 65 (760 + (M 65 745)) b) 65 (766 + (M 65 745)) c) 65 (772 + (M 65 745)) 0)) rfl ?_
  refine Hx.astI (n := 1032) rfl rfl (by omega) ?_
  refine Hx.run 4 (pc' := 82) (L' := [some (vr 64), some (vi 744), some (vi a), some (vi b), some (vi c), some (vi (M 65 745))]) (st' := [vi 1, vi 744, vr 65]) (M' := (up (up (up (up (up M 65 (754 + (M 65 745)) a) 65 (760 + (M 65 745)) b) 65 (766 + (M 65 745)) c) 65 (772 + (M 65 745)) 0) 65 (778 + (M 65 745)) 0)) rfl ?_
  refine Hx.add rfl (by omega) ?_
  refine Hx.run 0 (pc' := 83) (L' := [some (vr 64), some (vi 744), some (vi a), some (vi b), some (vi c), some (vi (M 65 745))]) (st' := [vi 745, vr 65]) (M' := (up (up (up (up (up M 65 (754 + (M 65 745)) a) 65 (760 + (M 65 745)) b) 65 (766 + (M 65 745)) c) 65 (772 + (M 65 745)) 0) 65 (778 + (M 65 745)) 0)) rfl ?_
  refine Hx.run 1 (pc' := 84) (L' := [some (vr 64), some (vi 744), some (vi a), some (vi b), some (vi c), some (vi (M 65 745))]) (st' := [vi 745, vr 65, vi 745, vr 65]) (M' := (up (up (up (up (up M 65 (754 + (M 65 745)) a) 65 (760 + (M 65 745)) b) 65 (766 + (M 65 745)) c) 65 (772 + (M 65 745)) 0) 65 (778 + (M 65 745)) 0)) rfl ?_
  refine Hx.aldI (n := 1032) rfl rfl (by omega) ?_
  refine Hx.eqS (st' := [vi (M 65 745), vi 745, vr 65]) (by rw [show ((up (up (up (up (up M 65 (754 + (M 65 745)) a) 65 (760 + (M 65 745)) b) 65 (766 + (M 65 745)) c) 65 (772 + (M 65 745)) 0) 65 (778 + (M 65 745)) 0) 65 745) = (M 65 745) from by rw [up_off (by omega), up_off (by omega), up_off (by omega), up_off (by omega), up_off (by omega)]]) ?_
  refine Hx.run 1 (pc' := 86) (L' := [some (vr 64), some (vi 744), some (vi a), some (vi b), some (vi c), some (vi (M 65 745))]) (st' := [vi 1, vi (M 65 745), vi 745, vr 65]) (M' := (up (up (up (up (up M 65 (754 + (M 65 745)) a) 65 (760 + (M 65 745)) b) 65 (766 + (M 65 745)) c) 65 (772 + (M 65 745)) 0) 65 (778 + (M 65 745)) 0)) rfl ?_
  refine Hx.add rfl (by omega) ?_
  refine Hx.astI (n := 1032) rfl rfl (by omega) ?_
  refine Hx.ret rfl ?_
  exact ⟨rfl, rfl⟩
