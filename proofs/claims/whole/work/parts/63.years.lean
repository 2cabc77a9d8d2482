/-! years of the reference; the two runs agree (written by wip/whole/gen63.py) -/
def yQ (G F c : Int) (N N' : Int → Int) : Prop := N 16 = N' 16 ∧ N 15 = N' 15 + c ∧ (∀ i, 0 ≤ i → i < G → N i = N' i ∧ N (6 + i) = N' (6 + i)) ∧ (∀ f, 0 ≤ f → f < F → N (12 + f) = N' (12 + f))
theorem yQ_hour {G F c v : Int} {N N' : Int → Int} (hG : G ≤ 6) (hF : F ≤ 3) (h : yQ G F c N N') : yQ G F c (st1 N 16 v) (st1 N' 16 v) := by
  obtain ⟨a, b, d, e⟩ := h
  refine ⟨by rw [st1_at, st1_at], by rw [st1_ne (by omega), st1_ne (by omega)]; exact b, fun i h1 h2 => ?_, fun f h1 h2 => ?_⟩
  · rw [st1_ne (by omega), st1_ne (by omega), st1_ne (by omega), st1_ne (by omega)]; exact d i h1 h2
  · rw [st1_ne (by omega), st1_ne (by omega)]; exact e f h1 h2
theorem yQ_go {G F c v k : Int} {N N' : Int → Int} (hG : G ≤ 6) (hF : F ≤ 3) (hk : 0 ≤ k ∧ k < 6) (h : yQ G F c N N') : yQ G F c (st1 N k v) (st1 N' k v) := by
  obtain ⟨a, b, d, e⟩ := h
  refine ⟨by rw [st1_ne (by omega), st1_ne (by omega)]; exact a, by rw [st1_ne (by omega), st1_ne (by omega)]; exact b, fun i h1 h2 => ⟨?_, ?_⟩, fun f h1 h2 => ?_⟩
  · by_cases q : i = k
    · subst q; rw [st1_at, st1_at]
    · rw [st1_ne q, st1_ne q]; exact (d i h1 h2).1
  · rw [st1_ne (by omega), st1_ne (by omega)]; exact (d i h1 h2).2
  · rw [st1_ne (by omega), st1_ne (by omega)]; exact e f h1 h2
theorem yQ_fall {G F c : Int} {N N' : Int → Int} (hG : G ≤ 6) (hF : F ≤ 3) (h : yQ G F c N N') : yQ G F c (st1 N 15 (N 15 + 1)) (st1 N' 15 (N' 15 + 1)) := by
  obtain ⟨a, b, d, e⟩ := h
  refine ⟨by rw [st1_ne (by omega), st1_ne (by omega)]; exact a, by rw [st1_at, st1_at]; omega, fun i h1 h2 => ?_, fun f h1 h2 => ?_⟩
  · rw [st1_ne (by omega), st1_ne (by omega), st1_ne (by omega), st1_ne (by omega)]; exact d i h1 h2
  · rw [st1_ne (by omega), st1_ne (by omega)]; exact e f h1 h2
theorem yQ_move {G F c x : Int} {kd lg fg ok kd' lg' fg' ok' N N' : Int → Int} (hG : 0 ≤ G ∧ G ≤ 6) (hF : 0 ≤ F ∧ F ≤ 3) (hk : ∀ i, 0 ≤ i → i < G → kd i = kd' i ∧ lg i = lg' i ∧ fg i = fg' i ∧ 0 ≤ fg i ∧ fg i < F) (ho : ∀ f, 0 ≤ f → f < F → ok f = ok' f) (hc : 0 ≤ c) (h15 : N 15 ≤ 9998) (h : yQ G F c N N') : yQ G F c (yM G kd lg fg ok x N) (yM G kd' lg' fg' ok' x N') := by
  have h0 := yI_rng x
  by_cases hi : yI x < G
  · obtain ⟨k1, k2, k3, k4, k5⟩ := hk (yI x) h0.1 hi
    obtain ⟨a, b, d, e⟩ := id h
    obtain ⟨d1, d2⟩ := d (yI x) h0.1 hi
    have eD : yD kd lg x N = yD kd' lg' x N' := by unfold yD; rw [k1, k2, d2, a]
    have eB : yB fg ok x N = yB fg' ok' x N' := by unfold yB; rw [e _ k4 k5, ho _ k4 k5, k3, a]
    by_cases h11 : N (yI x) < 11
    · by_cases hq : hb (yB fg ok x N) (min 11 (N (yI x) + yD kd lg x N))
      · rw [yM_fall ⟨hi, h11⟩ hq, yM_fall ⟨hi, by omega⟩ (by rw [← eB, ← eD, ← d1]; exact hq), show min 9999 (N 15 + 1) = N 15 + 1 by omega, show min 9999 (N' 15 + 1) = N' 15 + 1 by omega]
        exact yQ_go hG.2 hF.2 h0 (yQ_fall hG.2 hF.2 h)
      · rw [yM_go ⟨hi, h11⟩ hq, yM_go ⟨hi, by omega⟩ (by rw [← eB, ← eD, ← d1]; exact hq), ← eD, ← d1]
        exact yQ_go hG.2 hF.2 h0 h
    · rw [yM_out (fun z => h11 z.2), yM_out (fun z => h11 (by rw [d1]; exact z.2))]
      exact h
  · rw [yM_out (fun z => hi z.1), yM_out (fun z => hi z.1)]
    exact h
theorem yQ_all {G F c x0 : Int} {kd lg fg ok kd' lg' fg' ok' N0 N0' : Int → Int} (hx : 0 ≤ x0 ∧ x0 < 2147483648) (hP : YP G F kd lg fg ok) (hV : YV G F N0 0) (hk : ∀ i, 0 ≤ i → i < G → kd i = kd' i ∧ lg i = lg' i ∧ fg i = fg' i) (ho : ∀ f, 0 ≤ f → f < F → ok f = ok' f) (hc : 0 ≤ c) (h : yQ G F c N0 N0') : ∀ n : Nat, n ≤ 900 → (yS G kd lg fg ok x0 N0 n).1 = (yS G kd' lg' fg' ok' x0 N0' n).1 ∧ yQ G F c (yS G kd lg fg ok x0 N0 n).2 (yS G kd' lg' fg' ok' x0 N0' n).2
  | 0, _ => ⟨rfl, h⟩
  | n + 1, hn => by
    obtain ⟨e1, e2⟩ := yQ_all hx hP hV hk ho hc h n (by omega)
    have v := (YV_all hP hx hV n).2.1
    refine ⟨by rw [yS_1, yS_1, e1], ?_⟩
    rw [yS_2, yS_2, ← e1]
    have m := yQ_move (x := yX (yS G kd lg fg ok x0 N0 n).1) (kd := kd) (lg := lg) (fg := fg) (ok := ok) (kd' := kd') (lg' := lg') (fg' := fg') (ok' := ok') hP.1 hP.2.1 (fun i h1 h2 => ⟨(hk i h1 h2).1, (hk i h1 h2).2.1, (hk i h1 h2).2.2, (hP.2.2.1 i h1 h2).2.2.1, (hP.2.2.1 i h1 h2).2.2.2⟩) ho hc (by omega) e2
    unfold yN
    rw [← m.1]
    exact yQ_hour hP.1.2 hP.2.1.2 m
theorem yW_0 (M : Mm) : yW M (st1 (fun b => if 992 ≤ b ∧ b < 992 + 40 then M 65 (0 + (b - 992)) else M 65 b) 995 0) (yN0 M) := by
  refine ⟨fun j hj => by rw [st1_ne (by omega), if_neg (by omega)], by rw [st1_ne (by omega), if_pos (by omega)]; rfl, by rw [st1_at]; rfl, fun f h1 h2 => ⟨?_, ?_⟩, fun i h1 h2 => ⟨?_, ?_, ?_, ?_, ?_⟩⟩
  · rw [st1_ne (by omega), if_pos (by omega), show 0 + (996 + f - 992) = 4 + f by omega]
  · rw [st1_ne (by omega), if_pos (by omega), show 0 + (999 + f - 992) = 7 + f by omega]
    unfold yN0
    rw [if_neg (by omega), if_pos (by omega), show 12 + f - 12 = f by omega]
  · rw [st1_ne (by omega), if_pos (by omega), show 0 + (1002 + i - 992) = 10 + i by omega]
  · rw [st1_ne (by omega), if_pos (by omega), show 0 + (1008 + i - 992) = 16 + i by omega]
  · rw [st1_ne (by omega), if_pos (by omega), show 0 + (1014 + i - 992) = 22 + i by omega]
  · rw [st1_ne (by omega), if_pos (by omega), show 0 + (1020 + i - 992) = 28 + i by omega]
    unfold yN0
    rw [if_pos (by omega)]
  · rw [st1_ne (by omega), if_pos (by omega), show 0 + (1026 + i - 992) = 34 + i by omega]
    unfold yN0
    rw [if_pos (by omega), show 28 + (6 + i) = 34 + i by omega]
set_option maxRecDepth 100000 in
theorem rl_ycopy (sd w : Int) (M : Mm) {P : Option PV → Mm → Prop} (hk : Hx 212 61 [some (vr 64), some (vi sd), some (vi w), some (vi 40), none, none, none] [] (cpW M 0 992 40) P) : ∀ (kk : Nat) (i : Int), 0 ≤ i ∧ i ≤ 40 → 40 - i < (kk : Int) → Hx 212 33 [some (vr 64), some (vi sd), some (vi w), some (vi i), none, none, none] [] (cpW M 0 992 i) P := by
  intro kk
  induction kk with
  | zero => intro i _ hkk; exact absurd hkk (by omega)
  | succ kk ih =>
    intro i hi hkk
    refine Hx.run 2 (pc' := 36) (L' := [some (vr 64), some (vi sd), some (vi w), some (vi i), none, none, none]) (st' := [vi 40, vi i]) (M' := (cpW M 0 992 i)) rfl ?_
    refine Hx.br (c := i < 40) (t := 39) (f := 61) rfl (fun h1 => ?_) (fun h1 => ?_)
    · skip
      refine Hx.run 4 (pc' := 47) (L' := [some (vr 64), some (vi sd), some (vi w), some (vi i), none, none, none]) (st' := [vi i, vi 992, vr 65]) (M' := (cpW M 0 992 i)) rfl ?_
      refine Hx.add rfl (by omega) ?_
      refine Hx.run 3 (pc' := 53) (L' := [some (vr 64), some (vi sd), some (vi w), some (vi i), none, none, none]) (st' := [vi i, vr 65, vi (992 + i), vr 65]) (M' := (cpW M 0 992 i)) rfl ?_
      refine Hx.aldI (n := 1032) rfl rfl (by omega) ?_
      refine Hx.astI (n := 1032) rfl rfl (by omega) ?_
      refine Hx.inc rfl rfl (by omega) ?_
      refine Hx.run 0 (pc' := 58) (L' := [some (vr 64), some (vi sd), some (vi w), some (vi (i + 1)), none, none, none]) (st' := []) (M' := (up (cpW M 0 992 i) 65 (992 + i) ((cpW M 0 992 i) 65 i))) rfl ?_
      refine Hx.run 1 (pc' := 33) (L' := [some (vr 64), some (vi sd), some (vi w), some (vi (i + 1)), none, none, none]) (st' := []) (M' := (up (cpW M 0 992 i) 65 (992 + i) ((cpW M 0 992 i) 65 i))) rfl ?_
      have h8 := cpW_up (M := M) (f := 0) (t := 992) (i := i) (by omega) (Or.inl (by omega)) (by omega)
      rw [Int.zero_add] at h8
      rw [h8]
      exact ih (i + 1) (by omega) (by omega)
    · skip
      refine Hx.run 0 (pc' := 61) (L' := [some (vr 64), some (vi sd), some (vi w), some (vi i), none, none, none]) (st' := []) (M' := (cpW M 0 992 i)) rfl ?_
      have e : i = 40 := by omega
      subst e
      exact hk
set_option maxRecDepth 100000 in
theorem R_years (sd w : Int) (M : Mm) (hI : RI M 0) (hs : (0 ≤ M 68 0 ∧ M 68 0 ≤ 600) ∧ (0 ≤ M 68 1 ∧ M 68 1 ≤ 600) ∧ (0 ≤ M 68 2 ∧ M 68 2 ≤ 600)) : Ct 212 [vr 64, vi sd, vi w] M (fun q0 M' => (¬ ((0 ≤ sd ∧ sd ≤ 999999) ∧ (0 ≤ w ∧ w ≤ 60)) ∧ q0 = some (vi (-2)) ∧ up M 68 0 (M 68 0 + 1) = M') ∨ (((0 ≤ sd ∧ sd ≤ 999999) ∧ (0 ≤ w ∧ w ≤ 60)) ∧ q0 = some (vi ((yS (M 65 1) (yKd M) (yLg M) (yFg M) (yOk M) sd (yN0 M) w.toNat).2 15)) ∧ ∃ W : Int → Int, (∀ j, j < 992 → W j = M 65 j) ∧ sr M 65 W = M')) := by
  obtain ⟨r0, r1, r2, r3, r40, r61, r80, r111, rF, rG⟩ := (show (0 ≤ M 65 0 ∧ M 65 0 ≤ 3) ∧ (0 ≤ M 65 1 ∧ M 65 1 ≤ 6) ∧ (0 ≤ M 65 2 ∧ M 65 2 ≤ 9999) ∧ (0 ≤ M 65 3 ∧ M 65 3 ≤ 9000) ∧ (0 ≤ M 65 40 ∧ M 65 40 ≤ 5) ∧ (0 ≤ M 65 61 ∧ M 65 61 ≤ 6) ∧ (0 ≤ M 65 80 ∧ M 65 80 ≤ 6) ∧ (0 ≤ M 65 111 ∧ M 65 111 ≤ 8) ∧ (∀ f : Int, 0 ≤ f → f < M 65 0 → (0 ≤ M 65 (4 + f) ∧ M 65 (4 + f) ≤ 5) ∧ (1 ≤ M 65 (7 + f) ∧ M 65 (7 + f) ≤ 10)) ∧ (∀ i : Int, 0 ≤ i → i < M 65 1 → (0 ≤ M 65 (10 + i) ∧ M 65 (10 + i) ≤ 5) ∧ (1 ≤ M 65 (16 + i) ∧ M 65 (16 + i) ≤ 4) ∧ (0 ≤ M 65 (22 + i) ∧ M 65 (22 + i) < M 65 0) ∧ (0 ≤ M 65 (28 + i) ∧ M 65 (28 + i) ≤ 11) ∧ (0 ≤ M 65 (34 + i) ∧ M 65 (34 + i) ≤ 9)) from hI)
  refine Hx.run 4 (pc' := 6) (L' := [some (vr 64), some (vi sd), some (vi w), none, none, none, none]) (st' := [vl 999999, vl 0, vl sd]) (M' := M) rfl ?_
  refine Hx.call (t := 130) (as := [vl sd, vl 0, vl 999999]) (pc' := 9) (rest := []) rfl (r_in sd 0 999999 M) ?_
  rintro _ _ (⟨q147, rfl, rfl⟩ | ⟨q147, rfl, rfl⟩)
  · skip
    refine Hx.run 5 (pc' := 18) (L' := [some (vr 64), some (vi sd), some (vi w), none, none, none, none]) (st' := [vl 60, vl 0, vl w]) (M' := M) rfl ?_
    refine Hx.call (t := 130) (as := [vl w, vl 0, vl 60]) (pc' := 21) (rest := []) rfl (r_in w 0 60 M) ?_
    rintro _ _ (⟨q148, rfl, rfl⟩ | ⟨q148, rfl, rfl⟩)
    · skip
      refine Hx.run 3 (pc' := 33) (L' := [some (vr 64), some (vi sd), some (vi w), some (vi 0), none, none, none]) (st' := []) (M' := M) rfl ?_
      have h1 := rl_ycopy sd w M (P := (fun q0 M' => (¬ ((0 ≤ sd ∧ sd ≤ 999999) ∧ (0 ≤ w ∧ w ≤ 60)) ∧ q0 = some (vi (-2)) ∧ up M 68 0 (M 68 0 + 1) = M') ∨ (((0 ≤ sd ∧ sd ≤ 999999) ∧ (0 ≤ w ∧ w ≤ 60)) ∧ q0 = some (vi ((yS (M 65 1) (yKd M) (yLg M) (yFg M) (yOk M) sd (yN0 M) w.toNat).2 15)) ∧ ∃ W : Int → Int, (∀ j, j < 992 → W j = M 65 j) ∧ sr M 65 W = M'))) ?_ 50 0 (by omega) (by omega)
      · rw [cpW_0] at h1
        exact h1
      · skip
        refine Hx.run 4 (pc' := 69) (L' := [some (vr 64), some (vi sd), some (vi w), some (vi 40), none, none, none]) (st' := [vi 0, vi 995, vr 65]) (M' := (cpW M 0 992 40)) rfl ?_
        refine Hx.astI (n := 1032) rfl rfl (by omega) ?_
        refine Hx.run 5 (pc' := 76) (L' := [some (vr 64), some (vi sd), some (vi w), some (vl sd), none, some (vi 0), none]) (st' := []) (M' := (up (cpW M 0 992 40) 65 995 0)) rfl ?_
        have h0 := rl_years sd w M hI (by omega) (by omega) (w.toNat + 5) 0 _ none (by omega) (yW_0 M) (by omega)
        rw [← sr_up, ← cp_sr] at h0
        exact Hx.imp h0 (fun r M' h => Or.inr ⟨by omega, h⟩)
    · skip
      refine Hx.run 3 (pc' := 27) (L' := [some (vr 64), some (vi sd), some (vi w), none, none, none, none]) (st' := [vi (-2), vr 64]) (M' := M) rfl ?_
      refine Hx.call (t := 132) (as := [vr 64, vi (-2)]) (pc' := 30) (rest := []) rfl (r_bad (-2) M (by omega)) ?_
      rintro _ _ ⟨rfl, rfl⟩
      refine Hx.run 0 (pc' := 30) (L' := [some (vr 64), some (vi sd), some (vi w), none, none, none, none]) (st' := [vi (-2)]) (M' := (up M 68 0 ((M 68 0) + 1))) rfl ?_
      refine Hx.ret rfl ?_
      exact Or.inl ⟨by omega, rfl, rfl⟩
  · skip
    refine Hx.run 3 (pc' := 27) (L' := [some (vr 64), some (vi sd), some (vi w), none, none, none, none]) (st' := [vi (-2), vr 64]) (M' := M) rfl ?_
    refine Hx.call (t := 132) (as := [vr 64, vi (-2)]) (pc' := 30) (rest := []) rfl (r_bad (-2) M (by omega)) ?_
    rintro _ _ ⟨rfl, rfl⟩
    refine Hx.run 0 (pc' := 30) (L' := [some (vr 64), some (vi sd), some (vi w), none, none, none, none]) (st' := [vi (-2)]) (M' := (up M 68 0 ((M 68 0) + 1))) rfl ?_
    refine Hx.ret rfl ?_
    exact Or.inl ⟨by omega, rfl, rfl⟩
