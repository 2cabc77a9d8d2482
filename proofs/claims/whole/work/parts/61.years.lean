/-! years: the pure run, and the class (written by wip/whole/gen61.py) -/
theorem Hx.l2iS {y pc : Nat} {L : Lc} {st : List PV} {M : Mm} {P : Option PV → Mm → Prop} {z : Int} (hf : fetch y pc = some (.l2i, 1)) (h : 0 ≤ z ∧ z < 2147483648) (k : Hx y (pc + 1) L (vi z :: st) M P) : Hx y pc L (vl z :: st) M P := by
  refine Hx.go (pc' := pc + 1) (L' := L) (st' := vi ((Int64.ofInt z).toInt32.toInt) :: st) (M' := M) (by unfold step; rw [hf]; rfl) ?_
  have e : (Int64.ofInt z).toInt32.toInt = z := by
    rw [Int64.toInt32_ofInt]
    exact of32 ⟨by omega, by omega⟩
  rw [e]; exact k
def yI (x : Int) : Int := x / 65536 % 6
def yX (x : Int) : Int := (x * 1103515245 + 12345) % 2147483648
def yD (kd lg : Int → Int) (x : Int) (N : Int → Int) : Int := x / 1048576 % (sfF (kd (yI x)) (lg (yI x)) (N (6 + yI x)) (N 16 % 24)) + 1
def yB (fg ok : Int → Int) (x : Int) (N : Int → Int) : Int := bb (N (12 + fg (yI x))) (bcF (ok (fg (yI x))) (N 16 % 24))
def yM (G : Int) (kd lg fg ok : Int → Int) (x : Int) (N : Int → Int) : Int → Int := if yI x < G ∧ N (yI x) < 11 then (if bt (yB fg ok x N) (min 11 (N (yI x) + yD kd lg x N)) = true then st1 (st1 N 15 (min 9999 (N 15 + 1))) (yI x) 0 else st1 N (yI x) (min 11 (N (yI x) + yD kd lg x N))) else N
def yN (G : Int) (kd lg fg ok : Int → Int) (x : Int) (N : Int → Int) : Int → Int := st1 (yM G kd lg fg ok x N) 16 (min 9999 (yM G kd lg fg ok x N 16 + 1))
def yS (G : Int) (kd lg fg ok : Int → Int) (x0 : Int) (N0 : Int → Int) : Nat → Int × (Int → Int)
  | 0 => (x0, N0)
  | n + 1 => (yX (yS G kd lg fg ok x0 N0 n).1, yN G kd lg fg ok (yX (yS G kd lg fg ok x0 N0 n).1) (yS G kd lg fg ok x0 N0 n).2)
theorem yS_1 (G : Int) (kd lg fg ok : Int → Int) (x0 : Int) (N0 : Int → Int) (n : Nat) : (yS G kd lg fg ok x0 N0 (n + 1)).1 = yX (yS G kd lg fg ok x0 N0 n).1 := rfl
theorem yS_2 (G : Int) (kd lg fg ok : Int → Int) (x0 : Int) (N0 : Int → Int) (n : Nat) : (yS G kd lg fg ok x0 N0 (n + 1)).2 = yN G kd lg fg ok (yX (yS G kd lg fg ok x0 N0 n).1) (yS G kd lg fg ok x0 N0 n).2 := rfl
theorem yX_rng (x : Int) : 0 ≤ yX x ∧ yX x < 2147483648 := by unfold yX; omega
theorem yI_rng (x : Int) : 0 ≤ yI x ∧ yI x < 6 := by unfold yI; omega
theorem yS_rng {G : Int} {kd lg fg ok : Int → Int} {x0 : Int} {N0 : Int → Int} (h : 0 ≤ x0 ∧ x0 < 2147483648) : ∀ n, 0 ≤ (yS G kd lg fg ok x0 N0 n).1 ∧ (yS G kd lg fg ok x0 N0 n).1 < 2147483648
  | 0 => h
  | n + 1 => by rw [yS_1]; exact yX_rng _
/-- what a run keeps: G goers, F flights -/
def YV (G F : Int) (N : Int → Int) (n : Nat) : Prop := (0 ≤ N 16 ∧ N 16 ≤ 9999) ∧ (0 ≤ N 15 ∧ N 15 ≤ 9000 + (n : Int)) ∧ (∀ i, 0 ≤ i → i < G → (0 ≤ N i ∧ N i ≤ 11) ∧ (0 ≤ N (6 + i) ∧ N (6 + i) ≤ 9)) ∧ (∀ f, 0 ≤ f → f < F → (1 ≤ N (12 + f) ∧ N (12 + f) ≤ 10))
def YP (G F : Int) (kd lg fg ok : Int → Int) : Prop := (0 ≤ G ∧ G ≤ 6) ∧ (0 ≤ F ∧ F ≤ 3) ∧ (∀ i, 0 ≤ i → i < G → (0 ≤ kd i ∧ kd i ≤ 5) ∧ (1 ≤ lg i ∧ lg i ≤ 4) ∧ (0 ≤ fg i ∧ fg i < F)) ∧ (∀ f, 0 ≤ f → f < F → (0 ≤ ok f ∧ ok f ≤ 5))
theorem yD_rng {G F : Int} {kd lg fg ok : Int → Int} {x : Int} {N : Int → Int} {n : Nat} (hP : YP G F kd lg fg ok) (hV : YV G F N n) (hx : 0 ≤ x) (hi : yI x < G) : 1 ≤ yD kd lg x N ∧ yD kd lg x N ≤ 5 := by
  have h0 := yI_rng x
  have h1 := hP.2.2.1 (yI x) h0.1 hi
  have h2 := hV.2.2.1 (yI x) h0.1 hi
  have h3 := sfF_rng (k := kd (yI x)) (l := lg (yI x)) (x := N (6 + yI x)) (t := N 16 % 24) h1.2.1 h2.2
  have h4 := Int.emod_nonneg (x / 1048576) (show sfF (kd (yI x)) (lg (yI x)) (N (6 + yI x)) (N 16 % 24) ≠ 0 by omega)
  have h5 := Int.emod_lt_of_pos (x / 1048576) (show 0 < sfF (kd (yI x)) (lg (yI x)) (N (6 + yI x)) (N 16 % 24) by omega)
  unfold yD
  omega
theorem YV_step {G F : Int} {kd lg fg ok : Int → Int} {x : Int} {N : Int → Int} {n : Nat} (hP : YP G F kd lg fg ok) (hx : 0 ≤ x) (hV : YV G F N n) : YV G F (yN G kd lg fg ok x N) (n + 1) := by
  have h0 := yI_rng x
  have hG := hP.1
  have hF := hP.2.1
  have key : ∀ N1, N1 = yM G kd lg fg ok x N → (N1 16 = N 16 ∧ (0 ≤ N1 15 ∧ N1 15 ≤ 9000 + ((n : Int) + 1)) ∧ (∀ i, 0 ≤ i → i < G → (0 ≤ N1 i ∧ N1 i ≤ 11) ∧ (0 ≤ N1 (6 + i) ∧ N1 (6 + i) ≤ 9)) ∧ (∀ f, 0 ≤ f → f < F → (1 ≤ N1 (12 + f) ∧ N1 (12 + f) ≤ 10))) := by
    intro N1 hN1
    obtain ⟨v1, v2, v3, v4⟩ := hV
    unfold yM at hN1
    split at hN1
    · rename_i hc
      have hd := yD_rng hP ⟨v1, v2, v3, v4⟩ hx hc.1
      have hi := v3 (yI x) h0.1 hc.1
      split at hN1
      · subst hN1
        refine ⟨by rw [st1_ne (by omega), st1_ne (by omega)], by rw [st1_ne (by omega), st1_at]; omega, fun i a1 a2 => ?_, fun f a1 a2 => ?_⟩
        · have w := v3 i a1 a2
          refine ⟨?_, by rw [st1_ne (by omega), st1_ne (by omega)]; exact w.2⟩
          by_cases e : i = yI x
          · rw [e, st1_at]; omega
          · rw [st1_ne e, st1_ne (by omega)]; exact w.1
        · rw [st1_ne (by omega), st1_ne (by omega)]; exact v4 f a1 a2
      · subst hN1
        refine ⟨by rw [st1_ne (by omega)], by rw [st1_ne (by omega)]; omega, fun i a1 a2 => ?_, fun f a1 a2 => ?_⟩
        · have w := v3 i a1 a2
          refine ⟨?_, by rw [st1_ne (by omega)]; exact w.2⟩
          by_cases e : i = yI x
          · rw [e, st1_at]; omega
          · rw [st1_ne e]; exact w.1
        · rw [st1_ne (by omega)]; exact v4 f a1 a2
    · subst hN1
      exact ⟨rfl, by omega, v3, v4⟩
  obtain ⟨k1, k2, k3, k4⟩ := key _ rfl
  have v1 := hV.1
  unfold yN
  refine ⟨by rw [st1_at]; omega, by rw [st1_ne (by omega)]; omega, fun i a1 a2 => ?_, fun f a1 a2 => ?_⟩
  · rw [st1_ne (by omega), st1_ne (by omega)]; exact k3 i a1 a2
  · rw [st1_ne (by omega)]; exact k4 f a1 a2
theorem YV_all {G F : Int} {kd lg fg ok : Int → Int} {x0 : Int} {N0 : Int → Int} (hP : YP G F kd lg fg ok) (hx : 0 ≤ x0 ∧ x0 < 2147483648) (hV : YV G F N0 0) : ∀ n, YV G F (yS G kd lg fg ok x0 N0 n).2 n
  | 0 => hV
  | n + 1 => by rw [yS_2]; exact YV_step hP (yX_rng _).1 (YV_all hP hx hV n)
theorem yM_out {G : Int} {kd lg fg ok : Int → Int} {x : Int} {N : Int → Int} (h : ¬ (yI x < G ∧ N (yI x) < 11)) : yM G kd lg fg ok x N = N := if_neg h
theorem yM_fall {G : Int} {kd lg fg ok : Int → Int} {x : Int} {N : Int → Int} (h : yI x < G ∧ N (yI x) < 11) (h2 : hb (yB fg ok x N) (min 11 (N (yI x) + yD kd lg x N))) : yM G kd lg fg ok x N = st1 (st1 N 15 (min 9999 (N 15 + 1))) (yI x) 0 := by
  unfold yM; rw [if_pos h, if_pos (bt_1 h2)]
theorem yM_go {G : Int} {kd lg fg ok : Int → Int} {x : Int} {N : Int → Int} (h : yI x < G ∧ N (yI x) < 11) (h2 : ¬ hb (yB fg ok x N) (min 11 (N (yI x) + yD kd lg x N))) : yM G kd lg fg ok x N = st1 N (yI x) (min 11 (N (yI x) + yD kd lg x N)) := by
  unfold yM; rw [if_pos h, if_neg (by rw [bt_0 h2]; decide)]
set_option maxRecDepth 100000 in
theorem c_sbc (i ch : Int) (M : Mm) (hi : 0 ≤ i ∧ i < 6) (hch : 0 ≤ ch ∧ ch < 1000000000000) (hg : i < M 40 1 → ((0 ≤ i ∧ i < 6) ∧ (0 ≤ M 42 i ∧ M 42 i ≤ 5) ∧ (1 ≤ M 43 i ∧ M 43 i ≤ 4) ∧ (0 ≤ M 44 i ∧ M 44 i < 3) ∧ (0 ≤ M 45 i ∧ M 45 i ≤ 11) ∧ (0 ≤ M 45 (6 + i) ∧ M 45 (6 + i) ≤ 9)) ∧ ((0 ≤ (M 44 i) ∧ (M 44 i) < 3) ∧ (0 ≤ M 41 (M 44 i) ∧ M 41 (M 44 i) ≤ 5) ∧ (1 ≤ M 45 (12 + (M 44 i)) ∧ M 45 (12 + (M 44 i)) ≤ 10))) (hh : (0 ≤ M 45 16 ∧ M 45 16 ≤ 9999)) (hfa : 0 ≤ M 45 15 ∧ M 45 15 ≤ 9999) : Ct 106 [vr 0, vi i, vl ch] M (fun q0 M' => (¬ (i < M 40 1 ∧ M 45 i < 11) ∧ q0 = none ∧ M = M') ∨ ((i < M 40 1 ∧ M 45 i < 11) ∧ hb (bb (M 45 (12 + (M 44 i))) (bcF (M 41 (M 44 i)) ((M 45 16) % 24))) (min 11 ((M 45 i) + ((ch % (sfF (M 42 i) (M 43 i) (M 45 (6 + i)) ((M 45 16) % 24))) + 1))) ∧ q0 = none ∧ up (up M 45 15 (min 9999 (M 45 15 + 1))) 45 i 0 = M') ∨ ((i < M 40 1 ∧ M 45 i < 11) ∧ ¬ hb (bb (M 45 (12 + (M 44 i))) (bcF (M 41 (M 44 i)) ((M 45 16) % 24))) (min 11 ((M 45 i) + ((ch % (sfF (M 42 i) (M 43 i) (M 45 (6 + i)) ((M 45 16) % 24))) + 1))) ∧ q0 = none ∧ up M 45 i (min 11 ((M 45 i) + ((ch % (sfF (M 42 i) (M 43 i) (M 45 (6 + i)) ((M 45 16) % 24))) + 1))) = M')) := by
  refine Hx.run 3 (pc' := 5) (L' := [some (vr 0), some (vi i), some (vl ch), none, none]) (st' := [vi i, vr 40]) (M' := M) rfl ?_
  refine Hx.call (t := 8) (as := [vr 40, vi i]) (pc' := 8) (rest := []) rfl (c_hasGoer_40 i M) ?_
  rintro _ _ (⟨q144, rfl, rfl⟩ | ⟨q144, rfl, rfl⟩)
  · skip
    have ⟨g40, f40⟩ := hg q144.2
    have sR := sfF_rng (k := M 42 i) (l := M 43 i) (x := M 45 (6 + i)) (t := M 45 16 % 24) (by omega) (by omega)
    have m1 := Int.emod_nonneg ch (show (sfF (M 42 i) (M 43 i) (M 45 (6 + i)) ((M 45 16) % 24)) ≠ 0 by omega)
    have m2 := Int.emod_lt_of_pos ch (show 0 < (sfF (M 42 i) (M 43 i) (M 45 (6 + i)) ((M 45 16) % 24)) by omega)
    refine Hx.run 4 (pc' := 16) (L' := [some (vr 0), some (vi i), some (vl ch), none, none]) (st' := [vi i, vr 40]) (M' := M) rfl ?_
    refine Hx.call (t := 26) (as := [vr 40, vi i]) (pc' := 19) (rest := []) rfl (c_isOver_40 i M (by omega)) ?_
    rintro _ _ (⟨q145, rfl, rfl⟩ | ⟨q145, rfl, rfl⟩)
    · skip
      refine Hx.run 1 (pc' := 22) (L' := [some (vr 0), some (vi i), some (vl ch), none, none]) (st' := []) (M' := M) rfl ?_
      refine Hx.ret rfl ?_
      first | exact Or.inl ⟨by omega, rfl, rfl⟩ | exact Or.inr (Or.inl ⟨by omega, by assumption, rfl, rfl⟩) | exact Or.inr (Or.inr ⟨by omega, by assumption, rfl, rfl⟩) | (exfalso; omega)
    · skip
      refine Hx.run 4 (pc' := 28) (L' := [some (vr 0), some (vi i), some (vl ch), none, none]) (st' := [vi i, vr 40]) (M' := M) rfl ?_
      refine Hx.call (t := 30) (as := [vr 40, vi i]) (pc' := 31) (rest := []) rfl (c_reach_40 i M (by omega) (by omega)) ?_
      rintro _ _ ⟨rfl, rfl⟩
      refine Hx.run 0 (pc' := 31) (L' := [some (vr 0), some (vi i), some (vl ch), none, none]) (st' := [vi (sfF (M 42 i) (M 43 i) (M 45 (6 + i)) ((M 45 16) % 24))]) (M' := M) rfl ?_
      refine Hx.run 2 (pc' := 35) (L' := [some (vr 0), some (vi i), some (vl ch), none, some (vi (sfF (M 42 i) (M 43 i) (M 45 (6 + i)) ((M 45 16) % 24)))]) (st' := [vi (sfF (M 42 i) (M 43 i) (M 45 (6 + i)) ((M 45 16) % 24))]) (M' := M) rfl ?_
      refine Hx.br (c := 0 < (sfF (M 42 i) (M 43 i) (M 45 (6 + i)) ((M 45 16) % 24))) (t := 38) (f := 55) rfl (fun h1 => ?_) (fun h1 => ?_)
      · skip
        refine Hx.run 6 (pc' := 47) (L' := [some (vr 0), some (vi i), some (vl ch), none, some (vi (sfF (M 42 i) (M 43 i) (M 45 (6 + i)) ((M 45 16) % 24)))]) (st' := [vl (sfF (M 42 i) (M 43 i) (M 45 (6 + i)) ((M 45 16) % 24)), vl ch, vi i, vr 40]) (M' := M) rfl ?_
        refine Hx.lrem rfl (by omega) ?_
        refine Hx.l2iS rfl (by omega) ?_
        refine Hx.run 1 (pc' := 50) (L' := [some (vr 0), some (vi i), some (vl ch), none, some (vi (sfF (M 42 i) (M 43 i) (M 45 (6 + i)) ((M 45 16) % 24)))]) (st' := [vi 1, vi (ch % (sfF (M 42 i) (M 43 i) (M 45 (6 + i)) ((M 45 16) % 24))), vi i, vr 40]) (M' := M) rfl ?_
        refine Hx.add rfl (by omega) ?_
        refine Hx.call (t := 33) (as := [vr 40, vi i, vi ((ch % (sfF (M 42 i) (M 43 i) (M 45 (6 + i)) ((M 45 16) % 24))) + 1)]) (pc' := 54) (rest := []) rfl (c_stride_40 i ((ch % (sfF (M 42 i) (M 43 i) (M 45 (6 + i)) ((M 45 16) % 24))) + 1) M g40 f40 (by omega) (by omega) (by omega)) ?_
        rintro _ _ (⟨q146, rfl, rfl⟩ | ⟨q146, rfl, rfl⟩)
        · skip
          refine Hx.run 1 (pc' := 55) (L' := [some (vr 0), some (vi i), some (vl ch), none, some (vi (sfF (M 42 i) (M 43 i) (M 45 (6 + i)) ((M 45 16) % 24)))]) (st' := []) (M' := (up (up M 45 15 (min 9999 ((M 45 15) + 1))) 45 i 0)) rfl ?_
          refine Hx.ret rfl ?_
          first | exact Or.inl ⟨by omega, rfl, rfl⟩ | exact Or.inr (Or.inl ⟨by omega, by assumption, rfl, rfl⟩) | exact Or.inr (Or.inr ⟨by omega, by assumption, rfl, rfl⟩) | (exfalso; omega)
        · skip
          refine Hx.run 1 (pc' := 55) (L' := [some (vr 0), some (vi i), some (vl ch), none, some (vi (sfF (M 42 i) (M 43 i) (M 45 (6 + i)) ((M 45 16) % 24)))]) (st' := []) (M' := (up M 45 i (min 11 ((M 45 i) + ((ch % (sfF (M 42 i) (M 43 i) (M 45 (6 + i)) ((M 45 16) % 24))) + 1))))) rfl ?_
          refine Hx.ret rfl ?_
          first | exact Or.inl ⟨by omega, rfl, rfl⟩ | exact Or.inr (Or.inl ⟨by omega, by assumption, rfl, rfl⟩) | exact Or.inr (Or.inr ⟨by omega, by assumption, rfl, rfl⟩) | (exfalso; omega)
      · skip
        refine Hx.ret rfl ?_
        first | exact Or.inl ⟨by omega, rfl, rfl⟩ | exact Or.inr (Or.inl ⟨by omega, by assumption, rfl, rfl⟩) | exact Or.inr (Or.inr ⟨by omega, by assumption, rfl, rfl⟩) | (exfalso; omega)
  · skip
    refine Hx.run 1 (pc' := 22) (L' := [some (vr 0), some (vi i), some (vl ch), none, none]) (st' := []) (M' := M) rfl ?_
    refine Hx.ret rfl ?_
    first | exact Or.inl ⟨by omega, rfl, rfl⟩ | exact Or.inr (Or.inl ⟨by omega, by assumption, rfl, rfl⟩) | exact Or.inr (Or.inr ⟨by omega, by assumption, rfl, rfl⟩) | (exfalso; omega)
set_option maxRecDepth 100000 in
set_option maxHeartbeats 4000000 in
theorem cl_years (sd w F : Int) (B : Mm) (hs : 0 ≤ sd ∧ sd ≤ 999999) (hw : 0 ≤ w ∧ w ≤ 60) (hP : YP (B 40 1) F (B 42) (B 43) (B 44) (B 41)) (hV0 : YV (B 40 1) F (B 45) 0) (hb6 : 0 ≤ B 6 15 ∧ B 6 15 ≤ 9000) : ∀ (kk : Nat) (n : Nat), (n : Int) ≤ w → w - (n : Int) < (kk : Int) → Hx 105 43 [some (vr 0), some (vi sd), some (vi w), some (vl (yS (B 40 1) (B 42) (B 43) (B 44) (B 41) sd (B 45) n).1), none, some (vi (n : Int))] [] (sr B 45 (yS (B 40 1) (B 42) (B 43) (B 44) (B 41) sd (B 45) n).2) (fun q0 M' => q0 = some (vi ((yS (B 40 1) (B 42) (B 43) (B 44) (B 41) sd (B 45) w.toNat).2 15 - B 6 15)) ∧ ∃ N : Int → Int, sr B 45 N = M') := by
  intro kk
  induction kk with
  | zero => intro n _ hkk; exact absurd hkk (by omega)
  | succ kk ih =>
    intro n hn hkk
    have xr := yS_rng (G := B 40 1) (kd := B 42) (lg := B 43) (fg := B 44) (ok := B 41) (N0 := B 45) (x0 := sd) (by omega) n
    have hV := YV_all hP (x0 := sd) (N0 := B 45) (by omega) hV0 n
    have v1 := hV.1
    have v2 := hV.2.1
    have xn : yX (yS (B 40 1) (B 42) (B 43) (B 44) (B 41) sd (B 45) n).1 = ((((yS (B 40 1) (B 42) (B 43) (B 44) (B 41) sd (B 45) n).1 * 1103515245) + 12345) % 2147483648) := rfl
    have xi := yI_rng (yX (yS (B 40 1) (B 42) (B 43) (B 44) (B 41) sd (B 45) n).1)
    have xie : yI (yX (yS (B 40 1) (B 42) (B 43) (B 44) (B 41) sd (B 45) n).1) = ((((yS (B 40 1) (B 42) (B 43) (B 44) (B 41) sd (B 45) n).1 * 1103515245) + 12345) % 2147483648) / 65536 % 6 := rfl
    have xnr := yX_rng (yS (B 40 1) (B 42) (B 43) (B 44) (B 41) sd (B 45) n).1
    have h16 : yM (B 40 1) (B 42) (B 43) (B 44) (B 41) (yX (yS (B 40 1) (B 42) (B 43) (B 44) (B 41) sd (B 45) n).1) (yS (B 40 1) (B 42) (B 43) (B 44) (B 41) sd (B 45) n).2 16 = (yS (B 40 1) (B 42) (B 43) (B 44) (B 41) sd (B 45) n).2 16 := by
      unfold yM
      split
      · split
        · rw [st1_ne (by omega), st1_ne (by omega)]
        · rw [st1_ne (by omega)]
      · rfl
    have hgg : ((((yS (B 40 1) (B 42) (B 43) (B 44) (B 41) sd (B 45) n).1 * 1103515245) + 12345) % 2147483648) / 65536 % 6 < ((sr B 45 (yS (B 40 1) (B 42) (B 43) (B 44) (B 41) sd (B 45) n).2)) 40 1 → ((0 ≤ (((((yS (B 40 1) (B 42) (B 43) (B 44) (B 41) sd (B 45) n).1 * 1103515245) + 12345) % 2147483648) / 65536 % 6) ∧ (((((yS (B 40 1) (B 42) (B 43) (B 44) (B 41) sd (B 45) n).1 * 1103515245) + 12345) % 2147483648) / 65536 % 6) < 6) ∧ (0 ≤ (sr B 45 (yS (B 40 1) (B 42) (B 43) (B 44) (B 41) sd (B 45) n).2) 42 (((((yS (B 40 1) (B 42) (B 43) (B 44) (B 41) sd (B 45) n).1 * 1103515245) + 12345) % 2147483648) / 65536 % 6) ∧ (sr B 45 (yS (B 40 1) (B 42) (B 43) (B 44) (B 41) sd (B 45) n).2) 42 (((((yS (B 40 1) (B 42) (B 43) (B 44) (B 41) sd (B 45) n).1 * 1103515245) + 12345) % 2147483648) / 65536 % 6) ≤ 5) ∧ (1 ≤ (sr B 45 (yS (B 40 1) (B 42) (B 43) (B 44) (B 41) sd (B 45) n).2) 43 (((((yS (B 40 1) (B 42) (B 43) (B 44) (B 41) sd (B 45) n).1 * 1103515245) + 12345) % 2147483648) / 65536 % 6) ∧ (sr B 45 (yS (B 40 1) (B 42) (B 43) (B 44) (B 41) sd (B 45) n).2) 43 (((((yS (B 40 1) (B 42) (B 43) (B 44) (B 41) sd (B 45) n).1 * 1103515245) + 12345) % 2147483648) / 65536 % 6) ≤ 4) ∧ (0 ≤ (sr B 45 (yS (B 40 1) (B 42) (B 43) (B 44) (B 41) sd (B 45) n).2) 44 (((((yS (B 40 1) (B 42) (B 43) (B 44) (B 41) sd (B 45) n).1 * 1103515245) + 12345) % 2147483648) / 65536 % 6) ∧ (sr B 45 (yS (B 40 1) (B 42) (B 43) (B 44) (B 41) sd (B 45) n).2) 44 (((((yS (B 40 1) (B 42) (B 43) (B 44) (B 41) sd (B 45) n).1 * 1103515245) + 12345) % 2147483648) / 65536 % 6) < 3) ∧ (0 ≤ (sr B 45 (yS (B 40 1) (B 42) (B 43) (B 44) (B 41) sd (B 45) n).2) 45 (((((yS (B 40 1) (B 42) (B 43) (B 44) (B 41) sd (B 45) n).1 * 1103515245) + 12345) % 2147483648) / 65536 % 6) ∧ (sr B 45 (yS (B 40 1) (B 42) (B 43) (B 44) (B 41) sd (B 45) n).2) 45 (((((yS (B 40 1) (B 42) (B 43) (B 44) (B 41) sd (B 45) n).1 * 1103515245) + 12345) % 2147483648) / 65536 % 6) ≤ 11) ∧ (0 ≤ (sr B 45 (yS (B 40 1) (B 42) (B 43) (B 44) (B 41) sd (B 45) n).2) 45 (6 + (((((yS (B 40 1) (B 42) (B 43) (B 44) (B 41) sd (B 45) n).1 * 1103515245) + 12345) % 2147483648) / 65536 % 6)) ∧ (sr B 45 (yS (B 40 1) (B 42) (B 43) (B 44) (B 41) sd (B 45) n).2) 45 (6 + (((((yS (B 40 1) (B 42) (B 43) (B 44) (B 41) sd (B 45) n).1 * 1103515245) + 12345) % 2147483648) / 65536 % 6)) ≤ 9)) ∧ ((0 ≤ ((sr B 45 (yS (B 40 1) (B 42) (B 43) (B 44) (B 41) sd (B 45) n).2) 44 (((((yS (B 40 1) (B 42) (B 43) (B 44) (B 41) sd (B 45) n).1 * 1103515245) + 12345) % 2147483648) / 65536 % 6)) ∧ ((sr B 45 (yS (B 40 1) (B 42) (B 43) (B 44) (B 41) sd (B 45) n).2) 44 (((((yS (B 40 1) (B 42) (B 43) (B 44) (B 41) sd (B 45) n).1 * 1103515245) + 12345) % 2147483648) / 65536 % 6)) < 3) ∧ (0 ≤ (sr B 45 (yS (B 40 1) (B 42) (B 43) (B 44) (B 41) sd (B 45) n).2) 41 ((sr B 45 (yS (B 40 1) (B 42) (B 43) (B 44) (B 41) sd (B 45) n).2) 44 (((((yS (B 40 1) (B 42) (B 43) (B 44) (B 41) sd (B 45) n).1 * 1103515245) + 12345) % 2147483648) / 65536 % 6)) ∧ (sr B 45 (yS (B 40 1) (B 42) (B 43) (B 44) (B 41) sd (B 45) n).2) 41 ((sr B 45 (yS (B 40 1) (B 42) (B 43) (B 44) (B 41) sd (B 45) n).2) 44 (((((yS (B 40 1) (B 42) (B 43) (B 44) (B 41) sd (B 45) n).1 * 1103515245) + 12345) % 2147483648) / 65536 % 6)) ≤ 5) ∧ (1 ≤ (sr B 45 (yS (B 40 1) (B 42) (B 43) (B 44) (B 41) sd (B 45) n).2) 45 (12 + ((sr B 45 (yS (B 40 1) (B 42) (B 43) (B 44) (B 41) sd (B 45) n).2) 44 (((((yS (B 40 1) (B 42) (B 43) (B 44) (B 41) sd (B 45) n).1 * 1103515245) + 12345) % 2147483648) / 65536 % 6))) ∧ (sr B 45 (yS (B 40 1) (B 42) (B 43) (B 44) (B 41) sd (B 45) n).2) 45 (12 + ((sr B 45 (yS (B 40 1) (B 42) (B 43) (B 44) (B 41) sd (B 45) n).2) 44 (((((yS (B 40 1) (B 42) (B 43) (B 44) (B 41) sd (B 45) n).1 * 1103515245) + 12345) % 2147483648) / 65536 % 6))) ≤ 10)) := by
      intro z
      have a0 := hP.1
      have a1 := hP.2.2.1 (((((yS (B 40 1) (B 42) (B 43) (B 44) (B 41) sd (B 45) n).1 * 1103515245) + 12345) % 2147483648) / 65536 % 6) (by omega) z
      have a2 := hV.2.2.1 (((((yS (B 40 1) (B 42) (B 43) (B 44) (B 41) sd (B 45) n).1 * 1103515245) + 12345) % 2147483648) / 65536 % 6) (by omega) z
      have a3 := hP.2.2.2 (B 44 (((((yS (B 40 1) (B 42) (B 43) (B 44) (B 41) sd (B 45) n).1 * 1103515245) + 12345) % 2147483648) / 65536 % 6)) (by omega) (by omega)
      have a4 := hV.2.2.2 (B 44 (((((yS (B 40 1) (B 42) (B 43) (B 44) (B 41) sd (B 45) n).1 * 1103515245) + 12345) % 2147483648) / 65536 % 6)) (by omega) (by omega)
      have a5 := hP.2.1
      exact ⟨⟨by omega, a1.1, a1.2.1, ⟨a1.2.2.1, Int.lt_of_lt_of_le a1.2.2.2 a5.2⟩, a2.1, a2.2⟩, ⟨a1.2.2.1, Int.lt_of_lt_of_le a1.2.2.2 a5.2⟩, a3, a4⟩
    refine Hx.run 2 (pc' := 46) (L' := [some (vr 0), some (vi sd), some (vi w), some (vl (yS (B 40 1) (B 42) (B 43) (B 44) (B 41) sd (B 45) n).1), none, some (vi (n : Int))]) (st' := [vi w, vi (n : Int)]) (M' := (sr B 45 (yS (B 40 1) (B 42) (B 43) (B 44) (B 41) sd (B 45) n).2)) rfl ?_
    refine Hx.br (c := (n : Int) < w) (t := 49) (f := 96) rfl (fun h1 => ?_) (fun h1 => ?_)
    · skip
      refine Hx.run 2 (pc' := 53) (L' := [some (vr 0), some (vi sd), some (vi w), some (vl (yS (B 40 1) (B 42) (B 43) (B 44) (B 41) sd (B 45) n).1), none, some (vi (n : Int))]) (st' := [vl 1103515245, vl (yS (B 40 1) (B 42) (B 43) (B 44) (B 41) sd (B 45) n).1]) (M' := (sr B 45 (yS (B 40 1) (B 42) (B 43) (B 44) (B 41) sd (B 45) n).2)) rfl ?_
      refine Hx.lmul rfl (by (first | omega | (show 0 ≤ _ ∧ _; omega))) ?_
      refine Hx.run 1 (pc' := 57) (L' := [some (vr 0), some (vi sd), some (vi w), some (vl (yS (B 40 1) (B 42) (B 43) (B 44) (B 41) sd (B 45) n).1), none, some (vi (n : Int))]) (st' := [vl 12345, vl ((yS (B 40 1) (B 42) (B 43) (B 44) (B 41) sd (B 45) n).1 * 1103515245)]) (M' := (sr B 45 (yS (B 40 1) (B 42) (B 43) (B 44) (B 41) sd (B 45) n).2)) rfl ?_
      refine Hx.ladd rfl (by (first | omega | (show 0 ≤ _ ∧ _; omega))) ?_
      refine Hx.run 1 (pc' := 61) (L' := [some (vr 0), some (vi sd), some (vi w), some (vl (yS (B 40 1) (B 42) (B 43) (B 44) (B 41) sd (B 45) n).1), none, some (vi (n : Int))]) (st' := [vl 2147483648, vl (((yS (B 40 1) (B 42) (B 43) (B 44) (B 41) sd (B 45) n).1 * 1103515245) + 12345)]) (M' := (sr B 45 (yS (B 40 1) (B 42) (B 43) (B 44) (B 41) sd (B 45) n).2)) rfl ?_
      refine Hx.lrem rfl (by (first | omega | (show 0 ≤ _ ∧ _; omega))) ?_
      refine Hx.run 4 (pc' := 68) (L' := [some (vr 0), some (vi sd), some (vi w), some (vl ((((yS (B 40 1) (B 42) (B 43) (B 44) (B 41) sd (B 45) n).1 * 1103515245) + 12345) % 2147483648)), none, some (vi (n : Int))]) (st' := [vl 65536, vl ((((yS (B 40 1) (B 42) (B 43) (B 44) (B 41) sd (B 45) n).1 * 1103515245) + 12345) % 2147483648), vr 0]) (M' := (sr B 45 (yS (B 40 1) (B 42) (B 43) (B 44) (B 41) sd (B 45) n).2)) rfl ?_
      refine Hx.ldiv rfl (by (first | omega | (show 0 ≤ _ ∧ _; omega))) ?_
      refine Hx.run 1 (pc' := 72) (L' := [some (vr 0), some (vi sd), some (vi w), some (vl ((((yS (B 40 1) (B 42) (B 43) (B 44) (B 41) sd (B 45) n).1 * 1103515245) + 12345) % 2147483648)), none, some (vi (n : Int))]) (st' := [vl 6, vl (((((yS (B 40 1) (B 42) (B 43) (B 44) (B 41) sd (B 45) n).1 * 1103515245) + 12345) % 2147483648) / 65536), vr 0]) (M' := (sr B 45 (yS (B 40 1) (B 42) (B 43) (B 44) (B 41) sd (B 45) n).2)) rfl ?_
      refine Hx.lrem rfl (by (first | omega | (show 0 ≤ _ ∧ _; omega))) ?_
      refine Hx.l2iS rfl (by (first | omega | (show 0 ≤ _ ∧ _; omega))) ?_
      refine Hx.run 2 (pc' := 78) (L' := [some (vr 0), some (vi sd), some (vi w), some (vl ((((yS (B 40 1) (B 42) (B 43) (B 44) (B 41) sd (B 45) n).1 * 1103515245) + 12345) % 2147483648)), none, some (vi (n : Int))]) (st' := [vl 1048576, vl ((((yS (B 40 1) (B 42) (B 43) (B 44) (B 41) sd (B 45) n).1 * 1103515245) + 12345) % 2147483648), vi ((((((yS (B 40 1) (B 42) (B 43) (B 44) (B 41) sd (B 45) n).1 * 1103515245) + 12345) % 2147483648) / 65536) % 6), vr 0]) (M' := (sr B 45 (yS (B 40 1) (B 42) (B 43) (B 44) (B 41) sd (B 45) n).2)) rfl ?_
      refine Hx.ldiv rfl (by (first | omega | (show 0 ≤ _ ∧ _; omega))) ?_
      refine Hx.call (t := 106) (as := [vr 0, vi ((((((yS (B 40 1) (B 42) (B 43) (B 44) (B 41) sd (B 45) n).1 * 1103515245) + 12345) % 2147483648) / 65536) % 6), vl (((((yS (B 40 1) (B 42) (B 43) (B 44) (B 41) sd (B 45) n).1 * 1103515245) + 12345) % 2147483648) / 1048576)]) (pc' := 82) (rest := []) rfl (c_sbc ((((((yS (B 40 1) (B 42) (B 43) (B 44) (B 41) sd (B 45) n).1 * 1103515245) + 12345) % 2147483648) / 65536) % 6) (((((yS (B 40 1) (B 42) (B 43) (B 44) (B 41) sd (B 45) n).1 * 1103515245) + 12345) % 2147483648) / 1048576) (sr B 45 (yS (B 40 1) (B 42) (B 43) (B 44) (B 41) sd (B 45) n).2) (by omega) (by omega) hgg (by show 0 ≤ (yS (B 40 1) (B 42) (B 43) (B 44) (B 41) sd (B 45) n).2 16 ∧ (yS (B 40 1) (B 42) (B 43) (B 44) (B 41) sd (B 45) n).2 16 ≤ 9999; omega) (by show 0 ≤ (yS (B 40 1) (B 42) (B 43) (B 44) (B 41) sd (B 45) n).2 15 ∧ (yS (B 40 1) (B 42) (B 43) (B 44) (B 41) sd (B 45) n).2 15 ≤ 9999; omega)) ?_
      rintro _ _ (⟨hq, rfl, rfl⟩ | ⟨hq, hq2, rfl, rfl⟩ | ⟨hq, hq2, rfl, rfl⟩)
      · skip
        have hN1 : yM (B 40 1) (B 42) (B 43) (B 44) (B 41) (yX (yS (B 40 1) (B 42) (B 43) (B 44) (B 41) sd (B 45) n).1) (yS (B 40 1) (B 42) (B 43) (B 44) (B 41) sd (B 45) n).2 = (yS (B 40 1) (B 42) (B 43) (B 44) (B 41) sd (B 45) n).2 := yM_out hq
        refine Hx.run 3 (pc' := 87) (L' := [some (vr 0), some (vi sd), some (vi w), some (vl ((((yS (B 40 1) (B 42) (B 43) (B 44) (B 41) sd (B 45) n).1 * 1103515245) + 12345) % 2147483648)), none, some (vi (n : Int))]) (st' := [vi 1, vr 40]) (M' := (sr B 45 (yS (B 40 1) (B 42) (B 43) (B 44) (B 41) sd (B 45) n).2)) rfl ?_
        refine Hx.call (t := 25) (as := [vr 40, vi 1]) (pc' := 90) (rest := []) rfl (c_pass_40 1 (sr B 45 (yS (B 40 1) (B 42) (B 43) (B 44) (B 41) sd (B 45) n).2) (by omega) (by show 0 ≤ (yS (B 40 1) (B 42) (B 43) (B 44) (B 41) sd (B 45) n).2 16 ∧ (yS (B 40 1) (B 42) (B 43) (B 44) (B 41) sd (B 45) n).2 16 ≤ 9999; (try rw [h16]); omega)) ?_
        rintro _ _ ⟨rfl, rfl⟩
        refine Hx.run 0 (pc' := 90) (L' := [some (vr 0), some (vi sd), some (vi w), some (vl ((((yS (B 40 1) (B 42) (B 43) (B 44) (B 41) sd (B 45) n).1 * 1103515245) + 12345) % 2147483648)), none, some (vi (n : Int))]) (st' := []) (M' := (up (sr B 45 (yS (B 40 1) (B 42) (B 43) (B 44) (B 41) sd (B 45) n).2) 45 16 (min 9999 (((yS (B 40 1) (B 42) (B 43) (B 44) (B 41) sd (B 45) n).2 16) + 1)))) rfl ?_
        refine Hx.inc rfl rfl (by (first | omega | (show 0 ≤ _ ∧ _; omega))) ?_
        refine Hx.run 0 (pc' := 93) (L' := [some (vr 0), some (vi sd), some (vi w), some (vl ((((yS (B 40 1) (B 42) (B 43) (B 44) (B 41) sd (B 45) n).1 * 1103515245) + 12345) % 2147483648)), none, some (vi ((n : Int) + 1))]) (st' := []) (M' := (up (sr B 45 (yS (B 40 1) (B 42) (B 43) (B 44) (B 41) sd (B 45) n).2) 45 16 (min 9999 (((yS (B 40 1) (B 42) (B 43) (B 44) (B 41) sd (B 45) n).2 16) + 1)))) rfl ?_
        refine Hx.run 1 (pc' := 43) (L' := [some (vr 0), some (vi sd), some (vi w), some (vl ((((yS (B 40 1) (B 42) (B 43) (B 44) (B 41) sd (B 45) n).1 * 1103515245) + 12345) % 2147483648)), none, some (vi ((n : Int) + 1))]) (st' := []) (M' := (up (sr B 45 (yS (B 40 1) (B 42) (B 43) (B 44) (B 41) sd (B 45) n).2) 45 16 (min 9999 (((yS (B 40 1) (B 42) (B 43) (B 44) (B 41) sd (B 45) n).2 16) + 1)))) rfl ?_
        have h9 := ih (n + 1) (by omega) (by omega)
        rw [yS_1, yS_2] at h9
        rw [show yN (B 40 1) (B 42) (B 43) (B 44) (B 41) (yX (yS (B 40 1) (B 42) (B 43) (B 44) (B 41) sd (B 45) n).1) (yS (B 40 1) (B 42) (B 43) (B 44) (B 41) sd (B 45) n).2 = st1 (yS (B 40 1) (B 42) (B 43) (B 44) (B 41) sd (B 45) n).2 16 (min 9999 ((yS (B 40 1) (B 42) (B 43) (B 44) (B 41) sd (B 45) n).2 16 + 1)) from by unfold yN; rw [hN1], ← sr_up] at h9
        exact h9
      · skip
        have hN1 := yM_fall (G := B 40 1) (kd := B 42) (lg := B 43) (fg := B 44) (ok := B 41) (x := (yX (yS (B 40 1) (B 42) (B 43) (B 44) (B 41) sd (B 45) n).1)) (N := (yS (B 40 1) (B 42) (B 43) (B 44) (B 41) sd (B 45) n).2) hq hq2
        refine Hx.eq (st' := []) rfl (show _ = sr B 45 (yM (B 40 1) (B 42) (B 43) (B 44) (B 41) (yX (yS (B 40 1) (B 42) (B 43) (B 44) (B 41) sd (B 45) n).1) (yS (B 40 1) (B 42) (B 43) (B 44) (B 41) sd (B 45) n).2) from by rw [sr_up, sr_up, hN1]; rfl) ?_
        refine Hx.run 3 (pc' := 87) (L' := [some (vr 0), some (vi sd), some (vi w), some (vl ((((yS (B 40 1) (B 42) (B 43) (B 44) (B 41) sd (B 45) n).1 * 1103515245) + 12345) % 2147483648)), none, some (vi (n : Int))]) (st' := [vi 1, vr 40]) (M' := (sr B 45 (yM (B 40 1) (B 42) (B 43) (B 44) (B 41) (yX (yS (B 40 1) (B 42) (B 43) (B 44) (B 41) sd (B 45) n).1) (yS (B 40 1) (B 42) (B 43) (B 44) (B 41) sd (B 45) n).2))) rfl ?_
        refine Hx.call (t := 25) (as := [vr 40, vi 1]) (pc' := 90) (rest := []) rfl (c_pass_40 1 (sr B 45 (yM (B 40 1) (B 42) (B 43) (B 44) (B 41) (yX (yS (B 40 1) (B 42) (B 43) (B 44) (B 41) sd (B 45) n).1) (yS (B 40 1) (B 42) (B 43) (B 44) (B 41) sd (B 45) n).2)) (by omega) (by show 0 ≤ (yM (B 40 1) (B 42) (B 43) (B 44) (B 41) (yX (yS (B 40 1) (B 42) (B 43) (B 44) (B 41) sd (B 45) n).1) (yS (B 40 1) (B 42) (B 43) (B 44) (B 41) sd (B 45) n).2) 16 ∧ (yM (B 40 1) (B 42) (B 43) (B 44) (B 41) (yX (yS (B 40 1) (B 42) (B 43) (B 44) (B 41) sd (B 45) n).1) (yS (B 40 1) (B 42) (B 43) (B 44) (B 41) sd (B 45) n).2) 16 ≤ 9999; (try rw [h16]); omega)) ?_
        rintro _ _ ⟨rfl, rfl⟩
        refine Hx.run 0 (pc' := 90) (L' := [some (vr 0), some (vi sd), some (vi w), some (vl ((((yS (B 40 1) (B 42) (B 43) (B 44) (B 41) sd (B 45) n).1 * 1103515245) + 12345) % 2147483648)), none, some (vi (n : Int))]) (st' := []) (M' := (up (sr B 45 (yM (B 40 1) (B 42) (B 43) (B 44) (B 41) (yX (yS (B 40 1) (B 42) (B 43) (B 44) (B 41) sd (B 45) n).1) (yS (B 40 1) (B 42) (B 43) (B 44) (B 41) sd (B 45) n).2)) 45 16 (min 9999 (((yM (B 40 1) (B 42) (B 43) (B 44) (B 41) (yX (yS (B 40 1) (B 42) (B 43) (B 44) (B 41) sd (B 45) n).1) (yS (B 40 1) (B 42) (B 43) (B 44) (B 41) sd (B 45) n).2) 16) + 1)))) rfl ?_
        refine Hx.inc rfl rfl (by (first | omega | (show 0 ≤ _ ∧ _; omega))) ?_
        refine Hx.run 0 (pc' := 93) (L' := [some (vr 0), some (vi sd), some (vi w), some (vl ((((yS (B 40 1) (B 42) (B 43) (B 44) (B 41) sd (B 45) n).1 * 1103515245) + 12345) % 2147483648)), none, some (vi ((n : Int) + 1))]) (st' := []) (M' := (up (sr B 45 (yM (B 40 1) (B 42) (B 43) (B 44) (B 41) (yX (yS (B 40 1) (B 42) (B 43) (B 44) (B 41) sd (B 45) n).1) (yS (B 40 1) (B 42) (B 43) (B 44) (B 41) sd (B 45) n).2)) 45 16 (min 9999 (((yM (B 40 1) (B 42) (B 43) (B 44) (B 41) (yX (yS (B 40 1) (B 42) (B 43) (B 44) (B 41) sd (B 45) n).1) (yS (B 40 1) (B 42) (B 43) (B 44) (B 41) sd (B 45) n).2) 16) + 1)))) rfl ?_
        refine Hx.run 1 (pc' := 43) (L' := [some (vr 0), some (vi sd), some (vi w), some (vl ((((yS (B 40 1) (B 42) (B 43) (B 44) (B 41) sd (B 45) n).1 * 1103515245) + 12345) % 2147483648)), none, some (vi ((n : Int) + 1))]) (st' := []) (M' := (up (sr B 45 (yM (B 40 1) (B 42) (B 43) (B 44) (B 41) (yX (yS (B 40 1) (B 42) (B 43) (B 44) (B 41) sd (B 45) n).1) (yS (B 40 1) (B 42) (B 43) (B 44) (B 41) sd (B 45) n).2)) 45 16 (min 9999 (((yM (B 40 1) (B 42) (B 43) (B 44) (B 41) (yX (yS (B 40 1) (B 42) (B 43) (B 44) (B 41) sd (B 45) n).1) (yS (B 40 1) (B 42) (B 43) (B 44) (B 41) sd (B 45) n).2) 16) + 1)))) rfl ?_
        have h9 := ih (n + 1) (by omega) (by omega)
        rw [yS_1, yS_2] at h9
        rw [show yN (B 40 1) (B 42) (B 43) (B 44) (B 41) (yX (yS (B 40 1) (B 42) (B 43) (B 44) (B 41) sd (B 45) n).1) (yS (B 40 1) (B 42) (B 43) (B 44) (B 41) sd (B 45) n).2 = st1 (yM (B 40 1) (B 42) (B 43) (B 44) (B 41) (yX (yS (B 40 1) (B 42) (B 43) (B 44) (B 41) sd (B 45) n).1) (yS (B 40 1) (B 42) (B 43) (B 44) (B 41) sd (B 45) n).2) 16 (min 9999 (yM (B 40 1) (B 42) (B 43) (B 44) (B 41) (yX (yS (B 40 1) (B 42) (B 43) (B 44) (B 41) sd (B 45) n).1) (yS (B 40 1) (B 42) (B 43) (B 44) (B 41) sd (B 45) n).2 16 + 1)) from rfl, ← sr_up] at h9
        exact h9
      · skip
        have hN1 := yM_go (G := B 40 1) (kd := B 42) (lg := B 43) (fg := B 44) (ok := B 41) (x := (yX (yS (B 40 1) (B 42) (B 43) (B 44) (B 41) sd (B 45) n).1)) (N := (yS (B 40 1) (B 42) (B 43) (B 44) (B 41) sd (B 45) n).2) hq hq2
        refine Hx.eq (st' := []) rfl (show _ = sr B 45 (yM (B 40 1) (B 42) (B 43) (B 44) (B 41) (yX (yS (B 40 1) (B 42) (B 43) (B 44) (B 41) sd (B 45) n).1) (yS (B 40 1) (B 42) (B 43) (B 44) (B 41) sd (B 45) n).2) from by rw [sr_up, hN1]; rfl) ?_
        refine Hx.run 3 (pc' := 87) (L' := [some (vr 0), some (vi sd), some (vi w), some (vl ((((yS (B 40 1) (B 42) (B 43) (B 44) (B 41) sd (B 45) n).1 * 1103515245) + 12345) % 2147483648)), none, some (vi (n : Int))]) (st' := [vi 1, vr 40]) (M' := (sr B 45 (yM (B 40 1) (B 42) (B 43) (B 44) (B 41) (yX (yS (B 40 1) (B 42) (B 43) (B 44) (B 41) sd (B 45) n).1) (yS (B 40 1) (B 42) (B 43) (B 44) (B 41) sd (B 45) n).2))) rfl ?_
        refine Hx.call (t := 25) (as := [vr 40, vi 1]) (pc' := 90) (rest := []) rfl (c_pass_40 1 (sr B 45 (yM (B 40 1) (B 42) (B 43) (B 44) (B 41) (yX (yS (B 40 1) (B 42) (B 43) (B 44) (B 41) sd (B 45) n).1) (yS (B 40 1) (B 42) (B 43) (B 44) (B 41) sd (B 45) n).2)) (by omega) (by show 0 ≤ (yM (B 40 1) (B 42) (B 43) (B 44) (B 41) (yX (yS (B 40 1) (B 42) (B 43) (B 44) (B 41) sd (B 45) n).1) (yS (B 40 1) (B 42) (B 43) (B 44) (B 41) sd (B 45) n).2) 16 ∧ (yM (B 40 1) (B 42) (B 43) (B 44) (B 41) (yX (yS (B 40 1) (B 42) (B 43) (B 44) (B 41) sd (B 45) n).1) (yS (B 40 1) (B 42) (B 43) (B 44) (B 41) sd (B 45) n).2) 16 ≤ 9999; (try rw [h16]); omega)) ?_
        rintro _ _ ⟨rfl, rfl⟩
        refine Hx.run 0 (pc' := 90) (L' := [some (vr 0), some (vi sd), some (vi w), some (vl ((((yS (B 40 1) (B 42) (B 43) (B 44) (B 41) sd (B 45) n).1 * 1103515245) + 12345) % 2147483648)), none, some (vi (n : Int))]) (st' := []) (M' := (up (sr B 45 (yM (B 40 1) (B 42) (B 43) (B 44) (B 41) (yX (yS (B 40 1) (B 42) (B 43) (B 44) (B 41) sd (B 45) n).1) (yS (B 40 1) (B 42) (B 43) (B 44) (B 41) sd (B 45) n).2)) 45 16 (min 9999 (((yM (B 40 1) (B 42) (B 43) (B 44) (B 41) (yX (yS (B 40 1) (B 42) (B 43) (B 44) (B 41) sd (B 45) n).1) (yS (B 40 1) (B 42) (B 43) (B 44) (B 41) sd (B 45) n).2) 16) + 1)))) rfl ?_
        refine Hx.inc rfl rfl (by (first | omega | (show 0 ≤ _ ∧ _; omega))) ?_
        refine Hx.run 0 (pc' := 93) (L' := [some (vr 0), some (vi sd), some (vi w), some (vl ((((yS (B 40 1) (B 42) (B 43) (B 44) (B 41) sd (B 45) n).1 * 1103515245) + 12345) % 2147483648)), none, some (vi ((n : Int) + 1))]) (st' := []) (M' := (up (sr B 45 (yM (B 40 1) (B 42) (B 43) (B 44) (B 41) (yX (yS (B 40 1) (B 42) (B 43) (B 44) (B 41) sd (B 45) n).1) (yS (B 40 1) (B 42) (B 43) (B 44) (B 41) sd (B 45) n).2)) 45 16 (min 9999 (((yM (B 40 1) (B 42) (B 43) (B 44) (B 41) (yX (yS (B 40 1) (B 42) (B 43) (B 44) (B 41) sd (B 45) n).1) (yS (B 40 1) (B 42) (B 43) (B 44) (B 41) sd (B 45) n).2) 16) + 1)))) rfl ?_
        refine Hx.run 1 (pc' := 43) (L' := [some (vr 0), some (vi sd), some (vi w), some (vl ((((yS (B 40 1) (B 42) (B 43) (B 44) (B 41) sd (B 45) n).1 * 1103515245) + 12345) % 2147483648)), none, some (vi ((n : Int) + 1))]) (st' := []) (M' := (up (sr B 45 (yM (B 40 1) (B 42) (B 43) (B 44) (B 41) (yX (yS (B 40 1) (B 42) (B 43) (B 44) (B 41) sd (B 45) n).1) (yS (B 40 1) (B 42) (B 43) (B 44) (B 41) sd (B 45) n).2)) 45 16 (min 9999 (((yM (B 40 1) (B 42) (B 43) (B 44) (B 41) (yX (yS (B 40 1) (B 42) (B 43) (B 44) (B 41) sd (B 45) n).1) (yS (B 40 1) (B 42) (B 43) (B 44) (B 41) sd (B 45) n).2) 16) + 1)))) rfl ?_
        have h9 := ih (n + 1) (by omega) (by omega)
        rw [yS_1, yS_2] at h9
        rw [show yN (B 40 1) (B 42) (B 43) (B 44) (B 41) (yX (yS (B 40 1) (B 42) (B 43) (B 44) (B 41) sd (B 45) n).1) (yS (B 40 1) (B 42) (B 43) (B 44) (B 41) sd (B 45) n).2 = st1 (yM (B 40 1) (B 42) (B 43) (B 44) (B 41) (yX (yS (B 40 1) (B 42) (B 43) (B 44) (B 41) sd (B 45) n).1) (yS (B 40 1) (B 42) (B 43) (B 44) (B 41) sd (B 45) n).2) 16 (min 9999 (yM (B 40 1) (B 42) (B 43) (B 44) (B 41) (yX (yS (B 40 1) (B 42) (B 43) (B 44) (B 41) sd (B 45) n).1) (yS (B 40 1) (B 42) (B 43) (B 44) (B 41) sd (B 45) n).2 16 + 1)) from rfl, ← sr_up] at h9
        exact h9
    · skip
      refine Hx.run 2 (pc' := 100) (L' := [some (vr 0), some (vi sd), some (vi w), some (vl (yS (B 40 1) (B 42) (B 43) (B 44) (B 41) sd (B 45) n).1), none, some (vi (n : Int))]) (st' := [vr 40]) (M' := (sr B 45 (yS (B 40 1) (B 42) (B 43) (B 44) (B 41) sd (B 45) n).2)) rfl ?_
      refine Hx.call (t := 22) (as := [vr 40]) (pc' := 103) (rest := []) rfl (c_falls_40 (sr B 45 (yS (B 40 1) (B 42) (B 43) (B 44) (B 41) sd (B 45) n).2)) ?_
      rintro _ _ ⟨rfl, rfl⟩
      refine Hx.run 0 (pc' := 103) (L' := [some (vr 0), some (vi sd), some (vi w), some (vl (yS (B 40 1) (B 42) (B 43) (B 44) (B 41) sd (B 45) n).1), none, some (vi (n : Int))]) (st' := [vi ((yS (B 40 1) (B 42) (B 43) (B 44) (B 41) sd (B 45) n).2 15)]) (M' := (sr B 45 (yS (B 40 1) (B 42) (B 43) (B 44) (B 41) sd (B 45) n).2)) rfl ?_
      refine Hx.run 2 (pc' := 107) (L' := [some (vr 0), some (vi sd), some (vi w), some (vl (yS (B 40 1) (B 42) (B 43) (B 44) (B 41) sd (B 45) n).1), none, some (vi (n : Int))]) (st' := [vr 1, vi ((yS (B 40 1) (B 42) (B 43) (B 44) (B 41) sd (B 45) n).2 15)]) (M' := (sr B 45 (yS (B 40 1) (B 42) (B 43) (B 44) (B 41) sd (B 45) n).2)) rfl ?_
      refine Hx.call (t := 22) (as := [vr 1]) (pc' := 110) (rest := [vi ((yS (B 40 1) (B 42) (B 43) (B 44) (B 41) sd (B 45) n).2 15)]) rfl (c_falls_1 (sr B 45 (yS (B 40 1) (B 42) (B 43) (B 44) (B 41) sd (B 45) n).2)) ?_
      rintro _ _ ⟨rfl, rfl⟩
      refine Hx.run 0 (pc' := 110) (L' := [some (vr 0), some (vi sd), some (vi w), some (vl (yS (B 40 1) (B 42) (B 43) (B 44) (B 41) sd (B 45) n).1), none, some (vi (n : Int))]) (st' := [vi (B 6 15), vi ((yS (B 40 1) (B 42) (B 43) (B 44) (B 41) sd (B 45) n).2 15)]) (M' := (sr B 45 (yS (B 40 1) (B 42) (B 43) (B 44) (B 41) sd (B 45) n).2)) rfl ?_
      refine Hx.sub rfl (by (first | omega | (show 0 ≤ _ ∧ _; omega))) ?_
      refine Hx.ret rfl ?_
      exact ⟨by rw [show w.toNat = n by omega], _, rfl⟩
