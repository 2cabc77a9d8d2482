/-! site, the reference (written by wip/whole/gen41.py) -/
def auR (M : Mm) (f s : Int) (m : Nat) : Int := if M 65 (22 + (m : Int)) = f then co (TV (sfF (M 65 (10 + (m : Int))) (M 65 (16 + (m : Int))) (M 65 (34 + (m : Int))) (M 65 2 % 24)) (bb s (bcF (M 65 (4 + f)) (M 65 2 % 24))) 0) else 0
theorem auR_rng (M : Mm) (f s : Int) (m : Nat) : 0 ≤ auR M f s m ∧ auR M f s m ≤ 20 := by
  unfold auR
  have h := TV_fin (far := sfF (M 65 (10 + (m : Int))) (M 65 (16 + (m : Int))) (M 65 (34 + (m : Int))) (M 65 2 % 24)) (b := bb s (bcF (M 65 (4 + f)) (M 65 2 % 24))) (x := 0) (by omega) (by omega)
  have h2 := co_cases (TV (sfF (M 65 (10 + (m : Int))) (M 65 (16 + (m : Int))) (M 65 (34 + (m : Int))) (M 65 2 % 24)) (bb s (bcF (M 65 (4 + f)) (M 65 2 % 24))) 0)
  split <;> omega
def siR (M : Mm) (f : Int) (n : Nat) : Int := sS (auR M f ((n : Int) + 1)) (M 65 1).toNat
theorem siR_rng {M : Mm} {f : Int} (h : 0 ≤ M 65 1 ∧ M 65 1 ≤ 6) (n : Nat) : 0 ≤ siR M f n ∧ siR M f n ≤ 120 := by
  have := sS_rng (auR_rng M f ((n : Int) + 1)) (M 65 1).toNat
  unfold siR
  omega
set_option maxRecDepth 100000 in
theorem rl_site1 (f w b l s : Int) (M : Mm) (hI : RI M 0) (hf : 0 ≤ f ∧ f < M 65 0) (hs : 1 ≤ s ∧ s ≤ 10) {P : Option PV → Mm → Prop} (hk : ∀ (n : Nat) (F : Int → Int), (n : Int) = M 65 1 → Hx 189 138 [some (vr 64), some (vi f), some (vi w), some (vi b), some (vi l), some (vi s), some (vi (sS (auR M f s) n)), some (vi (n : Int))] [] (sr M 69 F) P) : ∀ (kk : Nat) (n : Nat) (F : Int → Int), (n : Int) ≤ M 65 1 ∧ n ≤ 6 → 6 - (n : Int) < (kk : Int) → Hx 189 47 [some (vr 64), some (vi f), some (vi w), some (vi b), some (vi l), some (vi s), some (vi (sS (auR M f s) n)), some (vi (n : Int))] [] (sr M 69 F) P := by
  intro kk
  induction kk with
  | zero => intro n F _ hkk; exact absurd hkk (by omega)
  | succ kk ih =>
    intro n F hn hkk
    obtain ⟨r0, r1, r2, r3, r40, r61, r80, r111, rF, rG⟩ := (show (0 ≤ M 65 0 ∧ M 65 0 ≤ 3) ∧ (0 ≤ M 65 1 ∧ M 65 1 ≤ 6) ∧ (0 ≤ M 65 2 ∧ M 65 2 ≤ 9999) ∧ (0 ≤ M 65 3 ∧ M 65 3 ≤ 9000) ∧ (0 ≤ M 65 40 ∧ M 65 40 ≤ 5) ∧ (0 ≤ M 65 61 ∧ M 65 61 ≤ 6) ∧ (0 ≤ M 65 80 ∧ M 65 80 ≤ 6) ∧ (0 ≤ M 65 111 ∧ M 65 111 ≤ 8) ∧ (∀ f : Int, 0 ≤ f → f < M 65 0 → (0 ≤ M 65 (4 + f) ∧ M 65 (4 + f) ≤ 5) ∧ (1 ≤ M 65 (7 + f) ∧ M 65 (7 + f) ≤ 10)) ∧ (∀ i : Int, 0 ≤ i → i < M 65 1 → (0 ≤ M 65 (10 + i) ∧ M 65 (10 + i) ≤ 5) ∧ (1 ≤ M 65 (16 + i) ∧ M 65 (16 + i) ≤ 4) ∧ (0 ≤ M 65 (22 + i) ∧ M 65 (22 + i) < M 65 0) ∧ (0 ≤ M 65 (28 + i) ∧ M 65 (28 + i) ≤ 11) ∧ (0 ≤ M 65 (34 + i) ∧ M 65 (34 + i) ≤ 9)) from hI)
    refine Hx.run 5 (pc' := 55) (L' := [some (vr 64), some (vi f), some (vi w), some (vi b), some (vi l), some (vi s), some (vi (sS (auR M f s) n)), some (vi (n : Int))]) (st' := [vi (M 65 1), vi (n : Int)]) (M' := (sr M 69 F)) rfl ?_
    refine Hx.br (c := (n : Int) < (M 65 1)) (t := 58) (f := 138) rfl (fun h1 => ?_) (fun h1 => ?_)
    · skip
      have gG := rG (n : Int) (by omega) (by omega)
      have gF := rF f (by omega) (by omega)
      have sR := sfF_rng (k := M 65 (10 + (n : Int))) (l := M 65 (16 + (n : Int))) (x := M 65 (34 + (n : Int))) (t := M 65 2 % 24) (by omega) (by omega)
      have bR := bb_rng s (bcF (M 65 (4 + f)) (M 65 2 % 24))
      have tv := TV_fin (far := (sfF (M 65 (10 + (n : Int))) (M 65 (16 + (n : Int))) (M 65 (34 + (n : Int))) ((M 65 2) % 24))) (b := (bb s (bcF (M 65 (4 + f)) ((M 65 2) % 24)))) (x := 0) (by omega) (by omega)
      have tc := co_cases (TV (sfF (M 65 (10 + (n : Int))) (M 65 (16 + (n : Int))) (M 65 (34 + (n : Int))) ((M 65 2) % 24)) (bb s (bcF (M 65 (4 + f)) ((M 65 2) % 24))) 0)
      have ss := sS_rng (auR_rng M f s) n
      have hTT : (tbl (sfF (M 65 (10 + (n : Int))) (M 65 (16 + (n : Int))) (M 65 (34 + (n : Int))) ((M 65 2) % 24)).toNat (bb s (bcF (M 65 (4 + f)) ((M 65 2) % 24))) ((sr M 69 F) 69) 11) 0 = TV (sfF (M 65 (10 + (n : Int))) (M 65 (16 + (n : Int))) (M 65 (34 + (n : Int))) ((M 65 2) % 24)) (bb s (bcF (M 65 (4 + f)) ((M 65 2) % 24))) 0 := TV_tbl (by omega) (by omega) (by omega)
      refine Hx.run 4 (pc' := 66) (L' := [some (vr 64), some (vi f), some (vi w), some (vi b), some (vi l), some (vi s), some (vi (sS (auR M f s) n)), some (vi (n : Int))]) (st' := [vi (n : Int), vi 22, vr 65]) (M' := (sr M 69 F)) rfl ?_
      refine Hx.add rfl (by (first | omega | (simp only [sr65]; omega))) ?_
      refine Hx.aldI (n := 1032) rfl rfl (by (first | omega | (simp only [sr65]; omega))) ?_
      refine Hx.run 0 (pc' := 68) (L' := [some (vr 64), some (vi f), some (vi w), some (vi b), some (vi l), some (vi s), some (vi (sS (auR M f s) n)), some (vi (n : Int))]) (st' := [vi (M 65 (22 + (n : Int)))]) (M' := (sr M 69 F)) rfl ?_
      refine Hx.run 1 (pc' := 69) (L' := [some (vr 64), some (vi f), some (vi w), some (vi b), some (vi l), some (vi s), some (vi (sS (auR M f s) n)), some (vi (n : Int))]) (st' := [vi f, vi (M 65 (22 + (n : Int)))]) (M' := (sr M 69 F)) rfl ?_
      refine Hx.br (c := (M 65 (22 + (n : Int))) = f) (t := 72) (f := 132) rfl (fun h2 => ?_) (fun h2 => ?_)
      · skip
        refine Hx.run 4 (pc' := 77) (L' := [some (vr 64), some (vi f), some (vi w), some (vi b), some (vi l), some (vi s), some (vi (sS (auR M f s) n)), some (vi (n : Int))]) (st' := [vi (n : Int), vi 0, vr 64, vr 64]) (M' := (sr M 69 F)) rfl ?_
        refine Hx.call (t := 147) (as := [vr 64, vi 0, vi (n : Int)]) (pc' := 80) (rest := [vr 64]) rfl (r_stridesIn_0 (n : Int) (sr M 69 F) (by (first | omega | (simp only [sr65]; omega))) (by (first | omega | (simp only [sr65]; omega)))) ?_
        rintro _ _ ⟨rfl, rfl⟩
        refine Hx.run 0 (pc' := 80) (L' := [some (vr 64), some (vi f), some (vi w), some (vi b), some (vi l), some (vi s), some (vi (sS (auR M f s) n)), some (vi (n : Int))]) (st' := [vi (sfF (M 65 (10 + (n : Int))) (M 65 (16 + (n : Int))) (M 65 (34 + (n : Int))) ((M 65 2) % 24)), vr 64]) (M' := (sr M 69 F)) rfl ?_
        refine Hx.run 4 (pc' := 86) (L' := [some (vr 64), some (vi f), some (vi w), some (vi b), some (vi l), some (vi s), some (vi (sS (auR M f s) n)), some (vi (n : Int))]) (st' := [vi f, vi 4, vr 65, vi (sfF (M 65 (10 + (n : Int))) (M 65 (16 + (n : Int))) (M 65 (34 + (n : Int))) ((M 65 2) % 24)), vr 64]) (M' := (sr M 69 F)) rfl ?_
        refine Hx.add rfl (by (first | omega | (simp only [sr65]; omega))) ?_
        refine Hx.aldI (n := 1032) rfl rfl (by (first | omega | (simp only [sr65]; omega))) ?_
        refine Hx.run 0 (pc' := 88) (L' := [some (vr 64), some (vi f), some (vi w), some (vi b), some (vi l), some (vi s), some (vi (sS (auR M f s) n)), some (vi (n : Int))]) (st' := [vi (M 65 (4 + f)), vi (sfF (M 65 (10 + (n : Int))) (M 65 (16 + (n : Int))) (M 65 (34 + (n : Int))) ((M 65 2) % 24)), vr 64]) (M' := (sr M 69 F)) rfl ?_
        refine Hx.run 6 (pc' := 98) (L' := [some (vr 64), some (vi f), some (vi w), some (vi b), some (vi l), some (vi s), some (vi (sS (auR M f s) n)), some (vi (n : Int))]) (st' := [vi 24, vi (M 65 2), vi s, vi (M 65 (4 + f)), vi (sfF (M 65 (10 + (n : Int))) (M 65 (16 + (n : Int))) (M 65 (34 + (n : Int))) ((M 65 2) % 24)), vr 64]) (M' := (sr M 69 F)) rfl ?_
        refine Hx.rem rfl (by (first | omega | (simp only [sr65]; omega))) ?_
        refine Hx.call (t := 145) (as := [vi (M 65 (4 + f)), vi s, vi ((M 65 2) % 24)]) (pc' := 102) (rest := [vi (sfF (M 65 (10 + (n : Int))) (M 65 (16 + (n : Int))) (M 65 (34 + (n : Int))) ((M 65 2) % 24)), vr 64]) rfl (r_barsFrom (M 65 (4 + f)) s ((M 65 2) % 24) (sr M 69 F) (by (first | omega | (simp only [sr65]; omega))) (by (first | omega | (simp only [sr65]; omega))) (by (first | omega | (simp only [sr65]; omega)))) ?_
        rintro _ _ ⟨rfl, rfl⟩
        refine Hx.run 0 (pc' := 102) (L' := [some (vr 64), some (vi f), some (vi w), some (vi b), some (vi l), some (vi s), some (vi (sS (auR M f s) n)), some (vi (n : Int))]) (st' := [vi (bb s (bcF (M 65 (4 + f)) ((M 65 2) % 24))), vi (sfF (M 65 (10 + (n : Int))) (M 65 (16 + (n : Int))) (M 65 (34 + (n : Int))) ((M 65 2) % 24)), vr 64]) (M' := (sr M 69 F)) rfl ?_
        refine Hx.call (t := 182) (as := [vr 64, vi (sfF (M 65 (10 + (n : Int))) (M 65 (16 + (n : Int))) (M 65 (34 + (n : Int))) ((M 65 2) % 24)), vi (bb s (bcF (M 65 (4 + f)) ((M 65 2) % 24)))]) (pc' := 105) (rest := []) rfl (r_laysLeft (sfF (M 65 (10 + (n : Int))) (M 65 (16 + (n : Int))) (M 65 (34 + (n : Int))) ((M 65 2) % 24)) (bb s (bcF (M 65 (4 + f)) ((M 65 2) % 24))) (sr M 69 F) (by (first | omega | (simp only [sr65]; omega))) (by (first | omega | (simp only [sr65]; omega)))) ?_
        rintro _ _ ⟨rfl, rfl⟩
        refine Hx.run 0 (pc' := 105) (L' := [some (vr 64), some (vi f), some (vi w), some (vi b), some (vi l), some (vi s), some (vi (sS (auR M f s) n)), some (vi (n : Int))]) (st' := []) (M' := (sr (sr M 69 F) 69 (tbl (sfF (M 65 (10 + (n : Int))) (M 65 (16 + (n : Int))) (M 65 (34 + (n : Int))) ((M 65 2) % 24)).toNat (bb s (bcF (M 65 (4 + f)) ((M 65 2) % 24))) ((sr M 69 F) 69) 11))) rfl ?_
        refine Hx.run 6 (pc' := 115) (L' := [some (vr 64), some (vi f), some (vi w), some (vi b), some (vi l), some (vi s), some (vi (sS (auR M f s) n)), some (vi (n : Int))]) (st' := [vi 1000000, vi ((tbl (sfF (M 65 (10 + (n : Int))) (M 65 (16 + (n : Int))) (M 65 (34 + (n : Int))) ((M 65 2) % 24)).toNat (bb s (bcF (M 65 (4 + f)) ((M 65 2) % 24))) ((sr M 69 F) 69) 11) 0), vi (sS (auR M f s) n)]) (M' := (sr (sr M 69 F) 69 (tbl (sfF (M 65 (10 + (n : Int))) (M 65 (16 + (n : Int))) (M 65 (34 + (n : Int))) ((M 65 2) % 24)).toNat (bb s (bcF (M 65 (4 + f)) ((M 65 2) % 24))) ((sr M 69 F) 69) 11))) rfl ?_
        refine Hx.br (c := ((tbl (sfF (M 65 (10 + (n : Int))) (M 65 (16 + (n : Int))) (M 65 (34 + (n : Int))) ((M 65 2) % 24)).toNat (bb s (bcF (M 65 (4 + f)) ((M 65 2) % 24))) ((sr M 69 F) 69) 11) 0) < 1000000) (t := 123) (f := 118) rfl (fun h3 => ?_) (fun h3 => ?_)
        · skip
          refine Hx.run 4 (pc' := 129) (L' := [some (vr 64), some (vi f), some (vi w), some (vi b), some (vi l), some (vi s), some (vi (sS (auR M f s) n)), some (vi (n : Int))]) (st' := [vi ((tbl (sfF (M 65 (10 + (n : Int))) (M 65 (16 + (n : Int))) (M 65 (34 + (n : Int))) ((M 65 2) % 24)).toNat (bb s (bcF (M 65 (4 + f)) ((M 65 2) % 24))) ((sr M 69 F) 69) 11) 0), vi (sS (auR M f s) n)]) (M' := (sr (sr M 69 F) 69 (tbl (sfF (M 65 (10 + (n : Int))) (M 65 (16 + (n : Int))) (M 65 (34 + (n : Int))) ((M 65 2) % 24)).toNat (bb s (bcF (M 65 (4 + f)) ((M 65 2) % 24))) ((sr M 69 F) 69) 11))) rfl ?_
          refine Hx.add rfl (by (first | omega | (simp only [sr65]; omega))) ?_
          refine Hx.run 1 (pc' := 132) (L' := [some (vr 64), some (vi f), some (vi w), some (vi b), some (vi l), some (vi s), some (vi ((sS (auR M f s) n) + ((tbl (sfF (M 65 (10 + (n : Int))) (M 65 (16 + (n : Int))) (M 65 (34 + (n : Int))) ((M 65 2) % 24)).toNat (bb s (bcF (M 65 (4 + f)) ((M 65 2) % 24))) ((sr M 69 F) 69) 11) 0))), some (vi (n : Int))]) (st' := []) (M' := (sr (sr M 69 F) 69 (tbl (sfF (M 65 (10 + (n : Int))) (M 65 (16 + (n : Int))) (M 65 (34 + (n : Int))) ((M 65 2) % 24)).toNat (bb s (bcF (M 65 (4 + f)) ((M 65 2) % 24))) ((sr M 69 F) 69) 11))) rfl ?_
          refine Hx.inc rfl rfl (by (first | omega | (simp only [sr65]; omega))) ?_
          refine Hx.run 0 (pc' := 135) (L' := [some (vr 64), some (vi f), some (vi w), some (vi b), some (vi l), some (vi s), some (vi ((sS (auR M f s) n) + ((tbl (sfF (M 65 (10 + (n : Int))) (M 65 (16 + (n : Int))) (M 65 (34 + (n : Int))) ((M 65 2) % 24)).toNat (bb s (bcF (M 65 (4 + f)) ((M 65 2) % 24))) ((sr M 69 F) 69) 11) 0))), some (vi ((n : Int) + 1))]) (st' := []) (M' := (sr (sr M 69 F) 69 (tbl (sfF (M 65 (10 + (n : Int))) (M 65 (16 + (n : Int))) (M 65 (34 + (n : Int))) ((M 65 2) % 24)).toNat (bb s (bcF (M 65 (4 + f)) ((M 65 2) % 24))) ((sr M 69 F) 69) 11))) rfl ?_
          refine Hx.run 1 (pc' := 47) (L' := [some (vr 64), some (vi f), some (vi w), some (vi b), some (vi l), some (vi s), some (vi ((sS (auR M f s) n) + ((tbl (sfF (M 65 (10 + (n : Int))) (M 65 (16 + (n : Int))) (M 65 (34 + (n : Int))) ((M 65 2) % 24)).toNat (bb s (bcF (M 65 (4 + f)) ((M 65 2) % 24))) ((sr M 69 F) 69) 11) 0))), some (vi ((n : Int) + 1))]) (st' := []) (M' := (sr (sr M 69 F) 69 (tbl (sfF (M 65 (10 + (n : Int))) (M 65 (16 + (n : Int))) (M 65 (34 + (n : Int))) ((M 65 2) % 24)).toNat (bb s (bcF (M 65 (4 + f)) ((M 65 2) % 24))) ((sr M 69 F) 69) 11))) rfl ?_
          have e : sS (auR M f s) (n + 1) = ((sS (auR M f s) n) + ((tbl (sfF (M 65 (10 + (n : Int))) (M 65 (16 + (n : Int))) (M 65 (34 + (n : Int))) ((M 65 2) % 24)).toNat (bb s (bcF (M 65 (4 + f)) ((M 65 2) % 24))) ((sr M 69 F) 69) 11) 0)) := by
            rw [sS_succ, show auR M f s n = co (TV (sfF (M 65 (10 + (n : Int))) (M 65 (16 + (n : Int))) (M 65 (34 + (n : Int))) ((M 65 2) % 24)) (bb s (bcF (M 65 (4 + f)) ((M 65 2) % 24))) 0) from if_pos (by omega)]
            omega
          have h9 := ih (n + 1) (tbl (sfF (M 65 (10 + (n : Int))) (M 65 (16 + (n : Int))) (M 65 (34 + (n : Int))) ((M 65 2) % 24)).toNat (bb s (bcF (M 65 (4 + f)) ((M 65 2) % 24))) ((sr M 69 F) 69) 11) (by omega) (by omega)
          rw [e] at h9
          rw [sr_sr]
          exact h9
        · skip
          refine Hx.run 2 (pc' := 129) (L' := [some (vr 64), some (vi f), some (vi w), some (vi b), some (vi l), some (vi s), some (vi (sS (auR M f s) n)), some (vi (n : Int))]) (st' := [vi 20, vi (sS (auR M f s) n)]) (M' := (sr (sr M 69 F) 69 (tbl (sfF (M 65 (10 + (n : Int))) (M 65 (16 + (n : Int))) (M 65 (34 + (n : Int))) ((M 65 2) % 24)).toNat (bb s (bcF (M 65 (4 + f)) ((M 65 2) % 24))) ((sr M 69 F) 69) 11))) rfl ?_
          refine Hx.add rfl (by (first | omega | (simp only [sr65]; omega))) ?_
          refine Hx.run 1 (pc' := 132) (L' := [some (vr 64), some (vi f), some (vi w), some (vi b), some (vi l), some (vi s), some (vi ((sS (auR M f s) n) + 20)), some (vi (n : Int))]) (st' := []) (M' := (sr (sr M 69 F) 69 (tbl (sfF (M 65 (10 + (n : Int))) (M 65 (16 + (n : Int))) (M 65 (34 + (n : Int))) ((M 65 2) % 24)).toNat (bb s (bcF (M 65 (4 + f)) ((M 65 2) % 24))) ((sr M 69 F) 69) 11))) rfl ?_
          refine Hx.inc rfl rfl (by (first | omega | (simp only [sr65]; omega))) ?_
          refine Hx.run 0 (pc' := 135) (L' := [some (vr 64), some (vi f), some (vi w), some (vi b), some (vi l), some (vi s), some (vi ((sS (auR M f s) n) + 20)), some (vi ((n : Int) + 1))]) (st' := []) (M' := (sr (sr M 69 F) 69 (tbl (sfF (M 65 (10 + (n : Int))) (M 65 (16 + (n : Int))) (M 65 (34 + (n : Int))) ((M 65 2) % 24)).toNat (bb s (bcF (M 65 (4 + f)) ((M 65 2) % 24))) ((sr M 69 F) 69) 11))) rfl ?_
          refine Hx.run 1 (pc' := 47) (L' := [some (vr 64), some (vi f), some (vi w), some (vi b), some (vi l), some (vi s), some (vi ((sS (auR M f s) n) + 20)), some (vi ((n : Int) + 1))]) (st' := []) (M' := (sr (sr M 69 F) 69 (tbl (sfF (M 65 (10 + (n : Int))) (M 65 (16 + (n : Int))) (M 65 (34 + (n : Int))) ((M 65 2) % 24)).toNat (bb s (bcF (M 65 (4 + f)) ((M 65 2) % 24))) ((sr M 69 F) 69) 11))) rfl ?_
          have e : sS (auR M f s) (n + 1) = ((sS (auR M f s) n) + 20) := by
            rw [sS_succ, show auR M f s n = co (TV (sfF (M 65 (10 + (n : Int))) (M 65 (16 + (n : Int))) (M 65 (34 + (n : Int))) ((M 65 2) % 24)) (bb s (bcF (M 65 (4 + f)) ((M 65 2) % 24))) 0) from if_pos (by omega)]
            omega
          have h9 := ih (n + 1) (tbl (sfF (M 65 (10 + (n : Int))) (M 65 (16 + (n : Int))) (M 65 (34 + (n : Int))) ((M 65 2) % 24)).toNat (bb s (bcF (M 65 (4 + f)) ((M 65 2) % 24))) ((sr M 69 F) 69) 11) (by omega) (by omega)
          rw [e] at h9
          rw [sr_sr]
          exact h9
      · skip
        refine Hx.inc rfl rfl (by (first | omega | (simp only [sr65]; omega))) ?_
        refine Hx.run 0 (pc' := 135) (L' := [some (vr 64), some (vi f), some (vi w), some (vi b), some (vi l), some (vi s), some (vi (sS (auR M f s) n)), some (vi ((n : Int) + 1))]) (st' := []) (M' := (sr M 69 F)) rfl ?_
        refine Hx.run 1 (pc' := 47) (L' := [some (vr 64), some (vi f), some (vi w), some (vi b), some (vi l), some (vi s), some (vi (sS (auR M f s) n)), some (vi ((n : Int) + 1))]) (st' := []) (M' := (sr M 69 F)) rfl ?_
        have e : sS (auR M f s) (n + 1) = (sS (auR M f s) n) := by
          rw [sS_succ, show auR M f s n = 0 from if_neg (by omega)]
          omega
        have h9 := ih (n + 1) F (by omega) (by omega)
        rw [e] at h9
        exact h9
    · skip
      refine Hx.run 0 (pc' := 138) (L' := [some (vr 64), some (vi f), some (vi w), some (vi b), some (vi l), some (vi s), some (vi (sS (auR M f s) n)), some (vi (n : Int))]) (st' := []) (M' := (sr M 69 F)) rfl ?_
      exact hk n F (by omega)
set_option maxRecDepth 100000 in
theorem rl_site2 (f w : Int) (M : Mm) (hI : RI M 0) (hf : 0 ≤ f ∧ f < M 65 0) : ∀ (kk : Nat) (n : Nat) (F : Int → Int) (j6 : Option PV) (j7 : Option PV), n ≤ 10 → 10 - (n : Int) < (kk : Int) → Hx 189 34 [some (vr 64), some (vi f), some (vi w), some (vi (am2 (siR M f) n).1), some (vi (am2 (siR M f) n).2), some (vi ((n : Int) + 1)), j6, j7] [] (sr M 69 F) (fun q0 M' => q0 = some (vi (if w = 0 then (am2 (siR M f) 10).1 else (am2 (siR M f) 10).2)) ∧ ∃ F : Int → Int, sr M 69 F = M') := by
  intro kk
  induction kk with
  | zero => intro n F j6 j7 _ hkk; exact absurd hkk (by omega)
  | succ kk ih =>
    intro n F j6 j7 hn hkk
    obtain ⟨r0, r1, r2, r3, r40, r61, r80, r111, rF, rG⟩ := (show (0 ≤ M 65 0 ∧ M 65 0 ≤ 3) ∧ (0 ≤ M 65 1 ∧ M 65 1 ≤ 6) ∧ (0 ≤ M 65 2 ∧ M 65 2 ≤ 9999) ∧ (0 ≤ M 65 3 ∧ M 65 3 ≤ 9000) ∧ (0 ≤ M 65 40 ∧ M 65 40 ≤ 5) ∧ (0 ≤ M 65 61 ∧ M 65 61 ≤ 6) ∧ (0 ≤ M 65 80 ∧ M 65 80 ≤ 6) ∧ (0 ≤ M 65 111 ∧ M 65 111 ≤ 8) ∧ (∀ f : Int, 0 ≤ f → f < M 65 0 → (0 ≤ M 65 (4 + f) ∧ M 65 (4 + f) ≤ 5) ∧ (1 ≤ M 65 (7 + f) ∧ M 65 (7 + f) ≤ 10)) ∧ (∀ i : Int, 0 ≤ i → i < M 65 1 → (0 ≤ M 65 (10 + i) ∧ M 65 (10 + i) ≤ 5) ∧ (1 ≤ M 65 (16 + i) ∧ M 65 (16 + i) ≤ 4) ∧ (0 ≤ M 65 (22 + i) ∧ M 65 (22 + i) < M 65 0) ∧ (0 ≤ M 65 (28 + i) ∧ M 65 (28 + i) ≤ 11) ∧ (0 ≤ M 65 (34 + i) ∧ M 65 (34 + i) ≤ 9)) from hI)
    have am := am2_rng (f := siR M f) (siR_rng (by omega)) n
    refine Hx.run 2 (pc' := 38) (L' := [some (vr 64), some (vi f), some (vi w), some (vi (am2 (siR M f) n).1), some (vi (am2 (siR M f) n).2), some (vi ((n : Int) + 1)), j6, j7]) (st' := [vi 10, vi ((n : Int) + 1)]) (M' := (sr M 69 F)) rfl ?_
    refine Hx.br (c := 10 < ((n : Int) + 1)) (t := 174) (f := 41) rfl (fun h1 => ?_) (fun h1 => ?_)
    · skip
      refine Hx.run 1 (pc' := 175) (L' := [some (vr 64), some (vi f), some (vi w), some (vi (am2 (siR M f) n).1), some (vi (am2 (siR M f) n).2), some (vi ((n : Int) + 1)), j6, j7]) (st' := [vi w]) (M' := (sr M 69 F)) rfl ?_
      refine Hx.br (c := w = 0) (t := 178) (f := 182) rfl (fun h2 => ?_) (fun h2 => ?_)
      · skip
        refine Hx.run 2 (pc' := 184) (L' := [some (vr 64), some (vi f), some (vi w), some (vi (am2 (siR M f) n).1), some (vi (am2 (siR M f) n).2), some (vi ((n : Int) + 1)), j6, j7]) (st' := [vi (am2 (siR M f) n).1]) (M' := (sr M 69 F)) rfl ?_
        refine Hx.ret rfl ?_
        have e : n = 10 := by omega
        subst e
        first | exact ⟨by rw [if_pos (by assumption)], F, rfl⟩ | exact ⟨by rw [if_neg (by assumption)], F, rfl⟩
      · skip
        refine Hx.run 1 (pc' := 184) (L' := [some (vr 64), some (vi f), some (vi w), some (vi (am2 (siR M f) n).1), some (vi (am2 (siR M f) n).2), some (vi ((n : Int) + 1)), j6, j7]) (st' := [vi (am2 (siR M f) n).2]) (M' := (sr M 69 F)) rfl ?_
        refine Hx.ret rfl ?_
        have e : n = 10 := by omega
        subst e
        first | exact ⟨by rw [if_pos (by assumption)], F, rfl⟩ | exact ⟨by rw [if_neg (by assumption)], F, rfl⟩
    · skip
      refine Hx.run 4 (pc' := 47) (L' := [some (vr 64), some (vi f), some (vi w), some (vi (am2 (siR M f) n).1), some (vi (am2 (siR M f) n).2), some (vi ((n : Int) + 1)), some (vi 0), some (vi 0)]) (st' := []) (M' := (sr M 69 F)) rfl ?_
      refine rl_site1 f w (am2 (siR M f) n).1 (am2 (siR M f) n).2 ((n : Int) + 1) M hI hf (by omega) (fun m G hm => ?_) 10 0 F (by omega) (by omega)
      have hsn : siR M f n = sS (auR M f ((n : Int) + 1)) m := by unfold siR; rw [show (M 65 1).toNat = m by omega]
      have sr0 := siR_rng (M := M) (f := f) (by omega) n
      refine Hx.run 2 (pc' := 142) (L' := [some (vr 64), some (vi f), some (vi w), some (vi (am2 (siR M f) n).1), some (vi (am2 (siR M f) n).2), some (vi ((n : Int) + 1)), some (vi (sS (auR M f ((n : Int) + 1)) m)), some (vi (m : Int))]) (st' := [vi (am2 (siR M f) n).2, vi (sS (auR M f ((n : Int) + 1)) m)]) (M' := (sr M 69 G)) rfl ?_
      refine Hx.br (c := (sS (auR M f ((n : Int) + 1)) m) < (am2 (siR M f) n).2) (t := 145) (f := 150) rfl (fun h3 => ?_) (fun h3 => ?_)
      · skip
        refine Hx.run 5 (pc' := 156) (L' := [some (vr 64), some (vi f), some (vi w), some (vi ((n : Int) + 1)), some (vi (am2 (siR M f) n).2), some (vi ((n : Int) + 1)), some (vi (sS (auR M f ((n : Int) + 1)) m)), some (vi (m : Int))]) (st' := [vi (am2 (siR M f) n).2, vi (sS (auR M f ((n : Int) + 1)) m)]) (M' := (sr M 69 G)) rfl ?_
        refine Hx.br (c := (sS (auR M f ((n : Int) + 1)) m) < (am2 (siR M f) n).2) (t := 159) (f := 164) rfl (fun h4 => ?_) (fun h4 => ?_)
        · skip
          refine Hx.run 3 (pc' := 168) (L' := [some (vr 64), some (vi f), some (vi w), some (vi ((n : Int) + 1)), some (vi (sS (auR M f ((n : Int) + 1)) m)), some (vi ((n : Int) + 1)), some (vi (sS (auR M f ((n : Int) + 1)) m)), some (vi (m : Int))]) (st' := []) (M' := (sr M 69 G)) rfl ?_
          refine Hx.inc rfl rfl (by (first | omega | (simp only [sr65]; omega))) ?_
          refine Hx.run 0 (pc' := 171) (L' := [some (vr 64), some (vi f), some (vi w), some (vi ((n : Int) + 1)), some (vi (sS (auR M f ((n : Int) + 1)) m)), some (vi (((n : Int) + 1) + 1)), some (vi (sS (auR M f ((n : Int) + 1)) m)), some (vi (m : Int))]) (st' := []) (M' := (sr M 69 G)) rfl ?_
          refine Hx.run 1 (pc' := 34) (L' := [some (vr 64), some (vi f), some (vi w), some (vi ((n : Int) + 1)), some (vi (sS (auR M f ((n : Int) + 1)) m)), some (vi (((n : Int) + 1) + 1)), some (vi (sS (auR M f ((n : Int) + 1)) m)), some (vi (m : Int))]) (st' := []) (M' := (sr M 69 G)) rfl ?_
          have e1 : (am2 (siR M f) (n + 1)).1 = ((n : Int) + 1) := by rw [am2_succ, hsn]; split <;> first | rfl | omega | (dsimp only; omega)
          have e2 : (am2 (siR M f) (n + 1)).2 = (sS (auR M f ((n : Int) + 1)) m) := by rw [am2_succ, hsn]; split <;> first | rfl | omega | (dsimp only; omega)
          have h9 := ih (n + 1) G (some (vi (sS (auR M f ((n : Int) + 1)) m))) (some (vi (m : Int))) (by omega) (by omega)
          rw [e1, e2] at h9
          exact h9
        · skip
          refine Hx.run 2 (pc' := 168) (L' := [some (vr 64), some (vi f), some (vi w), some (vi ((n : Int) + 1)), some (vi (am2 (siR M f) n).2), some (vi ((n : Int) + 1)), some (vi (sS (auR M f ((n : Int) + 1)) m)), some (vi (m : Int))]) (st' := []) (M' := (sr M 69 G)) rfl ?_
          refine Hx.inc rfl rfl (by (first | omega | (simp only [sr65]; omega))) ?_
          refine Hx.run 0 (pc' := 171) (L' := [some (vr 64), some (vi f), some (vi w), some (vi ((n : Int) + 1)), some (vi (am2 (siR M f) n).2), some (vi (((n : Int) + 1) + 1)), some (vi (sS (auR M f ((n : Int) + 1)) m)), some (vi (m : Int))]) (st' := []) (M' := (sr M 69 G)) rfl ?_
          refine Hx.run 1 (pc' := 34) (L' := [some (vr 64), some (vi f), some (vi w), some (vi ((n : Int) + 1)), some (vi (am2 (siR M f) n).2), some (vi (((n : Int) + 1) + 1)), some (vi (sS (auR M f ((n : Int) + 1)) m)), some (vi (m : Int))]) (st' := []) (M' := (sr M 69 G)) rfl ?_
          have e1 : (am2 (siR M f) (n + 1)).1 = ((n : Int) + 1) := by rw [am2_succ, hsn]; split <;> first | rfl | omega | (dsimp only; omega)
          have e2 : (am2 (siR M f) (n + 1)).2 = (am2 (siR M f) n).2 := by rw [am2_succ, hsn]; split <;> first | rfl | omega | (dsimp only; omega)
          have h9 := ih (n + 1) G (some (vi (sS (auR M f ((n : Int) + 1)) m))) (some (vi (m : Int))) (by omega) (by omega)
          rw [e1, e2] at h9
          exact h9
      · skip
        refine Hx.run 4 (pc' := 156) (L' := [some (vr 64), some (vi f), some (vi w), some (vi (am2 (siR M f) n).1), some (vi (am2 (siR M f) n).2), some (vi ((n : Int) + 1)), some (vi (sS (auR M f ((n : Int) + 1)) m)), some (vi (m : Int))]) (st' := [vi (am2 (siR M f) n).2, vi (sS (auR M f ((n : Int) + 1)) m)]) (M' := (sr M 69 G)) rfl ?_
        refine Hx.br (c := (sS (auR M f ((n : Int) + 1)) m) < (am2 (siR M f) n).2) (t := 159) (f := 164) rfl (fun h5 => ?_) (fun h5 => ?_)
        · skip
          refine Hx.run 3 (pc' := 168) (L' := [some (vr 64), some (vi f), some (vi w), some (vi (am2 (siR M f) n).1), some (vi (sS (auR M f ((n : Int) + 1)) m)), some (vi ((n : Int) + 1)), some (vi (sS (auR M f ((n : Int) + 1)) m)), some (vi (m : Int))]) (st' := []) (M' := (sr M 69 G)) rfl ?_
          refine Hx.inc rfl rfl (by (first | omega | (simp only [sr65]; omega))) ?_
          refine Hx.run 0 (pc' := 171) (L' := [some (vr 64), some (vi f), some (vi w), some (vi (am2 (siR M f) n).1), some (vi (sS (auR M f ((n : Int) + 1)) m)), some (vi (((n : Int) + 1) + 1)), some (vi (sS (auR M f ((n : Int) + 1)) m)), some (vi (m : Int))]) (st' := []) (M' := (sr M 69 G)) rfl ?_
          refine Hx.run 1 (pc' := 34) (L' := [some (vr 64), some (vi f), some (vi w), some (vi (am2 (siR M f) n).1), some (vi (sS (auR M f ((n : Int) + 1)) m)), some (vi (((n : Int) + 1) + 1)), some (vi (sS (auR M f ((n : Int) + 1)) m)), some (vi (m : Int))]) (st' := []) (M' := (sr M 69 G)) rfl ?_
          have e1 : (am2 (siR M f) (n + 1)).1 = (am2 (siR M f) n).1 := by rw [am2_succ, hsn]; split <;> first | rfl | omega | (dsimp only; omega)
          have e2 : (am2 (siR M f) (n + 1)).2 = (sS (auR M f ((n : Int) + 1)) m) := by rw [am2_succ, hsn]; split <;> first | rfl | omega | (dsimp only; omega)
          have h9 := ih (n + 1) G (some (vi (sS (auR M f ((n : Int) + 1)) m))) (some (vi (m : Int))) (by omega) (by omega)
          rw [e1, e2] at h9
          exact h9
        · skip
          refine Hx.run 2 (pc' := 168) (L' := [some (vr 64), some (vi f), some (vi w), some (vi (am2 (siR M f) n).1), some (vi (am2 (siR M f) n).2), some (vi ((n : Int) + 1)), some (vi (sS (auR M f ((n : Int) + 1)) m)), some (vi (m : Int))]) (st' := []) (M' := (sr M 69 G)) rfl ?_
          refine Hx.inc rfl rfl (by (first | omega | (simp only [sr65]; omega))) ?_
          refine Hx.run 0 (pc' := 171) (L' := [some (vr 64), some (vi f), some (vi w), some (vi (am2 (siR M f) n).1), some (vi (am2 (siR M f) n).2), some (vi (((n : Int) + 1) + 1)), some (vi (sS (auR M f ((n : Int) + 1)) m)), some (vi (m : Int))]) (st' := []) (M' := (sr M 69 G)) rfl ?_
          refine Hx.run 1 (pc' := 34) (L' := [some (vr 64), some (vi f), some (vi w), some (vi (am2 (siR M f) n).1), some (vi (am2 (siR M f) n).2), some (vi (((n : Int) + 1) + 1)), some (vi (sS (auR M f ((n : Int) + 1)) m)), some (vi (m : Int))]) (st' := []) (M' := (sr M 69 G)) rfl ?_
          have e1 : (am2 (siR M f) (n + 1)).1 = (am2 (siR M f) n).1 := by rw [am2_succ, hsn]; split <;> first | rfl | omega | (dsimp only; omega)
          have e2 : (am2 (siR M f) (n + 1)).2 = (am2 (siR M f) n).2 := by rw [am2_succ, hsn]; split <;> first | rfl | omega | (dsimp only; omega)
          have h9 := ih (n + 1) G (some (vi (sS (auR M f ((n : Int) + 1)) m))) (some (vi (m : Int))) (by omega) (by omega)
          rw [e1, e2] at h9
          exact h9
set_option maxRecDepth 100000 in
theorem R_site (f w : Int) (M : Mm) (hI : RI M 0) (hs : (0 ≤ M 68 0 ∧ M 68 0 ≤ 600) ∧ (0 ≤ M 68 1 ∧ M 68 1 ≤ 600) ∧ (0 ≤ M 68 2 ∧ M 68 2 ≤ 600)) : Ct 189 [vr 64, vi f, vi w] M (fun q0 M' => ((¬ (0 ≤ f ∧ f < M 65 0) ∨ w < 0 ∨ 1 < w) ∧ q0 = some (vi (-2)) ∧ up M 68 0 (M 68 0 + 1) = M') ∨ (((0 ≤ f ∧ f < M 65 0) ∧ 0 ≤ w ∧ w ≤ 1) ∧ q0 = some (vi (if w = 0 then (am2 (siR M f) 10).1 else (am2 (siR M f) 10).2)) ∧ ∃ F : Int → Int, sr M 69 F = M')) := by
  obtain ⟨r0, r1, r2, r3, r40, r61, r80, r111, rF, rG⟩ := (show (0 ≤ M 65 0 ∧ M 65 0 ≤ 3) ∧ (0 ≤ M 65 1 ∧ M 65 1 ≤ 6) ∧ (0 ≤ M 65 2 ∧ M 65 2 ≤ 9999) ∧ (0 ≤ M 65 3 ∧ M 65 3 ≤ 9000) ∧ (0 ≤ M 65 40 ∧ M 65 40 ≤ 5) ∧ (0 ≤ M 65 61 ∧ M 65 61 ≤ 6) ∧ (0 ≤ M 65 80 ∧ M 65 80 ≤ 6) ∧ (0 ≤ M 65 111 ∧ M 65 111 ≤ 8) ∧ (∀ f : Int, 0 ≤ f → f < M 65 0 → (0 ≤ M 65 (4 + f) ∧ M 65 (4 + f) ≤ 5) ∧ (1 ≤ M 65 (7 + f) ∧ M 65 (7 + f) ≤ 10)) ∧ (∀ i : Int, 0 ≤ i → i < M 65 1 → (0 ≤ M 65 (10 + i) ∧ M 65 (10 + i) ≤ 5) ∧ (1 ≤ M 65 (16 + i) ∧ M 65 (16 + i) ≤ 4) ∧ (0 ≤ M 65 (22 + i) ∧ M 65 (22 + i) < M 65 0) ∧ (0 ≤ M 65 (28 + i) ∧ M 65 (28 + i) ≤ 11) ∧ (0 ≤ M 65 (34 + i) ∧ M 65 (34 + i) ≤ 9)) from hI)
  refine Hx.run 2 (pc' := 2) (L' := [some (vr 64), some (vi f), some (vi w), none, none, none, none, none]) (st' := [vi f, vr 64]) (M' := M) rfl ?_
  refine Hx.call (t := 138) (as := [vr 64, vi f]) (pc' := 5) (rest := []) rfl (r_isFlight f M (by omega)) ?_
  rintro _ _ (⟨q97, rfl, rfl⟩ | ⟨q97, rfl, rfl⟩)
  · skip
    have fq97 := rF f q97.1 q97.2
    refine Hx.run 5 (pc' := 12) (L' := [some (vr 64), some (vi f), some (vi w), none, none, none, none, none]) (st' := [vl 1, vl 0, vl w]) (M' := M) rfl ?_
    refine Hx.call (t := 130) (as := [vl w, vl 0, vl 1]) (pc' := 15) (rest := []) rfl (r_in w 0 1 M) ?_
    rintro _ _ (⟨q98, rfl, rfl⟩ | ⟨q98, rfl, rfl⟩)
    · skip
      refine Hx.run 7 (pc' := 34) (L' := [some (vr 64), some (vi f), some (vi w), some (vi (-1)), some (vi 1000000), some (vi 1), none, none]) (st' := []) (M' := M) rfl ?_
      have h0 := rl_site2 f w M hI (by omega) 30 0 (M 69) none none (by omega) (by omega)
      rw [sr_self, show (am2 (siR M f) 0).2 = 1000000 from rfl, show (am2 (siR M f) 0).1 = -1 from rfl] at h0
      exact Hx.imp h0 (fun r M' h => Or.inr ⟨by omega, h⟩)
    · skip
      refine Hx.run 3 (pc' := 21) (L' := [some (vr 64), some (vi f), some (vi w), none, none, none, none, none]) (st' := [vi (-2), vr 64]) (M' := M) rfl ?_
      refine Hx.call (t := 132) (as := [vr 64, vi (-2)]) (pc' := 24) (rest := []) rfl (r_bad (-2) M (by omega)) ?_
      rintro _ _ ⟨rfl, rfl⟩
      refine Hx.run 0 (pc' := 24) (L' := [some (vr 64), some (vi f), some (vi w), none, none, none, none, none]) (st' := [vi (-2)]) (M' := (up M 68 0 ((M 68 0) + 1))) rfl ?_
      refine Hx.ret rfl ?_
      exact Or.inl ⟨by omega, rfl, rfl⟩
  · skip
    refine Hx.run 3 (pc' := 21) (L' := [some (vr 64), some (vi f), some (vi w), none, none, none, none, none]) (st' := [vi (-2), vr 64]) (M' := M) rfl ?_
    refine Hx.call (t := 132) (as := [vr 64, vi (-2)]) (pc' := 24) (rest := []) rfl (r_bad (-2) M (by omega)) ?_
    rintro _ _ ⟨rfl, rfl⟩
    refine Hx.run 0 (pc' := 24) (L' := [some (vr 64), some (vi f), some (vi w), none, none, none, none, none]) (st' := [vi (-2)]) (M' := (up M 68 0 ((M 68 0) + 1))) rfl ?_
    refine Hx.ret rfl ?_
    exact Or.inl ⟨by omega, rfl, rfl⟩
