/-! reading: the numbers and items of the reference (written by wip/whole/gen75.py) -/
theorem up4r {M : Mm} {v q v' q' : Int} : up (up (up (up M 64 9 v) 64 7 q) 64 9 v') 64 7 q' = up (up M 64 9 v') 64 7 q' := by
  funext a b
  simp only [up]
  split
  · rfl
  · split
    · rfl
    · rfl
set_option maxRecDepth 100000 in
set_option maxHeartbeats 2000000 in
theorem rl_takesNumber (s lo hi : Int) (M : Mm) (t : Int → Int) (hT : TR M t) (hs0 : M 64 8 = s) (h0 : 0 ≤ s) : ∀ (kk : Nat) (q : Int) (v : Int), s ≤ q ∧ q ≤ M 64 3 → fe t q = fe t s → ((q = s → v = 0) ∧ (q = s + 1 → v = t s - 48) ∧ (s + 2 ≤ q → v = (t s - 48) * 10 + (t (s + 1) - 48)) ∧ (s < q → 48 ≤ t s ∧ t s ≤ 57) ∧ (s + 1 < q → 48 ≤ t (s + 1) ∧ t (s + 1) ≤ 57)) → M 64 3 - q < (kk : Int) → Hx 161 9 [some (vr 64), some (vi lo), some (vi hi)] [] (up (up M 64 9 v) 64 7 q) (fun q0 M' => ∃ v : Int, ((nOk t s lo hi ∧ v = nv t s (fe t s) ∧ q0 = some (vi 1)) ∨ (¬ nOk t s lo hi ∧ q0 = some (vi 0))) ∧ up (up M 64 9 v) 64 7 (fe t s) = M') := by
  intro kk
  induction kk with
  | zero => intro q v _ _ _ hkk; exact absurd hkk (by omega)
  | succ kk ih =>
    intro q v hq hs hd hkk
    have tx := hT.1.1
    have tz : M 64 3 ≤ q → t q = -1 := fun z => hT.1.2.1 q z
    have vrg : 0 ≤ v ∧ v ≤ 99 := by
      rcases (show q = s ∨ q = s + 1 ∨ s + 2 ≤ q by omega) with z | z | z
      · have := hd.1 z; omega
      · have := hd.2.1 z; have := hd.2.2.2.1 (by omega); omega
      · have := hd.2.2.1 z; have := hd.2.2.2.1 (by omega); have := hd.2.2.2.2 (by omega); omega
    refine Hx.run 3 (pc' := 14) (L' := [some (vr 64), some (vi lo), some (vi hi)]) (st' := [vi q, vr 64]) (M' := (up (up M 64 9 v) 64 7 q)) rfl ?_
    refine Hx.call (t := 155) (as := [vr 64, vi q]) (pc' := 17) (rest := []) rfl (r_byteAt q (up (up M 64 9 v) 64 7 q) t (show TR (up (up M 64 9 v) 64 7 q) t from hT) (by omega)) ?_
    rintro _ _ ⟨rfl, rfl⟩
    refine Hx.run 0 (pc' := 17) (L' := [some (vr 64), some (vi lo), some (vi hi)]) (st' := [vi (t q)]) (M' := (up (up M 64 9 v) 64 7 q)) rfl ?_
    refine Hx.run 3 (pc' := 24) (L' := [some (vr 64), some (vi lo), some (vi hi)]) (st' := [vl 57, vl 48, vl (t q)]) (M' := (up (up M 64 9 v) 64 7 q)) rfl ?_
    refine Hx.call (t := 130) (as := [vl (t q), vl 48, vl 57]) (pc' := 27) (rest := []) rfl (r_in (t q) 48 57 (up (up M 64 9 v) 64 7 q)) ?_
    rintro _ _ (⟨q205, rfl, rfl⟩ | ⟨q205, rfl, rfl⟩)
    · skip
      refine Hx.run 6 (pc' := 39) (L' := [some (vr 64), some (vi lo), some (vi hi)]) (st' := [vi (M 64 8), vi q, vr 64]) (M' := (up (up M 64 9 v) 64 7 q)) rfl ?_
      refine Hx.sub rfl (by omega) ?_
      refine Hx.run 1 (pc' := 41) (L' := [some (vr 64), some (vi lo), some (vi hi)]) (st' := [vi 2, vi (q - (M 64 8)), vr 64]) (M' := (up (up M 64 9 v) 64 7 q)) rfl ?_
      refine Hx.br (c := (q - (M 64 8)) < 2) (t := 44) (f := 66) rfl (fun h1 => ?_) (fun h1 => ?_)
      · skip
        refine Hx.run 3 (pc' := 50) (L' := [some (vr 64), some (vi lo), some (vi hi)]) (st' := [vi v, vi 10, vr 64]) (M' := (up (up M 64 9 v) 64 7 q)) rfl ?_
        refine Hx.mul rfl (by omega) ?_
        refine Hx.run 3 (pc' := 56) (L' := [some (vr 64), some (vi lo), some (vi hi)]) (st' := [vi q, vr 64, vi (10 * v), vr 64]) (M' := (up (up M 64 9 v) 64 7 q)) rfl ?_
        refine Hx.call (t := 155) (as := [vr 64, vi q]) (pc' := 59) (rest := [vi (10 * v), vr 64]) rfl (r_byteAt q (up (up M 64 9 v) 64 7 q) t (show TR (up (up M 64 9 v) 64 7 q) t from hT) (by omega)) ?_
        rintro _ _ ⟨rfl, rfl⟩
        refine Hx.run 0 (pc' := 59) (L' := [some (vr 64), some (vi lo), some (vi hi)]) (st' := [vi (t q), vi (10 * v), vr 64]) (M' := (up (up M 64 9 v) 64 7 q)) rfl ?_
        refine Hx.add rfl (by omega) ?_
        refine Hx.run 1 (pc' := 62) (L' := [some (vr 64), some (vi lo), some (vi hi)]) (st' := [vi 48, vi ((10 * v) + (t q)), vr 64]) (M' := (up (up M 64 9 v) 64 7 q)) rfl ?_
        refine Hx.sub rfl (by omega) ?_
        refine Hx.run 6 (pc' := 79) (L' := [some (vr 64), some (vi lo), some (vi hi)]) (st' := [vi 1, vi q, vr 64]) (M' := (up (up (up M 64 9 v) 64 7 q) 64 9 (((10 * v) + (t q)) - 48))) rfl ?_
        refine Hx.add rfl (by omega) ?_
        refine Hx.run 2 (pc' := 9) (L' := [some (vr 64), some (vi lo), some (vi hi)]) (st' := []) (M' := (up (up (up (up M 64 9 v) 64 7 q) 64 9 (((10 * v) + (t q)) - 48)) 64 7 (q + 1))) rfl ?_
        rw [up4r]
        refine ih (q + 1) (((10 * v) + (t q)) - 48) (by omega) (by rw [← fe_go (by omega) (by omega)]; exact hs) ⟨fun z => by omega, fun z => ?_, fun z => ?_, fun z => ?_, fun z => ?_⟩ (by omega)
        · first
          | omega
          | (have e0 : q = s := by omega
             subst e0; omega)
        · by_cases e0 : q = s + 1
          · subst e0; have := hd.2.1 rfl; omega
          · have := hd.2.2.1 (by omega); omega
        · by_cases e0 : q = s
          · subst e0; omega
          · exact hd.2.2.2.1 (by omega)
        · by_cases e0 : q = s + 1
          · subst e0; omega
          · exact hd.2.2.2.2 (by omega)
      · skip
        refine Hx.run 7 (pc' := 79) (L' := [some (vr 64), some (vi lo), some (vi hi)]) (st' := [vi 1, vi q, vr 64]) (M' := (up (up (up M 64 9 v) 64 7 q) 64 9 v)) rfl ?_
        refine Hx.add rfl (by omega) ?_
        refine Hx.run 2 (pc' := 9) (L' := [some (vr 64), some (vi lo), some (vi hi)]) (st' := []) (M' := (up (up (up (up M 64 9 v) 64 7 q) 64 9 v) 64 7 (q + 1))) rfl ?_
        rw [up4r]
        refine ih (q + 1) v (by omega) (by rw [← fe_go (by omega) (by omega)]; exact hs) ⟨fun z => by omega, fun z => ?_, fun z => ?_, fun z => ?_, fun z => ?_⟩ (by omega)
        · first
          | omega
          | (have e0 : q = s := by omega
             subst e0; omega)
        · by_cases e0 : q = s + 1
          · subst e0; have := hd.2.1 rfl; omega
          · have := hd.2.2.1 (by omega); omega
        · by_cases e0 : q = s
          · subst e0; omega
          · exact hd.2.2.2.1 (by omega)
        · by_cases e0 : q = s + 1
          · subst e0; omega
          · exact hd.2.2.2.2 (by omega)
    · skip
      refine Hx.run 5 (pc' := 94) (L' := [some (vr 64), some (vi lo), some (vi hi)]) (st' := [vi (M 64 8), vi q]) (M' := (up (up M 64 9 v) 64 7 q)) rfl ?_
      refine Hx.sub rfl (by omega) ?_
      refine Hx.run 3 (pc' := 100) (L' := [some (vr 64), some (vi lo), some (vi hi)]) (st' := [vl 2, vl 1, vl (q - (M 64 8))]) (M' := (up (up M 64 9 v) 64 7 q)) rfl ?_
      refine Hx.call (t := 130) (as := [vl (q - (M 64 8)), vl 1, vl 2]) (pc' := 103) (rest := []) rfl (r_in (q - (M 64 8)) 1 2 (up (up M 64 9 v) 64 7 q)) ?_
      rintro _ _ (⟨q206, rfl, rfl⟩ | ⟨q206, rfl, rfl⟩)
      · skip
        refine Hx.run 8 (pc' := 115) (L' := [some (vr 64), some (vi lo), some (vi hi)]) (st' := [vl hi, vl lo, vl v]) (M' := (up (up M 64 9 v) 64 7 q)) rfl ?_
        refine Hx.call (t := 130) (as := [vl v, vl lo, vl hi]) (pc' := 118) (rest := []) rfl (r_in v lo hi (up (up M 64 9 v) 64 7 q)) ?_
        rintro _ _ (⟨q207, rfl, rfl⟩ | ⟨q207, rfl, rfl⟩)
        · skip
          refine Hx.run 3 (pc' := 126) (L' := [some (vr 64), some (vi lo), some (vi hi)]) (st' := [vi 1]) (M' := (up (up M 64 9 v) 64 7 q)) rfl ?_
          refine Hx.ret rfl ?_
          rw [fe_stop (by omega)] at hs
          have hnv : (1 ≤ q - s ∧ q - s ≤ 2) → nv t s (fe t s) = v := fun z => by
            unfold nv
            rw [← hs]
            by_cases e1 : q - s = 1
            · rw [if_pos e1]; exact (hd.2.1 (by omega)).symm
            · rw [if_neg e1]; exact (hd.2.2.1 (by omega)).symm
          first
            | exact ⟨v, Or.inl ⟨by unfold nOk; omega, by omega, rfl⟩, by rw [← hs]⟩
            | exact ⟨v, Or.inr ⟨by unfold nOk; omega, rfl⟩, by rw [← hs]⟩
        · skip
          refine Hx.run 2 (pc' := 126) (L' := [some (vr 64), some (vi lo), some (vi hi)]) (st' := [vi 0]) (M' := (up (up M 64 9 v) 64 7 q)) rfl ?_
          refine Hx.ret rfl ?_
          rw [fe_stop (by omega)] at hs
          have hnv : (1 ≤ q - s ∧ q - s ≤ 2) → nv t s (fe t s) = v := fun z => by
            unfold nv
            rw [← hs]
            by_cases e1 : q - s = 1
            · rw [if_pos e1]; exact (hd.2.1 (by omega)).symm
            · rw [if_neg e1]; exact (hd.2.2.1 (by omega)).symm
          first
            | exact ⟨v, Or.inl ⟨by unfold nOk; omega, by omega, rfl⟩, by rw [← hs]⟩
            | exact ⟨v, Or.inr ⟨by unfold nOk; omega, rfl⟩, by rw [← hs]⟩
      · skip
        refine Hx.run 2 (pc' := 126) (L' := [some (vr 64), some (vi lo), some (vi hi)]) (st' := [vi 0]) (M' := (up (up M 64 9 v) 64 7 q)) rfl ?_
        refine Hx.ret rfl ?_
        rw [fe_stop (by omega)] at hs
        have hnv : (1 ≤ q - s ∧ q - s ≤ 2) → nv t s (fe t s) = v := fun z => by
          unfold nv
          rw [← hs]
          by_cases e1 : q - s = 1
          · rw [if_pos e1]; exact (hd.2.1 (by omega)).symm
          · rw [if_neg e1]; exact (hd.2.2.1 (by omega)).symm
        first
          | exact ⟨v, Or.inl ⟨by unfold nOk; omega, by omega, rfl⟩, by rw [← hs]⟩
          | exact ⟨v, Or.inr ⟨by unfold nOk; omega, rfl⟩, by rw [← hs]⟩
set_option maxRecDepth 100000 in
theorem r_takesNumber (lo hi : Int) (M : Mm) (t : Int → Int) (hT : TR M t) (hp : 0 ≤ M 64 7 ∧ M 64 7 ≤ M 64 3) : Ct 161 [vr 64, vi lo, vi hi] M (fun q0 M' => (∃ R : Int → Int, RR M R ∧ R 7 = fe t (sk t (M 64 7)) ∧ R 8 = (sk t (M 64 7)) ∧ R 9 = nv t (sk t (M 64 7)) (fe t (sk t (M 64 7))) ∧ nOk t (sk t (M 64 7)) lo hi ∧ q0 = some (vi 1) ∧ sr M 64 R = M') ∨ (∃ R : Int → Int, RR M R ∧ R 8 = (sk t (M 64 7)) ∧ ¬ nOk t (sk t (M 64 7)) lo hi ∧ q0 = some (vi 0) ∧ sr M 64 R = M')) := by
  refine Hx.run 1 (pc' := 1) (L' := [some (vr 64), some (vi lo), some (vi hi)]) (st' := [vr 64]) (M' := M) rfl ?_
  refine Hx.call (t := 156) (as := [vr 64]) (pc' := 4) (rest := []) rfl (r_blanks M t hT hp) ?_
  rintro _ _ ⟨R0, c0, c7, c8, rfl, rfl⟩
  refine Hx.run 0 (pc' := 4) (L' := [some (vr 64), some (vi lo), some (vi hi)]) (st' := []) (M' := (sr M 64 R0)) rfl ?_
  refine Hx.run 3 (pc' := 9) (L' := [some (vr 64), some (vi lo), some (vi hi)]) (st' := []) (M' := (up (sr M 64 R0) 64 9 0)) rfl ?_
  have h3 : R0 3 = M 64 3 := c0 3 (by decide) (by decide) (by decide)
  have hsr := sk_rng hT.1 hp.2
  have h0 := rl_takesNumber (sk t (M 64 7)) lo hi (sr M 64 R0) t (TR_sr hT c0) c8 (by omega) 200 (sk t (M 64 7)) 0 (by show (sk t (M 64 7)) ≤ (sk t (M 64 7)) ∧ (sk t (M 64 7)) ≤ R0 3; omega) rfl ⟨fun _ => rfl, fun z => by omega, fun z => by omega, fun z => by omega, fun z => by omega⟩ (by show R0 3 - (sk t (M 64 7)) < _; have := hT.1.1; omega)
  rw [show up (up (sr M 64 R0) 64 9 0) 64 7 (sk t (M 64 7)) = up (sr M 64 R0) 64 9 0 from by rw [← show up (sr M 64 R0) 64 9 0 64 7 = (sk t (M 64 7)) from c7]; exact up_self] at h0
  refine Hx.imp h0 ?_
  rintro q0 M' ⟨v, hv, hm⟩
  rw [sr_up, sr_up] at hm
  rcases hv with ⟨a1, a2, a3⟩ | ⟨a1, a3⟩
  · exact Or.inl ⟨_, fun j h7 h8 h9 => by rw [st1_ne h7, st1_ne h9]; exact c0 j h7 h8 h9, st1_at, by rw [st1_ne (by decide), st1_ne (by decide)]; exact c8, by rw [st1_ne (by decide), st1_at]; exact a2, a1, a3, hm⟩
  · exact Or.inr ⟨_, fun j h7 h8 h9 => by rw [st1_ne h7, st1_ne h9]; exact c0 j h7 h8 h9, by rw [st1_ne (by decide), st1_ne (by decide)]; exact c8, a1, a3, hm⟩
