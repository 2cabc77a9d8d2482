/-! meets of the reference (written by wip/whole/gen48.py) -/
theorem r_lw_70 (i : Int) (M : Mm) (hg : (0 ≤ i ∧ i < 6) ∧ (0 ≤ M 65 (10 + i) ∧ M 65 (10 + i) ≤ 5) ∧ (1 ≤ M 65 (16 + i) ∧ M 65 (16 + i) ≤ 4) ∧ (0 ≤ M 65 (22 + i) ∧ M 65 (22 + i) ≤ 2) ∧ (0 ≤ M 65 (28 + i) ∧ M 65 (28 + i) ≤ 11) ∧ (0 ≤ M 65 (34 + i) ∧ M 65 (34 + i) ≤ 9)) (hf : (0 ≤ (M 65 (22 + i)) ∧ (M 65 (22 + i)) < 3) ∧ (0 ≤ M 65 (4 + (M 65 (22 + i))) ∧ M 65 (4 + (M 65 (22 + i))) ≤ 5) ∧ (1 ≤ M 65 (7 + (M 65 (22 + i))) ∧ M 65 (7 + (M 65 (22 + i))) ≤ 10)) (hh : (0 ≤ M 65 2 ∧ M 65 2 ≤ 9999)) : Ct 190 [vr 64, vi i, vr 70] M (fun q0 M' => (∃ T A : Int → Int, (TV (sfF (M 65 (10 + i)) (M 65 (16 + i)) (M 65 (34 + i)) ((M 65 2) % 24)) (bb (M 65 (7 + (M 65 (22 + i)))) (bcF (M 65 (4 + (M 65 (22 + i)))) ((M 65 2) % 24))) (M 65 (28 + i))) < 1000000 ∧ WP (sfF (M 65 (10 + i)) (M 65 (16 + i)) (M 65 (34 + i)) ((M 65 2) % 24)) (bb (M 65 (7 + (M 65 (22 + i)))) (bcF (M 65 (4 + (M 65 (22 + i)))) ((M 65 2) % 24))) (M 65 (28 + i)) A 12 ∧ q0 = some (vi 1) ∧ sr (sr M 69 T) 70 A = M') ∨ (∃ T A : Int → Int, 1000000 ≤ (TV (sfF (M 65 (10 + i)) (M 65 (16 + i)) (M 65 (34 + i)) ((M 65 2) % 24)) (bb (M 65 (7 + (M 65 (22 + i)))) (bcF (M 65 (4 + (M 65 (22 + i)))) ((M 65 2) % 24))) (M 65 (28 + i))) ∧ q0 = some (vi 0) ∧ sr (sr M 69 T) 70 A = M')) := by
  refine Ct.imp (r_laysWay_70 i M hg hf hh) ?_
  rintro q0 M' ⟨T, A, hm, ⟨h1, h2⟩ | ⟨h1, h2, h3⟩⟩
  · exact Or.inr ⟨T, A, h1, h2, hm⟩
  · exact Or.inl ⟨T, A, h1, h3, h2, hm⟩
theorem r_lw_71 (i : Int) (M : Mm) (hg : (0 ≤ i ∧ i < 6) ∧ (0 ≤ M 65 (10 + i) ∧ M 65 (10 + i) ≤ 5) ∧ (1 ≤ M 65 (16 + i) ∧ M 65 (16 + i) ≤ 4) ∧ (0 ≤ M 65 (22 + i) ∧ M 65 (22 + i) ≤ 2) ∧ (0 ≤ M 65 (28 + i) ∧ M 65 (28 + i) ≤ 11) ∧ (0 ≤ M 65 (34 + i) ∧ M 65 (34 + i) ≤ 9)) (hf : (0 ≤ (M 65 (22 + i)) ∧ (M 65 (22 + i)) < 3) ∧ (0 ≤ M 65 (4 + (M 65 (22 + i))) ∧ M 65 (4 + (M 65 (22 + i))) ≤ 5) ∧ (1 ≤ M 65 (7 + (M 65 (22 + i))) ∧ M 65 (7 + (M 65 (22 + i))) ≤ 10)) (hh : (0 ≤ M 65 2 ∧ M 65 2 ≤ 9999)) : Ct 190 [vr 64, vi i, vr 71] M (fun q0 M' => (∃ T A : Int → Int, (TV (sfF (M 65 (10 + i)) (M 65 (16 + i)) (M 65 (34 + i)) ((M 65 2) % 24)) (bb (M 65 (7 + (M 65 (22 + i)))) (bcF (M 65 (4 + (M 65 (22 + i)))) ((M 65 2) % 24))) (M 65 (28 + i))) < 1000000 ∧ WP (sfF (M 65 (10 + i)) (M 65 (16 + i)) (M 65 (34 + i)) ((M 65 2) % 24)) (bb (M 65 (7 + (M 65 (22 + i)))) (bcF (M 65 (4 + (M 65 (22 + i)))) ((M 65 2) % 24))) (M 65 (28 + i)) A 12 ∧ q0 = some (vi 1) ∧ sr (sr M 69 T) 71 A = M') ∨ (∃ T A : Int → Int, 1000000 ≤ (TV (sfF (M 65 (10 + i)) (M 65 (16 + i)) (M 65 (34 + i)) ((M 65 2) % 24)) (bb (M 65 (7 + (M 65 (22 + i)))) (bcF (M 65 (4 + (M 65 (22 + i)))) ((M 65 2) % 24))) (M 65 (28 + i))) ∧ q0 = some (vi 0) ∧ sr (sr M 69 T) 71 A = M')) := by
  refine Ct.imp (r_laysWay_71 i M hg hf hh) ?_
  rintro q0 M' ⟨T, A, hm, ⟨h1, h2⟩ | ⟨h1, h2, h3⟩⟩
  · exact Or.inr ⟨T, A, h1, h2, hm⟩
  · exact Or.inl ⟨T, A, h1, h3, h2, hm⟩
set_option maxRecDepth 100000 in
theorem rl_meets (i j : Int) (M : Mm) : ∀ (kk : Nat) (n : Nat), n ≤ 12 → 12 - (n : Int) < (kk : Int) → Hx 191 82 [some (vr 64), some (vi i), some (vi j), some (vi 1), some (vi (n : Int))] [] M (fun q0 M' => q0 = some (vi (mt (fun k => M 70 (k : Int)) (fun k => M 71 (k : Int)) (12 - n) n)) ∧ M = M') := by
  intro kk
  induction kk with
  | zero => intro n _ hkk; exact absurd hkk (by omega)
  | succ kk ih =>
    intro n hn hkk
    refine Hx.run 2 (pc' := 86) (L' := [some (vr 64), some (vi i), some (vi j), some (vi 1), some (vi (n : Int))]) (st' := [vi 11, vi (n : Int)]) (M' := M) rfl ?_
    refine Hx.br (c := 11 < (n : Int)) (t := 119) (f := 89) rfl (fun h1 => ?_) (fun h1 => ?_)
    · skip
      refine Hx.run 1 (pc' := 120) (L' := [some (vr 64), some (vi i), some (vi j), some (vi 1), some (vi (n : Int))]) (st' := [vi (-1)]) (M' := M) rfl ?_
      refine Hx.ret rfl ?_
      first
        | exact ⟨by rw [show 12 - n = (12 - (n + 1)) + 1 by omega, mt_succ, if_pos (by assumption)], rfl⟩
        | exact ⟨by rw [show 12 - n = 0 by omega]; rfl, rfl⟩
    · skip
      refine Hx.run 5 (pc' := 99) (L' := [some (vr 64), some (vi i), some (vi j), some (vi 1), some (vi (n : Int))]) (st' := [vi (n : Int), vr 70]) (M' := M) rfl ?_
      refine Hx.aldI (n := 13) rfl rfl (by omega) ?_
      refine Hx.run 3 (pc' := 106) (L' := [some (vr 64), some (vi i), some (vi j), some (vi 1), some (vi (n : Int))]) (st' := [vi (n : Int), vr 71, vi (M 70 (n : Int))]) (M' := M) rfl ?_
      refine Hx.aldI (n := 13) rfl rfl (by omega) ?_
      refine Hx.br (c := (M 70 (n : Int)) = (M 71 (n : Int))) (t := 110) (f := 113) rfl (fun h2 => ?_) (fun h2 => ?_)
      · skip
        refine Hx.run 1 (pc' := 112) (L' := [some (vr 64), some (vi i), some (vi j), some (vi 1), some (vi (n : Int))]) (st' := [vi (n : Int)]) (M' := M) rfl ?_
        refine Hx.ret rfl ?_
        first
          | exact ⟨by rw [show 12 - n = (12 - (n + 1)) + 1 by omega, mt_succ, if_pos (by assumption)], rfl⟩
          | exact ⟨by rw [show 12 - n = 0 by omega]; rfl, rfl⟩
      · skip
        refine Hx.inc rfl rfl (by omega) ?_
        refine Hx.run 0 (pc' := 116) (L' := [some (vr 64), some (vi i), some (vi j), some (vi 1), some (vi ((n : Int) + 1))]) (st' := []) (M' := M) rfl ?_
        refine Hx.run 1 (pc' := 82) (L' := [some (vr 64), some (vi i), some (vi j), some (vi 1), some (vi ((n : Int) + 1))]) (st' := []) (M' := M) rfl ?_
        have h9 := ih (n + 1) (by omega) (by omega)
        rw [show 12 - n = (12 - (n + 1)) + 1 by omega, mt_succ, if_neg (by assumption)]
        exact h9
set_option maxRecDepth 100000 in
set_option maxHeartbeats 4000000 in
theorem R_meets (i j : Int) (M : Mm) (hI : RI M 0) (hs : (0 ≤ M 68 0 ∧ M 68 0 ≤ 600) ∧ (0 ≤ M 68 1 ∧ M 68 1 ≤ 600) ∧ (0 ≤ M 68 2 ∧ M 68 2 ≤ 600)) : Ct 191 [vr 64, vi i, vi j] M (fun q0 M' => (¬ ((0 ≤ i ∧ i < M 65 1) ∧ (0 ≤ j ∧ j < M 65 1) ∧ ¬ i = j ∧ M 65 (22 + i) = M 65 (22 + j)) ∧ q0 = some (vi (-2)) ∧ up M 68 0 (M 68 0 + 1) = M') ∨ (((0 ≤ i ∧ i < M 65 1) ∧ (0 ≤ j ∧ j < M 65 1) ∧ ¬ i = j ∧ M 65 (22 + i) = M 65 (22 + j)) ∧ (((1000000 ≤ (TV (sfF (M 65 (10 + i)) (M 65 (16 + i)) (M 65 (34 + i)) ((M 65 2) % 24)) (bb (M 65 (7 + (M 65 (22 + i)))) (bcF (M 65 (4 + (M 65 (22 + i)))) ((M 65 2) % 24))) (M 65 (28 + i))) ∨ 1000000 ≤ (TV (sfF (M 65 (10 + j)) (M 65 (16 + j)) (M 65 (34 + j)) ((M 65 2) % 24)) (bb (M 65 (7 + (M 65 (22 + j)))) (bcF (M 65 (4 + (M 65 (22 + j)))) ((M 65 2) % 24))) (M 65 (28 + j)))) ∧ q0 = some (vi (-1))) ∨ ((TV (sfF (M 65 (10 + i)) (M 65 (16 + i)) (M 65 (34 + i)) ((M 65 2) % 24)) (bb (M 65 (7 + (M 65 (22 + i)))) (bcF (M 65 (4 + (M 65 (22 + i)))) ((M 65 2) % 24))) (M 65 (28 + i))) < 1000000 ∧ (TV (sfF (M 65 (10 + j)) (M 65 (16 + j)) (M 65 (34 + j)) ((M 65 2) % 24)) (bb (M 65 (7 + (M 65 (22 + j)))) (bcF (M 65 (4 + (M 65 (22 + j)))) ((M 65 2) % 24))) (M 65 (28 + j))) < 1000000 ∧ ∃ A B : Int → Int, WP (sfF (M 65 (10 + i)) (M 65 (16 + i)) (M 65 (34 + i)) ((M 65 2) % 24)) (bb (M 65 (7 + (M 65 (22 + i)))) (bcF (M 65 (4 + (M 65 (22 + i)))) ((M 65 2) % 24))) (M 65 (28 + i)) A 12 ∧ WP (sfF (M 65 (10 + j)) (M 65 (16 + j)) (M 65 (34 + j)) ((M 65 2) % 24)) (bb (M 65 (7 + (M 65 (22 + j)))) (bcF (M 65 (4 + (M 65 (22 + j)))) ((M 65 2) % 24))) (M 65 (28 + j)) B 12 ∧ q0 = some (vi (mt (fun k => A (k : Int)) (fun k => B (k : Int)) 12 0)))) ∧ ∀ r, r ≠ 69 → r ≠ 70 → r ≠ 71 → M r = M' r)) := by
  obtain ⟨r0, r1, r2, r3, r40, r61, r80, r111, rF, rG⟩ := (show (0 ≤ M 65 0 ∧ M 65 0 ≤ 3) ∧ (0 ≤ M 65 1 ∧ M 65 1 ≤ 6) ∧ (0 ≤ M 65 2 ∧ M 65 2 ≤ 9999) ∧ (0 ≤ M 65 3 ∧ M 65 3 ≤ 9000) ∧ (0 ≤ M 65 40 ∧ M 65 40 ≤ 5) ∧ (0 ≤ M 65 61 ∧ M 65 61 ≤ 6) ∧ (0 ≤ M 65 80 ∧ M 65 80 ≤ 6) ∧ (0 ≤ M 65 111 ∧ M 65 111 ≤ 8) ∧ (∀ f : Int, 0 ≤ f → f < M 65 0 → (0 ≤ M 65 (4 + f) ∧ M 65 (4 + f) ≤ 5) ∧ (1 ≤ M 65 (7 + f) ∧ M 65 (7 + f) ≤ 10)) ∧ (∀ i : Int, 0 ≤ i → i < M 65 1 → (0 ≤ M 65 (10 + i) ∧ M 65 (10 + i) ≤ 5) ∧ (1 ≤ M 65 (16 + i) ∧ M 65 (16 + i) ≤ 4) ∧ (0 ≤ M 65 (22 + i) ∧ M 65 (22 + i) < M 65 0) ∧ (0 ≤ M 65 (28 + i) ∧ M 65 (28 + i) ≤ 11) ∧ (0 ≤ M 65 (34 + i) ∧ M 65 (34 + i) ≤ 9)) from hI)
  refine Hx.run 2 (pc' := 2) (L' := [some (vr 64), some (vi i), some (vi j), none, none]) (st' := [vi i, vr 64]) (M' := M) rfl ?_
  refine Hx.call (t := 137) (as := [vr 64, vi i]) (pc' := 5) (rest := []) rfl (r_isGoer i M (by (first | omega | (simp [sr, up] <;> omega)))) ?_
  rintro _ _ (⟨q104, rfl, rfl⟩ | ⟨q104, rfl, rfl⟩)
  · skip
    have gq104 := rG i q104.1 q104.2
    have fq104 := rF (M 65 (22 + i)) (by omega) (by omega)
    refine Hx.run 3 (pc' := 10) (L' := [some (vr 64), some (vi i), some (vi j), none, none]) (st' := [vi j, vr 64]) (M' := M) rfl ?_
    refine Hx.call (t := 137) (as := [vr 64, vi j]) (pc' := 13) (rest := []) rfl (r_isGoer j M (by (first | omega | (simp [sr, up] <;> omega)))) ?_
    rintro _ _ (⟨q105, rfl, rfl⟩ | ⟨q105, rfl, rfl⟩)
    · skip
      have gq105 := rG j q105.1 q105.2
      have fq105 := rF (M 65 (22 + j)) (by omega) (by omega)
      refine Hx.run 3 (pc' := 18) (L' := [some (vr 64), some (vi i), some (vi j), none, none]) (st' := [vi j, vi i]) (M' := M) rfl ?_
      refine Hx.br (c := i = j) (t := 42) (f := 21) rfl (fun h1 => ?_) (fun h1 => ?_)
      · skip
        refine Hx.run 2 (pc' := 45) (L' := [some (vr 64), some (vi i), some (vi j), none, none]) (st' := [vi (-2), vr 64]) (M' := M) rfl ?_
        refine Hx.call (t := 132) (as := [vr 64, vi (-2)]) (pc' := 48) (rest := []) rfl (r_bad (-2) M (by (first | omega | (simp [sr, up] <;> omega)))) ?_
        rintro _ _ ⟨rfl, rfl⟩
        refine Hx.run 0 (pc' := 48) (L' := [some (vr 64), some (vi i), some (vi j), none, none]) (st' := [vi (-2)]) (M' := (up M 68 0 ((M 68 0) + 1))) rfl ?_
        refine Hx.ret rfl ?_
        first
          | exact Or.inl ⟨by omega, rfl, rfl⟩
          | exact Or.inr ⟨by omega, Or.inl ⟨Or.inl hL70, rfl⟩, fun r h69 h70 h71 => by simp [sr, h69, h70, h71]⟩
          | exact Or.inr ⟨by omega, Or.inl ⟨Or.inr hL71, rfl⟩, fun r h69 h70 h71 => by simp [sr, h69, h70, h71]⟩
      · skip
        refine Hx.run 4 (pc' := 28) (L' := [some (vr 64), some (vi i), some (vi j), none, none]) (st' := [vi i, vi 22, vr 65]) (M' := M) rfl ?_
        refine Hx.add rfl (by (first | omega | (simp [sr, up] <;> omega))) ?_
        refine Hx.aldI (n := 1032) rfl rfl (by (first | omega | (simp [sr, up] <;> omega))) ?_
        refine Hx.run 4 (pc' := 37) (L' := [some (vr 64), some (vi i), some (vi j), none, none]) (st' := [vi j, vi 22, vr 65, vi (M 65 (22 + i))]) (M' := M) rfl ?_
        refine Hx.add rfl (by (first | omega | (simp [sr, up] <;> omega))) ?_
        refine Hx.aldI (n := 1032) rfl rfl (by (first | omega | (simp [sr, up] <;> omega))) ?_
        refine Hx.br (c := (M 65 (22 + i)) = (M 65 (22 + j))) (t := 49) (f := 42) rfl (fun h2 => ?_) (fun h2 => ?_)
        · skip
          refine Hx.run 4 (pc' := 55) (L' := [some (vr 64), some (vi i), some (vi j), none, none]) (st' := [vr 70, vi i, vr 64]) (M' := M) rfl ?_
          refine Hx.call (t := 190) (as := [vr 64, vi i, vr 70]) (pc' := 58) (rest := []) rfl (r_lw_70 i M (by (first | omega | (simp [sr, up] <;> omega))) (by (first | omega | (simp [sr, up] <;> omega))) (by (first | omega | (simp [sr, up] <;> omega)))) ?_
          rintro _ _ (⟨T70, A70, hL70, hW70, rfl, rfl⟩ | ⟨T70, A70, hL70, rfl, rfl⟩)
          · skip
            refine Hx.run 5 (pc' := 67) (L' := [some (vr 64), some (vi i), some (vi j), none, none]) (st' := [vr 71, vi j, vr 64]) (M' := (sr (sr M 69 T70) 70 A70)) rfl ?_
            refine Hx.call (t := 190) (as := [vr 64, vi j, vr 71]) (pc' := 70) (rest := []) rfl (r_lw_71 j (sr (sr M 69 T70) 70 A70) (by (first | omega | (simp [sr, up] <;> omega))) (by (first | omega | (simp [sr, up] <;> omega))) (by (first | omega | (simp [sr, up] <;> omega)))) ?_
            rintro _ _ (⟨T71, A71, hL71, hW71, rfl, rfl⟩ | ⟨T71, A71, hL71, rfl, rfl⟩)
            · skip
              refine Hx.run 6 (pc' := 82) (L' := [some (vr 64), some (vi i), some (vi j), some (vi 1), some (vi 0)]) (st' := []) (M' := (sr (sr (sr (sr M 69 T70) 70 A70) 69 T71) 71 A71)) rfl ?_
              have h0 := rl_meets i j (sr (sr (sr (sr M 69 T70) 70 A70) 69 T71) 71 A71) 20 0 (by omega) (by omega)
              have e1 : ((sr (sr (sr (sr M 69 T70) 70 A70) 69 T71) 71 A71)) 70 = A70 := by simp [sr]
              have e2 : ((sr (sr (sr (sr M 69 T70) 70 A70) 69 T71) 71 A71)) 71 = A71 := by simp [sr]
              rw [e1, e2] at h0
              refine Hx.imp h0 (fun r M' h => Or.inr ⟨by omega, Or.inr ⟨hL70, hL71, A70, A71, hW70, hW71, h.1⟩, ?_⟩)
              intro r h69 h70 h71
              rw [← h.2]; simp [sr, h69, h70, h71]
            · skip
              refine Hx.run 5 (pc' := 82) (L' := [some (vr 64), some (vi i), some (vi j), some (vi 0), some (vi 0)]) (st' := []) (M' := (sr (sr (sr (sr M 69 T70) 70 A70) 69 T71) 71 A71)) rfl ?_
              refine Hx.run 6 (pc' := 120) (L' := [some (vr 64), some (vi i), some (vi j), some (vi 0), some (vi 0)]) (st' := [vi (-1)]) (M' := (sr (sr (sr (sr M 69 T70) 70 A70) 69 T71) 71 A71)) rfl ?_
              refine Hx.ret rfl ?_
              first
                | exact Or.inl ⟨by omega, rfl, rfl⟩
                | exact Or.inr ⟨by omega, Or.inl ⟨Or.inl hL70, rfl⟩, fun r h69 h70 h71 => by simp [sr, h69, h70, h71]⟩
                | exact Or.inr ⟨by omega, Or.inl ⟨Or.inr hL71, rfl⟩, fun r h69 h70 h71 => by simp [sr, h69, h70, h71]⟩
          · skip
            refine Hx.run 5 (pc' := 82) (L' := [some (vr 64), some (vi i), some (vi j), some (vi 0), some (vi 0)]) (st' := []) (M' := (sr (sr M 69 T70) 70 A70)) rfl ?_
            refine Hx.run 6 (pc' := 120) (L' := [some (vr 64), some (vi i), some (vi j), some (vi 0), some (vi 0)]) (st' := [vi (-1)]) (M' := (sr (sr M 69 T70) 70 A70)) rfl ?_
            refine Hx.ret rfl ?_
            first
              | exact Or.inl ⟨by omega, rfl, rfl⟩
              | exact Or.inr ⟨by omega, Or.inl ⟨Or.inl hL70, rfl⟩, fun r h69 h70 h71 => by simp [sr, h69, h70, h71]⟩
              | exact Or.inr ⟨by omega, Or.inl ⟨Or.inr hL71, rfl⟩, fun r h69 h70 h71 => by simp [sr, h69, h70, h71]⟩
        · skip
          refine Hx.run 2 (pc' := 45) (L' := [some (vr 64), some (vi i), some (vi j), none, none]) (st' := [vi (-2), vr 64]) (M' := M) rfl ?_
          refine Hx.call (t := 132) (as := [vr 64, vi (-2)]) (pc' := 48) (rest := []) rfl (r_bad (-2) M (by (first | omega | (simp [sr, up] <;> omega)))) ?_
          rintro _ _ ⟨rfl, rfl⟩
          refine Hx.run 0 (pc' := 48) (L' := [some (vr 64), some (vi i), some (vi j), none, none]) (st' := [vi (-2)]) (M' := (up M 68 0 ((M 68 0) + 1))) rfl ?_
          refine Hx.ret rfl ?_
          first
            | exact Or.inl ⟨by omega, rfl, rfl⟩
            | exact Or.inr ⟨by omega, Or.inl ⟨Or.inl hL70, rfl⟩, fun r h69 h70 h71 => by simp [sr, h69, h70, h71]⟩
            | exact Or.inr ⟨by omega, Or.inl ⟨Or.inr hL71, rfl⟩, fun r h69 h70 h71 => by simp [sr, h69, h70, h71]⟩
    · skip
      refine Hx.run 3 (pc' := 45) (L' := [some (vr 64), some (vi i), some (vi j), none, none]) (st' := [vi (-2), vr 64]) (M' := M) rfl ?_
      refine Hx.call (t := 132) (as := [vr 64, vi (-2)]) (pc' := 48) (rest := []) rfl (r_bad (-2) M (by (first | omega | (simp [sr, up] <;> omega)))) ?_
      rintro _ _ ⟨rfl, rfl⟩
      refine Hx.run 0 (pc' := 48) (L' := [some (vr 64), some (vi i), some (vi j), none, none]) (st' := [vi (-2)]) (M' := (up M 68 0 ((M 68 0) + 1))) rfl ?_
      refine Hx.ret rfl ?_
      first
        | exact Or.inl ⟨by omega, rfl, rfl⟩
        | exact Or.inr ⟨by omega, Or.inl ⟨Or.inl hL70, rfl⟩, fun r h69 h70 h71 => by simp [sr, h69, h70, h71]⟩
        | exact Or.inr ⟨by omega, Or.inl ⟨Or.inr hL71, rfl⟩, fun r h69 h70 h71 => by simp [sr, h69, h70, h71]⟩
  · skip
    refine Hx.run 3 (pc' := 45) (L' := [some (vr 64), some (vi i), some (vi j), none, none]) (st' := [vi (-2), vr 64]) (M' := M) rfl ?_
    refine Hx.call (t := 132) (as := [vr 64, vi (-2)]) (pc' := 48) (rest := []) rfl (r_bad (-2) M (by (first | omega | (simp [sr, up] <;> omega)))) ?_
    rintro _ _ ⟨rfl, rfl⟩
    refine Hx.run 0 (pc' := 48) (L' := [some (vr 64), some (vi i), some (vi j), none, none]) (st' := [vi (-2)]) (M' := (up M 68 0 ((M 68 0) + 1))) rfl ?_
    refine Hx.ret rfl ?_
    first
      | exact Or.inl ⟨by omega, rfl, rfl⟩
      | exact Or.inr ⟨by omega, Or.inl ⟨Or.inl hL70, rfl⟩, fun r h69 h70 h71 => by simp [sr, h69, h70, h71]⟩
      | exact Or.inr ⟨by omega, Or.inl ⟨Or.inr hL71, rfl⟩, fun r h69 h70 h71 => by simp [sr, h69, h70, h71]⟩
