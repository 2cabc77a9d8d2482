/-! the class: what its members answer (written by wip/whole/gen19.py) -/
/-- what always holds of a house -/
def HI (M : Mm) (h : Nat) : Prop := (0 ≤ M h 0 ∧ M h 0 ≤ 3) ∧ (0 ≤ M h 1 ∧ M h 1 ≤ 6) ∧ (0 ≤ M h 2 ∧ M h 2 ≤ 8) ∧ (0 ≤ M (h + 5) 16 ∧ M (h + 5) 16 ≤ 9999) ∧ (0 ≤ M (h + 5) 15 ∧ M (h + 5) 15 ≤ 9000) ∧ (∀ f : Int, 0 ≤ f → f < M h 0 → (0 ≤ M (h + 1) f ∧ M (h + 1) f ≤ 5) ∧ (1 ≤ M (h + 5) (12 + f) ∧ M (h + 5) (12 + f) ≤ 10)) ∧ (∀ i : Int, 0 ≤ i → i < M h 1 → (0 ≤ M (h + 2) i ∧ M (h + 2) i ≤ 5) ∧ (1 ≤ M (h + 3) i ∧ M (h + 3) i ≤ 4) ∧ (0 ≤ M (h + 4) i ∧ M (h + 4) i < M h 0) ∧ (0 ≤ M (h + 5) i ∧ M (h + 5) i ≤ 11) ∧ (0 ≤ M (h + 5) (6 + i) ∧ M (h + 5) (6 + i) ≤ 9)) ∧ (M (h + 7) 0 = 4 ∧ M (h + 7) 1 = 5 ∧ 0 ≤ M (h + 7) 3 ∧ M (h + 7) 3 ≤ 5) ∧ (M (h + 9) 0 = 3 ∧ M (h + 9) 1 = 6 ∧ 0 ≤ M (h + 9) 3 ∧ M (h + 9) 3 ≤ 6) ∧ (M (h + 11) 0 = 5 ∧ M (h + 11) 1 = 6 ∧ 0 ≤ M (h + 11) 3 ∧ M (h + 11) 3 ≤ 6) ∧ (∀ n : Int, 0 ≤ n → n < M (h + 7) 3 → (0 ≤ M (h + 8) (n * 4 + 0) ∧ M (h + 8) (n * 4 + 0) ≤ 2) ∧ (1 ≤ M (h + 8) (n * 4 + 1) ∧ M (h + 8) (n * 4 + 1) ≤ 10) ∧ (0 ≤ M (h + 8) (n * 4 + 2) ∧ M (h + 8) (n * 4 + 2) ≤ 23) ∧ (0 ≤ M (h + 8) (n * 4 + 3) ∧ M (h + 8) (n * 4 + 3) ≤ 1)) ∧ (∀ n : Int, 0 ≤ n → n < M (h + 9) 3 → (0 ≤ M (h + 10) (n * 3 + 0) ∧ M (h + 10) (n * 3 + 0) ≤ 2) ∧ (0 ≤ M (h + 10) (n * 3 + 1) ∧ M (h + 10) (n * 3 + 1) ≤ 23) ∧ (0 ≤ M (h + 10) (n * 3 + 2) ∧ M (h + 10) (n * 3 + 2) ≤ 9)) ∧ (∀ n : Int, 0 ≤ n → n < M (h + 11) 3 → (0 ≤ M (h + 12) (n * 5 + 0) ∧ M (h + 12) (n * 5 + 0) ≤ 5) ∧ (1 ≤ M (h + 12) (n * 5 + 1) ∧ M (h + 12) (n * 5 + 1) ≤ 4) ∧ (0 ≤ M (h + 12) (n * 5 + 2) ∧ M (h + 12) (n * 5 + 2) ≤ 9) ∧ (0 ≤ M (h + 12) (n * 5 + 3) ∧ M (h + 12) (n * 5 + 3) ≤ 23) ∧ (0 ≤ M (h + 12) (n * 5 + 4) ∧ M (h + 12) (n * 5 + 4) ≤ 9)) ∧ (∀ k : Int, 0 ≤ k → k < M h 2 → (0 ≤ M (h + 6) (k * 17 + 16) ∧ M (h + 6) (k * 17 + 16) ≤ 9999) ∧ (0 ≤ M (h + 6) (k * 17 + 15) ∧ M (h + 6) (k * 17 + 15) ≤ 9000) ∧ (∀ f : Int, 0 ≤ f → f < M h 0 → (1 ≤ M (h + 6) (k * 17 + (12 + f)) ∧ M (h + 6) (k * 17 + (12 + f)) ≤ 10)) ∧ (∀ i : Int, 0 ≤ i → i < M h 1 → (0 ≤ M (h + 6) (k * 17 + i) ∧ M (h + 6) (k * 17 + i) ≤ 11) ∧ (0 ≤ M (h + 6) (k * 17 + (6 + i)) ∧ M (h + 6) (k * 17 + (6 + i)) ≤ 9)))
set_option maxRecDepth 100000 in
theorem C_tenement (M : Mm) (hI : HI M 1) (hs : (0 ≤ M 0 14 ∧ M 0 14 ≤ 600) ∧ (0 ≤ M 0 15 ∧ M 0 15 ≤ 600) ∧ (0 ≤ M 0 16 ∧ M 0 16 ≤ 600)) : Ct 58 [vr 0] M (fun q0 M' => (q0 = some (vi (M 1 1)) ∧ (emM M 1) = M')) := by
  obtain ⟨iF, iG, iK, iH, iFa, aF, aG, lS, lN, lM, rS, rN, rM, aK⟩ := (show (0 ≤ M 1 0 ∧ M 1 0 ≤ 3) ∧ (0 ≤ M 1 1 ∧ M 1 1 ≤ 6) ∧ (0 ≤ M 1 2 ∧ M 1 2 ≤ 8) ∧ (0 ≤ M 6 16 ∧ M 6 16 ≤ 9999) ∧ (0 ≤ M 6 15 ∧ M 6 15 ≤ 9000) ∧ (∀ f : Int, 0 ≤ f → f < M 1 0 → (0 ≤ M 2 f ∧ M 2 f ≤ 5) ∧ (1 ≤ M 6 (12 + f) ∧ M 6 (12 + f) ≤ 10)) ∧ (∀ i : Int, 0 ≤ i → i < M 1 1 → (0 ≤ M 3 i ∧ M 3 i ≤ 5) ∧ (1 ≤ M 4 i ∧ M 4 i ≤ 4) ∧ (0 ≤ M 5 i ∧ M 5 i < M 1 0) ∧ (0 ≤ M 6 i ∧ M 6 i ≤ 11) ∧ (0 ≤ M 6 (6 + i) ∧ M 6 (6 + i) ≤ 9)) ∧ (M 8 0 = 4 ∧ M 8 1 = 5 ∧ 0 ≤ M 8 3 ∧ M 8 3 ≤ 5) ∧ (M 10 0 = 3 ∧ M 10 1 = 6 ∧ 0 ≤ M 10 3 ∧ M 10 3 ≤ 6) ∧ (M 12 0 = 5 ∧ M 12 1 = 6 ∧ 0 ≤ M 12 3 ∧ M 12 3 ≤ 6) ∧ (∀ n : Int, 0 ≤ n → n < M 8 3 → (0 ≤ M 9 (n * 4 + 0) ∧ M 9 (n * 4 + 0) ≤ 2) ∧ (1 ≤ M 9 (n * 4 + 1) ∧ M 9 (n * 4 + 1) ≤ 10) ∧ (0 ≤ M 9 (n * 4 + 2) ∧ M 9 (n * 4 + 2) ≤ 23) ∧ (0 ≤ M 9 (n * 4 + 3) ∧ M 9 (n * 4 + 3) ≤ 1)) ∧ (∀ n : Int, 0 ≤ n → n < M 10 3 → (0 ≤ M 11 (n * 3 + 0) ∧ M 11 (n * 3 + 0) ≤ 2) ∧ (0 ≤ M 11 (n * 3 + 1) ∧ M 11 (n * 3 + 1) ≤ 23) ∧ (0 ≤ M 11 (n * 3 + 2) ∧ M 11 (n * 3 + 2) ≤ 9)) ∧ (∀ n : Int, 0 ≤ n → n < M 12 3 → (0 ≤ M 13 (n * 5 + 0) ∧ M 13 (n * 5 + 0) ≤ 5) ∧ (1 ≤ M 13 (n * 5 + 1) ∧ M 13 (n * 5 + 1) ≤ 4) ∧ (0 ≤ M 13 (n * 5 + 2) ∧ M 13 (n * 5 + 2) ≤ 9) ∧ (0 ≤ M 13 (n * 5 + 3) ∧ M 13 (n * 5 + 3) ≤ 23) ∧ (0 ≤ M 13 (n * 5 + 4) ∧ M 13 (n * 5 + 4) ≤ 9)) ∧ (∀ k : Int, 0 ≤ k → k < M 1 2 → (0 ≤ M 7 (k * 17 + 16) ∧ M 7 (k * 17 + 16) ≤ 9999) ∧ (0 ≤ M 7 (k * 17 + 15) ∧ M 7 (k * 17 + 15) ≤ 9000) ∧ (∀ f : Int, 0 ≤ f → f < M 1 0 → (1 ≤ M 7 (k * 17 + (12 + f)) ∧ M 7 (k * 17 + (12 + f)) ≤ 10)) ∧ (∀ i : Int, 0 ≤ i → i < M 1 1 → (0 ≤ M 7 (k * 17 + i) ∧ M 7 (k * 17 + i) ≤ 11) ∧ (0 ≤ M 7 (k * 17 + (6 + i)) ∧ M 7 (k * 17 + (6 + i)) ≤ 9))) from hI)
  refine Hx.run 6 (pc' := 12) (L' := [some (vr 0), some (vi (M 1 1))]) (st' := [vr 1]) (M' := M) rfl ?_
  refine Hx.call (t := 5) (as := [vr 1]) (pc' := 15) (rest := []) rfl (c_empty_1  M) ?_
  rintro _ _ ⟨rfl, rfl⟩
  refine Hx.run 0 (pc' := 15) (L' := [some (vr 0), some (vi (M 1 1))]) (st' := []) (M' := (emM M 1)) rfl ?_
  refine Hx.run 1 (pc' := 16) (L' := [some (vr 0), some (vi (M 1 1))]) (st' := [vi (M 1 1)]) (M' := (emM M 1)) rfl ?_
  refine Hx.ret rfl ?_
  exact ⟨rfl, rfl⟩
set_option maxRecDepth 100000 in
theorem C_flight (kd : Int) (s : Int) (M : Mm) (hI : HI M 1) (hs : (0 ≤ M 0 14 ∧ M 0 14 ≤ 600) ∧ (0 ≤ M 0 15 ∧ M 0 15 ≤ 600) ∧ (0 ≤ M 0 16 ∧ M 0 16 ≤ 600)) : Ct 59 [vr 0, vi kd, vi s] M (fun q0 M' => ((0 ≤ kd ∧ kd < 6) ∧ (1 ≤ s ∧ s ≤ 10) ∧ ((M 1 0) < 3) ∧ q0 = some (vi (M 1 0)) ∧ (up (up (up (up M 2 (M 1 0) kd) 6 (12 + (M 1 0)) s) 1 0 ((M 1 0) + 1)) 1 2 0) = M') ∨ ((0 ≤ kd ∧ kd < 6) ∧ (1 ≤ s ∧ s ≤ 10) ∧ (¬ ((M 1 0) < 3)) ∧ q0 = some (vi (-4)) ∧ (up M 0 16 ((M 0 16) + 1)) = M') ∨ ((0 ≤ kd ∧ kd < 6) ∧ (¬ (1 ≤ s ∧ s ≤ 10)) ∧ q0 = some (vi (-2)) ∧ (up M 0 14 ((M 0 14) + 1)) = M') ∨ ((¬ (0 ≤ kd ∧ kd < 6)) ∧ q0 = some (vi (-2)) ∧ (up M 0 14 ((M 0 14) + 1)) = M')) := by
  obtain ⟨iF, iG, iK, iH, iFa, aF, aG, lS, lN, lM, rS, rN, rM, aK⟩ := (show (0 ≤ M 1 0 ∧ M 1 0 ≤ 3) ∧ (0 ≤ M 1 1 ∧ M 1 1 ≤ 6) ∧ (0 ≤ M 1 2 ∧ M 1 2 ≤ 8) ∧ (0 ≤ M 6 16 ∧ M 6 16 ≤ 9999) ∧ (0 ≤ M 6 15 ∧ M 6 15 ≤ 9000) ∧ (∀ f : Int, 0 ≤ f → f < M 1 0 → (0 ≤ M 2 f ∧ M 2 f ≤ 5) ∧ (1 ≤ M 6 (12 + f) ∧ M 6 (12 + f) ≤ 10)) ∧ (∀ i : Int, 0 ≤ i → i < M 1 1 → (0 ≤ M 3 i ∧ M 3 i ≤ 5) ∧ (1 ≤ M 4 i ∧ M 4 i ≤ 4) ∧ (0 ≤ M 5 i ∧ M 5 i < M 1 0) ∧ (0 ≤ M 6 i ∧ M 6 i ≤ 11) ∧ (0 ≤ M 6 (6 + i) ∧ M 6 (6 + i) ≤ 9)) ∧ (M 8 0 = 4 ∧ M 8 1 = 5 ∧ 0 ≤ M 8 3 ∧ M 8 3 ≤ 5) ∧ (M 10 0 = 3 ∧ M 10 1 = 6 ∧ 0 ≤ M 10 3 ∧ M 10 3 ≤ 6) ∧ (M 12 0 = 5 ∧ M 12 1 = 6 ∧ 0 ≤ M 12 3 ∧ M 12 3 ≤ 6) ∧ (∀ n : Int, 0 ≤ n → n < M 8 3 → (0 ≤ M 9 (n * 4 + 0) ∧ M 9 (n * 4 + 0) ≤ 2) ∧ (1 ≤ M 9 (n * 4 + 1) ∧ M 9 (n * 4 + 1) ≤ 10) ∧ (0 ≤ M 9 (n * 4 + 2) ∧ M 9 (n * 4 + 2) ≤ 23) ∧ (0 ≤ M 9 (n * 4 + 3) ∧ M 9 (n * 4 + 3) ≤ 1)) ∧ (∀ n : Int, 0 ≤ n → n < M 10 3 → (0 ≤ M 11 (n * 3 + 0) ∧ M 11 (n * 3 + 0) ≤ 2) ∧ (0 ≤ M 11 (n * 3 + 1) ∧ M 11 (n * 3 + 1) ≤ 23) ∧ (0 ≤ M 11 (n * 3 + 2) ∧ M 11 (n * 3 + 2) ≤ 9)) ∧ (∀ n : Int, 0 ≤ n → n < M 12 3 → (0 ≤ M 13 (n * 5 + 0) ∧ M 13 (n * 5 + 0) ≤ 5) ∧ (1 ≤ M 13 (n * 5 + 1) ∧ M 13 (n * 5 + 1) ≤ 4) ∧ (0 ≤ M 13 (n * 5 + 2) ∧ M 13 (n * 5 + 2) ≤ 9) ∧ (0 ≤ M 13 (n * 5 + 3) ∧ M 13 (n * 5 + 3) ≤ 23) ∧ (0 ≤ M 13 (n * 5 + 4) ∧ M 13 (n * 5 + 4) ≤ 9)) ∧ (∀ k : Int, 0 ≤ k → k < M 1 2 → (0 ≤ M 7 (k * 17 + 16) ∧ M 7 (k * 17 + 16) ≤ 9999) ∧ (0 ≤ M 7 (k * 17 + 15) ∧ M 7 (k * 17 + 15) ≤ 9000) ∧ (∀ f : Int, 0 ≤ f → f < M 1 0 → (1 ≤ M 7 (k * 17 + (12 + f)) ∧ M 7 (k * 17 + (12 + f)) ≤ 10)) ∧ (∀ i : Int, 0 ≤ i → i < M 1 1 → (0 ≤ M 7 (k * 17 + i) ∧ M 7 (k * 17 + i) ≤ 11) ∧ (0 ≤ M 7 (k * 17 + (6 + i)) ∧ M 7 (k * 17 + (6 + i)) ≤ 9))) from hI)
  refine Hx.run 1 (pc' := 1) (L' := [some (vr 0), some (vi kd), some (vi s)]) (st' := [vi kd]) (M' := M) rfl ?_
  refine Hx.call (t := 117) (as := [vi kd]) (pc' := 4) (rest := []) rfl (c_isKind kd M) ?_
  rintro _ _ (⟨q6, rfl, rfl⟩ | ⟨q6, rfl, rfl⟩)
  · skip
    refine Hx.run 2 (pc' := 8) (L' := [some (vr 0), some (vi kd), some (vi s)]) (st' := [vi s]) (M' := M) rfl ?_
    refine Hx.call (t := 118) (as := [vi s]) (pc' := 11) (rest := []) rfl (c_isOwnable s M) ?_
    rintro _ _ (⟨q7, rfl, rfl⟩ | ⟨q7, rfl, rfl⟩)
    · skip
      refine Hx.run 5 (pc' := 27) (L' := [some (vr 0), some (vi kd), some (vi s)]) (st' := [vi 3, vi (M 1 0)]) (M' := M) rfl ?_
      refine Hx.br (c := (M 1 0) < 3) (t := 35) (f := 30) rfl (fun h1 => ?_) (fun h1 => ?_)
      · skip
        refine Hx.run 4 (pc' := 41) (L' := [some (vr 0), some (vi kd), some (vi s)]) (st' := [vi s, vi kd, vr 1]) (M' := M) rfl ?_
        refine Hx.call (t := 9) (as := [vr 1, vi kd, vi s]) (pc' := 44) (rest := []) rfl (c_addFlight_1 kd s M (by omega)) ?_
        rintro _ _ ⟨rfl, rfl⟩
        refine Hx.run 0 (pc' := 44) (L' := [some (vr 0), some (vi kd), some (vi s)]) (st' := [vi (M 1 0)]) (M' := (up (up (up (up M 2 (M 1 0) kd) 6 (12 + (M 1 0)) s) 1 0 ((M 1 0) + 1)) 1 2 0)) rfl ?_
        refine Hx.ret rfl ?_
        exact Or.inl ⟨q6, q7, h1, rfl, rfl⟩
      · skip
        refine Hx.run 1 (pc' := 31) (L' := [some (vr 0), some (vi kd), some (vi s)]) (st' := [vr 0]) (M' := M) rfl ?_
        refine Hx.call (t := 116) (as := [vr 0]) (pc' := 34) (rest := []) rfl (c_full M (by omega)) ?_
        rintro _ _ ⟨rfl, rfl⟩
        refine Hx.run 0 (pc' := 34) (L' := [some (vr 0), some (vi kd), some (vi s)]) (st' := [vi (-4)]) (M' := (up M 0 16 ((M 0 16) + 1))) rfl ?_
        refine Hx.ret rfl ?_
        exact Or.inr (Or.inl ⟨q6, q7, h1, rfl, rfl⟩)
    · skip
      refine Hx.run 2 (pc' := 15) (L' := [some (vr 0), some (vi kd), some (vi s)]) (st' := [vr 0]) (M' := M) rfl ?_
      refine Hx.call (t := 114) (as := [vr 0]) (pc' := 18) (rest := []) rfl (c_bad M (by omega)) ?_
      rintro _ _ ⟨rfl, rfl⟩
      refine Hx.run 0 (pc' := 18) (L' := [some (vr 0), some (vi kd), some (vi s)]) (st' := [vi (-2)]) (M' := (up M 0 14 ((M 0 14) + 1))) rfl ?_
      refine Hx.ret rfl ?_
      exact Or.inr (Or.inr (Or.inl ⟨q6, q7, rfl, rfl⟩))
  · skip
    refine Hx.run 2 (pc' := 15) (L' := [some (vr 0), some (vi kd), some (vi s)]) (st' := [vr 0]) (M' := M) rfl ?_
    refine Hx.call (t := 114) (as := [vr 0]) (pc' := 18) (rest := []) rfl (c_bad M (by omega)) ?_
    rintro _ _ ⟨rfl, rfl⟩
    refine Hx.run 0 (pc' := 18) (L' := [some (vr 0), some (vi kd), some (vi s)]) (st' := [vi (-2)]) (M' := (up M 0 14 ((M 0 14) + 1))) rfl ?_
    refine Hx.ret rfl ?_
    exact Or.inr (Or.inr (Or.inr (⟨q6, rfl, rfl⟩)))
set_option maxRecDepth 100000 in
theorem C_goer (kd : Int) (lg : Int) (f : Int) (M : Mm) (hI : HI M 1) (hs : (0 ≤ M 0 14 ∧ M 0 14 ≤ 600) ∧ (0 ≤ M 0 15 ∧ M 0 15 ≤ 600) ∧ (0 ≤ M 0 16 ∧ M 0 16 ≤ 600)) : Ct 60 [vr 0, vi kd, vi lg, vi f] M (fun q0 M' => ((0 ≤ kd ∧ kd < 6) ∧ (lg < 1) ∧ q0 = some (vi (-2)) ∧ (up M 0 14 ((M 0 14) + 1)) = M') ∨ ((0 ≤ kd ∧ kd < 6) ∧ (¬ (lg < 1)) ∧ (4 < lg) ∧ q0 = some (vi (-2)) ∧ (up M 0 14 ((M 0 14) + 1)) = M') ∨ ((0 ≤ kd ∧ kd < 6) ∧ (¬ (lg < 1)) ∧ (¬ (4 < lg)) ∧ (0 ≤ f ∧ f < (M 1 0)) ∧ ((M 1 1) < 6) ∧ q0 = some (vi (M 1 1)) ∧ (up (up (up (up (up (up (up M 3 (M 1 1) kd) 4 (M 1 1) lg) 5 (M 1 1) f) 6 (M 1 1) 0) 6 (6 + (M 1 1)) 0) 1 1 ((M 1 1) + 1)) 1 2 0) = M') ∨ ((0 ≤ kd ∧ kd < 6) ∧ (¬ (lg < 1)) ∧ (¬ (4 < lg)) ∧ (0 ≤ f ∧ f < (M 1 0)) ∧ (¬ ((M 1 1) < 6)) ∧ q0 = some (vi (-4)) ∧ (up M 0 16 ((M 0 16) + 1)) = M') ∨ ((0 ≤ kd ∧ kd < 6) ∧ (¬ (lg < 1)) ∧ (¬ (4 < lg)) ∧ (¬ (0 ≤ f ∧ f < (M 1 0))) ∧ q0 = some (vi (-2)) ∧ (up M 0 14 ((M 0 14) + 1)) = M') ∨ ((¬ (0 ≤ kd ∧ kd < 6)) ∧ q0 = some (vi (-2)) ∧ (up M 0 14 ((M 0 14) + 1)) = M')) := by
  obtain ⟨iF, iG, iK, iH, iFa, aF, aG, lS, lN, lM, rS, rN, rM, aK⟩ := (show (0 ≤ M 1 0 ∧ M 1 0 ≤ 3) ∧ (0 ≤ M 1 1 ∧ M 1 1 ≤ 6) ∧ (0 ≤ M 1 2 ∧ M 1 2 ≤ 8) ∧ (0 ≤ M 6 16 ∧ M 6 16 ≤ 9999) ∧ (0 ≤ M 6 15 ∧ M 6 15 ≤ 9000) ∧ (∀ f : Int, 0 ≤ f → f < M 1 0 → (0 ≤ M 2 f ∧ M 2 f ≤ 5) ∧ (1 ≤ M 6 (12 + f) ∧ M 6 (12 + f) ≤ 10)) ∧ (∀ i : Int, 0 ≤ i → i < M 1 1 → (0 ≤ M 3 i ∧ M 3 i ≤ 5) ∧ (1 ≤ M 4 i ∧ M 4 i ≤ 4) ∧ (0 ≤ M 5 i ∧ M 5 i < M 1 0) ∧ (0 ≤ M 6 i ∧ M 6 i ≤ 11) ∧ (0 ≤ M 6 (6 + i) ∧ M 6 (6 + i) ≤ 9)) ∧ (M 8 0 = 4 ∧ M 8 1 = 5 ∧ 0 ≤ M 8 3 ∧ M 8 3 ≤ 5) ∧ (M 10 0 = 3 ∧ M 10 1 = 6 ∧ 0 ≤ M 10 3 ∧ M 10 3 ≤ 6) ∧ (M 12 0 = 5 ∧ M 12 1 = 6 ∧ 0 ≤ M 12 3 ∧ M 12 3 ≤ 6) ∧ (∀ n : Int, 0 ≤ n → n < M 8 3 → (0 ≤ M 9 (n * 4 + 0) ∧ M 9 (n * 4 + 0) ≤ 2) ∧ (1 ≤ M 9 (n * 4 + 1) ∧ M 9 (n * 4 + 1) ≤ 10) ∧ (0 ≤ M 9 (n * 4 + 2) ∧ M 9 (n * 4 + 2) ≤ 23) ∧ (0 ≤ M 9 (n * 4 + 3) ∧ M 9 (n * 4 + 3) ≤ 1)) ∧ (∀ n : Int, 0 ≤ n → n < M 10 3 → (0 ≤ M 11 (n * 3 + 0) ∧ M 11 (n * 3 + 0) ≤ 2) ∧ (0 ≤ M 11 (n * 3 + 1) ∧ M 11 (n * 3 + 1) ≤ 23) ∧ (0 ≤ M 11 (n * 3 + 2) ∧ M 11 (n * 3 + 2) ≤ 9)) ∧ (∀ n : Int, 0 ≤ n → n < M 12 3 → (0 ≤ M 13 (n * 5 + 0) ∧ M 13 (n * 5 + 0) ≤ 5) ∧ (1 ≤ M 13 (n * 5 + 1) ∧ M 13 (n * 5 + 1) ≤ 4) ∧ (0 ≤ M 13 (n * 5 + 2) ∧ M 13 (n * 5 + 2) ≤ 9) ∧ (0 ≤ M 13 (n * 5 + 3) ∧ M 13 (n * 5 + 3) ≤ 23) ∧ (0 ≤ M 13 (n * 5 + 4) ∧ M 13 (n * 5 + 4) ≤ 9)) ∧ (∀ k : Int, 0 ≤ k → k < M 1 2 → (0 ≤ M 7 (k * 17 + 16) ∧ M 7 (k * 17 + 16) ≤ 9999) ∧ (0 ≤ M 7 (k * 17 + 15) ∧ M 7 (k * 17 + 15) ≤ 9000) ∧ (∀ f : Int, 0 ≤ f → f < M 1 0 → (1 ≤ M 7 (k * 17 + (12 + f)) ∧ M 7 (k * 17 + (12 + f)) ≤ 10)) ∧ (∀ i : Int, 0 ≤ i → i < M 1 1 → (0 ≤ M 7 (k * 17 + i) ∧ M 7 (k * 17 + i) ≤ 11) ∧ (0 ≤ M 7 (k * 17 + (6 + i)) ∧ M 7 (k * 17 + (6 + i)) ≤ 9))) from hI)
  refine Hx.run 1 (pc' := 1) (L' := [some (vr 0), some (vi kd), some (vi lg), some (vi f)]) (st' := [vi kd]) (M' := M) rfl ?_
  refine Hx.call (t := 117) (as := [vi kd]) (pc' := 4) (rest := []) rfl (c_isKind kd M) ?_
  rintro _ _ (⟨q8, rfl, rfl⟩ | ⟨q8, rfl, rfl⟩)
  · skip
    refine Hx.run 3 (pc' := 9) (L' := [some (vr 0), some (vi kd), some (vi lg), some (vi f)]) (st' := [vi 1, vi lg]) (M' := M) rfl ?_
    refine Hx.br (c := lg < 1) (t := 28) (f := 12) rfl (fun h1 => ?_) (fun h1 => ?_)
    · skip
      refine Hx.run 1 (pc' := 29) (L' := [some (vr 0), some (vi kd), some (vi lg), some (vi f)]) (st' := [vr 0]) (M' := M) rfl ?_
      refine Hx.call (t := 114) (as := [vr 0]) (pc' := 32) (rest := []) rfl (c_bad M (by omega)) ?_
      rintro _ _ ⟨rfl, rfl⟩
      refine Hx.run 0 (pc' := 32) (L' := [some (vr 0), some (vi kd), some (vi lg), some (vi f)]) (st' := [vi (-2)]) (M' := (up M 0 14 ((M 0 14) + 1))) rfl ?_
      refine Hx.ret rfl ?_
      exact Or.inl ⟨q8, h1, rfl, rfl⟩
    · skip
      refine Hx.run 2 (pc' := 14) (L' := [some (vr 0), some (vi kd), some (vi lg), some (vi f)]) (st' := [vi 4, vi lg]) (M' := M) rfl ?_
      refine Hx.br (c := 4 < lg) (t := 28) (f := 17) rfl (fun h2 => ?_) (fun h2 => ?_)
      · skip
        refine Hx.run 1 (pc' := 29) (L' := [some (vr 0), some (vi kd), some (vi lg), some (vi f)]) (st' := [vr 0]) (M' := M) rfl ?_
        refine Hx.call (t := 114) (as := [vr 0]) (pc' := 32) (rest := []) rfl (c_bad M (by omega)) ?_
        rintro _ _ ⟨rfl, rfl⟩
        refine Hx.run 0 (pc' := 32) (L' := [some (vr 0), some (vi kd), some (vi lg), some (vi f)]) (st' := [vi (-2)]) (M' := (up M 0 14 ((M 0 14) + 1))) rfl ?_
        refine Hx.ret rfl ?_
        exact Or.inr (Or.inl ⟨q8, h1, h2, rfl, rfl⟩)
      · skip
        refine Hx.run 3 (pc' := 22) (L' := [some (vr 0), some (vi kd), some (vi lg), some (vi f)]) (st' := [vi f, vr 1]) (M' := M) rfl ?_
        refine Hx.call (t := 7) (as := [vr 1, vi f]) (pc' := 25) (rest := []) rfl (c_hasFlight_1 f M) ?_
        rintro _ _ (⟨q9, rfl, rfl⟩ | ⟨q9, rfl, rfl⟩)
        · skip
          have fq9 := aF f q9.1 q9.2
          refine Hx.run 5 (pc' := 42) (L' := [some (vr 0), some (vi kd), some (vi lg), some (vi f)]) (st' := [vi 6, vi (M 1 1)]) (M' := M) rfl ?_
          refine Hx.br (c := (M 1 1) < 6) (t := 50) (f := 45) rfl (fun h3 => ?_) (fun h3 => ?_)
          · skip
            refine Hx.run 5 (pc' := 57) (L' := [some (vr 0), some (vi kd), some (vi lg), some (vi f)]) (st' := [vi f, vi lg, vi kd, vr 1]) (M' := M) rfl ?_
            refine Hx.call (t := 10) (as := [vr 1, vi kd, vi lg, vi f]) (pc' := 60) (rest := []) rfl (c_addGoer_1 kd lg f M (by omega)) ?_
            rintro _ _ ⟨rfl, rfl⟩
            refine Hx.run 0 (pc' := 60) (L' := [some (vr 0), some (vi kd), some (vi lg), some (vi f)]) (st' := [vi (M 1 1)]) (M' := (up (up (up (up (up (up (up M 3 (M 1 1) kd) 4 (M 1 1) lg) 5 (M 1 1) f) 6 (M 1 1) 0) 6 (6 + (M 1 1)) 0) 1 1 ((M 1 1) + 1)) 1 2 0)) rfl ?_
            refine Hx.ret rfl ?_
            exact Or.inr (Or.inr (Or.inl ⟨q8, h1, h2, q9, h3, rfl, rfl⟩))
          · skip
            refine Hx.run 1 (pc' := 46) (L' := [some (vr 0), some (vi kd), some (vi lg), some (vi f)]) (st' := [vr 0]) (M' := M) rfl ?_
            refine Hx.call (t := 116) (as := [vr 0]) (pc' := 49) (rest := []) rfl (c_full M (by omega)) ?_
            rintro _ _ ⟨rfl, rfl⟩
            refine Hx.run 0 (pc' := 49) (L' := [some (vr 0), some (vi kd), some (vi lg), some (vi f)]) (st' := [vi (-4)]) (M' := (up M 0 16 ((M 0 16) + 1))) rfl ?_
            refine Hx.ret rfl ?_
            exact Or.inr (Or.inr (Or.inr (Or.inl ⟨q8, h1, h2, q9, h3, rfl, rfl⟩)))
        · skip
          refine Hx.run 2 (pc' := 29) (L' := [some (vr 0), some (vi kd), some (vi lg), some (vi f)]) (st' := [vr 0]) (M' := M) rfl ?_
          refine Hx.call (t := 114) (as := [vr 0]) (pc' := 32) (rest := []) rfl (c_bad M (by omega)) ?_
          rintro _ _ ⟨rfl, rfl⟩
          refine Hx.run 0 (pc' := 32) (L' := [some (vr 0), some (vi kd), some (vi lg), some (vi f)]) (st' := [vi (-2)]) (M' := (up M 0 14 ((M 0 14) + 1))) rfl ?_
          refine Hx.ret rfl ?_
          exact Or.inr (Or.inr (Or.inr (Or.inr (Or.inl ⟨q8, h1, h2, q9, rfl, rfl⟩))))
  · skip
    refine Hx.run 2 (pc' := 29) (L' := [some (vr 0), some (vi kd), some (vi lg), some (vi f)]) (st' := [vr 0]) (M' := M) rfl ?_
    refine Hx.call (t := 114) (as := [vr 0]) (pc' := 32) (rest := []) rfl (c_bad M (by omega)) ?_
    rintro _ _ ⟨rfl, rfl⟩
    refine Hx.run 0 (pc' := 32) (L' := [some (vr 0), some (vi kd), some (vi lg), some (vi f)]) (st' := [vi (-2)]) (M' := (up M 0 14 ((M 0 14) + 1))) rfl ?_
    refine Hx.ret rfl ?_
    exact Or.inr (Or.inr (Or.inr (Or.inr (Or.inr (⟨q8, rfl, rfl⟩)))))
set_option maxRecDepth 100000 in
theorem C_seen (f : Int) (s : Int) (t : Int) (b : Int) (M : Mm) (hI : HI M 1) (hs : (0 ≤ M 0 14 ∧ M 0 14 ≤ 600) ∧ (0 ≤ M 0 15 ∧ M 0 15 ≤ 600) ∧ (0 ≤ M 0 16 ∧ M 0 16 ≤ 600)) : Ct 78 [vr 0, vi f, vi s, vi t, vi b] M (fun q0 M' => ((0 ≤ f ∧ f < (M 1 0)) ∧ (1 ≤ s ∧ s ≤ 10) ∧ (0 ≤ t ∧ t < 24) ∧ (b < 0) ∧ q0 = some (vi (-2)) ∧ (up M 0 14 ((M 0 14) + 1)) = M') ∨ ((0 ≤ f ∧ f < (M 1 0)) ∧ (1 ≤ s ∧ s ≤ 10) ∧ (0 ≤ t ∧ t < 24) ∧ (¬ (b < 0)) ∧ (1 < b) ∧ q0 = some (vi (-2)) ∧ (up M 0 14 ((M 0 14) + 1)) = M') ∨ ((0 ≤ f ∧ f < (M 1 0)) ∧ (1 ≤ s ∧ s ≤ 10) ∧ (0 ≤ t ∧ t < 24) ∧ (¬ (b < 0)) ∧ (¬ (1 < b)) ∧ (((M 8 3) = 5)) ∧ q0 = some (vi (-4)) ∧ (up M 0 16 ((M 0 16) + 1)) = M') ∨ ((0 ≤ f ∧ f < (M 1 0)) ∧ (1 ≤ s ∧ s ≤ 10) ∧ (0 ≤ t ∧ t < 24) ∧ (¬ (b < 0)) ∧ (¬ (1 < b)) ∧ (¬ ((M 8 3) = 5)) ∧ q0 = some (vi ((M 8 3) + 1)) ∧ (up (up (up (up (up M 8 3 ((M 8 3) + 1)) 9 ((M 8 3) * 4 + 0) f) 9 ((M 8 3) * 4 + 1) s) 9 ((M 8 3) * 4 + 2) t) 9 ((M 8 3) * 4 + 3) b) = M') ∨ ((0 ≤ f ∧ f < (M 1 0)) ∧ (1 ≤ s ∧ s ≤ 10) ∧ (¬ (0 ≤ t ∧ t < 24)) ∧ q0 = some (vi (-2)) ∧ (up M 0 14 ((M 0 14) + 1)) = M') ∨ ((0 ≤ f ∧ f < (M 1 0)) ∧ (¬ (1 ≤ s ∧ s ≤ 10)) ∧ q0 = some (vi (-2)) ∧ (up M 0 14 ((M 0 14) + 1)) = M') ∨ ((¬ (0 ≤ f ∧ f < (M 1 0))) ∧ q0 = some (vi (-2)) ∧ (up M 0 14 ((M 0 14) + 1)) = M')) := by
  obtain ⟨iF, iG, iK, iH, iFa, aF, aG, lS, lN, lM, rS, rN, rM, aK⟩ := (show (0 ≤ M 1 0 ∧ M 1 0 ≤ 3) ∧ (0 ≤ M 1 1 ∧ M 1 1 ≤ 6) ∧ (0 ≤ M 1 2 ∧ M 1 2 ≤ 8) ∧ (0 ≤ M 6 16 ∧ M 6 16 ≤ 9999) ∧ (0 ≤ M 6 15 ∧ M 6 15 ≤ 9000) ∧ (∀ f : Int, 0 ≤ f → f < M 1 0 → (0 ≤ M 2 f ∧ M 2 f ≤ 5) ∧ (1 ≤ M 6 (12 + f) ∧ M 6 (12 + f) ≤ 10)) ∧ (∀ i : Int, 0 ≤ i → i < M 1 1 → (0 ≤ M 3 i ∧ M 3 i ≤ 5) ∧ (1 ≤ M 4 i ∧ M 4 i ≤ 4) ∧ (0 ≤ M 5 i ∧ M 5 i < M 1 0) ∧ (0 ≤ M 6 i ∧ M 6 i ≤ 11) ∧ (0 ≤ M 6 (6 + i) ∧ M 6 (6 + i) ≤ 9)) ∧ (M 8 0 = 4 ∧ M 8 1 = 5 ∧ 0 ≤ M 8 3 ∧ M 8 3 ≤ 5) ∧ (M 10 0 = 3 ∧ M 10 1 = 6 ∧ 0 ≤ M 10 3 ∧ M 10 3 ≤ 6) ∧ (M 12 0 = 5 ∧ M 12 1 = 6 ∧ 0 ≤ M 12 3 ∧ M 12 3 ≤ 6) ∧ (∀ n : Int, 0 ≤ n → n < M 8 3 → (0 ≤ M 9 (n * 4 + 0) ∧ M 9 (n * 4 + 0) ≤ 2) ∧ (1 ≤ M 9 (n * 4 + 1) ∧ M 9 (n * 4 + 1) ≤ 10) ∧ (0 ≤ M 9 (n * 4 + 2) ∧ M 9 (n * 4 + 2) ≤ 23) ∧ (0 ≤ M 9 (n * 4 + 3) ∧ M 9 (n * 4 + 3) ≤ 1)) ∧ (∀ n : Int, 0 ≤ n → n < M 10 3 → (0 ≤ M 11 (n * 3 + 0) ∧ M 11 (n * 3 + 0) ≤ 2) ∧ (0 ≤ M 11 (n * 3 + 1) ∧ M 11 (n * 3 + 1) ≤ 23) ∧ (0 ≤ M 11 (n * 3 + 2) ∧ M 11 (n * 3 + 2) ≤ 9)) ∧ (∀ n : Int, 0 ≤ n → n < M 12 3 → (0 ≤ M 13 (n * 5 + 0) ∧ M 13 (n * 5 + 0) ≤ 5) ∧ (1 ≤ M 13 (n * 5 + 1) ∧ M 13 (n * 5 + 1) ≤ 4) ∧ (0 ≤ M 13 (n * 5 + 2) ∧ M 13 (n * 5 + 2) ≤ 9) ∧ (0 ≤ M 13 (n * 5 + 3) ∧ M 13 (n * 5 + 3) ≤ 23) ∧ (0 ≤ M 13 (n * 5 + 4) ∧ M 13 (n * 5 + 4) ≤ 9)) ∧ (∀ k : Int, 0 ≤ k → k < M 1 2 → (0 ≤ M 7 (k * 17 + 16) ∧ M 7 (k * 17 + 16) ≤ 9999) ∧ (0 ≤ M 7 (k * 17 + 15) ∧ M 7 (k * 17 + 15) ≤ 9000) ∧ (∀ f : Int, 0 ≤ f → f < M 1 0 → (1 ≤ M 7 (k * 17 + (12 + f)) ∧ M 7 (k * 17 + (12 + f)) ≤ 10)) ∧ (∀ i : Int, 0 ≤ i → i < M 1 1 → (0 ≤ M 7 (k * 17 + i) ∧ M 7 (k * 17 + i) ≤ 11) ∧ (0 ≤ M 7 (k * 17 + (6 + i)) ∧ M 7 (k * 17 + (6 + i)) ≤ 9))) from hI)
  refine Hx.run 3 (pc' := 5) (L' := [some (vr 0), some (vi f), some (vi s), some (vi t), some (vi b)]) (st' := [vi f, vr 1]) (M' := M) rfl ?_
  refine Hx.call (t := 7) (as := [vr 1, vi f]) (pc' := 8) (rest := []) rfl (c_hasFlight_1 f M) ?_
  rintro _ _ (⟨q10, rfl, rfl⟩ | ⟨q10, rfl, rfl⟩)
  · skip
    have fq10 := aF f q10.1 q10.2
    refine Hx.run 2 (pc' := 12) (L' := [some (vr 0), some (vi f), some (vi s), some (vi t), some (vi b)]) (st' := [vi s]) (M' := M) rfl ?_
    refine Hx.call (t := 118) (as := [vi s]) (pc' := 15) (rest := []) rfl (c_isOwnable s M) ?_
    rintro _ _ (⟨q11, rfl, rfl⟩ | ⟨q11, rfl, rfl⟩)
    · skip
      refine Hx.run 2 (pc' := 19) (L' := [some (vr 0), some (vi f), some (vi s), some (vi t), some (vi b)]) (st' := [vi t]) (M' := M) rfl ?_
      refine Hx.call (t := 120) (as := [vi t]) (pc' := 22) (rest := []) rfl (c_isHour t M) ?_
      rintro _ _ (⟨q12, rfl, rfl⟩ | ⟨q12, rfl, rfl⟩)
      · skip
        refine Hx.run 2 (pc' := 27) (L' := [some (vr 0), some (vi f), some (vi s), some (vi t), some (vi b)]) (st' := [vi b]) (M' := M) rfl ?_
        refine Hx.br (c := b < 0) (t := 36) (f := 30) rfl (fun h1 => ?_) (fun h1 => ?_)
        · skip
          refine Hx.run 1 (pc' := 37) (L' := [some (vr 0), some (vi f), some (vi s), some (vi t), some (vi b)]) (st' := [vr 0]) (M' := M) rfl ?_
          refine Hx.call (t := 114) (as := [vr 0]) (pc' := 40) (rest := []) rfl (c_bad M (by omega)) ?_
          rintro _ _ ⟨rfl, rfl⟩
          refine Hx.run 0 (pc' := 40) (L' := [some (vr 0), some (vi f), some (vi s), some (vi t), some (vi b)]) (st' := [vi (-2)]) (M' := (up M 0 14 ((M 0 14) + 1))) rfl ?_
          refine Hx.ret rfl ?_
          exact Or.inl ⟨q10, q11, q12, h1, rfl, rfl⟩
        · skip
          refine Hx.run 2 (pc' := 33) (L' := [some (vr 0), some (vi f), some (vi s), some (vi t), some (vi b)]) (st' := [vi 1, vi b]) (M' := M) rfl ?_
          refine Hx.br (c := 1 < b) (t := 36) (f := 41) rfl (fun h2 => ?_) (fun h2 => ?_)
          · skip
            refine Hx.run 1 (pc' := 37) (L' := [some (vr 0), some (vi f), some (vi s), some (vi t), some (vi b)]) (st' := [vr 0]) (M' := M) rfl ?_
            refine Hx.call (t := 114) (as := [vr 0]) (pc' := 40) (rest := []) rfl (c_bad M (by omega)) ?_
            rintro _ _ ⟨rfl, rfl⟩
            refine Hx.run 0 (pc' := 40) (L' := [some (vr 0), some (vi f), some (vi s), some (vi t), some (vi b)]) (st' := [vi (-2)]) (M' := (up M 0 14 ((M 0 14) + 1))) rfl ?_
            refine Hx.ret rfl ?_
            exact Or.inr (Or.inl ⟨q10, q11, q12, h1, h2, rfl, rfl⟩)
          · skip
            refine Hx.run 3 (pc' := 48) (L' := [some (vr 0), some (vi f), some (vi s), some (vi t), some (vi b)]) (st' := [vr 8]) (M' := M) rfl ?_
            refine Hx.call (t := 34) (as := [vr 8]) (pc' := 51) (rest := []) rfl (c_isFull_8 M (by omega)) ?_
            rintro _ _ (⟨q13, rfl, rfl⟩ | ⟨q13, rfl, rfl⟩)
            · skip
              refine Hx.run 2 (pc' := 55) (L' := [some (vr 0), some (vi f), some (vi s), some (vi t), some (vi b)]) (st' := [vr 0]) (M' := M) rfl ?_
              refine Hx.call (t := 116) (as := [vr 0]) (pc' := 58) (rest := []) rfl (c_full M (by omega)) ?_
              rintro _ _ ⟨rfl, rfl⟩
              refine Hx.run 0 (pc' := 58) (L' := [some (vr 0), some (vi f), some (vi s), some (vi t), some (vi b)]) (st' := [vi (-4)]) (M' := (up M 0 16 ((M 0 16) + 1))) rfl ?_
              refine Hx.ret rfl ?_
              exact Or.inr (Or.inr (Or.inl ⟨q10, q11, q12, h1, h2, q13, rfl, rfl⟩))
            · skip
              refine Hx.run 9 (pc' := 72) (L' := [some (vr 0), some (vi f), some (vi s), some (vi t), some (vi b)]) (st' := [vi 0, vi b, vi t, vi s, vi f, vr 8]) (M' := M) rfl ?_
              refine Hx.call (t := 36) (as := [vr 8, vi f, vi s, vi t, vi b, vi 0]) (pc' := 75) (rest := []) rfl (c_add_8 f s t b 0 M (by omega) (by omega)) ?_
              rintro _ _ ⟨rfl, rfl⟩
              refine Hx.run 0 (pc' := 75) (L' := [some (vr 0), some (vi f), some (vi s), some (vi t), some (vi b)]) (st' := [vi ((M 8 3) + 1)]) (M' := (up (up (up (up (up M 8 3 ((M 8 3) + 1)) 9 ((M 8 3) * 4 + 0) f) 9 ((M 8 3) * 4 + 1) s) 9 ((M 8 3) * 4 + 2) t) 9 ((M 8 3) * 4 + 3) b)) rfl ?_
              refine Hx.ret rfl ?_
              exact Or.inr (Or.inr (Or.inr (Or.inl ⟨q10, q11, q12, h1, h2, q13, rfl, rfl⟩)))
      · skip
        refine Hx.run 2 (pc' := 37) (L' := [some (vr 0), some (vi f), some (vi s), some (vi t), some (vi b)]) (st' := [vr 0]) (M' := M) rfl ?_
        refine Hx.call (t := 114) (as := [vr 0]) (pc' := 40) (rest := []) rfl (c_bad M (by omega)) ?_
        rintro _ _ ⟨rfl, rfl⟩
        refine Hx.run 0 (pc' := 40) (L' := [some (vr 0), some (vi f), some (vi s), some (vi t), some (vi b)]) (st' := [vi (-2)]) (M' := (up M 0 14 ((M 0 14) + 1))) rfl ?_
        refine Hx.ret rfl ?_
        exact Or.inr (Or.inr (Or.inr (Or.inr (Or.inl ⟨q10, q11, q12, rfl, rfl⟩))))
    · skip
      refine Hx.run 2 (pc' := 37) (L' := [some (vr 0), some (vi f), some (vi s), some (vi t), some (vi b)]) (st' := [vr 0]) (M' := M) rfl ?_
      refine Hx.call (t := 114) (as := [vr 0]) (pc' := 40) (rest := []) rfl (c_bad M (by omega)) ?_
      rintro _ _ ⟨rfl, rfl⟩
      refine Hx.run 0 (pc' := 40) (L' := [some (vr 0), some (vi f), some (vi s), some (vi t), some (vi b)]) (st' := [vi (-2)]) (M' := (up M 0 14 ((M 0 14) + 1))) rfl ?_
      refine Hx.ret rfl ?_
      exact Or.inr (Or.inr (Or.inr (Or.inr (Or.inr (Or.inl ⟨q10, q11, rfl, rfl⟩)))))
  · skip
    refine Hx.run 2 (pc' := 37) (L' := [some (vr 0), some (vi f), some (vi s), some (vi t), some (vi b)]) (st' := [vr 0]) (M' := M) rfl ?_
    refine Hx.call (t := 114) (as := [vr 0]) (pc' := 40) (rest := []) rfl (c_bad M (by omega)) ?_
    rintro _ _ ⟨rfl, rfl⟩
    refine Hx.run 0 (pc' := 40) (L' := [some (vr 0), some (vi f), some (vi s), some (vi t), some (vi b)]) (st' := [vi (-2)]) (M' := (up M 0 14 ((M 0 14) + 1))) rfl ?_
    refine Hx.ret rfl ?_
    exact Or.inr (Or.inr (Or.inr (Or.inr (Or.inr (Or.inr (⟨q10, rfl, rfl⟩))))))
set_option maxRecDepth 100000 in
theorem C_note (f : Int) (t : Int) (x : Int) (M : Mm) (hI : HI M 1) (hs : (0 ≤ M 0 14 ∧ M 0 14 ≤ 600) ∧ (0 ≤ M 0 15 ∧ M 0 15 ≤ 600) ∧ (0 ≤ M 0 16 ∧ M 0 16 ≤ 600)) : Ct 82 [vr 0, vi f, vi t, vi x] M (fun q0 M' => ((0 ≤ f ∧ f < (M 1 0)) ∧ (0 ≤ t ∧ t < 24) ∧ (x < 0) ∧ q0 = some (vi (-2)) ∧ (up M 0 14 ((M 0 14) + 1)) = M') ∨ ((0 ≤ f ∧ f < (M 1 0)) ∧ (0 ≤ t ∧ t < 24) ∧ (¬ (x < 0)) ∧ (9 < x) ∧ q0 = some (vi (-2)) ∧ (up M 0 14 ((M 0 14) + 1)) = M') ∨ ((0 ≤ f ∧ f < (M 1 0)) ∧ (0 ≤ t ∧ t < 24) ∧ (¬ (x < 0)) ∧ (¬ (9 < x)) ∧ (((M 10 3) = 6)) ∧ q0 = some (vi (-4)) ∧ (up M 0 16 ((M 0 16) + 1)) = M') ∨ ((0 ≤ f ∧ f < (M 1 0)) ∧ (0 ≤ t ∧ t < 24) ∧ (¬ (x < 0)) ∧ (¬ (9 < x)) ∧ (¬ ((M 10 3) = 6)) ∧ q0 = some (vi ((M 10 3) + 1)) ∧ (up (up (up (up M 10 3 ((M 10 3) + 1)) 11 ((M 10 3) * 3 + 0) f) 11 ((M 10 3) * 3 + 1) t) 11 ((M 10 3) * 3 + 2) x) = M') ∨ ((0 ≤ f ∧ f < (M 1 0)) ∧ (¬ (0 ≤ t ∧ t < 24)) ∧ q0 = some (vi (-2)) ∧ (up M 0 14 ((M 0 14) + 1)) = M') ∨ ((¬ (0 ≤ f ∧ f < (M 1 0))) ∧ q0 = some (vi (-2)) ∧ (up M 0 14 ((M 0 14) + 1)) = M')) := by
  obtain ⟨iF, iG, iK, iH, iFa, aF, aG, lS, lN, lM, rS, rN, rM, aK⟩ := (show (0 ≤ M 1 0 ∧ M 1 0 ≤ 3) ∧ (0 ≤ M 1 1 ∧ M 1 1 ≤ 6) ∧ (0 ≤ M 1 2 ∧ M 1 2 ≤ 8) ∧ (0 ≤ M 6 16 ∧ M 6 16 ≤ 9999) ∧ (0 ≤ M 6 15 ∧ M 6 15 ≤ 9000) ∧ (∀ f : Int, 0 ≤ f → f < M 1 0 → (0 ≤ M 2 f ∧ M 2 f ≤ 5) ∧ (1 ≤ M 6 (12 + f) ∧ M 6 (12 + f) ≤ 10)) ∧ (∀ i : Int, 0 ≤ i → i < M 1 1 → (0 ≤ M 3 i ∧ M 3 i ≤ 5) ∧ (1 ≤ M 4 i ∧ M 4 i ≤ 4) ∧ (0 ≤ M 5 i ∧ M 5 i < M 1 0) ∧ (0 ≤ M 6 i ∧ M 6 i ≤ 11) ∧ (0 ≤ M 6 (6 + i) ∧ M 6 (6 + i) ≤ 9)) ∧ (M 8 0 = 4 ∧ M 8 1 = 5 ∧ 0 ≤ M 8 3 ∧ M 8 3 ≤ 5) ∧ (M 10 0 = 3 ∧ M 10 1 = 6 ∧ 0 ≤ M 10 3 ∧ M 10 3 ≤ 6) ∧ (M 12 0 = 5 ∧ M 12 1 = 6 ∧ 0 ≤ M 12 3 ∧ M 12 3 ≤ 6) ∧ (∀ n : Int, 0 ≤ n → n < M 8 3 → (0 ≤ M 9 (n * 4 + 0) ∧ M 9 (n * 4 + 0) ≤ 2) ∧ (1 ≤ M 9 (n * 4 + 1) ∧ M 9 (n * 4 + 1) ≤ 10) ∧ (0 ≤ M 9 (n * 4 + 2) ∧ M 9 (n * 4 + 2) ≤ 23) ∧ (0 ≤ M 9 (n * 4 + 3) ∧ M 9 (n * 4 + 3) ≤ 1)) ∧ (∀ n : Int, 0 ≤ n → n < M 10 3 → (0 ≤ M 11 (n * 3 + 0) ∧ M 11 (n * 3 + 0) ≤ 2) ∧ (0 ≤ M 11 (n * 3 + 1) ∧ M 11 (n * 3 + 1) ≤ 23) ∧ (0 ≤ M 11 (n * 3 + 2) ∧ M 11 (n * 3 + 2) ≤ 9)) ∧ (∀ n : Int, 0 ≤ n → n < M 12 3 → (0 ≤ M 13 (n * 5 + 0) ∧ M 13 (n * 5 + 0) ≤ 5) ∧ (1 ≤ M 13 (n * 5 + 1) ∧ M 13 (n * 5 + 1) ≤ 4) ∧ (0 ≤ M 13 (n * 5 + 2) ∧ M 13 (n * 5 + 2) ≤ 9) ∧ (0 ≤ M 13 (n * 5 + 3) ∧ M 13 (n * 5 + 3) ≤ 23) ∧ (0 ≤ M 13 (n * 5 + 4) ∧ M 13 (n * 5 + 4) ≤ 9)) ∧ (∀ k : Int, 0 ≤ k → k < M 1 2 → (0 ≤ M 7 (k * 17 + 16) ∧ M 7 (k * 17 + 16) ≤ 9999) ∧ (0 ≤ M 7 (k * 17 + 15) ∧ M 7 (k * 17 + 15) ≤ 9000) ∧ (∀ f : Int, 0 ≤ f → f < M 1 0 → (1 ≤ M 7 (k * 17 + (12 + f)) ∧ M 7 (k * 17 + (12 + f)) ≤ 10)) ∧ (∀ i : Int, 0 ≤ i → i < M 1 1 → (0 ≤ M 7 (k * 17 + i) ∧ M 7 (k * 17 + i) ≤ 11) ∧ (0 ≤ M 7 (k * 17 + (6 + i)) ∧ M 7 (k * 17 + (6 + i)) ≤ 9))) from hI)
  refine Hx.run 3 (pc' := 5) (L' := [some (vr 0), some (vi f), some (vi t), some (vi x)]) (st' := [vi f, vr 1]) (M' := M) rfl ?_
  refine Hx.call (t := 7) (as := [vr 1, vi f]) (pc' := 8) (rest := []) rfl (c_hasFlight_1 f M) ?_
  rintro _ _ (⟨q14, rfl, rfl⟩ | ⟨q14, rfl, rfl⟩)
  · skip
    have fq14 := aF f q14.1 q14.2
    refine Hx.run 2 (pc' := 12) (L' := [some (vr 0), some (vi f), some (vi t), some (vi x)]) (st' := [vi t]) (M' := M) rfl ?_
    refine Hx.call (t := 120) (as := [vi t]) (pc' := 15) (rest := []) rfl (c_isHour t M) ?_
    rintro _ _ (⟨q15, rfl, rfl⟩ | ⟨q15, rfl, rfl⟩)
    · skip
      refine Hx.run 2 (pc' := 19) (L' := [some (vr 0), some (vi f), some (vi t), some (vi x)]) (st' := [vi x]) (M' := M) rfl ?_
      refine Hx.br (c := x < 0) (t := 28) (f := 22) rfl (fun h1 => ?_) (fun h1 => ?_)
      · skip
        refine Hx.run 1 (pc' := 29) (L' := [some (vr 0), some (vi f), some (vi t), some (vi x)]) (st' := [vr 0]) (M' := M) rfl ?_
        refine Hx.call (t := 114) (as := [vr 0]) (pc' := 32) (rest := []) rfl (c_bad M (by omega)) ?_
        rintro _ _ ⟨rfl, rfl⟩
        refine Hx.run 0 (pc' := 32) (L' := [some (vr 0), some (vi f), some (vi t), some (vi x)]) (st' := [vi (-2)]) (M' := (up M 0 14 ((M 0 14) + 1))) rfl ?_
        refine Hx.ret rfl ?_
        exact Or.inl ⟨q14, q15, h1, rfl, rfl⟩
      · skip
        refine Hx.run 2 (pc' := 25) (L' := [some (vr 0), some (vi f), some (vi t), some (vi x)]) (st' := [vi 9, vi x]) (M' := M) rfl ?_
        refine Hx.br (c := 9 < x) (t := 28) (f := 33) rfl (fun h2 => ?_) (fun h2 => ?_)
        · skip
          refine Hx.run 1 (pc' := 29) (L' := [some (vr 0), some (vi f), some (vi t), some (vi x)]) (st' := [vr 0]) (M' := M) rfl ?_
          refine Hx.call (t := 114) (as := [vr 0]) (pc' := 32) (rest := []) rfl (c_bad M (by omega)) ?_
          rintro _ _ ⟨rfl, rfl⟩
          refine Hx.run 0 (pc' := 32) (L' := [some (vr 0), some (vi f), some (vi t), some (vi x)]) (st' := [vi (-2)]) (M' := (up M 0 14 ((M 0 14) + 1))) rfl ?_
          refine Hx.ret rfl ?_
          exact Or.inr (Or.inl ⟨q14, q15, h1, h2, rfl, rfl⟩)
        · skip
          refine Hx.run 3 (pc' := 40) (L' := [some (vr 0), some (vi f), some (vi t), some (vi x)]) (st' := [vr 10]) (M' := M) rfl ?_
          refine Hx.call (t := 34) (as := [vr 10]) (pc' := 43) (rest := []) rfl (c_isFull_10 M (by omega)) ?_
          rintro _ _ (⟨q16, rfl, rfl⟩ | ⟨q16, rfl, rfl⟩)
          · skip
            refine Hx.run 2 (pc' := 47) (L' := [some (vr 0), some (vi f), some (vi t), some (vi x)]) (st' := [vr 0]) (M' := M) rfl ?_
            refine Hx.call (t := 116) (as := [vr 0]) (pc' := 50) (rest := []) rfl (c_full M (by omega)) ?_
            rintro _ _ ⟨rfl, rfl⟩
            refine Hx.run 0 (pc' := 50) (L' := [some (vr 0), some (vi f), some (vi t), some (vi x)]) (st' := [vi (-4)]) (M' := (up M 0 16 ((M 0 16) + 1))) rfl ?_
            refine Hx.ret rfl ?_
            exact Or.inr (Or.inr (Or.inl ⟨q14, q15, h1, h2, q16, rfl, rfl⟩))
          · skip
            refine Hx.run 9 (pc' := 63) (L' := [some (vr 0), some (vi f), some (vi t), some (vi x)]) (st' := [vi 0, vi 0, vi x, vi t, vi f, vr 10]) (M' := M) rfl ?_
            refine Hx.call (t := 36) (as := [vr 10, vi f, vi t, vi x, vi 0, vi 0]) (pc' := 66) (rest := []) rfl (c_add_10 f t x 0 0 M (by omega) (by omega)) ?_
            rintro _ _ ⟨rfl, rfl⟩
            refine Hx.run 0 (pc' := 66) (L' := [some (vr 0), some (vi f), some (vi t), some (vi x)]) (st' := [vi ((M 10 3) + 1)]) (M' := (up (up (up (up M 10 3 ((M 10 3) + 1)) 11 ((M 10 3) * 3 + 0) f) 11 ((M 10 3) * 3 + 1) t) 11 ((M 10 3) * 3 + 2) x)) rfl ?_
            refine Hx.ret rfl ?_
            exact Or.inr (Or.inr (Or.inr (Or.inl ⟨q14, q15, h1, h2, q16, rfl, rfl⟩)))
    · skip
      refine Hx.run 2 (pc' := 29) (L' := [some (vr 0), some (vi f), some (vi t), some (vi x)]) (st' := [vr 0]) (M' := M) rfl ?_
      refine Hx.call (t := 114) (as := [vr 0]) (pc' := 32) (rest := []) rfl (c_bad M (by omega)) ?_
      rintro _ _ ⟨rfl, rfl⟩
      refine Hx.run 0 (pc' := 32) (L' := [some (vr 0), some (vi f), some (vi t), some (vi x)]) (st' := [vi (-2)]) (M' := (up M 0 14 ((M 0 14) + 1))) rfl ?_
      refine Hx.ret rfl ?_
      exact Or.inr (Or.inr (Or.inr (Or.inr (Or.inl ⟨q14, q15, rfl, rfl⟩))))
  · skip
    refine Hx.run 2 (pc' := 29) (L' := [some (vr 0), some (vi f), some (vi t), some (vi x)]) (st' := [vr 0]) (M' := M) rfl ?_
    refine Hx.call (t := 114) (as := [vr 0]) (pc' := 32) (rest := []) rfl (c_bad M (by omega)) ?_
    rintro _ _ ⟨rfl, rfl⟩
    refine Hx.run 0 (pc' := 32) (L' := [some (vr 0), some (vi f), some (vi t), some (vi x)]) (st' := [vi (-2)]) (M' := (up M 0 14 ((M 0 14) + 1))) rfl ?_
    refine Hx.ret rfl ?_
    exact Or.inr (Or.inr (Or.inr (Or.inr (Or.inr (⟨q14, rfl, rfl⟩)))))
set_option maxRecDepth 100000 in
theorem C_mark (i : Int) (lg : Int) (x : Int) (t : Int) (yy : Int) (M : Mm) (hI : HI M 1) (hs : (0 ≤ M 0 14 ∧ M 0 14 ≤ 600) ∧ (0 ≤ M 0 15 ∧ M 0 15 ≤ 600) ∧ (0 ≤ M 0 16 ∧ M 0 16 ≤ 600)) : Ct 83 [vr 0, vi i, vi lg, vi x, vi t, vi yy] M (fun q0 M' => ((0 ≤ i ∧ i < (M 1 1)) ∧ (lg < 1) ∧ q0 = some (vi (-2)) ∧ (up M 0 14 ((M 0 14) + 1)) = M') ∨ ((0 ≤ i ∧ i < (M 1 1)) ∧ (¬ (lg < 1)) ∧ (4 < lg) ∧ q0 = some (vi (-2)) ∧ (up M 0 14 ((M 0 14) + 1)) = M') ∨ ((0 ≤ i ∧ i < (M 1 1)) ∧ (¬ (lg < 1)) ∧ (¬ (4 < lg)) ∧ (0 ≤ x ∧ x ≤ 9) ∧ (0 ≤ t ∧ t < 24) ∧ (yy < 0) ∧ q0 = some (vi (-2)) ∧ (up M 0 14 ((M 0 14) + 1)) = M') ∨ ((0 ≤ i ∧ i < (M 1 1)) ∧ (¬ (lg < 1)) ∧ (¬ (4 < lg)) ∧ (0 ≤ x ∧ x ≤ 9) ∧ (0 ≤ t ∧ t < 24) ∧ (¬ (yy < 0)) ∧ (9 < yy) ∧ q0 = some (vi (-2)) ∧ (up M 0 14 ((M 0 14) + 1)) = M') ∨ ((0 ≤ i ∧ i < (M 1 1)) ∧ (¬ (lg < 1)) ∧ (¬ (4 < lg)) ∧ (0 ≤ x ∧ x ≤ 9) ∧ (0 ≤ t ∧ t < 24) ∧ (¬ (yy < 0)) ∧ (¬ (9 < yy)) ∧ (((M 12 3) = 6)) ∧ q0 = some (vi (-4)) ∧ (up M 0 16 ((M 0 16) + 1)) = M') ∨ ((0 ≤ i ∧ i < (M 1 1)) ∧ (¬ (lg < 1)) ∧ (¬ (4 < lg)) ∧ (0 ≤ x ∧ x ≤ 9) ∧ (0 ≤ t ∧ t < 24) ∧ (¬ (yy < 0)) ∧ (¬ (9 < yy)) ∧ (¬ ((M 12 3) = 6)) ∧ q0 = some (vi ((M 12 3) + 1)) ∧ (up (up (up (up (up (up M 12 3 ((M 12 3) + 1)) 13 ((M 12 3) * 5 + 0) i) 13 ((M 12 3) * 5 + 1) lg) 13 ((M 12 3) * 5 + 2) x) 13 ((M 12 3) * 5 + 3) t) 13 ((M 12 3) * 5 + 4) yy) = M') ∨ ((0 ≤ i ∧ i < (M 1 1)) ∧ (¬ (lg < 1)) ∧ (¬ (4 < lg)) ∧ (0 ≤ x ∧ x ≤ 9) ∧ (¬ (0 ≤ t ∧ t < 24)) ∧ q0 = some (vi (-2)) ∧ (up M 0 14 ((M 0 14) + 1)) = M') ∨ ((0 ≤ i ∧ i < (M 1 1)) ∧ (¬ (lg < 1)) ∧ (¬ (4 < lg)) ∧ (¬ (0 ≤ x ∧ x ≤ 9)) ∧ q0 = some (vi (-2)) ∧ (up M 0 14 ((M 0 14) + 1)) = M') ∨ ((¬ (0 ≤ i ∧ i < (M 1 1))) ∧ q0 = some (vi (-2)) ∧ (up M 0 14 ((M 0 14) + 1)) = M')) := by
  obtain ⟨iF, iG, iK, iH, iFa, aF, aG, lS, lN, lM, rS, rN, rM, aK⟩ := (show (0 ≤ M 1 0 ∧ M 1 0 ≤ 3) ∧ (0 ≤ M 1 1 ∧ M 1 1 ≤ 6) ∧ (0 ≤ M 1 2 ∧ M 1 2 ≤ 8) ∧ (0 ≤ M 6 16 ∧ M 6 16 ≤ 9999) ∧ (0 ≤ M 6 15 ∧ M 6 15 ≤ 9000) ∧ (∀ f : Int, 0 ≤ f → f < M 1 0 → (0 ≤ M 2 f ∧ M 2 f ≤ 5) ∧ (1 ≤ M 6 (12 + f) ∧ M 6 (12 + f) ≤ 10)) ∧ (∀ i : Int, 0 ≤ i → i < M 1 1 → (0 ≤ M 3 i ∧ M 3 i ≤ 5) ∧ (1 ≤ M 4 i ∧ M 4 i ≤ 4) ∧ (0 ≤ M 5 i ∧ M 5 i < M 1 0) ∧ (0 ≤ M 6 i ∧ M 6 i ≤ 11) ∧ (0 ≤ M 6 (6 + i) ∧ M 6 (6 + i) ≤ 9)) ∧ (M 8 0 = 4 ∧ M 8 1 = 5 ∧ 0 ≤ M 8 3 ∧ M 8 3 ≤ 5) ∧ (M 10 0 = 3 ∧ M 10 1 = 6 ∧ 0 ≤ M 10 3 ∧ M 10 3 ≤ 6) ∧ (M 12 0 = 5 ∧ M 12 1 = 6 ∧ 0 ≤ M 12 3 ∧ M 12 3 ≤ 6) ∧ (∀ n : Int, 0 ≤ n → n < M 8 3 → (0 ≤ M 9 (n * 4 + 0) ∧ M 9 (n * 4 + 0) ≤ 2) ∧ (1 ≤ M 9 (n * 4 + 1) ∧ M 9 (n * 4 + 1) ≤ 10) ∧ (0 ≤ M 9 (n * 4 + 2) ∧ M 9 (n * 4 + 2) ≤ 23) ∧ (0 ≤ M 9 (n * 4 + 3) ∧ M 9 (n * 4 + 3) ≤ 1)) ∧ (∀ n : Int, 0 ≤ n → n < M 10 3 → (0 ≤ M 11 (n * 3 + 0) ∧ M 11 (n * 3 + 0) ≤ 2) ∧ (0 ≤ M 11 (n * 3 + 1) ∧ M 11 (n * 3 + 1) ≤ 23) ∧ (0 ≤ M 11 (n * 3 + 2) ∧ M 11 (n * 3 + 2) ≤ 9)) ∧ (∀ n : Int, 0 ≤ n → n < M 12 3 → (0 ≤ M 13 (n * 5 + 0) ∧ M 13 (n * 5 + 0) ≤ 5) ∧ (1 ≤ M 13 (n * 5 + 1) ∧ M 13 (n * 5 + 1) ≤ 4) ∧ (0 ≤ M 13 (n * 5 + 2) ∧ M 13 (n * 5 + 2) ≤ 9) ∧ (0 ≤ M 13 (n * 5 + 3) ∧ M 13 (n * 5 + 3) ≤ 23) ∧ (0 ≤ M 13 (n * 5 + 4) ∧ M 13 (n * 5 + 4) ≤ 9)) ∧ (∀ k : Int, 0 ≤ k → k < M 1 2 → (0 ≤ M 7 (k * 17 + 16) ∧ M 7 (k * 17 + 16) ≤ 9999) ∧ (0 ≤ M 7 (k * 17 + 15) ∧ M 7 (k * 17 + 15) ≤ 9000) ∧ (∀ f : Int, 0 ≤ f → f < M 1 0 → (1 ≤ M 7 (k * 17 + (12 + f)) ∧ M 7 (k * 17 + (12 + f)) ≤ 10)) ∧ (∀ i : Int, 0 ≤ i → i < M 1 1 → (0 ≤ M 7 (k * 17 + i) ∧ M 7 (k * 17 + i) ≤ 11) ∧ (0 ≤ M 7 (k * 17 + (6 + i)) ∧ M 7 (k * 17 + (6 + i)) ≤ 9))) from hI)
  refine Hx.run 3 (pc' := 5) (L' := [some (vr 0), some (vi i), some (vi lg), some (vi x), some (vi t), some (vi yy)]) (st' := [vi i, vr 1]) (M' := M) rfl ?_
  refine Hx.call (t := 8) (as := [vr 1, vi i]) (pc' := 8) (rest := []) rfl (c_hasGoer_1 i M) ?_
  rintro _ _ (⟨q17, rfl, rfl⟩ | ⟨q17, rfl, rfl⟩)
  · skip
    have gq17 := aG i q17.1 q17.2
    have fq17 := aF (M 5 i) (by omega) (by omega)
    refine Hx.run 3 (pc' := 13) (L' := [some (vr 0), some (vi i), some (vi lg), some (vi x), some (vi t), some (vi yy)]) (st' := [vi 1, vi lg]) (M' := M) rfl ?_
    refine Hx.br (c := lg < 1) (t := 28) (f := 16) rfl (fun h1 => ?_) (fun h1 => ?_)
    · skip
      refine Hx.run 1 (pc' := 29) (L' := [some (vr 0), some (vi i), some (vi lg), some (vi x), some (vi t), some (vi yy)]) (st' := [vr 0]) (M' := M) rfl ?_
      refine Hx.call (t := 114) (as := [vr 0]) (pc' := 32) (rest := []) rfl (c_bad M (by omega)) ?_
      rintro _ _ ⟨rfl, rfl⟩
      refine Hx.run 0 (pc' := 32) (L' := [some (vr 0), some (vi i), some (vi lg), some (vi x), some (vi t), some (vi yy)]) (st' := [vi (-2)]) (M' := (up M 0 14 ((M 0 14) + 1))) rfl ?_
      refine Hx.ret rfl ?_
      exact Or.inl ⟨q17, h1, rfl, rfl⟩
    · skip
      refine Hx.run 2 (pc' := 18) (L' := [some (vr 0), some (vi i), some (vi lg), some (vi x), some (vi t), some (vi yy)]) (st' := [vi 4, vi lg]) (M' := M) rfl ?_
      refine Hx.br (c := 4 < lg) (t := 28) (f := 21) rfl (fun h2 => ?_) (fun h2 => ?_)
      · skip
        refine Hx.run 1 (pc' := 29) (L' := [some (vr 0), some (vi i), some (vi lg), some (vi x), some (vi t), some (vi yy)]) (st' := [vr 0]) (M' := M) rfl ?_
        refine Hx.call (t := 114) (as := [vr 0]) (pc' := 32) (rest := []) rfl (c_bad M (by omega)) ?_
        rintro _ _ ⟨rfl, rfl⟩
        refine Hx.run 0 (pc' := 32) (L' := [some (vr 0), some (vi i), some (vi lg), some (vi x), some (vi t), some (vi yy)]) (st' := [vi (-2)]) (M' := (up M 0 14 ((M 0 14) + 1))) rfl ?_
        refine Hx.ret rfl ?_
        exact Or.inr (Or.inl ⟨q17, h1, h2, rfl, rfl⟩)
      · skip
        refine Hx.run 1 (pc' := 22) (L' := [some (vr 0), some (vi i), some (vi lg), some (vi x), some (vi t), some (vi yy)]) (st' := [vi x]) (M' := M) rfl ?_
        refine Hx.call (t := 119) (as := [vi x]) (pc' := 25) (rest := []) rfl (c_isLoad x M) ?_
        rintro _ _ (⟨q18, rfl, rfl⟩ | ⟨q18, rfl, rfl⟩)
        · skip
          refine Hx.run 2 (pc' := 35) (L' := [some (vr 0), some (vi i), some (vi lg), some (vi x), some (vi t), some (vi yy)]) (st' := [vi t]) (M' := M) rfl ?_
          refine Hx.call (t := 120) (as := [vi t]) (pc' := 38) (rest := []) rfl (c_isHour t M) ?_
          rintro _ _ (⟨q19, rfl, rfl⟩ | ⟨q19, rfl, rfl⟩)
          · skip
            refine Hx.run 2 (pc' := 43) (L' := [some (vr 0), some (vi i), some (vi lg), some (vi x), some (vi t), some (vi yy)]) (st' := [vi yy]) (M' := M) rfl ?_
            refine Hx.br (c := yy < 0) (t := 53) (f := 46) rfl (fun h3 => ?_) (fun h3 => ?_)
            · skip
              refine Hx.run 1 (pc' := 54) (L' := [some (vr 0), some (vi i), some (vi lg), some (vi x), some (vi t), some (vi yy)]) (st' := [vr 0]) (M' := M) rfl ?_
              refine Hx.call (t := 114) (as := [vr 0]) (pc' := 57) (rest := []) rfl (c_bad M (by omega)) ?_
              rintro _ _ ⟨rfl, rfl⟩
              refine Hx.run 0 (pc' := 57) (L' := [some (vr 0), some (vi i), some (vi lg), some (vi x), some (vi t), some (vi yy)]) (st' := [vi (-2)]) (M' := (up M 0 14 ((M 0 14) + 1))) rfl ?_
              refine Hx.ret rfl ?_
              exact Or.inr (Or.inr (Or.inl ⟨q17, h1, h2, q18, q19, h3, rfl, rfl⟩))
            · skip
              refine Hx.run 2 (pc' := 50) (L' := [some (vr 0), some (vi i), some (vi lg), some (vi x), some (vi t), some (vi yy)]) (st' := [vi 9, vi yy]) (M' := M) rfl ?_
              refine Hx.br (c := 9 < yy) (t := 53) (f := 58) rfl (fun h4 => ?_) (fun h4 => ?_)
              · skip
                refine Hx.run 1 (pc' := 54) (L' := [some (vr 0), some (vi i), some (vi lg), some (vi x), some (vi t), some (vi yy)]) (st' := [vr 0]) (M' := M) rfl ?_
                refine Hx.call (t := 114) (as := [vr 0]) (pc' := 57) (rest := []) rfl (c_bad M (by omega)) ?_
                rintro _ _ ⟨rfl, rfl⟩
                refine Hx.run 0 (pc' := 57) (L' := [some (vr 0), some (vi i), some (vi lg), some (vi x), some (vi t), some (vi yy)]) (st' := [vi (-2)]) (M' := (up M 0 14 ((M 0 14) + 1))) rfl ?_
                refine Hx.ret rfl ?_
                exact Or.inr (Or.inr (Or.inr (Or.inl ⟨q17, h1, h2, q18, q19, h3, h4, rfl, rfl⟩)))
              · skip
                refine Hx.run 3 (pc' := 65) (L' := [some (vr 0), some (vi i), some (vi lg), some (vi x), some (vi t), some (vi yy)]) (st' := [vr 12]) (M' := M) rfl ?_
                refine Hx.call (t := 34) (as := [vr 12]) (pc' := 68) (rest := []) rfl (c_isFull_12 M (by omega)) ?_
                rintro _ _ (⟨q20, rfl, rfl⟩ | ⟨q20, rfl, rfl⟩)
                · skip
                  refine Hx.run 2 (pc' := 72) (L' := [some (vr 0), some (vi i), some (vi lg), some (vi x), some (vi t), some (vi yy)]) (st' := [vr 0]) (M' := M) rfl ?_
                  refine Hx.call (t := 116) (as := [vr 0]) (pc' := 75) (rest := []) rfl (c_full M (by omega)) ?_
                  rintro _ _ ⟨rfl, rfl⟩
                  refine Hx.run 0 (pc' := 75) (L' := [some (vr 0), some (vi i), some (vi lg), some (vi x), some (vi t), some (vi yy)]) (st' := [vi (-4)]) (M' := (up M 0 16 ((M 0 16) + 1))) rfl ?_
                  refine Hx.ret rfl ?_
                  exact Or.inr (Or.inr (Or.inr (Or.inr (Or.inl ⟨q17, h1, h2, q18, q19, h3, h4, q20, rfl, rfl⟩))))
                · skip
                  refine Hx.run 9 (pc' := 90) (L' := [some (vr 0), some (vi i), some (vi lg), some (vi x), some (vi t), some (vi yy)]) (st' := [vi yy, vi t, vi x, vi lg, vi i, vr 12]) (M' := M) rfl ?_
                  refine Hx.call (t := 36) (as := [vr 12, vi i, vi lg, vi x, vi t, vi yy]) (pc' := 93) (rest := []) rfl (c_add_12 i lg x t yy M (by omega) (by omega)) ?_
                  rintro _ _ ⟨rfl, rfl⟩
                  refine Hx.run 0 (pc' := 93) (L' := [some (vr 0), some (vi i), some (vi lg), some (vi x), some (vi t), some (vi yy)]) (st' := [vi ((M 12 3) + 1)]) (M' := (up (up (up (up (up (up M 12 3 ((M 12 3) + 1)) 13 ((M 12 3) * 5 + 0) i) 13 ((M 12 3) * 5 + 1) lg) 13 ((M 12 3) * 5 + 2) x) 13 ((M 12 3) * 5 + 3) t) 13 ((M 12 3) * 5 + 4) yy)) rfl ?_
                  refine Hx.ret rfl ?_
                  exact Or.inr (Or.inr (Or.inr (Or.inr (Or.inr (Or.inl ⟨q17, h1, h2, q18, q19, h3, h4, q20, rfl, rfl⟩)))))
          · skip
            refine Hx.run 2 (pc' := 54) (L' := [some (vr 0), some (vi i), some (vi lg), some (vi x), some (vi t), some (vi yy)]) (st' := [vr 0]) (M' := M) rfl ?_
            refine Hx.call (t := 114) (as := [vr 0]) (pc' := 57) (rest := []) rfl (c_bad M (by omega)) ?_
            rintro _ _ ⟨rfl, rfl⟩
            refine Hx.run 0 (pc' := 57) (L' := [some (vr 0), some (vi i), some (vi lg), some (vi x), some (vi t), some (vi yy)]) (st' := [vi (-2)]) (M' := (up M 0 14 ((M 0 14) + 1))) rfl ?_
            refine Hx.ret rfl ?_
            exact Or.inr (Or.inr (Or.inr (Or.inr (Or.inr (Or.inr (Or.inl ⟨q17, h1, h2, q18, q19, rfl, rfl⟩))))))
        · skip
          refine Hx.run 2 (pc' := 29) (L' := [some (vr 0), some (vi i), some (vi lg), some (vi x), some (vi t), some (vi yy)]) (st' := [vr 0]) (M' := M) rfl ?_
          refine Hx.call (t := 114) (as := [vr 0]) (pc' := 32) (rest := []) rfl (c_bad M (by omega)) ?_
          rintro _ _ ⟨rfl, rfl⟩
          refine Hx.run 0 (pc' := 32) (L' := [some (vr 0), some (vi i), some (vi lg), some (vi x), some (vi t), some (vi yy)]) (st' := [vi (-2)]) (M' := (up M 0 14 ((M 0 14) + 1))) rfl ?_
          refine Hx.ret rfl ?_
          exact Or.inr (Or.inr (Or.inr (Or.inr (Or.inr (Or.inr (Or.inr (Or.inl ⟨q17, h1, h2, q18, rfl, rfl⟩)))))))
  · skip
    refine Hx.run 2 (pc' := 29) (L' := [some (vr 0), some (vi i), some (vi lg), some (vi x), some (vi t), some (vi yy)]) (st' := [vr 0]) (M' := M) rfl ?_
    refine Hx.call (t := 114) (as := [vr 0]) (pc' := 32) (rest := []) rfl (c_bad M (by omega)) ?_
    rintro _ _ ⟨rfl, rfl⟩
    refine Hx.run 0 (pc' := 32) (L' := [some (vr 0), some (vi i), some (vi lg), some (vi x), some (vi t), some (vi yy)]) (st' := [vi (-2)]) (M' := (up M 0 14 ((M 0 14) + 1))) rfl ?_
    refine Hx.ret rfl ?_
    exact Or.inr (Or.inr (Or.inr (Or.inr (Or.inr (Or.inr (Or.inr (Or.inr (⟨q17, rfl, rfl⟩))))))))
set_option maxRecDepth 100000 in
theorem C_forget (w : Int) (M : Mm) (hI : HI M 1) (hs : (0 ≤ M 0 14 ∧ M 0 14 ≤ 600) ∧ (0 ≤ M 0 15 ∧ M 0 15 ≤ 600) ∧ (0 ≤ M 0 16 ∧ M 0 16 ≤ 600)) : Ct 84 [vr 0, vi w] M (fun q0 M' => ((w = 0) ∧ q0 = some (vi (M 8 3)) ∧ (up M 8 3 0) = M') ∨ ((w = 1) ∧ q0 = some (vi (M 10 3)) ∧ (up M 10 3 0) = M') ∨ ((w = 2) ∧ q0 = some (vi (M 12 3)) ∧ (up M 12 3 0) = M') ∨ (((w < 0 ∨ 2 < w)) ∧ q0 = some (vi (-2)) ∧ (up M 0 14 ((M 0 14) + 1)) = M')) := by
  obtain ⟨iF, iG, iK, iH, iFa, aF, aG, lS, lN, lM, rS, rN, rM, aK⟩ := (show (0 ≤ M 1 0 ∧ M 1 0 ≤ 3) ∧ (0 ≤ M 1 1 ∧ M 1 1 ≤ 6) ∧ (0 ≤ M 1 2 ∧ M 1 2 ≤ 8) ∧ (0 ≤ M 6 16 ∧ M 6 16 ≤ 9999) ∧ (0 ≤ M 6 15 ∧ M 6 15 ≤ 9000) ∧ (∀ f : Int, 0 ≤ f → f < M 1 0 → (0 ≤ M 2 f ∧ M 2 f ≤ 5) ∧ (1 ≤ M 6 (12 + f) ∧ M 6 (12 + f) ≤ 10)) ∧ (∀ i : Int, 0 ≤ i → i < M 1 1 → (0 ≤ M 3 i ∧ M 3 i ≤ 5) ∧ (1 ≤ M 4 i ∧ M 4 i ≤ 4) ∧ (0 ≤ M 5 i ∧ M 5 i < M 1 0) ∧ (0 ≤ M 6 i ∧ M 6 i ≤ 11) ∧ (0 ≤ M 6 (6 + i) ∧ M 6 (6 + i) ≤ 9)) ∧ (M 8 0 = 4 ∧ M 8 1 = 5 ∧ 0 ≤ M 8 3 ∧ M 8 3 ≤ 5) ∧ (M 10 0 = 3 ∧ M 10 1 = 6 ∧ 0 ≤ M 10 3 ∧ M 10 3 ≤ 6) ∧ (M 12 0 = 5 ∧ M 12 1 = 6 ∧ 0 ≤ M 12 3 ∧ M 12 3 ≤ 6) ∧ (∀ n : Int, 0 ≤ n → n < M 8 3 → (0 ≤ M 9 (n * 4 + 0) ∧ M 9 (n * 4 + 0) ≤ 2) ∧ (1 ≤ M 9 (n * 4 + 1) ∧ M 9 (n * 4 + 1) ≤ 10) ∧ (0 ≤ M 9 (n * 4 + 2) ∧ M 9 (n * 4 + 2) ≤ 23) ∧ (0 ≤ M 9 (n * 4 + 3) ∧ M 9 (n * 4 + 3) ≤ 1)) ∧ (∀ n : Int, 0 ≤ n → n < M 10 3 → (0 ≤ M 11 (n * 3 + 0) ∧ M 11 (n * 3 + 0) ≤ 2) ∧ (0 ≤ M 11 (n * 3 + 1) ∧ M 11 (n * 3 + 1) ≤ 23) ∧ (0 ≤ M 11 (n * 3 + 2) ∧ M 11 (n * 3 + 2) ≤ 9)) ∧ (∀ n : Int, 0 ≤ n → n < M 12 3 → (0 ≤ M 13 (n * 5 + 0) ∧ M 13 (n * 5 + 0) ≤ 5) ∧ (1 ≤ M 13 (n * 5 + 1) ∧ M 13 (n * 5 + 1) ≤ 4) ∧ (0 ≤ M 13 (n * 5 + 2) ∧ M 13 (n * 5 + 2) ≤ 9) ∧ (0 ≤ M 13 (n * 5 + 3) ∧ M 13 (n * 5 + 3) ≤ 23) ∧ (0 ≤ M 13 (n * 5 + 4) ∧ M 13 (n * 5 + 4) ≤ 9)) ∧ (∀ k : Int, 0 ≤ k → k < M 1 2 → (0 ≤ M 7 (k * 17 + 16) ∧ M 7 (k * 17 + 16) ≤ 9999) ∧ (0 ≤ M 7 (k * 17 + 15) ∧ M 7 (k * 17 + 15) ≤ 9000) ∧ (∀ f : Int, 0 ≤ f → f < M 1 0 → (1 ≤ M 7 (k * 17 + (12 + f)) ∧ M 7 (k * 17 + (12 + f)) ≤ 10)) ∧ (∀ i : Int, 0 ≤ i → i < M 1 1 → (0 ≤ M 7 (k * 17 + i) ∧ M 7 (k * 17 + i) ≤ 11) ∧ (0 ≤ M 7 (k * 17 + (6 + i)) ∧ M 7 (k * 17 + (6 + i)) ≤ 9))) from hI)
  refine Hx.run 1 (pc' := 1) (L' := [some (vr 0), some (vi w)]) (st' := [vi w]) (M' := M) rfl ?_
  rcases (show w = 0 ∨ w = 1 ∨ w = 2 ∨ (w < 0 ∨ 2 < w) by omega) with h1 | h1 | h1 | h1
  · refine Hx.tab (tgt := 28) 0 rfl h1 rfl ?_
    refine Hx.run 3 (pc' := 35) (L' := [some (vr 0), some (vi w)]) (st' := [vr 8]) (M' := M) rfl ?_
    refine Hx.call (t := 35) (as := [vr 8]) (pc' := 38) (rest := []) rfl (c_lempty_8 M) ?_
    rintro _ _ ⟨rfl, rfl⟩
    refine Hx.run 0 (pc' := 38) (L' := [some (vr 0), some (vi w)]) (st' := [vi (M 8 3)]) (M' := (up M 8 3 0)) rfl ?_
    refine Hx.ret rfl ?_
    exact Or.inl ⟨h1, rfl, rfl⟩
  · refine Hx.tab (tgt := 39) 1 rfl h1 rfl ?_
    refine Hx.run 3 (pc' := 46) (L' := [some (vr 0), some (vi w)]) (st' := [vr 10]) (M' := M) rfl ?_
    refine Hx.call (t := 35) (as := [vr 10]) (pc' := 49) (rest := []) rfl (c_lempty_10 M) ?_
    rintro _ _ ⟨rfl, rfl⟩
    refine Hx.run 0 (pc' := 49) (L' := [some (vr 0), some (vi w)]) (st' := [vi (M 10 3)]) (M' := (up M 10 3 0)) rfl ?_
    refine Hx.ret rfl ?_
    exact Or.inr (Or.inl ⟨h1, rfl, rfl⟩)
  · refine Hx.tab (tgt := 50) 2 rfl h1 rfl ?_
    refine Hx.run 3 (pc' := 57) (L' := [some (vr 0), some (vi w)]) (st' := [vr 12]) (M' := M) rfl ?_
    refine Hx.call (t := 35) (as := [vr 12]) (pc' := 60) (rest := []) rfl (c_lempty_12 M) ?_
    rintro _ _ ⟨rfl, rfl⟩
    refine Hx.run 0 (pc' := 60) (L' := [some (vr 0), some (vi w)]) (st' := [vi (M 12 3)]) (M' := (up M 12 3 0)) rfl ?_
    refine Hx.ret rfl ?_
    exact Or.inr (Or.inr (Or.inl ⟨h1, rfl, rfl⟩))
  · refine Hx.tabD (tgt := 61) rfl h1 rfl ?_
    refine Hx.run 1 (pc' := 62) (L' := [some (vr 0), some (vi w)]) (st' := [vr 0]) (M' := M) rfl ?_
    refine Hx.call (t := 114) (as := [vr 0]) (pc' := 65) (rest := []) rfl (c_bad M (by omega)) ?_
    rintro _ _ ⟨rfl, rfl⟩
    refine Hx.run 0 (pc' := 65) (L' := [some (vr 0), some (vi w)]) (st' := [vi (-2)]) (M' := (up M 0 14 ((M 0 14) + 1))) rfl ?_
    refine Hx.ret rfl ?_
    exact Or.inr (Or.inr (Or.inr (⟨h1, rfl, rfl⟩)))
set_option maxRecDepth 100000 in
theorem C_loads (i : Int) (x : Int) (M : Mm) (hI : HI M 1) (hs : (0 ≤ M 0 14 ∧ M 0 14 ≤ 600) ∧ (0 ≤ M 0 15 ∧ M 0 15 ≤ 600) ∧ (0 ≤ M 0 16 ∧ M 0 16 ≤ 600)) : Ct 66 [vr 0, vi i, vi x] M (fun q0 M' => ((0 ≤ i ∧ i < (M 1 1)) ∧ (0 ≤ x ∧ x ≤ 9) ∧ ((M 6 (6 + i)) = x) ∧ q0 = some (vi (-3)) ∧ (up M 0 15 ((M 0 15) + 1)) = M') ∨ ((0 ≤ i ∧ i < (M 1 1)) ∧ (0 ≤ x ∧ x ≤ 9) ∧ (¬ ((M 6 (6 + i)) = x)) ∧ q0 = some (vi (M 6 (6 + i))) ∧ (up (kmM M) 6 (6 + i) x) = M') ∨ ((0 ≤ i ∧ i < (M 1 1)) ∧ (¬ (0 ≤ x ∧ x ≤ 9)) ∧ q0 = some (vi (-2)) ∧ (up M 0 14 ((M 0 14) + 1)) = M') ∨ ((¬ (0 ≤ i ∧ i < (M 1 1))) ∧ q0 = some (vi (-2)) ∧ (up M 0 14 ((M 0 14) + 1)) = M')) := by
  obtain ⟨iF, iG, iK, iH, iFa, aF, aG, lS, lN, lM, rS, rN, rM, aK⟩ := (show (0 ≤ M 1 0 ∧ M 1 0 ≤ 3) ∧ (0 ≤ M 1 1 ∧ M 1 1 ≤ 6) ∧ (0 ≤ M 1 2 ∧ M 1 2 ≤ 8) ∧ (0 ≤ M 6 16 ∧ M 6 16 ≤ 9999) ∧ (0 ≤ M 6 15 ∧ M 6 15 ≤ 9000) ∧ (∀ f : Int, 0 ≤ f → f < M 1 0 → (0 ≤ M 2 f ∧ M 2 f ≤ 5) ∧ (1 ≤ M 6 (12 + f) ∧ M 6 (12 + f) ≤ 10)) ∧ (∀ i : Int, 0 ≤ i → i < M 1 1 → (0 ≤ M 3 i ∧ M 3 i ≤ 5) ∧ (1 ≤ M 4 i ∧ M 4 i ≤ 4) ∧ (0 ≤ M 5 i ∧ M 5 i < M 1 0) ∧ (0 ≤ M 6 i ∧ M 6 i ≤ 11) ∧ (0 ≤ M 6 (6 + i) ∧ M 6 (6 + i) ≤ 9)) ∧ (M 8 0 = 4 ∧ M 8 1 = 5 ∧ 0 ≤ M 8 3 ∧ M 8 3 ≤ 5) ∧ (M 10 0 = 3 ∧ M 10 1 = 6 ∧ 0 ≤ M 10 3 ∧ M 10 3 ≤ 6) ∧ (M 12 0 = 5 ∧ M 12 1 = 6 ∧ 0 ≤ M 12 3 ∧ M 12 3 ≤ 6) ∧ (∀ n : Int, 0 ≤ n → n < M 8 3 → (0 ≤ M 9 (n * 4 + 0) ∧ M 9 (n * 4 + 0) ≤ 2) ∧ (1 ≤ M 9 (n * 4 + 1) ∧ M 9 (n * 4 + 1) ≤ 10) ∧ (0 ≤ M 9 (n * 4 + 2) ∧ M 9 (n * 4 + 2) ≤ 23) ∧ (0 ≤ M 9 (n * 4 + 3) ∧ M 9 (n * 4 + 3) ≤ 1)) ∧ (∀ n : Int, 0 ≤ n → n < M 10 3 → (0 ≤ M 11 (n * 3 + 0) ∧ M 11 (n * 3 + 0) ≤ 2) ∧ (0 ≤ M 11 (n * 3 + 1) ∧ M 11 (n * 3 + 1) ≤ 23) ∧ (0 ≤ M 11 (n * 3 + 2) ∧ M 11 (n * 3 + 2) ≤ 9)) ∧ (∀ n : Int, 0 ≤ n → n < M 12 3 → (0 ≤ M 13 (n * 5 + 0) ∧ M 13 (n * 5 + 0) ≤ 5) ∧ (1 ≤ M 13 (n * 5 + 1) ∧ M 13 (n * 5 + 1) ≤ 4) ∧ (0 ≤ M 13 (n * 5 + 2) ∧ M 13 (n * 5 + 2) ≤ 9) ∧ (0 ≤ M 13 (n * 5 + 3) ∧ M 13 (n * 5 + 3) ≤ 23) ∧ (0 ≤ M 13 (n * 5 + 4) ∧ M 13 (n * 5 + 4) ≤ 9)) ∧ (∀ k : Int, 0 ≤ k → k < M 1 2 → (0 ≤ M 7 (k * 17 + 16) ∧ M 7 (k * 17 + 16) ≤ 9999) ∧ (0 ≤ M 7 (k * 17 + 15) ∧ M 7 (k * 17 + 15) ≤ 9000) ∧ (∀ f : Int, 0 ≤ f → f < M 1 0 → (1 ≤ M 7 (k * 17 + (12 + f)) ∧ M 7 (k * 17 + (12 + f)) ≤ 10)) ∧ (∀ i : Int, 0 ≤ i → i < M 1 1 → (0 ≤ M 7 (k * 17 + i) ∧ M 7 (k * 17 + i) ≤ 11) ∧ (0 ≤ M 7 (k * 17 + (6 + i)) ∧ M 7 (k * 17 + (6 + i)) ≤ 9))) from hI)
  refine Hx.run 3 (pc' := 5) (L' := [some (vr 0), some (vi i), some (vi x), none]) (st' := [vi i, vr 1]) (M' := M) rfl ?_
  refine Hx.call (t := 8) (as := [vr 1, vi i]) (pc' := 8) (rest := []) rfl (c_hasGoer_1 i M) ?_
  rintro _ _ (⟨q21, rfl, rfl⟩ | ⟨q21, rfl, rfl⟩)
  · skip
    have gq21 := aG i q21.1 q21.2
    have fq21 := aF (M 5 i) (by omega) (by omega)
    refine Hx.run 2 (pc' := 12) (L' := [some (vr 0), some (vi i), some (vi x), none]) (st' := [vi x]) (M' := M) rfl ?_
    refine Hx.call (t := 119) (as := [vi x]) (pc' := 15) (rest := []) rfl (c_isLoad x M) ?_
    rintro _ _ (⟨q22, rfl, rfl⟩ | ⟨q22, rfl, rfl⟩)
    · skip
      refine Hx.run 4 (pc' := 28) (L' := [some (vr 0), some (vi i), some (vi x), none]) (st' := [vi i, vr 1]) (M' := M) rfl ?_
      refine Hx.call (t := 20) (as := [vr 1, vi i]) (pc' := 31) (rest := []) rfl (c_loadOf_1 i (by omega) M) ?_
      rintro _ _ ⟨rfl, rfl⟩
      refine Hx.run 0 (pc' := 31) (L' := [some (vr 0), some (vi i), some (vi x), none]) (st' := [vi (M 6 (6 + i))]) (M' := M) rfl ?_
      refine Hx.run 3 (pc' := 34) (L' := [some (vr 0), some (vi i), some (vi x), some (vi (M 6 (6 + i)))]) (st' := [vi x, vi (M 6 (6 + i))]) (M' := M) rfl ?_
      refine Hx.br (c := (M 6 (6 + i)) = x) (t := 37) (f := 42) rfl (fun h1 => ?_) (fun h1 => ?_)
      · skip
        refine Hx.run 1 (pc' := 38) (L' := [some (vr 0), some (vi i), some (vi x), some (vi (M 6 (6 + i)))]) (st' := [vr 0]) (M' := M) rfl ?_
        refine Hx.call (t := 115) (as := [vr 0]) (pc' := 41) (rest := []) rfl (c_no M (by omega)) ?_
        rintro _ _ ⟨rfl, rfl⟩
        refine Hx.run 0 (pc' := 41) (L' := [some (vr 0), some (vi i), some (vi x), some (vi (M 6 (6 + i)))]) (st' := [vi (-3)]) (M' := (up M 0 15 ((M 0 15) + 1))) rfl ?_
        refine Hx.ret rfl ?_
        exact Or.inl ⟨q21, q22, h1, rfl, rfl⟩
      · skip
        refine Hx.run 2 (pc' := 46) (L' := [some (vr 0), some (vi i), some (vi x), some (vi (M 6 (6 + i)))]) (st' := [vr 1]) (M' := M) rfl ?_
        refine Hx.call (t := 11) (as := [vr 1]) (pc' := 49) (rest := []) rfl (c_keepMoment  M (by omega)) ?_
        rintro _ _ ⟨rfl, rfl⟩
        refine Hx.run 0 (pc' := 49) (L' := [some (vr 0), some (vi i), some (vi x), some (vi (M 6 (6 + i)))]) (st' := []) (M' := (kmM M)) rfl ?_
        refine Hx.run 4 (pc' := 55) (L' := [some (vr 0), some (vi i), some (vi x), some (vi (M 6 (6 + i)))]) (st' := [vi x, vi i, vr 1]) (M' := (kmM M)) rfl ?_
        refine Hx.call (t := 21) (as := [vr 1, vi i, vi x]) (pc' := 58) (rest := []) rfl (c_setLoad_1 i x (kmM M) (by omega)) ?_
        rintro _ _ ⟨rfl, rfl⟩
        refine Hx.run 0 (pc' := 58) (L' := [some (vr 0), some (vi i), some (vi x), some (vi (M 6 (6 + i)))]) (st' := []) (M' := (up (kmM M) 6 (6 + i) x)) rfl ?_
        refine Hx.run 1 (pc' := 59) (L' := [some (vr 0), some (vi i), some (vi x), some (vi (M 6 (6 + i)))]) (st' := [vi (M 6 (6 + i))]) (M' := (up (kmM M) 6 (6 + i) x)) rfl ?_
        refine Hx.ret rfl ?_
        exact Or.inr (Or.inl ⟨q21, q22, h1, rfl, rfl⟩)
    · skip
      refine Hx.run 2 (pc' := 19) (L' := [some (vr 0), some (vi i), some (vi x), none]) (st' := [vr 0]) (M' := M) rfl ?_
      refine Hx.call (t := 114) (as := [vr 0]) (pc' := 22) (rest := []) rfl (c_bad M (by omega)) ?_
      rintro _ _ ⟨rfl, rfl⟩
      refine Hx.run 0 (pc' := 22) (L' := [some (vr 0), some (vi i), some (vi x), none]) (st' := [vi (-2)]) (M' := (up M 0 14 ((M 0 14) + 1))) rfl ?_
      refine Hx.ret rfl ?_
      exact Or.inr (Or.inr (Or.inl ⟨q21, q22, rfl, rfl⟩))
  · skip
    refine Hx.run 2 (pc' := 19) (L' := [some (vr 0), some (vi i), some (vi x), none]) (st' := [vr 0]) (M' := M) rfl ?_
    refine Hx.call (t := 114) (as := [vr 0]) (pc' := 22) (rest := []) rfl (c_bad M (by omega)) ?_
    rintro _ _ ⟨rfl, rfl⟩
    refine Hx.run 0 (pc' := 22) (L' := [some (vr 0), some (vi i), some (vi x), none]) (st' := [vi (-2)]) (M' := (up M 0 14 ((M 0 14) + 1))) rfl ?_
    refine Hx.ret rfl ?_
    exact Or.inr (Or.inr (Or.inr (⟨q21, rfl, rfl⟩)))
set_option maxRecDepth 100000 in
theorem C_begins (i : Int) (M : Mm) (hI : HI M 1) (hs : (0 ≤ M 0 14 ∧ M 0 14 ≤ 600) ∧ (0 ≤ M 0 15 ∧ M 0 15 ≤ 600) ∧ (0 ≤ M 0 16 ∧ M 0 16 ≤ 600)) : Ct 65 [vr 0, vi i] M (fun q0 M' => ((0 ≤ i ∧ i < (M 1 1)) ∧ ((M 6 i) = 0) ∧ q0 = some (vi (-3)) ∧ (up M 0 15 ((M 0 15) + 1)) = M') ∨ ((0 ≤ i ∧ i < (M 1 1)) ∧ (¬ ((M 6 i) = 0)) ∧ q0 = some (vi (M 6 i)) ∧ (up (kmM M) 6 i 0) = M') ∨ ((¬ (0 ≤ i ∧ i < (M 1 1))) ∧ q0 = some (vi (-2)) ∧ (up M 0 14 ((M 0 14) + 1)) = M')) := by
  obtain ⟨iF, iG, iK, iH, iFa, aF, aG, lS, lN, lM, rS, rN, rM, aK⟩ := (show (0 ≤ M 1 0 ∧ M 1 0 ≤ 3) ∧ (0 ≤ M 1 1 ∧ M 1 1 ≤ 6) ∧ (0 ≤ M 1 2 ∧ M 1 2 ≤ 8) ∧ (0 ≤ M 6 16 ∧ M 6 16 ≤ 9999) ∧ (0 ≤ M 6 15 ∧ M 6 15 ≤ 9000) ∧ (∀ f : Int, 0 ≤ f → f < M 1 0 → (0 ≤ M 2 f ∧ M 2 f ≤ 5) ∧ (1 ≤ M 6 (12 + f) ∧ M 6 (12 + f) ≤ 10)) ∧ (∀ i : Int, 0 ≤ i → i < M 1 1 → (0 ≤ M 3 i ∧ M 3 i ≤ 5) ∧ (1 ≤ M 4 i ∧ M 4 i ≤ 4) ∧ (0 ≤ M 5 i ∧ M 5 i < M 1 0) ∧ (0 ≤ M 6 i ∧ M 6 i ≤ 11) ∧ (0 ≤ M 6 (6 + i) ∧ M 6 (6 + i) ≤ 9)) ∧ (M 8 0 = 4 ∧ M 8 1 = 5 ∧ 0 ≤ M 8 3 ∧ M 8 3 ≤ 5) ∧ (M 10 0 = 3 ∧ M 10 1 = 6 ∧ 0 ≤ M 10 3 ∧ M 10 3 ≤ 6) ∧ (M 12 0 = 5 ∧ M 12 1 = 6 ∧ 0 ≤ M 12 3 ∧ M 12 3 ≤ 6) ∧ (∀ n : Int, 0 ≤ n → n < M 8 3 → (0 ≤ M 9 (n * 4 + 0) ∧ M 9 (n * 4 + 0) ≤ 2) ∧ (1 ≤ M 9 (n * 4 + 1) ∧ M 9 (n * 4 + 1) ≤ 10) ∧ (0 ≤ M 9 (n * 4 + 2) ∧ M 9 (n * 4 + 2) ≤ 23) ∧ (0 ≤ M 9 (n * 4 + 3) ∧ M 9 (n * 4 + 3) ≤ 1)) ∧ (∀ n : Int, 0 ≤ n → n < M 10 3 → (0 ≤ M 11 (n * 3 + 0) ∧ M 11 (n * 3 + 0) ≤ 2) ∧ (0 ≤ M 11 (n * 3 + 1) ∧ M 11 (n * 3 + 1) ≤ 23) ∧ (0 ≤ M 11 (n * 3 + 2) ∧ M 11 (n * 3 + 2) ≤ 9)) ∧ (∀ n : Int, 0 ≤ n → n < M 12 3 → (0 ≤ M 13 (n * 5 + 0) ∧ M 13 (n * 5 + 0) ≤ 5) ∧ (1 ≤ M 13 (n * 5 + 1) ∧ M 13 (n * 5 + 1) ≤ 4) ∧ (0 ≤ M 13 (n * 5 + 2) ∧ M 13 (n * 5 + 2) ≤ 9) ∧ (0 ≤ M 13 (n * 5 + 3) ∧ M 13 (n * 5 + 3) ≤ 23) ∧ (0 ≤ M 13 (n * 5 + 4) ∧ M 13 (n * 5 + 4) ≤ 9)) ∧ (∀ k : Int, 0 ≤ k → k < M 1 2 → (0 ≤ M 7 (k * 17 + 16) ∧ M 7 (k * 17 + 16) ≤ 9999) ∧ (0 ≤ M 7 (k * 17 + 15) ∧ M 7 (k * 17 + 15) ≤ 9000) ∧ (∀ f : Int, 0 ≤ f → f < M 1 0 → (1 ≤ M 7 (k * 17 + (12 + f)) ∧ M 7 (k * 17 + (12 + f)) ≤ 10)) ∧ (∀ i : Int, 0 ≤ i → i < M 1 1 → (0 ≤ M 7 (k * 17 + i) ∧ M 7 (k * 17 + i) ≤ 11) ∧ (0 ≤ M 7 (k * 17 + (6 + i)) ∧ M 7 (k * 17 + (6 + i)) ≤ 9))) from hI)
  refine Hx.run 3 (pc' := 5) (L' := [some (vr 0), some (vi i), none]) (st' := [vi i, vr 1]) (M' := M) rfl ?_
  refine Hx.call (t := 8) (as := [vr 1, vi i]) (pc' := 8) (rest := []) rfl (c_hasGoer_1 i M) ?_
  rintro _ _ (⟨q23, rfl, rfl⟩ | ⟨q23, rfl, rfl⟩)
  · skip
    have gq23 := aG i q23.1 q23.2
    have fq23 := aF (M 5 i) (by omega) (by omega)
    refine Hx.run 4 (pc' := 21) (L' := [some (vr 0), some (vi i), none]) (st' := [vi i, vr 1]) (M' := M) rfl ?_
    refine Hx.call (t := 18) (as := [vr 1, vi i]) (pc' := 24) (rest := []) rfl (c_stepOf_1 i (by omega) M) ?_
    rintro _ _ ⟨rfl, rfl⟩
    refine Hx.run 0 (pc' := 24) (L' := [some (vr 0), some (vi i), none]) (st' := [vi (M 6 i)]) (M' := M) rfl ?_
    refine Hx.run 2 (pc' := 26) (L' := [some (vr 0), some (vi i), some (vi (M 6 i))]) (st' := [vi (M 6 i)]) (M' := M) rfl ?_
    refine Hx.br (c := (M 6 i) = 0) (t := 29) (f := 34) rfl (fun h1 => ?_) (fun h1 => ?_)
    · skip
      refine Hx.run 1 (pc' := 30) (L' := [some (vr 0), some (vi i), some (vi (M 6 i))]) (st' := [vr 0]) (M' := M) rfl ?_
      refine Hx.call (t := 115) (as := [vr 0]) (pc' := 33) (rest := []) rfl (c_no M (by omega)) ?_
      rintro _ _ ⟨rfl, rfl⟩
      refine Hx.run 0 (pc' := 33) (L' := [some (vr 0), some (vi i), some (vi (M 6 i))]) (st' := [vi (-3)]) (M' := (up M 0 15 ((M 0 15) + 1))) rfl ?_
      refine Hx.ret rfl ?_
      exact Or.inl ⟨q23, h1, rfl, rfl⟩
    · skip
      refine Hx.run 2 (pc' := 38) (L' := [some (vr 0), some (vi i), some (vi (M 6 i))]) (st' := [vr 1]) (M' := M) rfl ?_
      refine Hx.call (t := 11) (as := [vr 1]) (pc' := 41) (rest := []) rfl (c_keepMoment  M (by omega)) ?_
      rintro _ _ ⟨rfl, rfl⟩
      refine Hx.run 0 (pc' := 41) (L' := [some (vr 0), some (vi i), some (vi (M 6 i))]) (st' := []) (M' := (kmM M)) rfl ?_
      refine Hx.run 4 (pc' := 47) (L' := [some (vr 0), some (vi i), some (vi (M 6 i))]) (st' := [vi 0, vi i, vr 1]) (M' := (kmM M)) rfl ?_
      refine Hx.call (t := 19) (as := [vr 1, vi i, vi 0]) (pc' := 50) (rest := []) rfl (c_setStep_1 i 0 (kmM M) (by omega)) ?_
      rintro _ _ ⟨rfl, rfl⟩
      refine Hx.run 0 (pc' := 50) (L' := [some (vr 0), some (vi i), some (vi (M 6 i))]) (st' := []) (M' := (up (kmM M) 6 i 0)) rfl ?_
      refine Hx.run 1 (pc' := 51) (L' := [some (vr 0), some (vi i), some (vi (M 6 i))]) (st' := [vi (M 6 i)]) (M' := (up (kmM M) 6 i 0)) rfl ?_
      refine Hx.ret rfl ?_
      exact Or.inr (Or.inl ⟨q23, h1, rfl, rfl⟩)
  · skip
    refine Hx.run 2 (pc' := 12) (L' := [some (vr 0), some (vi i), none]) (st' := [vr 0]) (M' := M) rfl ?_
    refine Hx.call (t := 114) (as := [vr 0]) (pc' := 15) (rest := []) rfl (c_bad M (by omega)) ?_
    rintro _ _ ⟨rfl, rfl⟩
    refine Hx.run 0 (pc' := 15) (L' := [some (vr 0), some (vi i), none]) (st' := [vi (-2)]) (M' := (up M 0 14 ((M 0 14) + 1))) rfl ?_
    refine Hx.ret rfl ?_
    exact Or.inr (Or.inr (⟨q23, rfl, rfl⟩))
set_option maxRecDepth 100000 in
theorem C_sells (f : Int) (s : Int) (M : Mm) (hI : HI M 1) (hs : (0 ≤ M 0 14 ∧ M 0 14 ≤ 600) ∧ (0 ≤ M 0 15 ∧ M 0 15 ≤ 600) ∧ (0 ≤ M 0 16 ∧ M 0 16 ≤ 600)) : Ct 67 [vr 0, vi f, vi s] M (fun q0 M' => ((0 ≤ f ∧ f < (M 1 0)) ∧ (1 ≤ s ∧ s ≤ 10) ∧ ((M 6 (12 + f)) = s) ∧ q0 = some (vi (-3)) ∧ (up M 0 15 ((M 0 15) + 1)) = M') ∨ ((0 ≤ f ∧ f < (M 1 0)) ∧ (1 ≤ s ∧ s ≤ 10) ∧ (¬ ((M 6 (12 + f)) = s)) ∧ q0 = some (vi (M 6 (12 + f))) ∧ (up (kmM M) 6 (12 + f) s) = M') ∨ ((0 ≤ f ∧ f < (M 1 0)) ∧ (¬ (1 ≤ s ∧ s ≤ 10)) ∧ q0 = some (vi (-2)) ∧ (up M 0 14 ((M 0 14) + 1)) = M') ∨ ((¬ (0 ≤ f ∧ f < (M 1 0))) ∧ q0 = some (vi (-2)) ∧ (up M 0 14 ((M 0 14) + 1)) = M')) := by
  obtain ⟨iF, iG, iK, iH, iFa, aF, aG, lS, lN, lM, rS, rN, rM, aK⟩ := (show (0 ≤ M 1 0 ∧ M 1 0 ≤ 3) ∧ (0 ≤ M 1 1 ∧ M 1 1 ≤ 6) ∧ (0 ≤ M 1 2 ∧ M 1 2 ≤ 8) ∧ (0 ≤ M 6 16 ∧ M 6 16 ≤ 9999) ∧ (0 ≤ M 6 15 ∧ M 6 15 ≤ 9000) ∧ (∀ f : Int, 0 ≤ f → f < M 1 0 → (0 ≤ M 2 f ∧ M 2 f ≤ 5) ∧ (1 ≤ M 6 (12 + f) ∧ M 6 (12 + f) ≤ 10)) ∧ (∀ i : Int, 0 ≤ i → i < M 1 1 → (0 ≤ M 3 i ∧ M 3 i ≤ 5) ∧ (1 ≤ M 4 i ∧ M 4 i ≤ 4) ∧ (0 ≤ M 5 i ∧ M 5 i < M 1 0) ∧ (0 ≤ M 6 i ∧ M 6 i ≤ 11) ∧ (0 ≤ M 6 (6 + i) ∧ M 6 (6 + i) ≤ 9)) ∧ (M 8 0 = 4 ∧ M 8 1 = 5 ∧ 0 ≤ M 8 3 ∧ M 8 3 ≤ 5) ∧ (M 10 0 = 3 ∧ M 10 1 = 6 ∧ 0 ≤ M 10 3 ∧ M 10 3 ≤ 6) ∧ (M 12 0 = 5 ∧ M 12 1 = 6 ∧ 0 ≤ M 12 3 ∧ M 12 3 ≤ 6) ∧ (∀ n : Int, 0 ≤ n → n < M 8 3 → (0 ≤ M 9 (n * 4 + 0) ∧ M 9 (n * 4 + 0) ≤ 2) ∧ (1 ≤ M 9 (n * 4 + 1) ∧ M 9 (n * 4 + 1) ≤ 10) ∧ (0 ≤ M 9 (n * 4 + 2) ∧ M 9 (n * 4 + 2) ≤ 23) ∧ (0 ≤ M 9 (n * 4 + 3) ∧ M 9 (n * 4 + 3) ≤ 1)) ∧ (∀ n : Int, 0 ≤ n → n < M 10 3 → (0 ≤ M 11 (n * 3 + 0) ∧ M 11 (n * 3 + 0) ≤ 2) ∧ (0 ≤ M 11 (n * 3 + 1) ∧ M 11 (n * 3 + 1) ≤ 23) ∧ (0 ≤ M 11 (n * 3 + 2) ∧ M 11 (n * 3 + 2) ≤ 9)) ∧ (∀ n : Int, 0 ≤ n → n < M 12 3 → (0 ≤ M 13 (n * 5 + 0) ∧ M 13 (n * 5 + 0) ≤ 5) ∧ (1 ≤ M 13 (n * 5 + 1) ∧ M 13 (n * 5 + 1) ≤ 4) ∧ (0 ≤ M 13 (n * 5 + 2) ∧ M 13 (n * 5 + 2) ≤ 9) ∧ (0 ≤ M 13 (n * 5 + 3) ∧ M 13 (n * 5 + 3) ≤ 23) ∧ (0 ≤ M 13 (n * 5 + 4) ∧ M 13 (n * 5 + 4) ≤ 9)) ∧ (∀ k : Int, 0 ≤ k → k < M 1 2 → (0 ≤ M 7 (k * 17 + 16) ∧ M 7 (k * 17 + 16) ≤ 9999) ∧ (0 ≤ M 7 (k * 17 + 15) ∧ M 7 (k * 17 + 15) ≤ 9000) ∧ (∀ f : Int, 0 ≤ f → f < M 1 0 → (1 ≤ M 7 (k * 17 + (12 + f)) ∧ M 7 (k * 17 + (12 + f)) ≤ 10)) ∧ (∀ i : Int, 0 ≤ i → i < M 1 1 → (0 ≤ M 7 (k * 17 + i) ∧ M 7 (k * 17 + i) ≤ 11) ∧ (0 ≤ M 7 (k * 17 + (6 + i)) ∧ M 7 (k * 17 + (6 + i)) ≤ 9))) from hI)
  refine Hx.run 3 (pc' := 5) (L' := [some (vr 0), some (vi f), some (vi s), none]) (st' := [vi f, vr 1]) (M' := M) rfl ?_
  refine Hx.call (t := 7) (as := [vr 1, vi f]) (pc' := 8) (rest := []) rfl (c_hasFlight_1 f M) ?_
  rintro _ _ (⟨q24, rfl, rfl⟩ | ⟨q24, rfl, rfl⟩)
  · skip
    have fq24 := aF f q24.1 q24.2
    refine Hx.run 2 (pc' := 12) (L' := [some (vr 0), some (vi f), some (vi s), none]) (st' := [vi s]) (M' := M) rfl ?_
    refine Hx.call (t := 118) (as := [vi s]) (pc' := 15) (rest := []) rfl (c_isOwnable s M) ?_
    rintro _ _ (⟨q25, rfl, rfl⟩ | ⟨q25, rfl, rfl⟩)
    · skip
      refine Hx.run 4 (pc' := 28) (L' := [some (vr 0), some (vi f), some (vi s), none]) (st' := [vi f, vr 1]) (M' := M) rfl ?_
      refine Hx.call (t := 14) (as := [vr 1, vi f]) (pc' := 31) (rest := []) rfl (c_ownerStep_1 f (by omega) M) ?_
      rintro _ _ ⟨rfl, rfl⟩
      refine Hx.run 0 (pc' := 31) (L' := [some (vr 0), some (vi f), some (vi s), none]) (st' := [vi (M 6 (12 + f))]) (M' := M) rfl ?_
      refine Hx.run 3 (pc' := 34) (L' := [some (vr 0), some (vi f), some (vi s), some (vi (M 6 (12 + f)))]) (st' := [vi s, vi (M 6 (12 + f))]) (M' := M) rfl ?_
      refine Hx.br (c := (M 6 (12 + f)) = s) (t := 37) (f := 42) rfl (fun h1 => ?_) (fun h1 => ?_)
      · skip
        refine Hx.run 1 (pc' := 38) (L' := [some (vr 0), some (vi f), some (vi s), some (vi (M 6 (12 + f)))]) (st' := [vr 0]) (M' := M) rfl ?_
        refine Hx.call (t := 115) (as := [vr 0]) (pc' := 41) (rest := []) rfl (c_no M (by omega)) ?_
        rintro _ _ ⟨rfl, rfl⟩
        refine Hx.run 0 (pc' := 41) (L' := [some (vr 0), some (vi f), some (vi s), some (vi (M 6 (12 + f)))]) (st' := [vi (-3)]) (M' := (up M 0 15 ((M 0 15) + 1))) rfl ?_
        refine Hx.ret rfl ?_
        exact Or.inl ⟨q24, q25, h1, rfl, rfl⟩
      · skip
        refine Hx.run 2 (pc' := 46) (L' := [some (vr 0), some (vi f), some (vi s), some (vi (M 6 (12 + f)))]) (st' := [vr 1]) (M' := M) rfl ?_
        refine Hx.call (t := 11) (as := [vr 1]) (pc' := 49) (rest := []) rfl (c_keepMoment  M (by omega)) ?_
        rintro _ _ ⟨rfl, rfl⟩
        refine Hx.run 0 (pc' := 49) (L' := [some (vr 0), some (vi f), some (vi s), some (vi (M 6 (12 + f)))]) (st' := []) (M' := (kmM M)) rfl ?_
        refine Hx.run 4 (pc' := 55) (L' := [some (vr 0), some (vi f), some (vi s), some (vi (M 6 (12 + f)))]) (st' := [vi s, vi f, vr 1]) (M' := (kmM M)) rfl ?_
        refine Hx.call (t := 15) (as := [vr 1, vi f, vi s]) (pc' := 58) (rest := []) rfl (c_setOwnerStep_1 f s (kmM M) (by omega)) ?_
        rintro _ _ ⟨rfl, rfl⟩
        refine Hx.run 0 (pc' := 58) (L' := [some (vr 0), some (vi f), some (vi s), some (vi (M 6 (12 + f)))]) (st' := []) (M' := (up (kmM M) 6 (12 + f) s)) rfl ?_
        refine Hx.run 1 (pc' := 59) (L' := [some (vr 0), some (vi f), some (vi s), some (vi (M 6 (12 + f)))]) (st' := [vi (M 6 (12 + f))]) (M' := (up (kmM M) 6 (12 + f) s)) rfl ?_
        refine Hx.ret rfl ?_
        exact Or.inr (Or.inl ⟨q24, q25, h1, rfl, rfl⟩)
    · skip
      refine Hx.run 2 (pc' := 19) (L' := [some (vr 0), some (vi f), some (vi s), none]) (st' := [vr 0]) (M' := M) rfl ?_
      refine Hx.call (t := 114) (as := [vr 0]) (pc' := 22) (rest := []) rfl (c_bad M (by omega)) ?_
      rintro _ _ ⟨rfl, rfl⟩
      refine Hx.run 0 (pc' := 22) (L' := [some (vr 0), some (vi f), some (vi s), none]) (st' := [vi (-2)]) (M' := (up M 0 14 ((M 0 14) + 1))) rfl ?_
      refine Hx.ret rfl ?_
      exact Or.inr (Or.inr (Or.inl ⟨q24, q25, rfl, rfl⟩))
  · skip
    refine Hx.run 2 (pc' := 19) (L' := [some (vr 0), some (vi f), some (vi s), none]) (st' := [vr 0]) (M' := M) rfl ?_
    refine Hx.call (t := 114) (as := [vr 0]) (pc' := 22) (rest := []) rfl (c_bad M (by omega)) ?_
    rintro _ _ ⟨rfl, rfl⟩
    refine Hx.run 0 (pc' := 22) (L' := [some (vr 0), some (vi f), some (vi s), none]) (st' := [vi (-2)]) (M' := (up M 0 14 ((M 0 14) + 1))) rfl ?_
    refine Hx.ret rfl ?_
    exact Or.inr (Or.inr (Or.inr (⟨q24, rfl, rfl⟩)))
set_option maxRecDepth 100000 in
theorem C_part (w : Int) (M : Mm) (hI : HI M 1) (hs : (0 ≤ M 0 14 ∧ M 0 14 ≤ 600) ∧ (0 ≤ M 0 15 ∧ M 0 15 ≤ 600) ∧ (0 ≤ M 0 16 ∧ M 0 16 ≤ 600)) : Ct 107 [vr 0, vi w] M (fun q0 M' => ((w < 0) ∧ q0 = some (vl (-2)) ∧ (up M 0 14 ((M 0 14) + 1)) = M') ∨ ((¬ (w < 0)) ∧ (1 < w) ∧ q0 = some (vl (-2)) ∧ (up M 0 14 ((M 0 14) + 1)) = M') ∨ ((¬ (w < 0)) ∧ (¬ (1 < w)) ∧ (w = 0) ∧ q0 = some (vl (M 0 12)) ∧ M = M') ∨ ((¬ (w < 0)) ∧ (¬ (1 < w)) ∧ (¬ (w = 0)) ∧ q0 = some (vl (M 0 13)) ∧ M = M')) := by
  obtain ⟨iF, iG, iK, iH, iFa, aF, aG, lS, lN, lM, rS, rN, rM, aK⟩ := (show (0 ≤ M 1 0 ∧ M 1 0 ≤ 3) ∧ (0 ≤ M 1 1 ∧ M 1 1 ≤ 6) ∧ (0 ≤ M 1 2 ∧ M 1 2 ≤ 8) ∧ (0 ≤ M 6 16 ∧ M 6 16 ≤ 9999) ∧ (0 ≤ M 6 15 ∧ M 6 15 ≤ 9000) ∧ (∀ f : Int, 0 ≤ f → f < M 1 0 → (0 ≤ M 2 f ∧ M 2 f ≤ 5) ∧ (1 ≤ M 6 (12 + f) ∧ M 6 (12 + f) ≤ 10)) ∧ (∀ i : Int, 0 ≤ i → i < M 1 1 → (0 ≤ M 3 i ∧ M 3 i ≤ 5) ∧ (1 ≤ M 4 i ∧ M 4 i ≤ 4) ∧ (0 ≤ M 5 i ∧ M 5 i < M 1 0) ∧ (0 ≤ M 6 i ∧ M 6 i ≤ 11) ∧ (0 ≤ M 6 (6 + i) ∧ M 6 (6 + i) ≤ 9)) ∧ (M 8 0 = 4 ∧ M 8 1 = 5 ∧ 0 ≤ M 8 3 ∧ M 8 3 ≤ 5) ∧ (M 10 0 = 3 ∧ M 10 1 = 6 ∧ 0 ≤ M 10 3 ∧ M 10 3 ≤ 6) ∧ (M 12 0 = 5 ∧ M 12 1 = 6 ∧ 0 ≤ M 12 3 ∧ M 12 3 ≤ 6) ∧ (∀ n : Int, 0 ≤ n → n < M 8 3 → (0 ≤ M 9 (n * 4 + 0) ∧ M 9 (n * 4 + 0) ≤ 2) ∧ (1 ≤ M 9 (n * 4 + 1) ∧ M 9 (n * 4 + 1) ≤ 10) ∧ (0 ≤ M 9 (n * 4 + 2) ∧ M 9 (n * 4 + 2) ≤ 23) ∧ (0 ≤ M 9 (n * 4 + 3) ∧ M 9 (n * 4 + 3) ≤ 1)) ∧ (∀ n : Int, 0 ≤ n → n < M 10 3 → (0 ≤ M 11 (n * 3 + 0) ∧ M 11 (n * 3 + 0) ≤ 2) ∧ (0 ≤ M 11 (n * 3 + 1) ∧ M 11 (n * 3 + 1) ≤ 23) ∧ (0 ≤ M 11 (n * 3 + 2) ∧ M 11 (n * 3 + 2) ≤ 9)) ∧ (∀ n : Int, 0 ≤ n → n < M 12 3 → (0 ≤ M 13 (n * 5 + 0) ∧ M 13 (n * 5 + 0) ≤ 5) ∧ (1 ≤ M 13 (n * 5 + 1) ∧ M 13 (n * 5 + 1) ≤ 4) ∧ (0 ≤ M 13 (n * 5 + 2) ∧ M 13 (n * 5 + 2) ≤ 9) ∧ (0 ≤ M 13 (n * 5 + 3) ∧ M 13 (n * 5 + 3) ≤ 23) ∧ (0 ≤ M 13 (n * 5 + 4) ∧ M 13 (n * 5 + 4) ≤ 9)) ∧ (∀ k : Int, 0 ≤ k → k < M 1 2 → (0 ≤ M 7 (k * 17 + 16) ∧ M 7 (k * 17 + 16) ≤ 9999) ∧ (0 ≤ M 7 (k * 17 + 15) ∧ M 7 (k * 17 + 15) ≤ 9000) ∧ (∀ f : Int, 0 ≤ f → f < M 1 0 → (1 ≤ M 7 (k * 17 + (12 + f)) ∧ M 7 (k * 17 + (12 + f)) ≤ 10)) ∧ (∀ i : Int, 0 ≤ i → i < M 1 1 → (0 ≤ M 7 (k * 17 + i) ∧ M 7 (k * 17 + i) ≤ 11) ∧ (0 ≤ M 7 (k * 17 + (6 + i)) ∧ M 7 (k * 17 + (6 + i)) ≤ 9))) from hI)
  refine Hx.run 1 (pc' := 1) (L' := [some (vr 0), some (vi w)]) (st' := [vi w]) (M' := M) rfl ?_
  refine Hx.br (c := w < 0) (t := 9) (f := 4) rfl (fun h1 => ?_) (fun h1 => ?_)
  · skip
    refine Hx.run 1 (pc' := 10) (L' := [some (vr 0), some (vi w)]) (st' := [vr 0]) (M' := M) rfl ?_
    refine Hx.call (t := 114) (as := [vr 0]) (pc' := 13) (rest := []) rfl (c_bad M (by omega)) ?_
    rintro _ _ ⟨rfl, rfl⟩
    refine Hx.run 0 (pc' := 13) (L' := [some (vr 0), some (vi w)]) (st' := [vi (-2)]) (M' := (up M 0 14 ((M 0 14) + 1))) rfl ?_
    refine Hx.run 1 (pc' := 14) (L' := [some (vr 0), some (vi w)]) (st' := [vl (-2)]) (M' := (up M 0 14 ((M 0 14) + 1))) rfl ?_
    refine Hx.ret rfl ?_
    exact Or.inl ⟨h1, rfl, rfl⟩
  · skip
    refine Hx.run 2 (pc' := 6) (L' := [some (vr 0), some (vi w)]) (st' := [vi 1, vi w]) (M' := M) rfl ?_
    refine Hx.br (c := 1 < w) (t := 9) (f := 15) rfl (fun h2 => ?_) (fun h2 => ?_)
    · skip
      refine Hx.run 1 (pc' := 10) (L' := [some (vr 0), some (vi w)]) (st' := [vr 0]) (M' := M) rfl ?_
      refine Hx.call (t := 114) (as := [vr 0]) (pc' := 13) (rest := []) rfl (c_bad M (by omega)) ?_
      rintro _ _ ⟨rfl, rfl⟩
      refine Hx.run 0 (pc' := 13) (L' := [some (vr 0), some (vi w)]) (st' := [vi (-2)]) (M' := (up M 0 14 ((M 0 14) + 1))) rfl ?_
      refine Hx.run 1 (pc' := 14) (L' := [some (vr 0), some (vi w)]) (st' := [vl (-2)]) (M' := (up M 0 14 ((M 0 14) + 1))) rfl ?_
      refine Hx.ret rfl ?_
      exact Or.inr (Or.inl ⟨h1, h2, rfl, rfl⟩)
    · skip
      refine Hx.run 1 (pc' := 16) (L' := [some (vr 0), some (vi w)]) (st' := [vi w]) (M' := M) rfl ?_
      refine Hx.br (c := w = 0) (t := 19) (f := 26) rfl (fun h3 => ?_) (fun h3 => ?_)
      · skip
        refine Hx.run 3 (pc' := 30) (L' := [some (vr 0), some (vi w)]) (st' := [vl (M 0 12)]) (M' := M) rfl ?_
        refine Hx.ret rfl ?_
        exact Or.inr (Or.inr (Or.inl ⟨h1, h2, h3, rfl, rfl⟩))
      · skip
        refine Hx.run 2 (pc' := 30) (L' := [some (vr 0), some (vi w)]) (st' := [vl (M 0 13)]) (M' := M) rfl ?_
        refine Hx.ret rfl ?_
        exact Or.inr (Or.inr (Or.inr (⟨h1, h2, h3, rfl, rfl⟩)))
set_option maxRecDepth 100000 in
theorem C_image (i : Int) (M : Mm) (hI : HI M 1) (hs : (0 ≤ M 0 14 ∧ M 0 14 ≤ 600) ∧ (0 ≤ M 0 15 ∧ M 0 15 ≤ 600) ∧ (0 ≤ M 0 16 ∧ M 0 16 ≤ 600)) : Ct 108 [vr 0, vi i] M (fun q0 M' => ((i < 0) ∧ q0 = some (vi (-2)) ∧ (up M 0 14 ((M 0 14) + 1)) = M') ∨ ((¬ (i < 0)) ∧ (1 < i) ∧ q0 = some (vi (-2)) ∧ (up M 0 14 ((M 0 14) + 1)) = M') ∨ ((¬ (i < 0)) ∧ (¬ (1 < i)) ∧ (i = 0) ∧ q0 = some (vi 1) ∧ (up (tkM M 14 1) 0 3 1) = M') ∨ ((¬ (i < 0)) ∧ (¬ (1 < i)) ∧ (¬ (i = 0)) ∧ q0 = some (vi 1) ∧ (up (tkM M 27 1) 0 4 1) = M')) := by
  obtain ⟨iF, iG, iK, iH, iFa, aF, aG, lS, lN, lM, rS, rN, rM, aK⟩ := (show (0 ≤ M 1 0 ∧ M 1 0 ≤ 3) ∧ (0 ≤ M 1 1 ∧ M 1 1 ≤ 6) ∧ (0 ≤ M 1 2 ∧ M 1 2 ≤ 8) ∧ (0 ≤ M 6 16 ∧ M 6 16 ≤ 9999) ∧ (0 ≤ M 6 15 ∧ M 6 15 ≤ 9000) ∧ (∀ f : Int, 0 ≤ f → f < M 1 0 → (0 ≤ M 2 f ∧ M 2 f ≤ 5) ∧ (1 ≤ M 6 (12 + f) ∧ M 6 (12 + f) ≤ 10)) ∧ (∀ i : Int, 0 ≤ i → i < M 1 1 → (0 ≤ M 3 i ∧ M 3 i ≤ 5) ∧ (1 ≤ M 4 i ∧ M 4 i ≤ 4) ∧ (0 ≤ M 5 i ∧ M 5 i < M 1 0) ∧ (0 ≤ M 6 i ∧ M 6 i ≤ 11) ∧ (0 ≤ M 6 (6 + i) ∧ M 6 (6 + i) ≤ 9)) ∧ (M 8 0 = 4 ∧ M 8 1 = 5 ∧ 0 ≤ M 8 3 ∧ M 8 3 ≤ 5) ∧ (M 10 0 = 3 ∧ M 10 1 = 6 ∧ 0 ≤ M 10 3 ∧ M 10 3 ≤ 6) ∧ (M 12 0 = 5 ∧ M 12 1 = 6 ∧ 0 ≤ M 12 3 ∧ M 12 3 ≤ 6) ∧ (∀ n : Int, 0 ≤ n → n < M 8 3 → (0 ≤ M 9 (n * 4 + 0) ∧ M 9 (n * 4 + 0) ≤ 2) ∧ (1 ≤ M 9 (n * 4 + 1) ∧ M 9 (n * 4 + 1) ≤ 10) ∧ (0 ≤ M 9 (n * 4 + 2) ∧ M 9 (n * 4 + 2) ≤ 23) ∧ (0 ≤ M 9 (n * 4 + 3) ∧ M 9 (n * 4 + 3) ≤ 1)) ∧ (∀ n : Int, 0 ≤ n → n < M 10 3 → (0 ≤ M 11 (n * 3 + 0) ∧ M 11 (n * 3 + 0) ≤ 2) ∧ (0 ≤ M 11 (n * 3 + 1) ∧ M 11 (n * 3 + 1) ≤ 23) ∧ (0 ≤ M 11 (n * 3 + 2) ∧ M 11 (n * 3 + 2) ≤ 9)) ∧ (∀ n : Int, 0 ≤ n → n < M 12 3 → (0 ≤ M 13 (n * 5 + 0) ∧ M 13 (n * 5 + 0) ≤ 5) ∧ (1 ≤ M 13 (n * 5 + 1) ∧ M 13 (n * 5 + 1) ≤ 4) ∧ (0 ≤ M 13 (n * 5 + 2) ∧ M 13 (n * 5 + 2) ≤ 9) ∧ (0 ≤ M 13 (n * 5 + 3) ∧ M 13 (n * 5 + 3) ≤ 23) ∧ (0 ≤ M 13 (n * 5 + 4) ∧ M 13 (n * 5 + 4) ≤ 9)) ∧ (∀ k : Int, 0 ≤ k → k < M 1 2 → (0 ≤ M 7 (k * 17 + 16) ∧ M 7 (k * 17 + 16) ≤ 9999) ∧ (0 ≤ M 7 (k * 17 + 15) ∧ M 7 (k * 17 + 15) ≤ 9000) ∧ (∀ f : Int, 0 ≤ f → f < M 1 0 → (1 ≤ M 7 (k * 17 + (12 + f)) ∧ M 7 (k * 17 + (12 + f)) ≤ 10)) ∧ (∀ i : Int, 0 ≤ i → i < M 1 1 → (0 ≤ M 7 (k * 17 + i) ∧ M 7 (k * 17 + i) ≤ 11) ∧ (0 ≤ M 7 (k * 17 + (6 + i)) ∧ M 7 (k * 17 + (6 + i)) ≤ 9))) from hI)
  refine Hx.run 1 (pc' := 1) (L' := [some (vr 0), some (vi i)]) (st' := [vi i]) (M' := M) rfl ?_
  refine Hx.br (c := i < 0) (t := 9) (f := 4) rfl (fun h1 => ?_) (fun h1 => ?_)
  · skip
    refine Hx.run 1 (pc' := 10) (L' := [some (vr 0), some (vi i)]) (st' := [vr 0]) (M' := M) rfl ?_
    refine Hx.call (t := 114) (as := [vr 0]) (pc' := 13) (rest := []) rfl (c_bad M (by omega)) ?_
    rintro _ _ ⟨rfl, rfl⟩
    refine Hx.run 0 (pc' := 13) (L' := [some (vr 0), some (vi i)]) (st' := [vi (-2)]) (M' := (up M 0 14 ((M 0 14) + 1))) rfl ?_
    refine Hx.ret rfl ?_
    exact Or.inl ⟨h1, rfl, rfl⟩
  · skip
    refine Hx.run 2 (pc' := 6) (L' := [some (vr 0), some (vi i)]) (st' := [vi 1, vi i]) (M' := M) rfl ?_
    refine Hx.br (c := 1 < i) (t := 9) (f := 14) rfl (fun h2 => ?_) (fun h2 => ?_)
    · skip
      refine Hx.run 1 (pc' := 10) (L' := [some (vr 0), some (vi i)]) (st' := [vr 0]) (M' := M) rfl ?_
      refine Hx.call (t := 114) (as := [vr 0]) (pc' := 13) (rest := []) rfl (c_bad M (by omega)) ?_
      rintro _ _ ⟨rfl, rfl⟩
      refine Hx.run 0 (pc' := 13) (L' := [some (vr 0), some (vi i)]) (st' := [vi (-2)]) (M' := (up M 0 14 ((M 0 14) + 1))) rfl ?_
      refine Hx.ret rfl ?_
      exact Or.inr (Or.inl ⟨h1, h2, rfl, rfl⟩)
    · skip
      refine Hx.run 1 (pc' := 15) (L' := [some (vr 0), some (vi i)]) (st' := [vi i]) (M' := M) rfl ?_
      refine Hx.br (c := i = 0) (t := 18) (f := 37) rfl (fun h3 => ?_) (fun h3 => ?_)
      · skip
        refine Hx.run 4 (pc' := 26) (L' := [some (vr 0), some (vi i)]) (st' := [vr 1, vr 14]) (M' := M) rfl ?_
        refine Hx.call (t := 6) (as := [vr 14, vr 1]) (pc' := 29) (rest := []) rfl (c_takeOver_14_1 M) ?_
        rintro _ _ ⟨rfl, rfl⟩
        refine Hx.run 0 (pc' := 29) (L' := [some (vr 0), some (vi i)]) (st' := []) (M' := (tkM M 14 1)) rfl ?_
        refine Hx.run 5 (pc' := 54) (L' := [some (vr 0), some (vi i)]) (st' := [vi 1]) (M' := (up (tkM M 14 1) 0 3 1)) rfl ?_
        refine Hx.ret rfl ?_
        exact Or.inr (Or.inr (Or.inl ⟨h1, h2, h3, rfl, rfl⟩))
      · skip
        refine Hx.run 4 (pc' := 45) (L' := [some (vr 0), some (vi i)]) (st' := [vr 1, vr 27]) (M' := M) rfl ?_
        refine Hx.call (t := 6) (as := [vr 27, vr 1]) (pc' := 48) (rest := []) rfl (c_takeOver_27_1 M) ?_
        rintro _ _ ⟨rfl, rfl⟩
        refine Hx.run 0 (pc' := 48) (L' := [some (vr 0), some (vi i)]) (st' := []) (M' := (tkM M 27 1)) rfl ?_
        refine Hx.run 4 (pc' := 54) (L' := [some (vr 0), some (vi i)]) (st' := [vi 1]) (M' := (up (tkM M 27 1) 0 4 1)) rfl ?_
        refine Hx.ret rfl ?_
        exact Or.inr (Or.inr (Or.inr (⟨h1, h2, h3, rfl, rfl⟩)))
