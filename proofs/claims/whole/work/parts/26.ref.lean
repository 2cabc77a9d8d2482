/-! the reference: what its members answer (written by wip/whole/gen26.py) -/
def RI (M : Mm) (o : Int) : Prop := (0 ≤ M 65 (o + 0) ∧ M 65 (o + 0) ≤ 3) ∧ (0 ≤ M 65 (o + 1) ∧ M 65 (o + 1) ≤ 6) ∧ (0 ≤ M 65 (o + 2) ∧ M 65 (o + 2) ≤ 9999) ∧ (0 ≤ M 65 (o + 3) ∧ M 65 (o + 3) ≤ 9000) ∧ (0 ≤ M 65 (o + 40) ∧ M 65 (o + 40) ≤ 5) ∧ (0 ≤ M 65 (o + 61) ∧ M 65 (o + 61) ≤ 6) ∧ (0 ≤ M 65 (o + 80) ∧ M 65 (o + 80) ≤ 6) ∧ (0 ≤ M 65 (o + 111) ∧ M 65 (o + 111) ≤ 8) ∧ (∀ f : Int, 0 ≤ f → f < M 65 (o + 0) → (0 ≤ M 65 (o + 4 + f) ∧ M 65 (o + 4 + f) ≤ 5) ∧ (1 ≤ M 65 (o + 7 + f) ∧ M 65 (o + 7 + f) ≤ 10)) ∧ (∀ i : Int, 0 ≤ i → i < M 65 (o + 1) → (0 ≤ M 65 (o + 10 + i) ∧ M 65 (o + 10 + i) ≤ 5) ∧ (1 ≤ M 65 (o + 16 + i) ∧ M 65 (o + 16 + i) ≤ 4) ∧ (0 ≤ M 65 (o + 22 + i) ∧ M 65 (o + 22 + i) < M 65 (o + 0)) ∧ (0 ≤ M 65 (o + 28 + i) ∧ M 65 (o + 28 + i) ≤ 11) ∧ (0 ≤ M 65 (o + 34 + i) ∧ M 65 (o + 34 + i) ≤ 9))
theorem Hx.aldZ {y pc : Nat} {L : Lc} {st : List PV} {M : Mm} {P : Option PV → Mm → Prop} {i : Int} {r n : Nat} (hf : fetch y pc = some (.baload, 1)) (hs : shp r = .inl (n, true)) (h : 0 ≤ i ∧ i < (n : Int)) (k : Hx y (pc + 1) L (vi (M r i) :: st) M P) : Hx y pc L (vi i :: vr r :: st) M P := by
  refine Hx.go (pc' := pc + 1) (L' := L) (st' := vi (M r i) :: st) (M' := M) ?_ k
  unfold step
  rw [hf]
  simp only [stepI, ald]
  rw [hs]
  simp only [beq_self_eq_true, cond_true]
  rw [if_pos h]; rfl
theorem Hx.astZ {y pc : Nat} {L : Lc} {st : List PV} {M : Mm} {P : Option PV → Mm → Prop} {v i : Int} {r n : Nat} (hf : fetch y pc = some (.bastore, 1)) (hs : shp r = .inl (n, true)) (h : (0 ≤ i ∧ i < (n : Int)) ∧ (v = 0 ∨ v = 1)) (k : Hx y (pc + 1) L st (up M r i v) P) : Hx y pc L (vi v :: vi i :: vr r :: st) M P := by
  refine Hx.go (pc' := pc + 1) (L' := L) (st' := st) (M' := up M r i v) ?_ k
  unfold step
  rw [hf]
  simp only [stepI, ast]
  rw [hs]
  simp only [beq_self_eq_true, cond_true]
  rw [if_pos ⟨h.1, fun _ => h.2⟩]; rfl
set_option maxRecDepth 100000 in
theorem R_tenement (M : Mm) (hI : RI M 0) (hs : (0 ≤ M 68 0 ∧ M 68 0 ≤ 600) ∧ (0 ≤ M 68 1 ∧ M 68 1 ≤ 600) ∧ (0 ≤ M 68 2 ∧ M 68 2 ≤ 600)) : Ct 148 [vr 64] M (fun q0 M' => (q0 = some (vi (M 65 1)) ∧ (fl M 65 0 (0 + 248) 0) = M')) := by
  obtain ⟨r0, r1, r2, r3, r40, r61, r80, r111, rF, rG⟩ := (show (0 ≤ M 65 0 ∧ M 65 0 ≤ 3) ∧ (0 ≤ M 65 1 ∧ M 65 1 ≤ 6) ∧ (0 ≤ M 65 2 ∧ M 65 2 ≤ 9999) ∧ (0 ≤ M 65 3 ∧ M 65 3 ≤ 9000) ∧ (0 ≤ M 65 40 ∧ M 65 40 ≤ 5) ∧ (0 ≤ M 65 61 ∧ M 65 61 ≤ 6) ∧ (0 ≤ M 65 80 ∧ M 65 80 ≤ 6) ∧ (0 ≤ M 65 111 ∧ M 65 111 ≤ 8) ∧ (∀ f : Int, 0 ≤ f → f < M 65 0 → (0 ≤ M 65 (4 + f) ∧ M 65 (4 + f) ≤ 5) ∧ (1 ≤ M 65 (7 + f) ∧ M 65 (7 + f) ≤ 10)) ∧ (∀ i : Int, 0 ≤ i → i < M 65 1 → (0 ≤ M 65 (10 + i) ∧ M 65 (10 + i) ≤ 5) ∧ (1 ≤ M 65 (16 + i) ∧ M 65 (16 + i) ≤ 4) ∧ (0 ≤ M 65 (22 + i) ∧ M 65 (22 + i) < M 65 0) ∧ (0 ≤ M 65 (28 + i) ∧ M 65 (28 + i) ≤ 11) ∧ (0 ≤ M 65 (34 + i) ∧ M 65 (34 + i) ≤ 9)) from hI)
  refine Hx.run 7 (pc' := 9) (L' := [some (vr 64), some (vi (M 65 1))]) (st' := [vi 0, vr 64]) (M' := M) rfl ?_
  refine Hx.call (t := 136) (as := [vr 64, vi 0]) (pc' := 12) (rest := []) rfl (r_empties 0 M (by omega)) ?_
  rintro _ _ ⟨rfl, rfl⟩
  refine Hx.run 0 (pc' := 12) (L' := [some (vr 64), some (vi (M 65 1))]) (st' := []) (M' := (fl M 65 0 (0 + 248) 0)) rfl ?_
  refine Hx.run 1 (pc' := 13) (L' := [some (vr 64), some (vi (M 65 1))]) (st' := [vi (M 65 1)]) (M' := (fl M 65 0 (0 + 248) 0)) rfl ?_
  refine Hx.ret rfl ?_
  exact ⟨rfl, rfl⟩
set_option maxRecDepth 100000 in
theorem R_flight (kd : Int) (s : Int) (M : Mm) (hI : RI M 0) (hs : (0 ≤ M 68 0 ∧ M 68 0 ≤ 600) ∧ (0 ≤ M 68 1 ∧ M 68 1 ≤ 600) ∧ (0 ≤ M 68 2 ∧ M 68 2 ≤ 600)) : Ct 150 [vr 64, vi kd, vi s] M (fun q0 M' => ((0 ≤ kd ∧ kd ≤ 5) ∧ (1 ≤ s ∧ s ≤ 10) ∧ ((M 65 0) = 3) ∧ q0 = some (vi (-4)) ∧ (up M 68 2 ((M 68 2) + 1)) = M') ∨ ((0 ≤ kd ∧ kd ≤ 5) ∧ (1 ≤ s ∧ s ≤ 10) ∧ (¬ ((M 65 0) = 3)) ∧ q0 = some (vi (((M 65 0) + 1) - 1)) ∧ (up (up (up (up M 65 (4 + (M 65 0)) kd) 65 (7 + (M 65 0)) s) 65 0 ((M 65 0) + 1)) 65 111 0) = M') ∨ ((0 ≤ kd ∧ kd ≤ 5) ∧ (¬ (1 ≤ s ∧ s ≤ 10)) ∧ q0 = some (vi (-2)) ∧ (up M 68 0 ((M 68 0) + 1)) = M') ∨ ((¬ (0 ≤ kd ∧ kd ≤ 5)) ∧ q0 = some (vi (-2)) ∧ (up M 68 0 ((M 68 0) + 1)) = M')) := by
  obtain ⟨r0, r1, r2, r3, r40, r61, r80, r111, rF, rG⟩ := (show (0 ≤ M 65 0 ∧ M 65 0 ≤ 3) ∧ (0 ≤ M 65 1 ∧ M 65 1 ≤ 6) ∧ (0 ≤ M 65 2 ∧ M 65 2 ≤ 9999) ∧ (0 ≤ M 65 3 ∧ M 65 3 ≤ 9000) ∧ (0 ≤ M 65 40 ∧ M 65 40 ≤ 5) ∧ (0 ≤ M 65 61 ∧ M 65 61 ≤ 6) ∧ (0 ≤ M 65 80 ∧ M 65 80 ≤ 6) ∧ (0 ≤ M 65 111 ∧ M 65 111 ≤ 8) ∧ (∀ f : Int, 0 ≤ f → f < M 65 0 → (0 ≤ M 65 (4 + f) ∧ M 65 (4 + f) ≤ 5) ∧ (1 ≤ M 65 (7 + f) ∧ M 65 (7 + f) ≤ 10)) ∧ (∀ i : Int, 0 ≤ i → i < M 65 1 → (0 ≤ M 65 (10 + i) ∧ M 65 (10 + i) ≤ 5) ∧ (1 ≤ M 65 (16 + i) ∧ M 65 (16 + i) ≤ 4) ∧ (0 ≤ M 65 (22 + i) ∧ M 65 (22 + i) < M 65 0) ∧ (0 ≤ M 65 (28 + i) ∧ M 65 (28 + i) ≤ 11) ∧ (0 ≤ M 65 (34 + i) ∧ M 65 (34 + i) ≤ 9)) from hI)
  refine Hx.run 4 (pc' := 6) (L' := [some (vr 64), some (vi kd), some (vi s)]) (st' := [vl 5, vl 0, vl kd]) (M' := M) rfl ?_
  refine Hx.call (t := 130) (as := [vl kd, vl 0, vl 5]) (pc' := 9) (rest := []) rfl (r_in kd 0 5 M) ?_
  rintro _ _ (⟨q44, rfl, rfl⟩ | ⟨q44, rfl, rfl⟩)
  · skip
    refine Hx.run 5 (pc' := 18) (L' := [some (vr 64), some (vi kd), some (vi s)]) (st' := [vl 10, vl 1, vl s]) (M' := M) rfl ?_
    refine Hx.call (t := 130) (as := [vl s, vl 1, vl 10]) (pc' := 21) (rest := []) rfl (r_in s 1 10 M) ?_
    rintro _ _ (⟨q45, rfl, rfl⟩ | ⟨q45, rfl, rfl⟩)
    · skip
      refine Hx.run 6 (pc' := 38) (L' := [some (vr 64), some (vi kd), some (vi s)]) (st' := [vi 3, vi (M 65 0)]) (M' := M) rfl ?_
      refine Hx.br (c := (M 65 0) = 3) (t := 41) (f := 46) rfl (fun h1 => ?_) (fun h1 => ?_)
      · skip
        refine Hx.run 1 (pc' := 42) (L' := [some (vr 64), some (vi kd), some (vi s)]) (st' := [vr 64]) (M' := M) rfl ?_
        refine Hx.call (t := 134) (as := [vr 64]) (pc' := 45) (rest := []) rfl (r_full  M (by omega)) ?_
        rintro _ _ ⟨rfl, rfl⟩
        refine Hx.run 0 (pc' := 45) (L' := [some (vr 64), some (vi kd), some (vi s)]) (st' := [vi (-4)]) (M' := (up M 68 2 ((M 68 2) + 1))) rfl ?_
        refine Hx.ret rfl ?_
        exact Or.inl ⟨q44, q45, h1, rfl, rfl⟩
      · skip
        refine Hx.run 4 (pc' := 50) (L' := [some (vr 64), some (vi kd), some (vi s)]) (st' := [vi s, vi kd, vi 0, vr 64]) (M' := M) rfl ?_
        refine Hx.call (t := 149) (as := [vr 64, vi 0, vi kd, vi s]) (pc' := 53) (rest := []) rfl (r_addsFlight_0 kd s M (by omega)) ?_
        rintro _ _ ⟨rfl, rfl⟩
        refine Hx.run 0 (pc' := 53) (L' := [some (vr 64), some (vi kd), some (vi s)]) (st' := []) (M' := (up (up (up M 65 (4 + (M 65 0)) kd) 65 (7 + (M 65 0)) s) 65 0 ((M 65 0) + 1))) rfl ?_
        refine Hx.run 4 (pc' := 60) (L' := [some (vr 64), some (vi kd), some (vi s)]) (st' := [vi 0, vi 111, vr 65]) (M' := (up (up (up M 65 (4 + (M 65 0)) kd) 65 (7 + (M 65 0)) s) 65 0 ((M 65 0) + 1))) rfl ?_
        refine Hx.astI (n := 1032) rfl rfl (by omega) ?_
        refine Hx.run 5 (pc' := 68) (L' := [some (vr 64), some (vi kd), some (vi s)]) (st' := [vi 1, vi ((M 65 0) + 1)]) (M' := (up (up (up (up M 65 (4 + (M 65 0)) kd) 65 (7 + (M 65 0)) s) 65 0 ((M 65 0) + 1)) 65 111 0)) rfl ?_
        refine Hx.sub rfl (by omega) ?_
        refine Hx.ret rfl ?_
        exact Or.inr (Or.inl ⟨q44, q45, h1, rfl, rfl⟩)
    · skip
      refine Hx.run 3 (pc' := 27) (L' := [some (vr 64), some (vi kd), some (vi s)]) (st' := [vi (-2), vr 64]) (M' := M) rfl ?_
      refine Hx.call (t := 132) (as := [vr 64, vi (-2)]) (pc' := 30) (rest := []) rfl (r_bad (-2) M (by omega)) ?_
      rintro _ _ ⟨rfl, rfl⟩
      refine Hx.run 0 (pc' := 30) (L' := [some (vr 64), some (vi kd), some (vi s)]) (st' := [vi (-2)]) (M' := (up M 68 0 ((M 68 0) + 1))) rfl ?_
      refine Hx.ret rfl ?_
      exact Or.inr (Or.inr (Or.inl ⟨q44, q45, rfl, rfl⟩))
  · skip
    refine Hx.run 3 (pc' := 27) (L' := [some (vr 64), some (vi kd), some (vi s)]) (st' := [vi (-2), vr 64]) (M' := M) rfl ?_
    refine Hx.call (t := 132) (as := [vr 64, vi (-2)]) (pc' := 30) (rest := []) rfl (r_bad (-2) M (by omega)) ?_
    rintro _ _ ⟨rfl, rfl⟩
    refine Hx.run 0 (pc' := 30) (L' := [some (vr 64), some (vi kd), some (vi s)]) (st' := [vi (-2)]) (M' := (up M 68 0 ((M 68 0) + 1))) rfl ?_
    refine Hx.ret rfl ?_
    exact Or.inr (Or.inr (Or.inr (⟨q44, rfl, rfl⟩)))
set_option maxRecDepth 100000 in
theorem R_goer (kd : Int) (lg : Int) (f : Int) (M : Mm) (hI : RI M 0) (hs : (0 ≤ M 68 0 ∧ M 68 0 ≤ 600) ∧ (0 ≤ M 68 1 ∧ M 68 1 ≤ 600) ∧ (0 ≤ M 68 2 ∧ M 68 2 ≤ 600)) : Ct 152 [vr 64, vi kd, vi lg, vi f] M (fun q0 M' => ((0 ≤ kd ∧ kd ≤ 5) ∧ (1 ≤ lg ∧ lg ≤ 4) ∧ (0 ≤ f ∧ f < (M 65 0)) ∧ ((M 65 1) = 6) ∧ q0 = some (vi (-4)) ∧ (up M 68 2 ((M 68 2) + 1)) = M') ∨ ((0 ≤ kd ∧ kd ≤ 5) ∧ (1 ≤ lg ∧ lg ≤ 4) ∧ (0 ≤ f ∧ f < (M 65 0)) ∧ (¬ ((M 65 1) = 6)) ∧ q0 = some (vi (((M 65 1) + 1) - 1)) ∧ (up (up (up (up (up (up (up M 65 (10 + (M 65 1)) kd) 65 (16 + (M 65 1)) lg) 65 (22 + (M 65 1)) f) 65 (28 + (M 65 1)) 0) 65 (34 + (M 65 1)) 0) 65 1 ((M 65 1) + 1)) 65 111 0) = M') ∨ ((0 ≤ kd ∧ kd ≤ 5) ∧ (1 ≤ lg ∧ lg ≤ 4) ∧ (¬ (0 ≤ f ∧ f < (M 65 0))) ∧ q0 = some (vi (-2)) ∧ (up M 68 0 ((M 68 0) + 1)) = M') ∨ ((0 ≤ kd ∧ kd ≤ 5) ∧ (¬ (1 ≤ lg ∧ lg ≤ 4)) ∧ q0 = some (vi (-2)) ∧ (up M 68 0 ((M 68 0) + 1)) = M') ∨ ((¬ (0 ≤ kd ∧ kd ≤ 5)) ∧ q0 = some (vi (-2)) ∧ (up M 68 0 ((M 68 0) + 1)) = M')) := by
  obtain ⟨r0, r1, r2, r3, r40, r61, r80, r111, rF, rG⟩ := (show (0 ≤ M 65 0 ∧ M 65 0 ≤ 3) ∧ (0 ≤ M 65 1 ∧ M 65 1 ≤ 6) ∧ (0 ≤ M 65 2 ∧ M 65 2 ≤ 9999) ∧ (0 ≤ M 65 3 ∧ M 65 3 ≤ 9000) ∧ (0 ≤ M 65 40 ∧ M 65 40 ≤ 5) ∧ (0 ≤ M 65 61 ∧ M 65 61 ≤ 6) ∧ (0 ≤ M 65 80 ∧ M 65 80 ≤ 6) ∧ (0 ≤ M 65 111 ∧ M 65 111 ≤ 8) ∧ (∀ f : Int, 0 ≤ f → f < M 65 0 → (0 ≤ M 65 (4 + f) ∧ M 65 (4 + f) ≤ 5) ∧ (1 ≤ M 65 (7 + f) ∧ M 65 (7 + f) ≤ 10)) ∧ (∀ i : Int, 0 ≤ i → i < M 65 1 → (0 ≤ M 65 (10 + i) ∧ M 65 (10 + i) ≤ 5) ∧ (1 ≤ M 65 (16 + i) ∧ M 65 (16 + i) ≤ 4) ∧ (0 ≤ M 65 (22 + i) ∧ M 65 (22 + i) < M 65 0) ∧ (0 ≤ M 65 (28 + i) ∧ M 65 (28 + i) ≤ 11) ∧ (0 ≤ M 65 (34 + i) ∧ M 65 (34 + i) ≤ 9)) from hI)
  refine Hx.run 4 (pc' := 6) (L' := [some (vr 64), some (vi kd), some (vi lg), some (vi f)]) (st' := [vl 5, vl 0, vl kd]) (M' := M) rfl ?_
  refine Hx.call (t := 130) (as := [vl kd, vl 0, vl 5]) (pc' := 9) (rest := []) rfl (r_in kd 0 5 M) ?_
  rintro _ _ (⟨q46, rfl, rfl⟩ | ⟨q46, rfl, rfl⟩)
  · skip
    refine Hx.run 5 (pc' := 18) (L' := [some (vr 64), some (vi kd), some (vi lg), some (vi f)]) (st' := [vl 4, vl 1, vl lg]) (M' := M) rfl ?_
    refine Hx.call (t := 130) (as := [vl lg, vl 1, vl 4]) (pc' := 21) (rest := []) rfl (r_in lg 1 4 M) ?_
    rintro _ _ (⟨q47, rfl, rfl⟩ | ⟨q47, rfl, rfl⟩)
    · skip
      refine Hx.run 3 (pc' := 26) (L' := [some (vr 64), some (vi kd), some (vi lg), some (vi f)]) (st' := [vi f, vr 64]) (M' := M) rfl ?_
      refine Hx.call (t := 138) (as := [vr 64, vi f]) (pc' := 29) (rest := []) rfl (r_isFlight f M (by omega)) ?_
      rintro _ _ (⟨q48, rfl, rfl⟩ | ⟨q48, rfl, rfl⟩)
      · skip
        have fq48 := rF f q48.1 q48.2
        refine Hx.run 6 (pc' := 47) (L' := [some (vr 64), some (vi kd), some (vi lg), some (vi f)]) (st' := [vi 6, vi (M 65 1)]) (M' := M) rfl ?_
        refine Hx.br (c := (M 65 1) = 6) (t := 50) (f := 55) rfl (fun h1 => ?_) (fun h1 => ?_)
        · skip
          refine Hx.run 1 (pc' := 51) (L' := [some (vr 64), some (vi kd), some (vi lg), some (vi f)]) (st' := [vr 64]) (M' := M) rfl ?_
          refine Hx.call (t := 134) (as := [vr 64]) (pc' := 54) (rest := []) rfl (r_full  M (by omega)) ?_
          rintro _ _ ⟨rfl, rfl⟩
          refine Hx.run 0 (pc' := 54) (L' := [some (vr 64), some (vi kd), some (vi lg), some (vi f)]) (st' := [vi (-4)]) (M' := (up M 68 2 ((M 68 2) + 1))) rfl ?_
          refine Hx.ret rfl ?_
          exact Or.inl ⟨q46, q47, q48, h1, rfl, rfl⟩
        · skip
          refine Hx.run 5 (pc' := 60) (L' := [some (vr 64), some (vi kd), some (vi lg), some (vi f)]) (st' := [vi f, vi lg, vi kd, vi 0, vr 64]) (M' := M) rfl ?_
          refine Hx.call (t := 151) (as := [vr 64, vi 0, vi kd, vi lg, vi f]) (pc' := 63) (rest := []) rfl (r_addsGoer_0 kd lg f M (by omega)) ?_
          rintro _ _ ⟨rfl, rfl⟩
          refine Hx.run 0 (pc' := 63) (L' := [some (vr 64), some (vi kd), some (vi lg), some (vi f)]) (st' := []) (M' := (up (up (up (up (up (up M 65 (10 + (M 65 1)) kd) 65 (16 + (M 65 1)) lg) 65 (22 + (M 65 1)) f) 65 (28 + (M 65 1)) 0) 65 (34 + (M 65 1)) 0) 65 1 ((M 65 1) + 1))) rfl ?_
          refine Hx.run 4 (pc' := 70) (L' := [some (vr 64), some (vi kd), some (vi lg), some (vi f)]) (st' := [vi 0, vi 111, vr 65]) (M' := (up (up (up (up (up (up M 65 (10 + (M 65 1)) kd) 65 (16 + (M 65 1)) lg) 65 (22 + (M 65 1)) f) 65 (28 + (M 65 1)) 0) 65 (34 + (M 65 1)) 0) 65 1 ((M 65 1) + 1))) rfl ?_
          refine Hx.astI (n := 1032) rfl rfl (by omega) ?_
          refine Hx.run 5 (pc' := 78) (L' := [some (vr 64), some (vi kd), some (vi lg), some (vi f)]) (st' := [vi 1, vi ((M 65 1) + 1)]) (M' := (up (up (up (up (up (up (up M 65 (10 + (M 65 1)) kd) 65 (16 + (M 65 1)) lg) 65 (22 + (M 65 1)) f) 65 (28 + (M 65 1)) 0) 65 (34 + (M 65 1)) 0) 65 1 ((M 65 1) + 1)) 65 111 0)) rfl ?_
          refine Hx.sub rfl (by omega) ?_
          refine Hx.ret rfl ?_
          exact Or.inr (Or.inl ⟨q46, q47, q48, h1, rfl, rfl⟩)
      · skip
        refine Hx.run 3 (pc' := 35) (L' := [some (vr 64), some (vi kd), some (vi lg), some (vi f)]) (st' := [vi (-2), vr 64]) (M' := M) rfl ?_
        refine Hx.call (t := 132) (as := [vr 64, vi (-2)]) (pc' := 38) (rest := []) rfl (r_bad (-2) M (by omega)) ?_
        rintro _ _ ⟨rfl, rfl⟩
        refine Hx.run 0 (pc' := 38) (L' := [some (vr 64), some (vi kd), some (vi lg), some (vi f)]) (st' := [vi (-2)]) (M' := (up M 68 0 ((M 68 0) + 1))) rfl ?_
        refine Hx.ret rfl ?_
        exact Or.inr (Or.inr (Or.inl ⟨q46, q47, q48, rfl, rfl⟩))
    · skip
      refine Hx.run 3 (pc' := 35) (L' := [some (vr 64), some (vi kd), some (vi lg), some (vi f)]) (st' := [vi (-2), vr 64]) (M' := M) rfl ?_
      refine Hx.call (t := 132) (as := [vr 64, vi (-2)]) (pc' := 38) (rest := []) rfl (r_bad (-2) M (by omega)) ?_
      rintro _ _ ⟨rfl, rfl⟩
      refine Hx.run 0 (pc' := 38) (L' := [some (vr 64), some (vi kd), some (vi lg), some (vi f)]) (st' := [vi (-2)]) (M' := (up M 68 0 ((M 68 0) + 1))) rfl ?_
      refine Hx.ret rfl ?_
      exact Or.inr (Or.inr (Or.inr (Or.inl ⟨q46, q47, rfl, rfl⟩)))
  · skip
    refine Hx.run 3 (pc' := 35) (L' := [some (vr 64), some (vi kd), some (vi lg), some (vi f)]) (st' := [vi (-2), vr 64]) (M' := M) rfl ?_
    refine Hx.call (t := 132) (as := [vr 64, vi (-2)]) (pc' := 38) (rest := []) rfl (r_bad (-2) M (by omega)) ?_
    rintro _ _ ⟨rfl, rfl⟩
    refine Hx.run 0 (pc' := 38) (L' := [some (vr 64), some (vi kd), some (vi lg), some (vi f)]) (st' := [vi (-2)]) (M' := (up M 68 0 ((M 68 0) + 1))) rfl ?_
    refine Hx.ret rfl ?_
    exact Or.inr (Or.inr (Or.inr (Or.inr (⟨q46, rfl, rfl⟩))))
set_option maxRecDepth 100000 in
theorem R_type (c : Int) (M : Mm) (hI : RI M 0) (hs : (0 ≤ M 68 0 ∧ M 68 0 ≤ 600) ∧ (0 ≤ M 68 1 ∧ M 68 1 ≤ 600) ∧ (0 ≤ M 68 2 ∧ M 68 2 ≤ 600)) (ht : 0 ≤ M 64 3 ∧ M 64 3 ≤ 150) : Ct 153 [vr 64, vi c] M (fun q0 M' => ((0 ≤ c ∧ c ≤ 127) ∧ ((M 64 3) = 150) ∧ q0 = some (vi (-4)) ∧ (up M 68 2 ((M 68 2) + 1)) = M') ∨ ((0 ≤ c ∧ c ≤ 127) ∧ (¬ ((M 64 3) = 150)) ∧ q0 = some (vi ((M 64 3) + 1)) ∧ (up (up M 67 (M 64 3) c) 64 3 ((M 64 3) + 1)) = M') ∨ ((¬ (0 ≤ c ∧ c ≤ 127)) ∧ q0 = some (vi (-2)) ∧ (up M 68 0 ((M 68 0) + 1)) = M')) := by
  obtain ⟨r0, r1, r2, r3, r40, r61, r80, r111, rF, rG⟩ := (show (0 ≤ M 65 0 ∧ M 65 0 ≤ 3) ∧ (0 ≤ M 65 1 ∧ M 65 1 ≤ 6) ∧ (0 ≤ M 65 2 ∧ M 65 2 ≤ 9999) ∧ (0 ≤ M 65 3 ∧ M 65 3 ≤ 9000) ∧ (0 ≤ M 65 40 ∧ M 65 40 ≤ 5) ∧ (0 ≤ M 65 61 ∧ M 65 61 ≤ 6) ∧ (0 ≤ M 65 80 ∧ M 65 80 ≤ 6) ∧ (0 ≤ M 65 111 ∧ M 65 111 ≤ 8) ∧ (∀ f : Int, 0 ≤ f → f < M 65 0 → (0 ≤ M 65 (4 + f) ∧ M 65 (4 + f) ≤ 5) ∧ (1 ≤ M 65 (7 + f) ∧ M 65 (7 + f) ≤ 10)) ∧ (∀ i : Int, 0 ≤ i → i < M 65 1 → (0 ≤ M 65 (10 + i) ∧ M 65 (10 + i) ≤ 5) ∧ (1 ≤ M 65 (16 + i) ∧ M 65 (16 + i) ≤ 4) ∧ (0 ≤ M 65 (22 + i) ∧ M 65 (22 + i) < M 65 0) ∧ (0 ≤ M 65 (28 + i) ∧ M 65 (28 + i) ≤ 11) ∧ (0 ≤ M 65 (34 + i) ∧ M 65 (34 + i) ≤ 9)) from hI)
  refine Hx.run 4 (pc' := 6) (L' := [some (vr 64), some (vi c)]) (st' := [vl 127, vl 0, vl c]) (M' := M) rfl ?_
  refine Hx.call (t := 130) (as := [vl c, vl 0, vl 127]) (pc' := 9) (rest := []) rfl (r_in c 0 127 M) ?_
  rintro _ _ (⟨q49, rfl, rfl⟩ | ⟨q49, rfl, rfl⟩)
  · skip
    refine Hx.run 4 (pc' := 26) (L' := [some (vr 64), some (vi c)]) (st' := [vi 150, vi (M 64 3)]) (M' := M) rfl ?_
    refine Hx.br (c := (M 64 3) = 150) (t := 29) (f := 34) rfl (fun h1 => ?_) (fun h1 => ?_)
    · skip
      refine Hx.run 1 (pc' := 30) (L' := [some (vr 64), some (vi c)]) (st' := [vr 64]) (M' := M) rfl ?_
      refine Hx.call (t := 134) (as := [vr 64]) (pc' := 33) (rest := []) rfl (r_full  M (by omega)) ?_
      rintro _ _ ⟨rfl, rfl⟩
      refine Hx.run 0 (pc' := 33) (L' := [some (vr 64), some (vi c)]) (st' := [vi (-4)]) (M' := (up M 68 2 ((M 68 2) + 1))) rfl ?_
      refine Hx.ret rfl ?_
      exact Or.inl ⟨q49, h1, rfl, rfl⟩
    · skip
      refine Hx.run 5 (pc' := 43) (L' := [some (vr 64), some (vi c)]) (st' := [vi c, vi (M 64 3), vr 67]) (M' := M) rfl ?_
      refine Hx.astI (n := 150) rfl rfl (by omega) ?_
      refine Hx.run 4 (pc' := 50) (L' := [some (vr 64), some (vi c)]) (st' := [vi 1, vi (M 64 3), vr 64]) (M' := (up M 67 (M 64 3) c)) rfl ?_
      refine Hx.add rfl (by omega) ?_
      refine Hx.run 3 (pc' := 58) (L' := [some (vr 64), some (vi c)]) (st' := [vi ((M 64 3) + 1)]) (M' := (up (up M 67 (M 64 3) c) 64 3 ((M 64 3) + 1))) rfl ?_
      refine Hx.ret rfl ?_
      exact Or.inr (Or.inl ⟨q49, h1, rfl, rfl⟩)
  · skip
    refine Hx.run 3 (pc' := 15) (L' := [some (vr 64), some (vi c)]) (st' := [vi (-2), vr 64]) (M' := M) rfl ?_
    refine Hx.call (t := 132) (as := [vr 64, vi (-2)]) (pc' := 18) (rest := []) rfl (r_bad (-2) M (by omega)) ?_
    rintro _ _ ⟨rfl, rfl⟩
    refine Hx.run 0 (pc' := 18) (L' := [some (vr 64), some (vi c)]) (st' := [vi (-2)]) (M' := (up M 68 0 ((M 68 0) + 1))) rfl ?_
    refine Hx.ret rfl ?_
    exact Or.inr (Or.inr (⟨q49, rfl, rfl⟩))
set_option maxRecDepth 100000 in
theorem R_clear (M : Mm) (hI : RI M 0) (hs : (0 ≤ M 68 0 ∧ M 68 0 ≤ 600) ∧ (0 ≤ M 68 1 ∧ M 68 1 ≤ 600) ∧ (0 ≤ M 68 2 ∧ M 68 2 ≤ 600)) (ht : 0 ≤ M 64 3 ∧ M 64 3 ≤ 150) : Ct 154 [vr 64] M (fun q0 M' => (q0 = some (vi (M 64 3)) ∧ (up M 64 3 0) = M')) := by
  obtain ⟨r0, r1, r2, r3, r40, r61, r80, r111, rF, rG⟩ := (show (0 ≤ M 65 0 ∧ M 65 0 ≤ 3) ∧ (0 ≤ M 65 1 ∧ M 65 1 ≤ 6) ∧ (0 ≤ M 65 2 ∧ M 65 2 ≤ 9999) ∧ (0 ≤ M 65 3 ∧ M 65 3 ≤ 9000) ∧ (0 ≤ M 65 40 ∧ M 65 40 ≤ 5) ∧ (0 ≤ M 65 61 ∧ M 65 61 ≤ 6) ∧ (0 ≤ M 65 80 ∧ M 65 80 ≤ 6) ∧ (0 ≤ M 65 111 ∧ M 65 111 ≤ 8) ∧ (∀ f : Int, 0 ≤ f → f < M 65 0 → (0 ≤ M 65 (4 + f) ∧ M 65 (4 + f) ≤ 5) ∧ (1 ≤ M 65 (7 + f) ∧ M 65 (7 + f) ≤ 10)) ∧ (∀ i : Int, 0 ≤ i → i < M 65 1 → (0 ≤ M 65 (10 + i) ∧ M 65 (10 + i) ≤ 5) ∧ (1 ≤ M 65 (16 + i) ∧ M 65 (16 + i) ≤ 4) ∧ (0 ≤ M 65 (22 + i) ∧ M 65 (22 + i) < M 65 0) ∧ (0 ≤ M 65 (28 + i) ∧ M 65 (28 + i) ≤ 11) ∧ (0 ≤ M 65 (34 + i) ∧ M 65 (34 + i) ≤ 9)) from hI)
  refine Hx.run 7 (pc' := 11) (L' := [some (vr 64), some (vi (M 64 3))]) (st' := [vi (M 64 3)]) (M' := (up M 64 3 0)) rfl ?_
  refine Hx.ret rfl ?_
  exact ⟨rfl, rfl⟩
set_option maxRecDepth 100000 in
theorem R_seen (f : Int) (s : Int) (t : Int) (b : Int) (M : Mm) (hI : RI M 0) (hs : (0 ≤ M 68 0 ∧ M 68 0 ≤ 600) ∧ (0 ≤ M 68 1 ∧ M 68 1 ≤ 600) ∧ (0 ≤ M 68 2 ∧ M 68 2 ≤ 600)) : Ct 192 [vr 64, vi f, vi s, vi t, vi b] M (fun q0 M' => ((0 ≤ f ∧ f < (M 65 0)) ∧ (1 ≤ s ∧ s ≤ 10) ∧ (0 ≤ t ∧ t < 24) ∧ (0 ≤ b ∧ b ≤ 1) ∧ ((M 65 40) = 5) ∧ q0 = some (vi (-4)) ∧ (up M 68 2 ((M 68 2) + 1)) = M') ∨ ((0 ≤ f ∧ f < (M 65 0)) ∧ (1 ≤ s ∧ s ≤ 10) ∧ (0 ≤ t ∧ t < 24) ∧ (0 ≤ b ∧ b ≤ 1) ∧ (¬ ((M 65 40) = 5)) ∧ q0 = some (vi ((M 65 40) + 1)) ∧ (up (up (up (up (up M 65 (41 + (4 * (M 65 40))) f) 65 ((41 + (4 * (M 65 40))) + 1) s) 65 ((41 + (4 * (M 65 40))) + 2) t) 65 ((41 + (4 * (M 65 40))) + 3) b) 65 40 ((M 65 40) + 1)) = M') ∨ ((0 ≤ f ∧ f < (M 65 0)) ∧ (1 ≤ s ∧ s ≤ 10) ∧ (0 ≤ t ∧ t < 24) ∧ (¬ (0 ≤ b ∧ b ≤ 1)) ∧ q0 = some (vi (-2)) ∧ (up M 68 0 ((M 68 0) + 1)) = M') ∨ ((0 ≤ f ∧ f < (M 65 0)) ∧ (1 ≤ s ∧ s ≤ 10) ∧ (¬ (0 ≤ t ∧ t < 24)) ∧ q0 = some (vi (-2)) ∧ (up M 68 0 ((M 68 0) + 1)) = M') ∨ ((0 ≤ f ∧ f < (M 65 0)) ∧ (¬ (1 ≤ s ∧ s ≤ 10)) ∧ q0 = some (vi (-2)) ∧ (up M 68 0 ((M 68 0) + 1)) = M') ∨ ((¬ (0 ≤ f ∧ f < (M 65 0))) ∧ q0 = some (vi (-2)) ∧ (up M 68 0 ((M 68 0) + 1)) = M')) := by
  obtain ⟨r0, r1, r2, r3, r40, r61, r80, r111, rF, rG⟩ := (show (0 ≤ M 65 0 ∧ M 65 0 ≤ 3) ∧ (0 ≤ M 65 1 ∧ M 65 1 ≤ 6) ∧ (0 ≤ M 65 2 ∧ M 65 2 ≤ 9999) ∧ (0 ≤ M 65 3 ∧ M 65 3 ≤ 9000) ∧ (0 ≤ M 65 40 ∧ M 65 40 ≤ 5) ∧ (0 ≤ M 65 61 ∧ M 65 61 ≤ 6) ∧ (0 ≤ M 65 80 ∧ M 65 80 ≤ 6) ∧ (0 ≤ M 65 111 ∧ M 65 111 ≤ 8) ∧ (∀ f : Int, 0 ≤ f → f < M 65 0 → (0 ≤ M 65 (4 + f) ∧ M 65 (4 + f) ≤ 5) ∧ (1 ≤ M 65 (7 + f) ∧ M 65 (7 + f) ≤ 10)) ∧ (∀ i : Int, 0 ≤ i → i < M 65 1 → (0 ≤ M 65 (10 + i) ∧ M 65 (10 + i) ≤ 5) ∧ (1 ≤ M 65 (16 + i) ∧ M 65 (16 + i) ≤ 4) ∧ (0 ≤ M 65 (22 + i) ∧ M 65 (22 + i) < M 65 0) ∧ (0 ≤ M 65 (28 + i) ∧ M 65 (28 + i) ≤ 11) ∧ (0 ≤ M 65 (34 + i) ∧ M 65 (34 + i) ≤ 9)) from hI)
  refine Hx.run 2 (pc' := 2) (L' := [some (vr 64), some (vi f), some (vi s), some (vi t), some (vi b), none]) (st' := [vi f, vr 64]) (M' := M) rfl ?_
  refine Hx.call (t := 138) (as := [vr 64, vi f]) (pc' := 5) (rest := []) rfl (r_isFlight f M (by omega)) ?_
  rintro _ _ (⟨q50, rfl, rfl⟩ | ⟨q50, rfl, rfl⟩)
  · skip
    have fq50 := rF f q50.1 q50.2
    refine Hx.run 5 (pc' := 14) (L' := [some (vr 64), some (vi f), some (vi s), some (vi t), some (vi b), none]) (st' := [vl 10, vl 1, vl s]) (M' := M) rfl ?_
    refine Hx.call (t := 130) (as := [vl s, vl 1, vl 10]) (pc' := 17) (rest := []) rfl (r_in s 1 10 M) ?_
    rintro _ _ (⟨q51, rfl, rfl⟩ | ⟨q51, rfl, rfl⟩)
    · skip
      refine Hx.run 2 (pc' := 21) (L' := [some (vr 64), some (vi f), some (vi s), some (vi t), some (vi b), none]) (st' := [vi t]) (M' := M) rfl ?_
      refine Hx.call (t := 139) (as := [vi t]) (pc' := 24) (rest := []) rfl (r_isHour t M) ?_
      rintro _ _ (⟨q52, rfl, rfl⟩ | ⟨q52, rfl, rfl⟩)
      · skip
        refine Hx.run 5 (pc' := 32) (L' := [some (vr 64), some (vi f), some (vi s), some (vi t), some (vi b), none]) (st' := [vl 1, vl 0, vl b]) (M' := M) rfl ?_
        refine Hx.call (t := 130) (as := [vl b, vl 0, vl 1]) (pc' := 35) (rest := []) rfl (r_in b 0 1 M) ?_
        rintro _ _ (⟨q53, rfl, rfl⟩ | ⟨q53, rfl, rfl⟩)
        · skip
          refine Hx.run 6 (pc' := 53) (L' := [some (vr 64), some (vi f), some (vi s), some (vi t), some (vi b), none]) (st' := [vi 5, vi (M 65 40)]) (M' := M) rfl ?_
          refine Hx.br (c := (M 65 40) = 5) (t := 56) (f := 61) rfl (fun h1 => ?_) (fun h1 => ?_)
          · skip
            refine Hx.run 1 (pc' := 57) (L' := [some (vr 64), some (vi f), some (vi s), some (vi t), some (vi b), none]) (st' := [vr 64]) (M' := M) rfl ?_
            refine Hx.call (t := 134) (as := [vr 64]) (pc' := 60) (rest := []) rfl (r_full  M (by omega)) ?_
            rintro _ _ ⟨rfl, rfl⟩
            refine Hx.run 0 (pc' := 60) (L' := [some (vr 64), some (vi f), some (vi s), some (vi t), some (vi b), none]) (st' := [vi (-4)]) (M' := (up M 68 2 ((M 68 2) + 1))) rfl ?_
            refine Hx.ret rfl ?_
            exact Or.inl ⟨q50, q51, q52, q53, h1, rfl, rfl⟩
          · skip
            refine Hx.run 6 (pc' := 71) (L' := [some (vr 64), some (vi f), some (vi s), some (vi t), some (vi b), none]) (st' := [vi (M 65 40), vi 4, vi 41]) (M' := M) rfl ?_
            refine Hx.mul rfl (by omega) ?_
            refine Hx.add rfl (by omega) ?_
            refine Hx.run 5 (pc' := 82) (L' := [some (vr 64), some (vi f), some (vi s), some (vi t), some (vi b), some (vi (41 + (4 * (M 65 40))))]) (st' := [vi f, vi (41 + (4 * (M 65 40))), vr 65]) (M' := M) rfl ?_
            refine Hx.astI (n := 1032) rfl rfl (by omega) ?_
            refine Hx.run 4 (pc' := 90) (L' := [some (vr 64), some (vi f), some (vi s), some (vi t), some (vi b), some (vi (41 + (4 * (M 65 40))))]) (st' := [vi 1, vi (41 + (4 * (M 65 40))), vr 65]) (M' := (up M 65 (41 + (4 * (M 65 40))) f)) rfl ?_
            refine Hx.add rfl (by omega) ?_
            refine Hx.run 1 (pc' := 92) (L' := [some (vr 64), some (vi f), some (vi s), some (vi t), some (vi b), some (vi (41 + (4 * (M 65 40))))]) (st' := [vi s, vi ((41 + (4 * (M 65 40))) + 1), vr 65]) (M' := (up M 65 (41 + (4 * (M 65 40))) f)) rfl ?_
            refine Hx.astI (n := 1032) rfl rfl (by omega) ?_
            refine Hx.run 4 (pc' := 100) (L' := [some (vr 64), some (vi f), some (vi s), some (vi t), some (vi b), some (vi (41 + (4 * (M 65 40))))]) (st' := [vi 2, vi (41 + (4 * (M 65 40))), vr 65]) (M' := (up (up M 65 (41 + (4 * (M 65 40))) f) 65 ((41 + (4 * (M 65 40))) + 1) s)) rfl ?_
            refine Hx.add rfl (by omega) ?_
            refine Hx.run 1 (pc' := 102) (L' := [some (vr 64), some (vi f), some (vi s), some (vi t), some (vi b), some (vi (41 + (4 * (M 65 40))))]) (st' := [vi t, vi ((41 + (4 * (M 65 40))) + 2), vr 65]) (M' := (up (up M 65 (41 + (4 * (M 65 40))) f) 65 ((41 + (4 * (M 65 40))) + 1) s)) rfl ?_
            refine Hx.astI (n := 1032) rfl rfl (by omega) ?_
            refine Hx.run 4 (pc' := 110) (L' := [some (vr 64), some (vi f), some (vi s), some (vi t), some (vi b), some (vi (41 + (4 * (M 65 40))))]) (st' := [vi 3, vi (41 + (4 * (M 65 40))), vr 65]) (M' := (up (up (up M 65 (41 + (4 * (M 65 40))) f) 65 ((41 + (4 * (M 65 40))) + 1) s) 65 ((41 + (4 * (M 65 40))) + 2) t)) rfl ?_
            refine Hx.add rfl (by omega) ?_
            refine Hx.run 1 (pc' := 113) (L' := [some (vr 64), some (vi f), some (vi s), some (vi t), some (vi b), some (vi (41 + (4 * (M 65 40))))]) (st' := [vi b, vi ((41 + (4 * (M 65 40))) + 3), vr 65]) (M' := (up (up (up M 65 (41 + (4 * (M 65 40))) f) 65 ((41 + (4 * (M 65 40))) + 1) s) 65 ((41 + (4 * (M 65 40))) + 2) t)) rfl ?_
            refine Hx.astI (n := 1032) rfl rfl (by omega) ?_
            refine Hx.run 4 (pc' := 121) (L' := [some (vr 64), some (vi f), some (vi s), some (vi t), some (vi b), some (vi (41 + (4 * (M 65 40))))]) (st' := [vi 40, vr 65, vi 40, vr 65]) (M' := (up (up (up (up M 65 (41 + (4 * (M 65 40))) f) 65 ((41 + (4 * (M 65 40))) + 1) s) 65 ((41 + (4 * (M 65 40))) + 2) t) 65 ((41 + (4 * (M 65 40))) + 3) b)) rfl ?_
            refine Hx.aldI (n := 1032) rfl rfl (by omega) ?_
            refine Hx.eqS (st' := [vi (M 65 40), vi 40, vr 65]) (by rw [show ((up (up (up (up M 65 (41 + (4 * (M 65 40))) f) 65 ((41 + (4 * (M 65 40))) + 1) s) 65 ((41 + (4 * (M 65 40))) + 2) t) 65 ((41 + (4 * (M 65 40))) + 3) b) 65 40) = (M 65 40) from by rw [up_off (by omega), up_off (by omega), up_off (by omega), up_off (by omega)]]) ?_
            refine Hx.run 1 (pc' := 123) (L' := [some (vr 64), some (vi f), some (vi s), some (vi t), some (vi b), some (vi (41 + (4 * (M 65 40))))]) (st' := [vi 1, vi (M 65 40), vi 40, vr 65]) (M' := (up (up (up (up M 65 (41 + (4 * (M 65 40))) f) 65 ((41 + (4 * (M 65 40))) + 1) s) 65 ((41 + (4 * (M 65 40))) + 2) t) 65 ((41 + (4 * (M 65 40))) + 3) b)) rfl ?_
            refine Hx.add rfl (by omega) ?_
            refine Hx.astI (n := 1032) rfl rfl (by omega) ?_
            refine Hx.run 4 (pc' := 132) (L' := [some (vr 64), some (vi f), some (vi s), some (vi t), some (vi b), some (vi (41 + (4 * (M 65 40))))]) (st' := [vi ((M 65 40) + 1)]) (M' := (up (up (up (up (up M 65 (41 + (4 * (M 65 40))) f) 65 ((41 + (4 * (M 65 40))) + 1) s) 65 ((41 + (4 * (M 65 40))) + 2) t) 65 ((41 + (4 * (M 65 40))) + 3) b) 65 40 ((M 65 40) + 1))) rfl ?_
            refine Hx.ret rfl ?_
            exact Or.inr (Or.inl ⟨q50, q51, q52, q53, h1, rfl, rfl⟩)
        · skip
          refine Hx.run 3 (pc' := 41) (L' := [some (vr 64), some (vi f), some (vi s), some (vi t), some (vi b), none]) (st' := [vi (-2), vr 64]) (M' := M) rfl ?_
          refine Hx.call (t := 132) (as := [vr 64, vi (-2)]) (pc' := 44) (rest := []) rfl (r_bad (-2) M (by omega)) ?_
          rintro _ _ ⟨rfl, rfl⟩
          refine Hx.run 0 (pc' := 44) (L' := [some (vr 64), some (vi f), some (vi s), some (vi t), some (vi b), none]) (st' := [vi (-2)]) (M' := (up M 68 0 ((M 68 0) + 1))) rfl ?_
          refine Hx.ret rfl ?_
          exact Or.inr (Or.inr (Or.inl ⟨q50, q51, q52, q53, rfl, rfl⟩))
      · skip
        refine Hx.run 3 (pc' := 41) (L' := [some (vr 64), some (vi f), some (vi s), some (vi t), some (vi b), none]) (st' := [vi (-2), vr 64]) (M' := M) rfl ?_
        refine Hx.call (t := 132) (as := [vr 64, vi (-2)]) (pc' := 44) (rest := []) rfl (r_bad (-2) M (by omega)) ?_
        rintro _ _ ⟨rfl, rfl⟩
        refine Hx.run 0 (pc' := 44) (L' := [some (vr 64), some (vi f), some (vi s), some (vi t), some (vi b), none]) (st' := [vi (-2)]) (M' := (up M 68 0 ((M 68 0) + 1))) rfl ?_
        refine Hx.ret rfl ?_
        exact Or.inr (Or.inr (Or.inr (Or.inl ⟨q50, q51, q52, rfl, rfl⟩)))
    · skip
      refine Hx.run 3 (pc' := 41) (L' := [some (vr 64), some (vi f), some (vi s), some (vi t), some (vi b), none]) (st' := [vi (-2), vr 64]) (M' := M) rfl ?_
      refine Hx.call (t := 132) (as := [vr 64, vi (-2)]) (pc' := 44) (rest := []) rfl (r_bad (-2) M (by omega)) ?_
      rintro _ _ ⟨rfl, rfl⟩
      refine Hx.run 0 (pc' := 44) (L' := [some (vr 64), some (vi f), some (vi s), some (vi t), some (vi b), none]) (st' := [vi (-2)]) (M' := (up M 68 0 ((M 68 0) + 1))) rfl ?_
      refine Hx.ret rfl ?_
      exact Or.inr (Or.inr (Or.inr (Or.inr (Or.inl ⟨q50, q51, rfl, rfl⟩))))
  · skip
    refine Hx.run 3 (pc' := 41) (L' := [some (vr 64), some (vi f), some (vi s), some (vi t), some (vi b), none]) (st' := [vi (-2), vr 64]) (M' := M) rfl ?_
    refine Hx.call (t := 132) (as := [vr 64, vi (-2)]) (pc' := 44) (rest := []) rfl (r_bad (-2) M (by omega)) ?_
    rintro _ _ ⟨rfl, rfl⟩
    refine Hx.run 0 (pc' := 44) (L' := [some (vr 64), some (vi f), some (vi s), some (vi t), some (vi b), none]) (st' := [vi (-2)]) (M' := (up M 68 0 ((M 68 0) + 1))) rfl ?_
    refine Hx.ret rfl ?_
    exact Or.inr (Or.inr (Or.inr (Or.inr (Or.inr (⟨q50, rfl, rfl⟩)))))
set_option maxRecDepth 100000 in
theorem R_note (f : Int) (t : Int) (x : Int) (M : Mm) (hI : RI M 0) (hs : (0 ≤ M 68 0 ∧ M 68 0 ≤ 600) ∧ (0 ≤ M 68 1 ∧ M 68 1 ≤ 600) ∧ (0 ≤ M 68 2 ∧ M 68 2 ≤ 600)) : Ct 197 [vr 64, vi f, vi t, vi x] M (fun q0 M' => ((0 ≤ f ∧ f < (M 65 0)) ∧ (0 ≤ t ∧ t < 24) ∧ (0 ≤ x ∧ x ≤ 9) ∧ ((M 65 61) = 6) ∧ q0 = some (vi (-4)) ∧ (up M 68 2 ((M 68 2) + 1)) = M') ∨ ((0 ≤ f ∧ f < (M 65 0)) ∧ (0 ≤ t ∧ t < 24) ∧ (0 ≤ x ∧ x ≤ 9) ∧ (¬ ((M 65 61) = 6)) ∧ q0 = some (vi ((M 65 61) + 1)) ∧ (up (up (up (up M 65 (62 + (3 * (M 65 61))) f) 65 ((62 + (3 * (M 65 61))) + 1) t) 65 ((62 + (3 * (M 65 61))) + 2) x) 65 61 ((M 65 61) + 1)) = M') ∨ ((0 ≤ f ∧ f < (M 65 0)) ∧ (0 ≤ t ∧ t < 24) ∧ (¬ (0 ≤ x ∧ x ≤ 9)) ∧ q0 = some (vi (-2)) ∧ (up M 68 0 ((M 68 0) + 1)) = M') ∨ ((0 ≤ f ∧ f < (M 65 0)) ∧ (¬ (0 ≤ t ∧ t < 24)) ∧ q0 = some (vi (-2)) ∧ (up M 68 0 ((M 68 0) + 1)) = M') ∨ ((¬ (0 ≤ f ∧ f < (M 65 0))) ∧ q0 = some (vi (-2)) ∧ (up M 68 0 ((M 68 0) + 1)) = M')) := by
  obtain ⟨r0, r1, r2, r3, r40, r61, r80, r111, rF, rG⟩ := (show (0 ≤ M 65 0 ∧ M 65 0 ≤ 3) ∧ (0 ≤ M 65 1 ∧ M 65 1 ≤ 6) ∧ (0 ≤ M 65 2 ∧ M 65 2 ≤ 9999) ∧ (0 ≤ M 65 3 ∧ M 65 3 ≤ 9000) ∧ (0 ≤ M 65 40 ∧ M 65 40 ≤ 5) ∧ (0 ≤ M 65 61 ∧ M 65 61 ≤ 6) ∧ (0 ≤ M 65 80 ∧ M 65 80 ≤ 6) ∧ (0 ≤ M 65 111 ∧ M 65 111 ≤ 8) ∧ (∀ f : Int, 0 ≤ f → f < M 65 0 → (0 ≤ M 65 (4 + f) ∧ M 65 (4 + f) ≤ 5) ∧ (1 ≤ M 65 (7 + f) ∧ M 65 (7 + f) ≤ 10)) ∧ (∀ i : Int, 0 ≤ i → i < M 65 1 → (0 ≤ M 65 (10 + i) ∧ M 65 (10 + i) ≤ 5) ∧ (1 ≤ M 65 (16 + i) ∧ M 65 (16 + i) ≤ 4) ∧ (0 ≤ M 65 (22 + i) ∧ M 65 (22 + i) < M 65 0) ∧ (0 ≤ M 65 (28 + i) ∧ M 65 (28 + i) ≤ 11) ∧ (0 ≤ M 65 (34 + i) ∧ M 65 (34 + i) ≤ 9)) from hI)
  refine Hx.run 2 (pc' := 2) (L' := [some (vr 64), some (vi f), some (vi t), some (vi x), none]) (st' := [vi f, vr 64]) (M' := M) rfl ?_
  refine Hx.call (t := 138) (as := [vr 64, vi f]) (pc' := 5) (rest := []) rfl (r_isFlight f M (by omega)) ?_
  rintro _ _ (⟨q54, rfl, rfl⟩ | ⟨q54, rfl, rfl⟩)
  · skip
    have fq54 := rF f q54.1 q54.2
    refine Hx.run 2 (pc' := 9) (L' := [some (vr 64), some (vi f), some (vi t), some (vi x), none]) (st' := [vi t]) (M' := M) rfl ?_
    refine Hx.call (t := 139) (as := [vi t]) (pc' := 12) (rest := []) rfl (r_isHour t M) ?_
    rintro _ _ (⟨q55, rfl, rfl⟩ | ⟨q55, rfl, rfl⟩)
    · skip
      refine Hx.run 5 (pc' := 21) (L' := [some (vr 64), some (vi f), some (vi t), some (vi x), none]) (st' := [vl 9, vl 0, vl x]) (M' := M) rfl ?_
      refine Hx.call (t := 130) (as := [vl x, vl 0, vl 9]) (pc' := 24) (rest := []) rfl (r_in x 0 9 M) ?_
      rintro _ _ (⟨q56, rfl, rfl⟩ | ⟨q56, rfl, rfl⟩)
      · skip
        refine Hx.run 6 (pc' := 43) (L' := [some (vr 64), some (vi f), some (vi t), some (vi x), none]) (st' := [vi 6, vi (M 65 61)]) (M' := M) rfl ?_
        refine Hx.br (c := (M 65 61) = 6) (t := 46) (f := 51) rfl (fun h1 => ?_) (fun h1 => ?_)
        · skip
          refine Hx.run 1 (pc' := 47) (L' := [some (vr 64), some (vi f), some (vi t), some (vi x), none]) (st' := [vr 64]) (M' := M) rfl ?_
          refine Hx.call (t := 134) (as := [vr 64]) (pc' := 50) (rest := []) rfl (r_full  M (by omega)) ?_
          rintro _ _ ⟨rfl, rfl⟩
          refine Hx.run 0 (pc' := 50) (L' := [some (vr 64), some (vi f), some (vi t), some (vi x), none]) (st' := [vi (-4)]) (M' := (up M 68 2 ((M 68 2) + 1))) rfl ?_
          refine Hx.ret rfl ?_
          exact Or.inl ⟨q54, q55, q56, h1, rfl, rfl⟩
        · skip
          refine Hx.run 6 (pc' := 61) (L' := [some (vr 64), some (vi f), some (vi t), some (vi x), none]) (st' := [vi (M 65 61), vi 3, vi 62]) (M' := M) rfl ?_
          refine Hx.mul rfl (by omega) ?_
          refine Hx.add rfl (by omega) ?_
          refine Hx.run 5 (pc' := 72) (L' := [some (vr 64), some (vi f), some (vi t), some (vi x), some (vi (62 + (3 * (M 65 61))))]) (st' := [vi f, vi (62 + (3 * (M 65 61))), vr 65]) (M' := M) rfl ?_
          refine Hx.astI (n := 1032) rfl rfl (by omega) ?_
          refine Hx.run 4 (pc' := 80) (L' := [some (vr 64), some (vi f), some (vi t), some (vi x), some (vi (62 + (3 * (M 65 61))))]) (st' := [vi 1, vi (62 + (3 * (M 65 61))), vr 65]) (M' := (up M 65 (62 + (3 * (M 65 61))) f)) rfl ?_
          refine Hx.add rfl (by omega) ?_
          refine Hx.run 1 (pc' := 82) (L' := [some (vr 64), some (vi f), some (vi t), some (vi x), some (vi (62 + (3 * (M 65 61))))]) (st' := [vi t, vi ((62 + (3 * (M 65 61))) + 1), vr 65]) (M' := (up M 65 (62 + (3 * (M 65 61))) f)) rfl ?_
          refine Hx.astI (n := 1032) rfl rfl (by omega) ?_
          refine Hx.run 4 (pc' := 90) (L' := [some (vr 64), some (vi f), some (vi t), some (vi x), some (vi (62 + (3 * (M 65 61))))]) (st' := [vi 2, vi (62 + (3 * (M 65 61))), vr 65]) (M' := (up (up M 65 (62 + (3 * (M 65 61))) f) 65 ((62 + (3 * (M 65 61))) + 1) t)) rfl ?_
          refine Hx.add rfl (by omega) ?_
          refine Hx.run 1 (pc' := 92) (L' := [some (vr 64), some (vi f), some (vi t), some (vi x), some (vi (62 + (3 * (M 65 61))))]) (st' := [vi x, vi ((62 + (3 * (M 65 61))) + 2), vr 65]) (M' := (up (up M 65 (62 + (3 * (M 65 61))) f) 65 ((62 + (3 * (M 65 61))) + 1) t)) rfl ?_
          refine Hx.astI (n := 1032) rfl rfl (by omega) ?_
          refine Hx.run 4 (pc' := 100) (L' := [some (vr 64), some (vi f), some (vi t), some (vi x), some (vi (62 + (3 * (M 65 61))))]) (st' := [vi 61, vr 65, vi 61, vr 65]) (M' := (up (up (up M 65 (62 + (3 * (M 65 61))) f) 65 ((62 + (3 * (M 65 61))) + 1) t) 65 ((62 + (3 * (M 65 61))) + 2) x)) rfl ?_
          refine Hx.aldI (n := 1032) rfl rfl (by omega) ?_
          refine Hx.eqS (st' := [vi (M 65 61), vi 61, vr 65]) (by rw [show ((up (up (up M 65 (62 + (3 * (M 65 61))) f) 65 ((62 + (3 * (M 65 61))) + 1) t) 65 ((62 + (3 * (M 65 61))) + 2) x) 65 61) = (M 65 61) from by rw [up_off (by omega), up_off (by omega), up_off (by omega)]]) ?_
          refine Hx.run 1 (pc' := 102) (L' := [some (vr 64), some (vi f), some (vi t), some (vi x), some (vi (62 + (3 * (M 65 61))))]) (st' := [vi 1, vi (M 65 61), vi 61, vr 65]) (M' := (up (up (up M 65 (62 + (3 * (M 65 61))) f) 65 ((62 + (3 * (M 65 61))) + 1) t) 65 ((62 + (3 * (M 65 61))) + 2) x)) rfl ?_
          refine Hx.add rfl (by omega) ?_
          refine Hx.astI (n := 1032) rfl rfl (by omega) ?_
          refine Hx.run 4 (pc' := 111) (L' := [some (vr 64), some (vi f), some (vi t), some (vi x), some (vi (62 + (3 * (M 65 61))))]) (st' := [vi ((M 65 61) + 1)]) (M' := (up (up (up (up M 65 (62 + (3 * (M 65 61))) f) 65 ((62 + (3 * (M 65 61))) + 1) t) 65 ((62 + (3 * (M 65 61))) + 2) x) 65 61 ((M 65 61) + 1))) rfl ?_
          refine Hx.ret rfl ?_
          exact Or.inr (Or.inl ⟨q54, q55, q56, h1, rfl, rfl⟩)
      · skip
        refine Hx.run 3 (pc' := 30) (L' := [some (vr 64), some (vi f), some (vi t), some (vi x), none]) (st' := [vi (-2), vr 64]) (M' := M) rfl ?_
        refine Hx.call (t := 132) (as := [vr 64, vi (-2)]) (pc' := 33) (rest := []) rfl (r_bad (-2) M (by omega)) ?_
        rintro _ _ ⟨rfl, rfl⟩
        refine Hx.run 0 (pc' := 33) (L' := [some (vr 64), some (vi f), some (vi t), some (vi x), none]) (st' := [vi (-2)]) (M' := (up M 68 0 ((M 68 0) + 1))) rfl ?_
        refine Hx.ret rfl ?_
        exact Or.inr (Or.inr (Or.inl ⟨q54, q55, q56, rfl, rfl⟩))
    · skip
      refine Hx.run 3 (pc' := 30) (L' := [some (vr 64), some (vi f), some (vi t), some (vi x), none]) (st' := [vi (-2), vr 64]) (M' := M) rfl ?_
      refine Hx.call (t := 132) (as := [vr 64, vi (-2)]) (pc' := 33) (rest := []) rfl (r_bad (-2) M (by omega)) ?_
      rintro _ _ ⟨rfl, rfl⟩
      refine Hx.run 0 (pc' := 33) (L' := [some (vr 64), some (vi f), some (vi t), some (vi x), none]) (st' := [vi (-2)]) (M' := (up M 68 0 ((M 68 0) + 1))) rfl ?_
      refine Hx.ret rfl ?_
      exact Or.inr (Or.inr (Or.inr (Or.inl ⟨q54, q55, rfl, rfl⟩)))
  · skip
    refine Hx.run 3 (pc' := 30) (L' := [some (vr 64), some (vi f), some (vi t), some (vi x), none]) (st' := [vi (-2), vr 64]) (M' := M) rfl ?_
    refine Hx.call (t := 132) (as := [vr 64, vi (-2)]) (pc' := 33) (rest := []) rfl (r_bad (-2) M (by omega)) ?_
    rintro _ _ ⟨rfl, rfl⟩
    refine Hx.run 0 (pc' := 33) (L' := [some (vr 64), some (vi f), some (vi t), some (vi x), none]) (st' := [vi (-2)]) (M' := (up M 68 0 ((M 68 0) + 1))) rfl ?_
    refine Hx.ret rfl ?_
    exact Or.inr (Or.inr (Or.inr (Or.inr (⟨q54, rfl, rfl⟩))))
set_option maxRecDepth 100000 in
theorem R_mark (i : Int) (lg : Int) (x : Int) (t : Int) (yy : Int) (M : Mm) (hI : RI M 0) (hs : (0 ≤ M 68 0 ∧ M 68 0 ≤ 600) ∧ (0 ≤ M 68 1 ∧ M 68 1 ≤ 600) ∧ (0 ≤ M 68 2 ∧ M 68 2 ≤ 600)) : Ct 198 [vr 64, vi i, vi lg, vi x, vi t, vi yy] M (fun q0 M' => ((0 ≤ i ∧ i < (M 65 1)) ∧ (1 ≤ lg ∧ lg ≤ 4) ∧ (0 ≤ x ∧ x ≤ 9) ∧ (0 ≤ t ∧ t < 24) ∧ (0 ≤ yy ∧ yy ≤ 9) ∧ ((M 65 80) = 6) ∧ q0 = some (vi (-4)) ∧ (up M 68 2 ((M 68 2) + 1)) = M') ∨ ((0 ≤ i ∧ i < (M 65 1)) ∧ (1 ≤ lg ∧ lg ≤ 4) ∧ (0 ≤ x ∧ x ≤ 9) ∧ (0 ≤ t ∧ t < 24) ∧ (0 ≤ yy ∧ yy ≤ 9) ∧ (¬ ((M 65 80) = 6)) ∧ q0 = some (vi ((M 65 80) + 1)) ∧ (up (up (up (up (up (up M 65 (81 + (5 * (M 65 80))) i) 65 ((81 + (5 * (M 65 80))) + 1) lg) 65 ((81 + (5 * (M 65 80))) + 2) x) 65 ((81 + (5 * (M 65 80))) + 3) t) 65 ((81 + (5 * (M 65 80))) + 4) yy) 65 80 ((M 65 80) + 1)) = M') ∨ ((0 ≤ i ∧ i < (M 65 1)) ∧ (1 ≤ lg ∧ lg ≤ 4) ∧ (0 ≤ x ∧ x ≤ 9) ∧ (0 ≤ t ∧ t < 24) ∧ (¬ (0 ≤ yy ∧ yy ≤ 9)) ∧ q0 = some (vi (-2)) ∧ (up M 68 0 ((M 68 0) + 1)) = M') ∨ ((0 ≤ i ∧ i < (M 65 1)) ∧ (1 ≤ lg ∧ lg ≤ 4) ∧ (0 ≤ x ∧ x ≤ 9) ∧ (¬ (0 ≤ t ∧ t < 24)) ∧ q0 = some (vi (-2)) ∧ (up M 68 0 ((M 68 0) + 1)) = M') ∨ ((0 ≤ i ∧ i < (M 65 1)) ∧ (1 ≤ lg ∧ lg ≤ 4) ∧ (¬ (0 ≤ x ∧ x ≤ 9)) ∧ q0 = some (vi (-2)) ∧ (up M 68 0 ((M 68 0) + 1)) = M') ∨ ((0 ≤ i ∧ i < (M 65 1)) ∧ (¬ (1 ≤ lg ∧ lg ≤ 4)) ∧ q0 = some (vi (-2)) ∧ (up M 68 0 ((M 68 0) + 1)) = M') ∨ ((¬ (0 ≤ i ∧ i < (M 65 1))) ∧ q0 = some (vi (-2)) ∧ (up M 68 0 ((M 68 0) + 1)) = M')) := by
  obtain ⟨r0, r1, r2, r3, r40, r61, r80, r111, rF, rG⟩ := (show (0 ≤ M 65 0 ∧ M 65 0 ≤ 3) ∧ (0 ≤ M 65 1 ∧ M 65 1 ≤ 6) ∧ (0 ≤ M 65 2 ∧ M 65 2 ≤ 9999) ∧ (0 ≤ M 65 3 ∧ M 65 3 ≤ 9000) ∧ (0 ≤ M 65 40 ∧ M 65 40 ≤ 5) ∧ (0 ≤ M 65 61 ∧ M 65 61 ≤ 6) ∧ (0 ≤ M 65 80 ∧ M 65 80 ≤ 6) ∧ (0 ≤ M 65 111 ∧ M 65 111 ≤ 8) ∧ (∀ f : Int, 0 ≤ f → f < M 65 0 → (0 ≤ M 65 (4 + f) ∧ M 65 (4 + f) ≤ 5) ∧ (1 ≤ M 65 (7 + f) ∧ M 65 (7 + f) ≤ 10)) ∧ (∀ i : Int, 0 ≤ i → i < M 65 1 → (0 ≤ M 65 (10 + i) ∧ M 65 (10 + i) ≤ 5) ∧ (1 ≤ M 65 (16 + i) ∧ M 65 (16 + i) ≤ 4) ∧ (0 ≤ M 65 (22 + i) ∧ M 65 (22 + i) < M 65 0) ∧ (0 ≤ M 65 (28 + i) ∧ M 65 (28 + i) ≤ 11) ∧ (0 ≤ M 65 (34 + i) ∧ M 65 (34 + i) ≤ 9)) from hI)
  refine Hx.run 2 (pc' := 2) (L' := [some (vr 64), some (vi i), some (vi lg), some (vi x), some (vi t), some (vi yy), none]) (st' := [vi i, vr 64]) (M' := M) rfl ?_
  refine Hx.call (t := 137) (as := [vr 64, vi i]) (pc' := 5) (rest := []) rfl (r_isGoer i M (by omega)) ?_
  rintro _ _ (⟨q57, rfl, rfl⟩ | ⟨q57, rfl, rfl⟩)
  · skip
    have gq57 := rG i q57.1 q57.2
    have fq57 := rF (M 65 (22 + i)) (by omega) (by omega)
    refine Hx.run 5 (pc' := 14) (L' := [some (vr 64), some (vi i), some (vi lg), some (vi x), some (vi t), some (vi yy), none]) (st' := [vl 4, vl 1, vl lg]) (M' := M) rfl ?_
    refine Hx.call (t := 130) (as := [vl lg, vl 1, vl 4]) (pc' := 17) (rest := []) rfl (r_in lg 1 4 M) ?_
    rintro _ _ (⟨q58, rfl, rfl⟩ | ⟨q58, rfl, rfl⟩)
    · skip
      refine Hx.run 5 (pc' := 26) (L' := [some (vr 64), some (vi i), some (vi lg), some (vi x), some (vi t), some (vi yy), none]) (st' := [vl 9, vl 0, vl x]) (M' := M) rfl ?_
      refine Hx.call (t := 130) (as := [vl x, vl 0, vl 9]) (pc' := 29) (rest := []) rfl (r_in x 0 9 M) ?_
      rintro _ _ (⟨q59, rfl, rfl⟩ | ⟨q59, rfl, rfl⟩)
      · skip
        refine Hx.run 2 (pc' := 34) (L' := [some (vr 64), some (vi i), some (vi lg), some (vi x), some (vi t), some (vi yy), none]) (st' := [vi t]) (M' := M) rfl ?_
        refine Hx.call (t := 139) (as := [vi t]) (pc' := 37) (rest := []) rfl (r_isHour t M) ?_
        rintro _ _ (⟨q60, rfl, rfl⟩ | ⟨q60, rfl, rfl⟩)
        · skip
          refine Hx.run 5 (pc' := 47) (L' := [some (vr 64), some (vi i), some (vi lg), some (vi x), some (vi t), some (vi yy), none]) (st' := [vl 9, vl 0, vl yy]) (M' := M) rfl ?_
          refine Hx.call (t := 130) (as := [vl yy, vl 0, vl 9]) (pc' := 50) (rest := []) rfl (r_in yy 0 9 M) ?_
          rintro _ _ (⟨q61, rfl, rfl⟩ | ⟨q61, rfl, rfl⟩)
          · skip
            refine Hx.run 6 (pc' := 69) (L' := [some (vr 64), some (vi i), some (vi lg), some (vi x), some (vi t), some (vi yy), none]) (st' := [vi 6, vi (M 65 80)]) (M' := M) rfl ?_
            refine Hx.br (c := (M 65 80) = 6) (t := 72) (f := 77) rfl (fun h1 => ?_) (fun h1 => ?_)
            · skip
              refine Hx.run 1 (pc' := 73) (L' := [some (vr 64), some (vi i), some (vi lg), some (vi x), some (vi t), some (vi yy), none]) (st' := [vr 64]) (M' := M) rfl ?_
              refine Hx.call (t := 134) (as := [vr 64]) (pc' := 76) (rest := []) rfl (r_full  M (by omega)) ?_
              rintro _ _ ⟨rfl, rfl⟩
              refine Hx.run 0 (pc' := 76) (L' := [some (vr 64), some (vi i), some (vi lg), some (vi x), some (vi t), some (vi yy), none]) (st' := [vi (-4)]) (M' := (up M 68 2 ((M 68 2) + 1))) rfl ?_
              refine Hx.ret rfl ?_
              exact Or.inl ⟨q57, q58, q59, q60, q61, h1, rfl, rfl⟩
            · skip
              refine Hx.run 6 (pc' := 87) (L' := [some (vr 64), some (vi i), some (vi lg), some (vi x), some (vi t), some (vi yy), none]) (st' := [vi (M 65 80), vi 5, vi 81]) (M' := M) rfl ?_
              refine Hx.mul rfl (by omega) ?_
              refine Hx.add rfl (by omega) ?_
              refine Hx.run 5 (pc' := 98) (L' := [some (vr 64), some (vi i), some (vi lg), some (vi x), some (vi t), some (vi yy), some (vi (81 + (5 * (M 65 80))))]) (st' := [vi i, vi (81 + (5 * (M 65 80))), vr 65]) (M' := M) rfl ?_
              refine Hx.astI (n := 1032) rfl rfl (by omega) ?_
              refine Hx.run 4 (pc' := 106) (L' := [some (vr 64), some (vi i), some (vi lg), some (vi x), some (vi t), some (vi yy), some (vi (81 + (5 * (M 65 80))))]) (st' := [vi 1, vi (81 + (5 * (M 65 80))), vr 65]) (M' := (up M 65 (81 + (5 * (M 65 80))) i)) rfl ?_
              refine Hx.add rfl (by omega) ?_
              refine Hx.run 1 (pc' := 108) (L' := [some (vr 64), some (vi i), some (vi lg), some (vi x), some (vi t), some (vi yy), some (vi (81 + (5 * (M 65 80))))]) (st' := [vi lg, vi ((81 + (5 * (M 65 80))) + 1), vr 65]) (M' := (up M 65 (81 + (5 * (M 65 80))) i)) rfl ?_
              refine Hx.astI (n := 1032) rfl rfl (by omega) ?_
              refine Hx.run 4 (pc' := 116) (L' := [some (vr 64), some (vi i), some (vi lg), some (vi x), some (vi t), some (vi yy), some (vi (81 + (5 * (M 65 80))))]) (st' := [vi 2, vi (81 + (5 * (M 65 80))), vr 65]) (M' := (up (up M 65 (81 + (5 * (M 65 80))) i) 65 ((81 + (5 * (M 65 80))) + 1) lg)) rfl ?_
              refine Hx.add rfl (by omega) ?_
              refine Hx.run 1 (pc' := 118) (L' := [some (vr 64), some (vi i), some (vi lg), some (vi x), some (vi t), some (vi yy), some (vi (81 + (5 * (M 65 80))))]) (st' := [vi x, vi ((81 + (5 * (M 65 80))) + 2), vr 65]) (M' := (up (up M 65 (81 + (5 * (M 65 80))) i) 65 ((81 + (5 * (M 65 80))) + 1) lg)) rfl ?_
              refine Hx.astI (n := 1032) rfl rfl (by omega) ?_
              refine Hx.run 4 (pc' := 126) (L' := [some (vr 64), some (vi i), some (vi lg), some (vi x), some (vi t), some (vi yy), some (vi (81 + (5 * (M 65 80))))]) (st' := [vi 3, vi (81 + (5 * (M 65 80))), vr 65]) (M' := (up (up (up M 65 (81 + (5 * (M 65 80))) i) 65 ((81 + (5 * (M 65 80))) + 1) lg) 65 ((81 + (5 * (M 65 80))) + 2) x)) rfl ?_
              refine Hx.add rfl (by omega) ?_
              refine Hx.run 1 (pc' := 129) (L' := [some (vr 64), some (vi i), some (vi lg), some (vi x), some (vi t), some (vi yy), some (vi (81 + (5 * (M 65 80))))]) (st' := [vi t, vi ((81 + (5 * (M 65 80))) + 3), vr 65]) (M' := (up (up (up M 65 (81 + (5 * (M 65 80))) i) 65 ((81 + (5 * (M 65 80))) + 1) lg) 65 ((81 + (5 * (M 65 80))) + 2) x)) rfl ?_
              refine Hx.astI (n := 1032) rfl rfl (by omega) ?_
              refine Hx.run 4 (pc' := 137) (L' := [some (vr 64), some (vi i), some (vi lg), some (vi x), some (vi t), some (vi yy), some (vi (81 + (5 * (M 65 80))))]) (st' := [vi 4, vi (81 + (5 * (M 65 80))), vr 65]) (M' := (up (up (up (up M 65 (81 + (5 * (M 65 80))) i) 65 ((81 + (5 * (M 65 80))) + 1) lg) 65 ((81 + (5 * (M 65 80))) + 2) x) 65 ((81 + (5 * (M 65 80))) + 3) t)) rfl ?_
              refine Hx.add rfl (by omega) ?_
              refine Hx.run 1 (pc' := 140) (L' := [some (vr 64), some (vi i), some (vi lg), some (vi x), some (vi t), some (vi yy), some (vi (81 + (5 * (M 65 80))))]) (st' := [vi yy, vi ((81 + (5 * (M 65 80))) + 4), vr 65]) (M' := (up (up (up (up M 65 (81 + (5 * (M 65 80))) i) 65 ((81 + (5 * (M 65 80))) + 1) lg) 65 ((81 + (5 * (M 65 80))) + 2) x) 65 ((81 + (5 * (M 65 80))) + 3) t)) rfl ?_
              refine Hx.astI (n := 1032) rfl rfl (by omega) ?_
              refine Hx.run 4 (pc' := 148) (L' := [some (vr 64), some (vi i), some (vi lg), some (vi x), some (vi t), some (vi yy), some (vi (81 + (5 * (M 65 80))))]) (st' := [vi 80, vr 65, vi 80, vr 65]) (M' := (up (up (up (up (up M 65 (81 + (5 * (M 65 80))) i) 65 ((81 + (5 * (M 65 80))) + 1) lg) 65 ((81 + (5 * (M 65 80))) + 2) x) 65 ((81 + (5 * (M 65 80))) + 3) t) 65 ((81 + (5 * (M 65 80))) + 4) yy)) rfl ?_
              refine Hx.aldI (n := 1032) rfl rfl (by omega) ?_
              refine Hx.eqS (st' := [vi (M 65 80), vi 80, vr 65]) (by rw [show ((up (up (up (up (up M 65 (81 + (5 * (M 65 80))) i) 65 ((81 + (5 * (M 65 80))) + 1) lg) 65 ((81 + (5 * (M 65 80))) + 2) x) 65 ((81 + (5 * (M 65 80))) + 3) t) 65 ((81 + (5 * (M 65 80))) + 4) yy) 65 80) = (M 65 80) from by rw [up_off (by omega), up_off (by omega), up_off (by omega), up_off (by omega), up_off (by omega)]]) ?_
              refine Hx.run 1 (pc' := 150) (L' := [some (vr 64), some (vi i), some (vi lg), some (vi x), some (vi t), some (vi yy), some (vi (81 + (5 * (M 65 80))))]) (st' := [vi 1, vi (M 65 80), vi 80, vr 65]) (M' := (up (up (up (up (up M 65 (81 + (5 * (M 65 80))) i) 65 ((81 + (5 * (M 65 80))) + 1) lg) 65 ((81 + (5 * (M 65 80))) + 2) x) 65 ((81 + (5 * (M 65 80))) + 3) t) 65 ((81 + (5 * (M 65 80))) + 4) yy)) rfl ?_
              refine Hx.add rfl (by omega) ?_
              refine Hx.astI (n := 1032) rfl rfl (by omega) ?_
              refine Hx.run 4 (pc' := 159) (L' := [some (vr 64), some (vi i), some (vi lg), some (vi x), some (vi t), some (vi yy), some (vi (81 + (5 * (M 65 80))))]) (st' := [vi ((M 65 80) + 1)]) (M' := (up (up (up (up (up (up M 65 (81 + (5 * (M 65 80))) i) 65 ((81 + (5 * (M 65 80))) + 1) lg) 65 ((81 + (5 * (M 65 80))) + 2) x) 65 ((81 + (5 * (M 65 80))) + 3) t) 65 ((81 + (5 * (M 65 80))) + 4) yy) 65 80 ((M 65 80) + 1))) rfl ?_
              refine Hx.ret rfl ?_
              exact Or.inr (Or.inl ⟨q57, q58, q59, q60, q61, h1, rfl, rfl⟩)
          · skip
            refine Hx.run 3 (pc' := 56) (L' := [some (vr 64), some (vi i), some (vi lg), some (vi x), some (vi t), some (vi yy), none]) (st' := [vi (-2), vr 64]) (M' := M) rfl ?_
            refine Hx.call (t := 132) (as := [vr 64, vi (-2)]) (pc' := 59) (rest := []) rfl (r_bad (-2) M (by omega)) ?_
            rintro _ _ ⟨rfl, rfl⟩
            refine Hx.run 0 (pc' := 59) (L' := [some (vr 64), some (vi i), some (vi lg), some (vi x), some (vi t), some (vi yy), none]) (st' := [vi (-2)]) (M' := (up M 68 0 ((M 68 0) + 1))) rfl ?_
            refine Hx.ret rfl ?_
            exact Or.inr (Or.inr (Or.inl ⟨q57, q58, q59, q60, q61, rfl, rfl⟩))
        · skip
          refine Hx.run 3 (pc' := 56) (L' := [some (vr 64), some (vi i), some (vi lg), some (vi x), some (vi t), some (vi yy), none]) (st' := [vi (-2), vr 64]) (M' := M) rfl ?_
          refine Hx.call (t := 132) (as := [vr 64, vi (-2)]) (pc' := 59) (rest := []) rfl (r_bad (-2) M (by omega)) ?_
          rintro _ _ ⟨rfl, rfl⟩
          refine Hx.run 0 (pc' := 59) (L' := [some (vr 64), some (vi i), some (vi lg), some (vi x), some (vi t), some (vi yy), none]) (st' := [vi (-2)]) (M' := (up M 68 0 ((M 68 0) + 1))) rfl ?_
          refine Hx.ret rfl ?_
          exact Or.inr (Or.inr (Or.inr (Or.inl ⟨q57, q58, q59, q60, rfl, rfl⟩)))
      · skip
        refine Hx.run 3 (pc' := 56) (L' := [some (vr 64), some (vi i), some (vi lg), some (vi x), some (vi t), some (vi yy), none]) (st' := [vi (-2), vr 64]) (M' := M) rfl ?_
        refine Hx.call (t := 132) (as := [vr 64, vi (-2)]) (pc' := 59) (rest := []) rfl (r_bad (-2) M (by omega)) ?_
        rintro _ _ ⟨rfl, rfl⟩
        refine Hx.run 0 (pc' := 59) (L' := [some (vr 64), some (vi i), some (vi lg), some (vi x), some (vi t), some (vi yy), none]) (st' := [vi (-2)]) (M' := (up M 68 0 ((M 68 0) + 1))) rfl ?_
        refine Hx.ret rfl ?_
        exact Or.inr (Or.inr (Or.inr (Or.inr (Or.inl ⟨q57, q58, q59, rfl, rfl⟩))))
    · skip
      refine Hx.run 3 (pc' := 56) (L' := [some (vr 64), some (vi i), some (vi lg), some (vi x), some (vi t), some (vi yy), none]) (st' := [vi (-2), vr 64]) (M' := M) rfl ?_
      refine Hx.call (t := 132) (as := [vr 64, vi (-2)]) (pc' := 59) (rest := []) rfl (r_bad (-2) M (by omega)) ?_
      rintro _ _ ⟨rfl, rfl⟩
      refine Hx.run 0 (pc' := 59) (L' := [some (vr 64), some (vi i), some (vi lg), some (vi x), some (vi t), some (vi yy), none]) (st' := [vi (-2)]) (M' := (up M 68 0 ((M 68 0) + 1))) rfl ?_
      refine Hx.ret rfl ?_
      exact Or.inr (Or.inr (Or.inr (Or.inr (Or.inr (Or.inl ⟨q57, q58, rfl, rfl⟩)))))
  · skip
    refine Hx.run 3 (pc' := 56) (L' := [some (vr 64), some (vi i), some (vi lg), some (vi x), some (vi t), some (vi yy), none]) (st' := [vi (-2), vr 64]) (M' := M) rfl ?_
    refine Hx.call (t := 132) (as := [vr 64, vi (-2)]) (pc' := 59) (rest := []) rfl (r_bad (-2) M (by omega)) ?_
    rintro _ _ ⟨rfl, rfl⟩
    refine Hx.run 0 (pc' := 59) (L' := [some (vr 64), some (vi i), some (vi lg), some (vi x), some (vi t), some (vi yy), none]) (st' := [vi (-2)]) (M' := (up M 68 0 ((M 68 0) + 1))) rfl ?_
    refine Hx.ret rfl ?_
    exact Or.inr (Or.inr (Or.inr (Or.inr (Or.inr (Or.inr (⟨q57, rfl, rfl⟩))))))
set_option maxRecDepth 100000 in
theorem R_forget (w : Int) (M : Mm) (hI : RI M 0) (hs : (0 ≤ M 68 0 ∧ M 68 0 ≤ 600) ∧ (0 ≤ M 68 1 ∧ M 68 1 ≤ 600) ∧ (0 ≤ M 68 2 ∧ M 68 2 ≤ 600)) : Ct 199 [vr 64, vi w] M (fun q0 M' => ((0 ≤ w ∧ w ≤ 2) ∧ (w = 0) ∧ q0 = some (vi (M 65 40)) ∧ (up M 65 40 0) = M') ∨ ((0 ≤ w ∧ w ≤ 2) ∧ (¬ (w = 0)) ∧ (w = 1) ∧ q0 = some (vi (M 65 61)) ∧ (up M 65 61 0) = M') ∨ ((0 ≤ w ∧ w ≤ 2) ∧ (¬ (w = 0)) ∧ (¬ (w = 1)) ∧ q0 = some (vi (M 65 80)) ∧ (up M 65 80 0) = M') ∨ ((¬ (0 ≤ w ∧ w ≤ 2)) ∧ q0 = some (vi (-2)) ∧ (up M 68 0 ((M 68 0) + 1)) = M')) := by
  obtain ⟨r0, r1, r2, r3, r40, r61, r80, r111, rF, rG⟩ := (show (0 ≤ M 65 0 ∧ M 65 0 ≤ 3) ∧ (0 ≤ M 65 1 ∧ M 65 1 ≤ 6) ∧ (0 ≤ M 65 2 ∧ M 65 2 ≤ 9999) ∧ (0 ≤ M 65 3 ∧ M 65 3 ≤ 9000) ∧ (0 ≤ M 65 40 ∧ M 65 40 ≤ 5) ∧ (0 ≤ M 65 61 ∧ M 65 61 ≤ 6) ∧ (0 ≤ M 65 80 ∧ M 65 80 ≤ 6) ∧ (0 ≤ M 65 111 ∧ M 65 111 ≤ 8) ∧ (∀ f : Int, 0 ≤ f → f < M 65 0 → (0 ≤ M 65 (4 + f) ∧ M 65 (4 + f) ≤ 5) ∧ (1 ≤ M 65 (7 + f) ∧ M 65 (7 + f) ≤ 10)) ∧ (∀ i : Int, 0 ≤ i → i < M 65 1 → (0 ≤ M 65 (10 + i) ∧ M 65 (10 + i) ≤ 5) ∧ (1 ≤ M 65 (16 + i) ∧ M 65 (16 + i) ≤ 4) ∧ (0 ≤ M 65 (22 + i) ∧ M 65 (22 + i) < M 65 0) ∧ (0 ≤ M 65 (28 + i) ∧ M 65 (28 + i) ≤ 11) ∧ (0 ≤ M 65 (34 + i) ∧ M 65 (34 + i) ≤ 9)) from hI)
  refine Hx.run 4 (pc' := 6) (L' := [some (vr 64), some (vi w), none, none]) (st' := [vl 2, vl 0, vl w]) (M' := M) rfl ?_
  refine Hx.call (t := 130) (as := [vl w, vl 0, vl 2]) (pc' := 9) (rest := []) rfl (r_in w 0 2 M) ?_
  rintro _ _ (⟨q62, rfl, rfl⟩ | ⟨q62, rfl, rfl⟩)
  · skip
    refine Hx.run 2 (pc' := 20) (L' := [some (vr 64), some (vi w), none, none]) (st' := [vi w]) (M' := M) rfl ?_
    refine Hx.br (c := w = 0) (t := 23) (f := 28) rfl (fun h1 => ?_) (fun h1 => ?_)
    · skip
      refine Hx.run 12 (pc' := 54) (L' := [some (vr 64), some (vi w), some (vi 40), some (vi (M 65 40))]) (st' := [vi 0, vi 40, vr 65]) (M' := M) rfl ?_
      refine Hx.astI (n := 1032) rfl rfl (by omega) ?_
      refine Hx.run 1 (pc' := 56) (L' := [some (vr 64), some (vi w), some (vi 40), some (vi (M 65 40))]) (st' := [vi (M 65 40)]) (M' := (up M 65 40 0)) rfl ?_
      refine Hx.ret rfl ?_
      exact Or.inl ⟨q62, h1, rfl, rfl⟩
    · skip
      refine Hx.run 2 (pc' := 30) (L' := [some (vr 64), some (vi w), none, none]) (st' := [vi 1, vi w]) (M' := M) rfl ?_
      refine Hx.br (c := w = 1) (t := 33) (f := 38) rfl (fun h2 => ?_) (fun h2 => ?_)
      · skip
        refine Hx.run 12 (pc' := 54) (L' := [some (vr 64), some (vi w), some (vi 61), some (vi (M 65 61))]) (st' := [vi 0, vi 61, vr 65]) (M' := M) rfl ?_
        refine Hx.astI (n := 1032) rfl rfl (by omega) ?_
        refine Hx.run 1 (pc' := 56) (L' := [some (vr 64), some (vi w), some (vi 61), some (vi (M 65 61))]) (st' := [vi (M 65 61)]) (M' := (up M 65 61 0)) rfl ?_
        refine Hx.ret rfl ?_
        exact Or.inr (Or.inl ⟨q62, h1, h2, rfl, rfl⟩)
      · skip
        refine Hx.run 11 (pc' := 54) (L' := [some (vr 64), some (vi w), some (vi 80), some (vi (M 65 80))]) (st' := [vi 0, vi 80, vr 65]) (M' := M) rfl ?_
        refine Hx.astI (n := 1032) rfl rfl (by omega) ?_
        refine Hx.run 1 (pc' := 56) (L' := [some (vr 64), some (vi w), some (vi 80), some (vi (M 65 80))]) (st' := [vi (M 65 80)]) (M' := (up M 65 80 0)) rfl ?_
        refine Hx.ret rfl ?_
        exact Or.inr (Or.inr (Or.inl ⟨q62, h1, h2, rfl, rfl⟩))
  · skip
    refine Hx.run 3 (pc' := 15) (L' := [some (vr 64), some (vi w), none, none]) (st' := [vi (-2), vr 64]) (M' := M) rfl ?_
    refine Hx.call (t := 132) (as := [vr 64, vi (-2)]) (pc' := 18) (rest := []) rfl (r_bad (-2) M (by omega)) ?_
    rintro _ _ ⟨rfl, rfl⟩
    refine Hx.run 0 (pc' := 18) (L' := [some (vr 64), some (vi w), none, none]) (st' := [vi (-2)]) (M' := (up M 68 0 ((M 68 0) + 1))) rfl ?_
    refine Hx.ret rfl ?_
    exact Or.inr (Or.inr (Or.inr (⟨q62, rfl, rfl⟩)))
set_option maxRecDepth 100000 in
theorem R_part (w : Int) (M : Mm) (hI : RI M 0) (hs : (0 ≤ M 68 0 ∧ M 68 0 ≤ 600) ∧ (0 ≤ M 68 1 ∧ M 68 1 ≤ 600) ∧ (0 ≤ M 68 2 ∧ M 68 2 ≤ 600)) : Ct 213 [vr 64, vi w] M (fun q0 M' => ((w = 0) ∧ q0 = some (vl (M 64 4)) ∧ M = M') ∨ ((¬ (w = 0)) ∧ (w = 1) ∧ q0 = some (vl (M 64 5)) ∧ M = M') ∨ ((¬ (w = 0)) ∧ (¬ (w = 1)) ∧ q0 = some (vl (-2)) ∧ (up M 68 0 ((M 68 0) + 1)) = M')) := by
  obtain ⟨r0, r1, r2, r3, r40, r61, r80, r111, rF, rG⟩ := (show (0 ≤ M 65 0 ∧ M 65 0 ≤ 3) ∧ (0 ≤ M 65 1 ∧ M 65 1 ≤ 6) ∧ (0 ≤ M 65 2 ∧ M 65 2 ≤ 9999) ∧ (0 ≤ M 65 3 ∧ M 65 3 ≤ 9000) ∧ (0 ≤ M 65 40 ∧ M 65 40 ≤ 5) ∧ (0 ≤ M 65 61 ∧ M 65 61 ≤ 6) ∧ (0 ≤ M 65 80 ∧ M 65 80 ≤ 6) ∧ (0 ≤ M 65 111 ∧ M 65 111 ≤ 8) ∧ (∀ f : Int, 0 ≤ f → f < M 65 0 → (0 ≤ M 65 (4 + f) ∧ M 65 (4 + f) ≤ 5) ∧ (1 ≤ M 65 (7 + f) ∧ M 65 (7 + f) ≤ 10)) ∧ (∀ i : Int, 0 ≤ i → i < M 65 1 → (0 ≤ M 65 (10 + i) ∧ M 65 (10 + i) ≤ 5) ∧ (1 ≤ M 65 (16 + i) ∧ M 65 (16 + i) ≤ 4) ∧ (0 ≤ M 65 (22 + i) ∧ M 65 (22 + i) < M 65 0) ∧ (0 ≤ M 65 (28 + i) ∧ M 65 (28 + i) ≤ 11) ∧ (0 ≤ M 65 (34 + i) ∧ M 65 (34 + i) ≤ 9)) from hI)
  refine Hx.run 1 (pc' := 1) (L' := [some (vr 64), some (vi w)]) (st' := [vi w]) (M' := M) rfl ?_
  refine Hx.br (c := w = 0) (t := 4) (f := 11) rfl (fun h1 => ?_) (fun h1 => ?_)
  · skip
    refine Hx.run 3 (pc' := 30) (L' := [some (vr 64), some (vi w)]) (st' := [vl (M 64 4)]) (M' := M) rfl ?_
    refine Hx.ret rfl ?_
    exact Or.inl ⟨h1, rfl, rfl⟩
  · skip
    refine Hx.run 2 (pc' := 13) (L' := [some (vr 64), some (vi w)]) (st' := [vi 1, vi w]) (M' := M) rfl ?_
    refine Hx.br (c := w = 1) (t := 16) (f := 23) rfl (fun h2 => ?_) (fun h2 => ?_)
    · skip
      refine Hx.run 3 (pc' := 30) (L' := [some (vr 64), some (vi w)]) (st' := [vl (M 64 5)]) (M' := M) rfl ?_
      refine Hx.ret rfl ?_
      exact Or.inr (Or.inl ⟨h1, h2, rfl, rfl⟩)
    · skip
      refine Hx.run 2 (pc' := 26) (L' := [some (vr 64), some (vi w)]) (st' := [vi (-2), vr 64]) (M' := M) rfl ?_
      refine Hx.call (t := 132) (as := [vr 64, vi (-2)]) (pc' := 29) (rest := []) rfl (r_bad (-2) M (by omega)) ?_
      rintro _ _ ⟨rfl, rfl⟩
      refine Hx.run 0 (pc' := 29) (L' := [some (vr 64), some (vi w)]) (st' := [vi (-2)]) (M' := (up M 68 0 ((M 68 0) + 1))) rfl ?_
      refine Hx.run 1 (pc' := 30) (L' := [some (vr 64), some (vi w)]) (st' := [vl (-2)]) (M' := (up M 68 0 ((M 68 0) + 1))) rfl ?_
      refine Hx.ret rfl ?_
      exact Or.inr (Or.inr (⟨h1, h2, rfl, rfl⟩))
set_option maxRecDepth 100000 in
theorem R_image (i : Int) (M : Mm) (hI : RI M 0) (hs : (0 ≤ M 68 0 ∧ M 68 0 ≤ 600) ∧ (0 ≤ M 68 1 ∧ M 68 1 ≤ 600) ∧ (0 ≤ M 68 2 ∧ M 68 2 ≤ 600)) : Ct 214 [vr 64, vi i] M (fun q0 M' => ((0 ≤ i ∧ i ≤ 1) ∧ q0 = some (vi 1) ∧ (up (cpW M 0 (248 + (248 * i)) 248) 66 i 1) = M') ∨ ((¬ (0 ≤ i ∧ i ≤ 1)) ∧ q0 = some (vi (-2)) ∧ (up M 68 0 ((M 68 0) + 1)) = M')) := by
  obtain ⟨r0, r1, r2, r3, r40, r61, r80, r111, rF, rG⟩ := (show (0 ≤ M 65 0 ∧ M 65 0 ≤ 3) ∧ (0 ≤ M 65 1 ∧ M 65 1 ≤ 6) ∧ (0 ≤ M 65 2 ∧ M 65 2 ≤ 9999) ∧ (0 ≤ M 65 3 ∧ M 65 3 ≤ 9000) ∧ (0 ≤ M 65 40 ∧ M 65 40 ≤ 5) ∧ (0 ≤ M 65 61 ∧ M 65 61 ≤ 6) ∧ (0 ≤ M 65 80 ∧ M 65 80 ≤ 6) ∧ (0 ≤ M 65 111 ∧ M 65 111 ≤ 8) ∧ (∀ f : Int, 0 ≤ f → f < M 65 0 → (0 ≤ M 65 (4 + f) ∧ M 65 (4 + f) ≤ 5) ∧ (1 ≤ M 65 (7 + f) ∧ M 65 (7 + f) ≤ 10)) ∧ (∀ i : Int, 0 ≤ i → i < M 65 1 → (0 ≤ M 65 (10 + i) ∧ M 65 (10 + i) ≤ 5) ∧ (1 ≤ M 65 (16 + i) ∧ M 65 (16 + i) ≤ 4) ∧ (0 ≤ M 65 (22 + i) ∧ M 65 (22 + i) < M 65 0) ∧ (0 ≤ M 65 (28 + i) ∧ M 65 (28 + i) ≤ 11) ∧ (0 ≤ M 65 (34 + i) ∧ M 65 (34 + i) ≤ 9)) from hI)
  refine Hx.run 4 (pc' := 4) (L' := [some (vr 64), some (vi i)]) (st' := [vl 1, vl 0, vl i]) (M' := M) rfl ?_
  refine Hx.call (t := 130) (as := [vl i, vl 0, vl 1]) (pc' := 7) (rest := []) rfl (r_in i 0 1 M) ?_
  rintro _ _ (⟨q63, rfl, rfl⟩ | ⟨q63, rfl, rfl⟩)
  · skip
    refine Hx.run 6 (pc' := 26) (L' := [some (vr 64), some (vi i)]) (st' := [vi i, vi 248, vi 248, vi 0, vr 64]) (M' := M) rfl ?_
    refine Hx.mul rfl (by omega) ?_
    refine Hx.add rfl (by omega) ?_
    refine Hx.call (t := 135) (as := [vr 64, vi 0, vi (248 + (248 * i))]) (pc' := 31) (rest := []) rfl (r_copy 0 (248 + (248 * i)) M (by omega) (by omega) (by omega)) ?_
    rintro _ _ ⟨rfl, rfl⟩
    refine Hx.run 0 (pc' := 31) (L' := [some (vr 64), some (vi i)]) (st' := []) (M' := (cpW M 0 (248 + (248 * i)) 248)) rfl ?_
    refine Hx.run 4 (pc' := 37) (L' := [some (vr 64), some (vi i)]) (st' := [vi 1, vi i, vr 66]) (M' := (cpW M 0 (248 + (248 * i)) 248)) rfl ?_
    refine Hx.astZ (n := 2) rfl rfl (by omega) ?_
    refine Hx.run 1 (pc' := 39) (L' := [some (vr 64), some (vi i)]) (st' := [vi 1]) (M' := (up (cpW M 0 (248 + (248 * i)) 248) 66 i 1)) rfl ?_
    refine Hx.ret rfl ?_
    exact Or.inl ⟨q63, rfl, rfl⟩
  · skip
    refine Hx.run 3 (pc' := 13) (L' := [some (vr 64), some (vi i)]) (st' := [vi (-2), vr 64]) (M' := M) rfl ?_
    refine Hx.call (t := 132) (as := [vr 64, vi (-2)]) (pc' := 16) (rest := []) rfl (r_bad (-2) M (by omega)) ?_
    rintro _ _ ⟨rfl, rfl⟩
    refine Hx.run 0 (pc' := 16) (L' := [some (vr 64), some (vi i)]) (st' := [vi (-2)]) (M' := (up M 68 0 ((M 68 0) + 1))) rfl ?_
    refine Hx.ret rfl ?_
    exact Or.inr (⟨q63, rfl, rfl⟩)
set_option maxRecDepth 100000 in
theorem R_from (i : Int) (M : Mm) (hI : RI M 0) (hs : (0 ≤ M 68 0 ∧ M 68 0 ≤ 600) ∧ (0 ≤ M 68 1 ∧ M 68 1 ≤ 600) ∧ (0 ≤ M 68 2 ∧ M 68 2 ≤ 600)) : Ct 215 [vr 64, vi i] M (fun q0 M' => ((0 ≤ i ∧ i ≤ 1) ∧ ((M 66 i) = 0) ∧ q0 = some (vi (-3)) ∧ (up M 68 1 ((M 68 1) + 1)) = M') ∨ ((0 ≤ i ∧ i ≤ 1) ∧ (¬ ((M 66 i) = 0)) ∧ q0 = some (vi 1) ∧ (cpW M (248 + (248 * i)) 0 248) = M') ∨ ((¬ (0 ≤ i ∧ i ≤ 1)) ∧ q0 = some (vi (-2)) ∧ (up M 68 0 ((M 68 0) + 1)) = M')) := by
  obtain ⟨r0, r1, r2, r3, r40, r61, r80, r111, rF, rG⟩ := (show (0 ≤ M 65 0 ∧ M 65 0 ≤ 3) ∧ (0 ≤ M 65 1 ∧ M 65 1 ≤ 6) ∧ (0 ≤ M 65 2 ∧ M 65 2 ≤ 9999) ∧ (0 ≤ M 65 3 ∧ M 65 3 ≤ 9000) ∧ (0 ≤ M 65 40 ∧ M 65 40 ≤ 5) ∧ (0 ≤ M 65 61 ∧ M 65 61 ≤ 6) ∧ (0 ≤ M 65 80 ∧ M 65 80 ≤ 6) ∧ (0 ≤ M 65 111 ∧ M 65 111 ≤ 8) ∧ (∀ f : Int, 0 ≤ f → f < M 65 0 → (0 ≤ M 65 (4 + f) ∧ M 65 (4 + f) ≤ 5) ∧ (1 ≤ M 65 (7 + f) ∧ M 65 (7 + f) ≤ 10)) ∧ (∀ i : Int, 0 ≤ i → i < M 65 1 → (0 ≤ M 65 (10 + i) ∧ M 65 (10 + i) ≤ 5) ∧ (1 ≤ M 65 (16 + i) ∧ M 65 (16 + i) ≤ 4) ∧ (0 ≤ M 65 (22 + i) ∧ M 65 (22 + i) < M 65 0) ∧ (0 ≤ M 65 (28 + i) ∧ M 65 (28 + i) ≤ 11) ∧ (0 ≤ M 65 (34 + i) ∧ M 65 (34 + i) ≤ 9)) from hI)
  refine Hx.run 4 (pc' := 4) (L' := [some (vr 64), some (vi i)]) (st' := [vl 1, vl 0, vl i]) (M' := M) rfl ?_
  refine Hx.call (t := 130) (as := [vl i, vl 0, vl 1]) (pc' := 7) (rest := []) rfl (r_in i 0 1 M) ?_
  rintro _ _ (⟨q64, rfl, rfl⟩ | ⟨q64, rfl, rfl⟩)
  · skip
    refine Hx.run 4 (pc' := 22) (L' := [some (vr 64), some (vi i)]) (st' := [vi i, vr 66]) (M' := M) rfl ?_
    refine Hx.aldZ (n := 2) rfl rfl (by omega) ?_
    refine Hx.br (c := (M 66 i) = 0) (t := 26) (f := 31) rfl (fun h1 => ?_) (fun h1 => ?_)
    · skip
      refine Hx.run 1 (pc' := 27) (L' := [some (vr 64), some (vi i)]) (st' := [vr 64]) (M' := M) rfl ?_
      refine Hx.call (t := 133) (as := [vr 64]) (pc' := 30) (rest := []) rfl (r_no  M (by omega)) ?_
      rintro _ _ ⟨rfl, rfl⟩
      refine Hx.run 0 (pc' := 30) (L' := [some (vr 64), some (vi i)]) (st' := [vi (-3)]) (M' := (up M 68 1 ((M 68 1) + 1))) rfl ?_
      refine Hx.ret rfl ?_
      exact Or.inl ⟨q64, h1, rfl, rfl⟩
    · skip
      refine Hx.run 4 (pc' := 39) (L' := [some (vr 64), some (vi i)]) (st' := [vi i, vi 248, vi 248, vr 64]) (M' := M) rfl ?_
      refine Hx.mul rfl (by omega) ?_
      refine Hx.add rfl (by omega) ?_
      refine Hx.run 1 (pc' := 42) (L' := [some (vr 64), some (vi i)]) (st' := [vi 0, vi (248 + (248 * i)), vr 64]) (M' := M) rfl ?_
      refine Hx.call (t := 135) (as := [vr 64, vi (248 + (248 * i)), vi 0]) (pc' := 45) (rest := []) rfl (r_copy (248 + (248 * i)) 0 M (by omega) (by omega) (by omega)) ?_
      rintro _ _ ⟨rfl, rfl⟩
      refine Hx.run 0 (pc' := 45) (L' := [some (vr 64), some (vi i)]) (st' := []) (M' := (cpW M (248 + (248 * i)) 0 248)) rfl ?_
      refine Hx.run 1 (pc' := 46) (L' := [some (vr 64), some (vi i)]) (st' := [vi 1]) (M' := (cpW M (248 + (248 * i)) 0 248)) rfl ?_
      refine Hx.ret rfl ?_
      exact Or.inr (Or.inl ⟨q64, h1, rfl, rfl⟩)
  · skip
    refine Hx.run 3 (pc' := 13) (L' := [some (vr 64), some (vi i)]) (st' := [vi (-2), vr 64]) (M' := M) rfl ?_
    refine Hx.call (t := 132) (as := [vr 64, vi (-2)]) (pc' := 16) (rest := []) rfl (r_bad (-2) M (by omega)) ?_
    rintro _ _ ⟨rfl, rfl⟩
    refine Hx.run 0 (pc' := 16) (L' := [some (vr 64), some (vi i)]) (st' := [vi (-2)]) (M' := (up M 68 0 ((M 68 0) + 1))) rfl ?_
    refine Hx.ret rfl ?_
    exact Or.inr (Or.inr (⟨q64, rfl, rfl⟩))
set_option maxRecDepth 100000 in
theorem R_status (w : Int) (M : Mm) (hI : RI M 0) (hs : (0 ≤ M 68 0 ∧ M 68 0 ≤ 600) ∧ (0 ≤ M 68 1 ∧ M 68 1 ≤ 600) ∧ (0 ≤ M 68 2 ∧ M 68 2 ≤ 600)) : Ct 216 [vr 64, vi w] M (fun q0 M' => ((0 ≤ w ∧ w ≤ 2) ∧ q0 = some (vi (M 68 w)) ∧ M = M') ∨ ((¬ (0 ≤ w ∧ w ≤ 2)) ∧ q0 = some (vi (-1)) ∧ (up M 68 0 ((M 68 0) + 1)) = M')) := by
  obtain ⟨r0, r1, r2, r3, r40, r61, r80, r111, rF, rG⟩ := (show (0 ≤ M 65 0 ∧ M 65 0 ≤ 3) ∧ (0 ≤ M 65 1 ∧ M 65 1 ≤ 6) ∧ (0 ≤ M 65 2 ∧ M 65 2 ≤ 9999) ∧ (0 ≤ M 65 3 ∧ M 65 3 ≤ 9000) ∧ (0 ≤ M 65 40 ∧ M 65 40 ≤ 5) ∧ (0 ≤ M 65 61 ∧ M 65 61 ≤ 6) ∧ (0 ≤ M 65 80 ∧ M 65 80 ≤ 6) ∧ (0 ≤ M 65 111 ∧ M 65 111 ≤ 8) ∧ (∀ f : Int, 0 ≤ f → f < M 65 0 → (0 ≤ M 65 (4 + f) ∧ M 65 (4 + f) ≤ 5) ∧ (1 ≤ M 65 (7 + f) ∧ M 65 (7 + f) ≤ 10)) ∧ (∀ i : Int, 0 ≤ i → i < M 65 1 → (0 ≤ M 65 (10 + i) ∧ M 65 (10 + i) ≤ 5) ∧ (1 ≤ M 65 (16 + i) ∧ M 65 (16 + i) ≤ 4) ∧ (0 ≤ M 65 (22 + i) ∧ M 65 (22 + i) < M 65 0) ∧ (0 ≤ M 65 (28 + i) ∧ M 65 (28 + i) ≤ 11) ∧ (0 ≤ M 65 (34 + i) ∧ M 65 (34 + i) ≤ 9)) from hI)
  refine Hx.run 4 (pc' := 6) (L' := [some (vr 64), some (vi w)]) (st' := [vl 2, vl 0, vl w]) (M' := M) rfl ?_
  refine Hx.call (t := 130) (as := [vl w, vl 0, vl 2]) (pc' := 9) (rest := []) rfl (r_in w 0 2 M) ?_
  rintro _ _ (⟨q65, rfl, rfl⟩ | ⟨q65, rfl, rfl⟩)
  · skip
    refine Hx.run 4 (pc' := 17) (L' := [some (vr 64), some (vi w)]) (st' := [vi w, vr 68]) (M' := M) rfl ?_
    refine Hx.aldI (n := 3) rfl rfl (by omega) ?_
    refine Hx.run 1 (pc' := 26) (L' := [some (vr 64), some (vi w)]) (st' := [vi (M 68 w)]) (M' := M) rfl ?_
    refine Hx.ret rfl ?_
    exact Or.inl ⟨q65, rfl, rfl⟩
  · skip
    refine Hx.run 3 (pc' := 23) (L' := [some (vr 64), some (vi w)]) (st' := [vi (-1), vr 64]) (M' := M) rfl ?_
    refine Hx.call (t := 132) (as := [vr 64, vi (-1)]) (pc' := 26) (rest := []) rfl (r_bad (-1) M (by omega)) ?_
    rintro _ _ ⟨rfl, rfl⟩
    refine Hx.run 0 (pc' := 26) (L' := [some (vr 64), some (vi w)]) (st' := [vi (-1)]) (M' := (up M 68 0 ((M 68 0) + 1))) rfl ?_
    refine Hx.ret rfl ?_
    exact Or.inr (⟨q65, rfl, rfl⟩)
set_option maxRecDepth 100000 in
theorem R_about (f : Int) (w : Int) (M : Mm) (hI : RI M 0) (hs : (0 ≤ M 68 0 ∧ M 68 0 ≤ 600) ∧ (0 ≤ M 68 1 ∧ M 68 1 ≤ 600) ∧ (0 ≤ M 68 2 ∧ M 68 2 ≤ 600)) : Ct 181 [vr 64, vi f, vi w] M (fun q0 M' => ((0 ≤ f ∧ f < (M 65 0)) ∧ (0 ≤ w ∧ w ≤ 2) ∧ (w = 0) ∧ q0 = some (vi (M 65 (4 + f))) ∧ M = M') ∨ ((0 ≤ f ∧ f < (M 65 0)) ∧ (0 ≤ w ∧ w ≤ 2) ∧ (¬ (w = 0)) ∧ (w = 1) ∧ q0 = some (vi (M 65 (7 + f))) ∧ M = M') ∨ ((0 ≤ f ∧ f < (M 65 0)) ∧ (0 ≤ w ∧ w ≤ 2) ∧ (¬ (w = 0)) ∧ (¬ (w = 1)) ∧ q0 = some (vi (bb (M 65 (7 + f)) (bcF (M 65 (4 + f)) ((M 65 2) % 24)))) ∧ M = M') ∨ ((0 ≤ f ∧ f < (M 65 0)) ∧ (¬ (0 ≤ w ∧ w ≤ 2)) ∧ q0 = some (vi (-2)) ∧ (up M 68 0 ((M 68 0) + 1)) = M') ∨ ((¬ (0 ≤ f ∧ f < (M 65 0))) ∧ q0 = some (vi (-2)) ∧ (up M 68 0 ((M 68 0) + 1)) = M')) := by
  obtain ⟨r0, r1, r2, r3, r40, r61, r80, r111, rF, rG⟩ := (show (0 ≤ M 65 0 ∧ M 65 0 ≤ 3) ∧ (0 ≤ M 65 1 ∧ M 65 1 ≤ 6) ∧ (0 ≤ M 65 2 ∧ M 65 2 ≤ 9999) ∧ (0 ≤ M 65 3 ∧ M 65 3 ≤ 9000) ∧ (0 ≤ M 65 40 ∧ M 65 40 ≤ 5) ∧ (0 ≤ M 65 61 ∧ M 65 61 ≤ 6) ∧ (0 ≤ M 65 80 ∧ M 65 80 ≤ 6) ∧ (0 ≤ M 65 111 ∧ M 65 111 ≤ 8) ∧ (∀ f : Int, 0 ≤ f → f < M 65 0 → (0 ≤ M 65 (4 + f) ∧ M 65 (4 + f) ≤ 5) ∧ (1 ≤ M 65 (7 + f) ∧ M 65 (7 + f) ≤ 10)) ∧ (∀ i : Int, 0 ≤ i → i < M 65 1 → (0 ≤ M 65 (10 + i) ∧ M 65 (10 + i) ≤ 5) ∧ (1 ≤ M 65 (16 + i) ∧ M 65 (16 + i) ≤ 4) ∧ (0 ≤ M 65 (22 + i) ∧ M 65 (22 + i) < M 65 0) ∧ (0 ≤ M 65 (28 + i) ∧ M 65 (28 + i) ≤ 11) ∧ (0 ≤ M 65 (34 + i) ∧ M 65 (34 + i) ≤ 9)) from hI)
  refine Hx.run 2 (pc' := 2) (L' := [some (vr 64), some (vi f), some (vi w)]) (st' := [vi f, vr 64]) (M' := M) rfl ?_
  refine Hx.call (t := 138) (as := [vr 64, vi f]) (pc' := 5) (rest := []) rfl (r_isFlight f M (by omega)) ?_
  rintro _ _ (⟨q66, rfl, rfl⟩ | ⟨q66, rfl, rfl⟩)
  · skip
    have fq66 := rF f q66.1 q66.2
    refine Hx.run 5 (pc' := 14) (L' := [some (vr 64), some (vi f), some (vi w)]) (st' := [vl 2, vl 0, vl w]) (M' := M) rfl ?_
    refine Hx.call (t := 130) (as := [vl w, vl 0, vl 2]) (pc' := 17) (rest := []) rfl (r_in w 0 2 M) ?_
    rintro _ _ (⟨q67, rfl, rfl⟩ | ⟨q67, rfl, rfl⟩)
    · skip
      refine Hx.run 2 (pc' := 28) (L' := [some (vr 64), some (vi f), some (vi w)]) (st' := [vi w]) (M' := M) rfl ?_
      refine Hx.br (c := w = 0) (t := 31) (f := 42) rfl (fun h1 => ?_) (fun h1 => ?_)
      · skip
        refine Hx.run 4 (pc' := 37) (L' := [some (vr 64), some (vi f), some (vi w)]) (st' := [vi f, vi 4, vr 65]) (M' := M) rfl ?_
        refine Hx.add rfl (by omega) ?_
        refine Hx.aldI (n := 1032) rfl rfl (by omega) ?_
        refine Hx.run 1 (pc' := 65) (L' := [some (vr 64), some (vi f), some (vi w)]) (st' := [vi (M 65 (4 + f))]) (M' := M) rfl ?_
        refine Hx.ret rfl ?_
        exact Or.inl ⟨q66, q67, h1, rfl, rfl⟩
      · skip
        refine Hx.run 2 (pc' := 44) (L' := [some (vr 64), some (vi f), some (vi w)]) (st' := [vi 1, vi w]) (M' := M) rfl ?_
        refine Hx.br (c := w = 1) (t := 47) (f := 59) rfl (fun h2 => ?_) (fun h2 => ?_)
        · skip
          refine Hx.run 4 (pc' := 54) (L' := [some (vr 64), some (vi f), some (vi w)]) (st' := [vi f, vi 7, vr 65]) (M' := M) rfl ?_
          refine Hx.add rfl (by omega) ?_
          refine Hx.aldI (n := 1032) rfl rfl (by omega) ?_
          refine Hx.run 1 (pc' := 65) (L' := [some (vr 64), some (vi f), some (vi w)]) (st' := [vi (M 65 (7 + f))]) (M' := M) rfl ?_
          refine Hx.ret rfl ?_
          exact Or.inr (Or.inl ⟨q66, q67, h1, h2, rfl, rfl⟩)
        · skip
          refine Hx.run 3 (pc' := 62) (L' := [some (vr 64), some (vi f), some (vi w)]) (st' := [vi f, vi 0, vr 64]) (M' := M) rfl ?_
          refine Hx.call (t := 146) (as := [vr 64, vi 0, vi f]) (pc' := 65) (rest := []) rfl (r_bars_0 f M (by omega) (by omega)) ?_
          rintro _ _ ⟨rfl, rfl⟩
          refine Hx.run 0 (pc' := 65) (L' := [some (vr 64), some (vi f), some (vi w)]) (st' := [vi (bb (M 65 (7 + f)) (bcF (M 65 (4 + f)) ((M 65 2) % 24)))]) (M' := M) rfl ?_
          refine Hx.ret rfl ?_
          exact Or.inr (Or.inr (Or.inl ⟨q66, q67, h1, h2, rfl, rfl⟩))
    · skip
      refine Hx.run 3 (pc' := 23) (L' := [some (vr 64), some (vi f), some (vi w)]) (st' := [vi (-2), vr 64]) (M' := M) rfl ?_
      refine Hx.call (t := 132) (as := [vr 64, vi (-2)]) (pc' := 26) (rest := []) rfl (r_bad (-2) M (by omega)) ?_
      rintro _ _ ⟨rfl, rfl⟩
      refine Hx.run 0 (pc' := 26) (L' := [some (vr 64), some (vi f), some (vi w)]) (st' := [vi (-2)]) (M' := (up M 68 0 ((M 68 0) + 1))) rfl ?_
      refine Hx.ret rfl ?_
      exact Or.inr (Or.inr (Or.inr (Or.inl ⟨q66, q67, rfl, rfl⟩)))
  · skip
    refine Hx.run 3 (pc' := 23) (L' := [some (vr 64), some (vi f), some (vi w)]) (st' := [vi (-2), vr 64]) (M' := M) rfl ?_
    refine Hx.call (t := 132) (as := [vr 64, vi (-2)]) (pc' := 26) (rest := []) rfl (r_bad (-2) M (by omega)) ?_
    rintro _ _ ⟨rfl, rfl⟩
    refine Hx.run 0 (pc' := 26) (L' := [some (vr 64), some (vi f), some (vi w)]) (st' := [vi (-2)]) (M' := (up M 68 0 ((M 68 0) + 1))) rfl ?_
    refine Hx.ret rfl ?_
    exact Or.inr (Or.inr (Or.inr (Or.inr (⟨q66, rfl, rfl⟩))))
