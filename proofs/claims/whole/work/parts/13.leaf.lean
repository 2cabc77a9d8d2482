/-! the class: its small members (written by wip/whole/gen13.py) -/
theorem Hx.add0 {y pc : Nat} {L : Lc} {st : List PV} {M : Mm} {P : Option PV → Mm → Prop} {b : Int} (hf : fetch y pc = some (.iadd, 1)) (h : -2147483648 ≤ b ∧ b < 2147483648) (k : Hx y (pc + 1) L (vi b :: st) M P) : Hx y pc L (vi b :: vi 0 :: st) M P := by
  refine Hx.add hf (by omega) ?_
  rw [Int.zero_add]; exact k
theorem Hx.alenI {y pc r n : Nat} {L : Lc} {st : List PV} {M : Mm} {P : Option PV → Mm → Prop} {b : Bool} (hf : fetch y pc = some (.arraylength, 1)) (hs : shp r = .inl (n, b)) (hr : r < 73) (k : Hx y (pc + 1) L (vi (n : Int) :: st) M P) : Hx y pc L (vr r :: st) M P := by
  refine Hx.go (pc' := pc + 1) (L' := L) (st' := vi (n : Int) :: st) (M' := M) ?_ k
  unfold step
  rw [hf]
  simp only [stepI, alen]
  rw [hs]
  have h : Nat.blt r 73 = true := Nat.ble_eq_true_of_le hr
  simp only [h, cond_true]; rfl
set_option maxRecDepth 100000 in
theorem c_isKind (k : Int) (M : Mm) : Ct 117 [vi k] M (fun q0 M' => ((0 ≤ k ∧ k < 6) ∧ q0 = some (vi 1) ∧ M = M') ∨ (¬ (0 ≤ k ∧ k < 6) ∧ q0 = some (vi 0) ∧ M = M')) := by
  refine Hx.run 1 (pc' := 1) (L' := [some (vi k)]) (st' := [vi k]) (M' := M) rfl ?_
  refine Hx.br (c := k < 0) (t := 14) (f := 4) rfl (fun h1 => ?_) (fun h1 => ?_)
  · skip
    refine Hx.run 1 (pc' := 15) (L' := [some (vi k)]) (st' := [vi 0]) (M' := M) rfl ?_
    refine Hx.ret rfl ?_
    first | exact Or.inl ⟨by omega, rfl, rfl⟩ | exact Or.inr ⟨by omega, rfl, rfl⟩
  · skip
    refine Hx.run 2 (pc' := 7) (L' := [some (vi k)]) (st' := [vi 6, vi k]) (M' := M) rfl ?_
    refine Hx.br (c := k < 6) (t := 10) (f := 14) rfl (fun h2 => ?_) (fun h2 => ?_)
    · skip
      refine Hx.run 2 (pc' := 15) (L' := [some (vi k)]) (st' := [vi 1]) (M' := M) rfl ?_
      refine Hx.ret rfl ?_
      first | exact Or.inl ⟨by omega, rfl, rfl⟩ | exact Or.inr ⟨by omega, rfl, rfl⟩
    · skip
      refine Hx.run 1 (pc' := 15) (L' := [some (vi k)]) (st' := [vi 0]) (M' := M) rfl ?_
      refine Hx.ret rfl ?_
      first | exact Or.inl ⟨by omega, rfl, rfl⟩ | exact Or.inr ⟨by omega, rfl, rfl⟩
set_option maxRecDepth 100000 in
theorem c_isOwnable (k : Int) (M : Mm) : Ct 118 [vi k] M (fun q0 M' => ((1 ≤ k ∧ k ≤ 10) ∧ q0 = some (vi 1) ∧ M = M') ∨ (¬ (1 ≤ k ∧ k ≤ 10) ∧ q0 = some (vi 0) ∧ M = M')) := by
  refine Hx.run 2 (pc' := 2) (L' := [some (vi k)]) (st' := [vi 1, vi k]) (M' := M) rfl ?_
  refine Hx.br (c := k < 1) (t := 15) (f := 5) rfl (fun h1 => ?_) (fun h1 => ?_)
  · skip
    refine Hx.run 1 (pc' := 16) (L' := [some (vi k)]) (st' := [vi 0]) (M' := M) rfl ?_
    refine Hx.ret rfl ?_
    first | exact Or.inl ⟨by omega, rfl, rfl⟩ | exact Or.inr ⟨by omega, rfl, rfl⟩
  · skip
    refine Hx.run 2 (pc' := 8) (L' := [some (vi k)]) (st' := [vi 10, vi k]) (M' := M) rfl ?_
    refine Hx.br (c := 10 < k) (t := 15) (f := 11) rfl (fun h2 => ?_) (fun h2 => ?_)
    · skip
      refine Hx.run 1 (pc' := 16) (L' := [some (vi k)]) (st' := [vi 0]) (M' := M) rfl ?_
      refine Hx.ret rfl ?_
      first | exact Or.inl ⟨by omega, rfl, rfl⟩ | exact Or.inr ⟨by omega, rfl, rfl⟩
    · skip
      refine Hx.run 2 (pc' := 16) (L' := [some (vi k)]) (st' := [vi 1]) (M' := M) rfl ?_
      refine Hx.ret rfl ?_
      first | exact Or.inl ⟨by omega, rfl, rfl⟩ | exact Or.inr ⟨by omega, rfl, rfl⟩
set_option maxRecDepth 100000 in
theorem c_isLoad (k : Int) (M : Mm) : Ct 119 [vi k] M (fun q0 M' => ((0 ≤ k ∧ k ≤ 9) ∧ q0 = some (vi 1) ∧ M = M') ∨ (¬ (0 ≤ k ∧ k ≤ 9) ∧ q0 = some (vi 0) ∧ M = M')) := by
  refine Hx.run 1 (pc' := 1) (L' := [some (vi k)]) (st' := [vi k]) (M' := M) rfl ?_
  refine Hx.br (c := k < 0) (t := 14) (f := 4) rfl (fun h1 => ?_) (fun h1 => ?_)
  · skip
    refine Hx.run 1 (pc' := 15) (L' := [some (vi k)]) (st' := [vi 0]) (M' := M) rfl ?_
    refine Hx.ret rfl ?_
    first | exact Or.inl ⟨by omega, rfl, rfl⟩ | exact Or.inr ⟨by omega, rfl, rfl⟩
  · skip
    refine Hx.run 2 (pc' := 7) (L' := [some (vi k)]) (st' := [vi 9, vi k]) (M' := M) rfl ?_
    refine Hx.br (c := 9 < k) (t := 14) (f := 10) rfl (fun h2 => ?_) (fun h2 => ?_)
    · skip
      refine Hx.run 1 (pc' := 15) (L' := [some (vi k)]) (st' := [vi 0]) (M' := M) rfl ?_
      refine Hx.ret rfl ?_
      first | exact Or.inl ⟨by omega, rfl, rfl⟩ | exact Or.inr ⟨by omega, rfl, rfl⟩
    · skip
      refine Hx.run 2 (pc' := 15) (L' := [some (vi k)]) (st' := [vi 1]) (M' := M) rfl ?_
      refine Hx.ret rfl ?_
      first | exact Or.inl ⟨by omega, rfl, rfl⟩ | exact Or.inr ⟨by omega, rfl, rfl⟩
set_option maxRecDepth 100000 in
theorem c_isHour (k : Int) (M : Mm) : Ct 120 [vi k] M (fun q0 M' => ((0 ≤ k ∧ k < 24) ∧ q0 = some (vi 1) ∧ M = M') ∨ (¬ (0 ≤ k ∧ k < 24) ∧ q0 = some (vi 0) ∧ M = M')) := by
  refine Hx.run 1 (pc' := 1) (L' := [some (vi k)]) (st' := [vi k]) (M' := M) rfl ?_
  refine Hx.br (c := k < 0) (t := 14) (f := 4) rfl (fun h1 => ?_) (fun h1 => ?_)
  · skip
    refine Hx.run 1 (pc' := 15) (L' := [some (vi k)]) (st' := [vi 0]) (M' := M) rfl ?_
    refine Hx.ret rfl ?_
    first | exact Or.inl ⟨by omega, rfl, rfl⟩ | exact Or.inr ⟨by omega, rfl, rfl⟩
  · skip
    refine Hx.run 2 (pc' := 7) (L' := [some (vi k)]) (st' := [vi 24, vi k]) (M' := M) rfl ?_
    refine Hx.br (c := k < 24) (t := 10) (f := 14) rfl (fun h2 => ?_) (fun h2 => ?_)
    · skip
      refine Hx.run 2 (pc' := 15) (L' := [some (vi k)]) (st' := [vi 1]) (M' := M) rfl ?_
      refine Hx.ret rfl ?_
      first | exact Or.inl ⟨by omega, rfl, rfl⟩ | exact Or.inr ⟨by omega, rfl, rfl⟩
    · skip
      refine Hx.run 1 (pc' := 15) (L' := [some (vi k)]) (st' := [vi 0]) (M' := M) rfl ?_
      refine Hx.ret rfl ?_
      first | exact Or.inl ⟨by omega, rfl, rfl⟩ | exact Or.inr ⟨by omega, rfl, rfl⟩
set_option maxRecDepth 100000 in
theorem c_at {r n : Nat} (hs : shp r = .inl (n, false)) (hr : r < 73) {i : Int} (h : 0 ≤ i ∧ i < (n : Int)) (M : Mm) : Ct 121 [vr r, vi i] M (fun q0 M' => q0 = some (vi (M r i)) ∧ M = M') := by
  refine Hx.run 1 (pc' := 1) (L' := [some (vr r), some (vi i)]) (st' := [vi i]) (M' := M) rfl ?_
  refine Hx.br (c := i < 0) (t := 16) (f := 4) rfl (fun h1 => ?_) (fun h1 => ?_)
  · skip
    refine Hx.run 1 (pc' := 17) (L' := [some (vr r), some (vi i)]) (st' := [vi 0]) (M' := M) rfl ?_
    refine Hx.ret rfl ?_
    first | exact ⟨rfl, rfl⟩ | (exfalso; omega)
  · skip
    refine Hx.run 2 (pc' := 6) (L' := [some (vr r), some (vi i)]) (st' := [vr r, vi i]) (M' := M) rfl ?_
    refine Hx.alenI (n := n) rfl hs hr ?_
    refine Hx.br (c := i < (n : Int)) (t := 10) (f := 16) rfl (fun h2 => ?_) (fun h2 => ?_)
    · skip
      refine Hx.run 2 (pc' := 12) (L' := [some (vr r), some (vi i)]) (st' := [vi i, vr r]) (M' := M) rfl ?_
      refine Hx.aldI (n := n) rfl hs (by omega) ?_
      refine Hx.run 1 (pc' := 17) (L' := [some (vr r), some (vi i)]) (st' := [vi (M r i)]) (M' := M) rfl ?_
      refine Hx.ret rfl ?_
      first | exact ⟨rfl, rfl⟩ | (exfalso; omega)
    · skip
      refine Hx.run 1 (pc' := 17) (L' := [some (vr r), some (vi i)]) (st' := [vi 0]) (M' := M) rfl ?_
      refine Hx.ret rfl ?_
      first | exact ⟨rfl, rfl⟩ | (exfalso; omega)
set_option maxRecDepth 100000 in
theorem c_put {r n : Nat} (hs : shp r = .inl (n, false)) (hr : r < 73) {i : Int} (h : 0 ≤ i ∧ i < (n : Int)) (v : Int) (M : Mm) : Ct 122 [vr r, vi i, vi v] M (fun q0 M' => q0 = none ∧ up M r i v = M') := by
  refine Hx.run 1 (pc' := 1) (L' := [some (vr r), some (vi i), some (vi v)]) (st' := [vi i]) (M' := M) rfl ?_
  refine Hx.br (c := i < 0) (t := 14) (f := 4) rfl (fun h1 => ?_) (fun h1 => ?_)
  · skip
    refine Hx.ret rfl ?_
    first | exact ⟨rfl, rfl⟩ | (exfalso; omega)
  · skip
    refine Hx.run 2 (pc' := 6) (L' := [some (vr r), some (vi i), some (vi v)]) (st' := [vr r, vi i]) (M' := M) rfl ?_
    refine Hx.alenI (n := n) rfl hs hr ?_
    refine Hx.br (c := i < (n : Int)) (t := 10) (f := 14) rfl (fun h2 => ?_) (fun h2 => ?_)
    · skip
      refine Hx.run 3 (pc' := 13) (L' := [some (vr r), some (vi i), some (vi v)]) (st' := [vi v, vi i, vr r]) (M' := M) rfl ?_
      refine Hx.astI (n := n) rfl hs (by omega) ?_
      refine Hx.ret rfl ?_
      first | exact ⟨rfl, rfl⟩ | (exfalso; omega)
    · skip
      refine Hx.ret rfl ?_
      first | exact ⟨rfl, rfl⟩ | (exfalso; omega)
set_option maxRecDepth 100000 in
theorem c_bad (M : Mm) (h : 0 ≤ M 0 14 ∧ M 0 14 ≤ 1000) : Ct 114 [vr 0] M (fun q0 M' => q0 = some (vi (-2)) ∧ up M 0 14 (M 0 14 + 1) = M') := by
  refine Hx.run 4 (pc' := 6) (L' := [some (vr 0)]) (st' := [vi 1, vi (M 0 14), vr 0]) (M' := M) rfl ?_
  refine Hx.add rfl (by omega) ?_
  refine Hx.run 2 (pc' := 12) (L' := [some (vr 0)]) (st' := [vi (-2)]) (M' := (up M 0 14 ((M 0 14) + 1))) rfl ?_
  refine Hx.ret rfl ?_
  exact ⟨rfl, rfl⟩
set_option maxRecDepth 100000 in
theorem c_no (M : Mm) (h : 0 ≤ M 0 15 ∧ M 0 15 ≤ 1000) : Ct 115 [vr 0] M (fun q0 M' => q0 = some (vi (-3)) ∧ up M 0 15 (M 0 15 + 1) = M') := by
  refine Hx.run 4 (pc' := 6) (L' := [some (vr 0)]) (st' := [vi 1, vi (M 0 15), vr 0]) (M' := M) rfl ?_
  refine Hx.add rfl (by omega) ?_
  refine Hx.run 2 (pc' := 12) (L' := [some (vr 0)]) (st' := [vi (-3)]) (M' := (up M 0 15 ((M 0 15) + 1))) rfl ?_
  refine Hx.ret rfl ?_
  exact ⟨rfl, rfl⟩
set_option maxRecDepth 100000 in
theorem c_full (M : Mm) (h : 0 ≤ M 0 16 ∧ M 0 16 ≤ 1000) : Ct 116 [vr 0] M (fun q0 M' => q0 = some (vi (-4)) ∧ up M 0 16 (M 0 16 + 1) = M') := by
  refine Hx.run 4 (pc' := 6) (L' := [some (vr 0)]) (st' := [vi 1, vi (M 0 16), vr 0]) (M' := M) rfl ?_
  refine Hx.add rfl (by omega) ?_
  refine Hx.run 2 (pc' := 12) (L' := [some (vr 0)]) (st' := [vi (-4)]) (M' := (up M 0 16 ((M 0 16) + 1))) rfl ?_
  refine Hx.ret rfl ?_
  exact ⟨rfl, rfl⟩
set_option maxRecDepth 100000 in
theorem c_ownerKind_1 (x : Int) (hx : 0 ≤ x ∧ x < 3) (M : Mm) : Ct 13 [vr 1, vi x] M (fun q0 M' => q0 = some (vi (M 2 x)) ∧ M = M') := by
  refine Hx.run 3 (pc' := 5) (L' := [some (vr 1), some (vi x)]) (st' := [vi x, vr 2]) (M' := M) rfl ?_
  refine Hx.call (t := 121) (as := [vr 2, vi x]) (pc' := 8) (rest := []) rfl (c_at (r := 2) (n := 3) rfl (by decide) (i := x) (by omega) M) ?_
  rintro _ _ ⟨rfl, rfl⟩
  refine Hx.run 0 (pc' := 8) (L' := [some (vr 1), some (vi x)]) (st' := [vi (M 2 x)]) (M' := M) rfl ?_
  refine Hx.ret rfl ?_
  exact ⟨rfl, rfl⟩
set_option maxRecDepth 100000 in
theorem c_ownerStep_1 (x : Int) (hx : 0 ≤ x ∧ x < 3) (M : Mm) : Ct 14 [vr 1, vi x] M (fun q0 M' => q0 = some (vi (M 6 (12 + x))) ∧ M = M') := by
  refine Hx.run 4 (pc' := 7) (L' := [some (vr 1), some (vi x)]) (st' := [vi x, vi 12, vr 6]) (M' := M) rfl ?_
  refine Hx.add rfl (by omega) ?_
  refine Hx.call (t := 121) (as := [vr 6, vi (12 + x)]) (pc' := 11) (rest := []) rfl (c_at (r := 6) (n := 17) rfl (by decide) (i := (12 + x)) (by omega) M) ?_
  rintro _ _ ⟨rfl, rfl⟩
  refine Hx.run 0 (pc' := 11) (L' := [some (vr 1), some (vi x)]) (st' := [vi (M 6 (12 + x))]) (M' := M) rfl ?_
  refine Hx.ret rfl ?_
  exact ⟨rfl, rfl⟩
set_option maxRecDepth 100000 in
theorem c_legsOf_1 (x : Int) (hx : 0 ≤ x ∧ x < 6) (M : Mm) : Ct 16 [vr 1, vi x] M (fun q0 M' => q0 = some (vi (M 4 x)) ∧ M = M') := by
  refine Hx.run 3 (pc' := 5) (L' := [some (vr 1), some (vi x)]) (st' := [vi x, vr 4]) (M' := M) rfl ?_
  refine Hx.call (t := 121) (as := [vr 4, vi x]) (pc' := 8) (rest := []) rfl (c_at (r := 4) (n := 6) rfl (by decide) (i := x) (by omega) M) ?_
  rintro _ _ ⟨rfl, rfl⟩
  refine Hx.run 0 (pc' := 8) (L' := [some (vr 1), some (vi x)]) (st' := [vi (M 4 x)]) (M' := M) rfl ?_
  refine Hx.ret rfl ?_
  exact ⟨rfl, rfl⟩
set_option maxRecDepth 100000 in
theorem c_flightOf_1 (x : Int) (hx : 0 ≤ x ∧ x < 6) (M : Mm) : Ct 17 [vr 1, vi x] M (fun q0 M' => q0 = some (vi (M 5 x)) ∧ M = M') := by
  refine Hx.run 3 (pc' := 5) (L' := [some (vr 1), some (vi x)]) (st' := [vi x, vr 5]) (M' := M) rfl ?_
  refine Hx.call (t := 121) (as := [vr 5, vi x]) (pc' := 8) (rest := []) rfl (c_at (r := 5) (n := 6) rfl (by decide) (i := x) (by omega) M) ?_
  rintro _ _ ⟨rfl, rfl⟩
  refine Hx.run 0 (pc' := 8) (L' := [some (vr 1), some (vi x)]) (st' := [vi (M 5 x)]) (M' := M) rfl ?_
  refine Hx.ret rfl ?_
  exact ⟨rfl, rfl⟩
set_option maxRecDepth 100000 in
theorem c_stepOf_1 (x : Int) (hx : 0 ≤ x ∧ x < 6) (M : Mm) : Ct 18 [vr 1, vi x] M (fun q0 M' => q0 = some (vi (M 6 x)) ∧ M = M') := by
  refine Hx.run 4 (pc' := 6) (L' := [some (vr 1), some (vi x)]) (st' := [vi x, vi 0, vr 6]) (M' := M) rfl ?_
  refine Hx.add0 rfl (by omega) ?_
  refine Hx.call (t := 121) (as := [vr 6, vi x]) (pc' := 10) (rest := []) rfl (c_at (r := 6) (n := 17) rfl (by decide) (i := x) (by omega) M) ?_
  rintro _ _ ⟨rfl, rfl⟩
  refine Hx.run 0 (pc' := 10) (L' := [some (vr 1), some (vi x)]) (st' := [vi (M 6 x)]) (M' := M) rfl ?_
  refine Hx.ret rfl ?_
  exact ⟨rfl, rfl⟩
set_option maxRecDepth 100000 in
theorem c_loadOf_1 (x : Int) (hx : 0 ≤ x ∧ x < 6) (M : Mm) : Ct 20 [vr 1, vi x] M (fun q0 M' => q0 = some (vi (M 6 (6 + x))) ∧ M = M') := by
  refine Hx.run 4 (pc' := 7) (L' := [some (vr 1), some (vi x)]) (st' := [vi x, vi 6, vr 6]) (M' := M) rfl ?_
  refine Hx.add rfl (by omega) ?_
  refine Hx.call (t := 121) (as := [vr 6, vi (6 + x)]) (pc' := 11) (rest := []) rfl (c_at (r := 6) (n := 17) rfl (by decide) (i := (6 + x)) (by omega) M) ?_
  rintro _ _ ⟨rfl, rfl⟩
  refine Hx.run 0 (pc' := 11) (L' := [some (vr 1), some (vi x)]) (st' := [vi (M 6 (6 + x))]) (M' := M) rfl ?_
  refine Hx.ret rfl ?_
  exact ⟨rfl, rfl⟩
set_option maxRecDepth 100000 in
theorem c_falls_1 (M : Mm) : Ct 22 [vr 1] M (fun q0 M' => q0 = some (vi (M 6 15)) ∧ M = M') := by
  refine Hx.run 3 (pc' := 6) (L' := [some (vr 1)]) (st' := [vi 15, vr 6]) (M' := M) rfl ?_
  refine Hx.call (t := 121) (as := [vr 6, vi 15]) (pc' := 9) (rest := []) rfl (c_at (r := 6) (n := 17) rfl (by decide) (i := 15) (by omega) M) ?_
  rintro _ _ ⟨rfl, rfl⟩
  refine Hx.run 0 (pc' := 9) (L' := [some (vr 1)]) (st' := [vi (M 6 15)]) (M' := M) rfl ?_
  refine Hx.ret rfl ?_
  exact ⟨rfl, rfl⟩
set_option maxRecDepth 100000 in
theorem c_hour_1 (M : Mm) : Ct 23 [vr 1] M (fun q0 M' => q0 = some (vi (M 6 16)) ∧ M = M') := by
  refine Hx.run 3 (pc' := 6) (L' := [some (vr 1)]) (st' := [vi 16, vr 6]) (M' := M) rfl ?_
  refine Hx.call (t := 121) (as := [vr 6, vi 16]) (pc' := 9) (rest := []) rfl (c_at (r := 6) (n := 17) rfl (by decide) (i := 16) (by omega) M) ?_
  rintro _ _ ⟨rfl, rfl⟩
  refine Hx.run 0 (pc' := 9) (L' := [some (vr 1)]) (st' := [vi (M 6 16)]) (M' := M) rfl ?_
  refine Hx.ret rfl ?_
  exact ⟨rfl, rfl⟩
set_option maxRecDepth 100000 in
theorem c_ownerKind_40 (x : Int) (hx : 0 ≤ x ∧ x < 3) (M : Mm) : Ct 13 [vr 40, vi x] M (fun q0 M' => q0 = some (vi (M 41 x)) ∧ M = M') := by
  refine Hx.run 3 (pc' := 5) (L' := [some (vr 40), some (vi x)]) (st' := [vi x, vr 41]) (M' := M) rfl ?_
  refine Hx.call (t := 121) (as := [vr 41, vi x]) (pc' := 8) (rest := []) rfl (c_at (r := 41) (n := 3) rfl (by decide) (i := x) (by omega) M) ?_
  rintro _ _ ⟨rfl, rfl⟩
  refine Hx.run 0 (pc' := 8) (L' := [some (vr 40), some (vi x)]) (st' := [vi (M 41 x)]) (M' := M) rfl ?_
  refine Hx.ret rfl ?_
  exact ⟨rfl, rfl⟩
set_option maxRecDepth 100000 in
theorem c_ownerStep_40 (x : Int) (hx : 0 ≤ x ∧ x < 3) (M : Mm) : Ct 14 [vr 40, vi x] M (fun q0 M' => q0 = some (vi (M 45 (12 + x))) ∧ M = M') := by
  refine Hx.run 4 (pc' := 7) (L' := [some (vr 40), some (vi x)]) (st' := [vi x, vi 12, vr 45]) (M' := M) rfl ?_
  refine Hx.add rfl (by omega) ?_
  refine Hx.call (t := 121) (as := [vr 45, vi (12 + x)]) (pc' := 11) (rest := []) rfl (c_at (r := 45) (n := 17) rfl (by decide) (i := (12 + x)) (by omega) M) ?_
  rintro _ _ ⟨rfl, rfl⟩
  refine Hx.run 0 (pc' := 11) (L' := [some (vr 40), some (vi x)]) (st' := [vi (M 45 (12 + x))]) (M' := M) rfl ?_
  refine Hx.ret rfl ?_
  exact ⟨rfl, rfl⟩
set_option maxRecDepth 100000 in
theorem c_legsOf_40 (x : Int) (hx : 0 ≤ x ∧ x < 6) (M : Mm) : Ct 16 [vr 40, vi x] M (fun q0 M' => q0 = some (vi (M 43 x)) ∧ M = M') := by
  refine Hx.run 3 (pc' := 5) (L' := [some (vr 40), some (vi x)]) (st' := [vi x, vr 43]) (M' := M) rfl ?_
  refine Hx.call (t := 121) (as := [vr 43, vi x]) (pc' := 8) (rest := []) rfl (c_at (r := 43) (n := 6) rfl (by decide) (i := x) (by omega) M) ?_
  rintro _ _ ⟨rfl, rfl⟩
  refine Hx.run 0 (pc' := 8) (L' := [some (vr 40), some (vi x)]) (st' := [vi (M 43 x)]) (M' := M) rfl ?_
  refine Hx.ret rfl ?_
  exact ⟨rfl, rfl⟩
set_option maxRecDepth 100000 in
theorem c_flightOf_40 (x : Int) (hx : 0 ≤ x ∧ x < 6) (M : Mm) : Ct 17 [vr 40, vi x] M (fun q0 M' => q0 = some (vi (M 44 x)) ∧ M = M') := by
  refine Hx.run 3 (pc' := 5) (L' := [some (vr 40), some (vi x)]) (st' := [vi x, vr 44]) (M' := M) rfl ?_
  refine Hx.call (t := 121) (as := [vr 44, vi x]) (pc' := 8) (rest := []) rfl (c_at (r := 44) (n := 6) rfl (by decide) (i := x) (by omega) M) ?_
  rintro _ _ ⟨rfl, rfl⟩
  refine Hx.run 0 (pc' := 8) (L' := [some (vr 40), some (vi x)]) (st' := [vi (M 44 x)]) (M' := M) rfl ?_
  refine Hx.ret rfl ?_
  exact ⟨rfl, rfl⟩
set_option maxRecDepth 100000 in
theorem c_stepOf_40 (x : Int) (hx : 0 ≤ x ∧ x < 6) (M : Mm) : Ct 18 [vr 40, vi x] M (fun q0 M' => q0 = some (vi (M 45 x)) ∧ M = M') := by
  refine Hx.run 4 (pc' := 6) (L' := [some (vr 40), some (vi x)]) (st' := [vi x, vi 0, vr 45]) (M' := M) rfl ?_
  refine Hx.add0 rfl (by omega) ?_
  refine Hx.call (t := 121) (as := [vr 45, vi x]) (pc' := 10) (rest := []) rfl (c_at (r := 45) (n := 17) rfl (by decide) (i := x) (by omega) M) ?_
  rintro _ _ ⟨rfl, rfl⟩
  refine Hx.run 0 (pc' := 10) (L' := [some (vr 40), some (vi x)]) (st' := [vi (M 45 x)]) (M' := M) rfl ?_
  refine Hx.ret rfl ?_
  exact ⟨rfl, rfl⟩
set_option maxRecDepth 100000 in
theorem c_loadOf_40 (x : Int) (hx : 0 ≤ x ∧ x < 6) (M : Mm) : Ct 20 [vr 40, vi x] M (fun q0 M' => q0 = some (vi (M 45 (6 + x))) ∧ M = M') := by
  refine Hx.run 4 (pc' := 7) (L' := [some (vr 40), some (vi x)]) (st' := [vi x, vi 6, vr 45]) (M' := M) rfl ?_
  refine Hx.add rfl (by omega) ?_
  refine Hx.call (t := 121) (as := [vr 45, vi (6 + x)]) (pc' := 11) (rest := []) rfl (c_at (r := 45) (n := 17) rfl (by decide) (i := (6 + x)) (by omega) M) ?_
  rintro _ _ ⟨rfl, rfl⟩
  refine Hx.run 0 (pc' := 11) (L' := [some (vr 40), some (vi x)]) (st' := [vi (M 45 (6 + x))]) (M' := M) rfl ?_
  refine Hx.ret rfl ?_
  exact ⟨rfl, rfl⟩
set_option maxRecDepth 100000 in
theorem c_falls_40 (M : Mm) : Ct 22 [vr 40] M (fun q0 M' => q0 = some (vi (M 45 15)) ∧ M = M') := by
  refine Hx.run 3 (pc' := 6) (L' := [some (vr 40)]) (st' := [vi 15, vr 45]) (M' := M) rfl ?_
  refine Hx.call (t := 121) (as := [vr 45, vi 15]) (pc' := 9) (rest := []) rfl (c_at (r := 45) (n := 17) rfl (by decide) (i := 15) (by omega) M) ?_
  rintro _ _ ⟨rfl, rfl⟩
  refine Hx.run 0 (pc' := 9) (L' := [some (vr 40)]) (st' := [vi (M 45 15)]) (M' := M) rfl ?_
  refine Hx.ret rfl ?_
  exact ⟨rfl, rfl⟩
set_option maxRecDepth 100000 in
theorem c_hour_40 (M : Mm) : Ct 23 [vr 40] M (fun q0 M' => q0 = some (vi (M 45 16)) ∧ M = M') := by
  refine Hx.run 3 (pc' := 6) (L' := [some (vr 40)]) (st' := [vi 16, vr 45]) (M' := M) rfl ?_
  refine Hx.call (t := 121) (as := [vr 45, vi 16]) (pc' := 9) (rest := []) rfl (c_at (r := 45) (n := 17) rfl (by decide) (i := 16) (by omega) M) ?_
  rintro _ _ ⟨rfl, rfl⟩
  refine Hx.run 0 (pc' := 9) (L' := [some (vr 40)]) (st' := [vi (M 45 16)]) (M' := M) rfl ?_
  refine Hx.ret rfl ?_
  exact ⟨rfl, rfl⟩
