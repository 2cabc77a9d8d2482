/-! rows filled and copied; ledgers (written by wip/whole/gen17.py) -/
/-- places lo .. hi - 1 of row r hold v -/
def fl (M : Mm) (r : Nat) (lo hi v : Int) : Mm := fun a b => if a = r ∧ lo ≤ b ∧ b < hi then v else M a b
theorem fl_up {M : Mm} {r : Nat} {lo i v : Int} (h : lo ≤ i) : up (fl M r lo i v) r i v = fl M r lo (i + 1) v := by
  funext a b
  simp only [up, fl]
  by_cases ha : a = r
  · by_cases hb : b = i
    · rw [if_pos ⟨ha, hb⟩, if_pos ⟨ha, by omega, by omega⟩]
    · rw [if_neg (fun q => hb q.2)]
      by_cases hc : lo ≤ b ∧ b < i
      · rw [if_pos ⟨ha, hc⟩, if_pos ⟨ha, by omega, by omega⟩]
      · rw [if_neg (fun q => hc q.2), if_neg (fun q => hc ⟨by omega, by omega⟩)]
  · rw [if_neg (fun q => ha q.1), if_neg (fun q => ha q.1), if_neg (fun q => ha q.1)]
theorem fl_0 {M : Mm} {r : Nat} {lo v : Int} : fl M r lo lo v = M := by
  funext a b
  simp only [fl]
  rw [if_neg (fun q => by omega)]
theorem fl_ne {M : Mm} {r a : Nat} {lo hi v : Int} (h : a ≠ r) : fl M r lo hi v a = M a := by
  funext b; simp [fl, h]
theorem fl_in {M : Mm} {r : Nat} {lo hi v b : Int} (h : lo ≤ b ∧ b < hi) : fl M r lo hi v r b = v := if_pos ⟨rfl, h⟩
theorem fl_out {M : Mm} {r : Nat} {lo hi v b : Int} (h : ¬ (lo ≤ b ∧ b < hi)) : fl M r lo hi v r b = M r b := if_neg (fun q => h q.2)
set_option maxRecDepth 100000 in
theorem l_fill {r n : Nat} (hs : shp r = .inl (n, false)) (hr : r < 73) (hn : n < 2000) (v : Int) (M : Mm) : ∀ (kk : Nat) (i : Int), 0 ≤ i ∧ i ≤ (n : Int) → (n : Int) - i < (kk : Int) → Hx 224 5 [some (vr r), some (vi v), some (vi i), some (vi (n : Int))] [] (fl M r 0 i v) (fun q0 M' => q0 = none ∧ fl M r 0 (n : Int) v = M') := by
  intro kk
  induction kk with
  | zero => intro i _ hkk; exact absurd hkk (by omega)
  | succ kk ih =>
    intro i hi hkk
    refine Hx.run 2 (pc' := 7) (L' := [some (vr r), some (vi v), some (vi i), some (vi (n : Int))]) (st' := [vi (n : Int), vi i]) (M' := (fl M r 0 i v)) rfl ?_
    refine Hx.br (c := i < (n : Int)) (t := 10) (f := 20) rfl (fun h1 => ?_) (fun h1 => ?_)
    · skip
      refine Hx.run 3 (pc' := 13) (L' := [some (vr r), some (vi v), some (vi i), some (vi (n : Int))]) (st' := [vi v, vi i, vr r]) (M' := (fl M r 0 i v)) rfl ?_
      refine Hx.astI (n := n) rfl hs (by omega) ?_
      refine Hx.inc rfl rfl (by omega) ?_
      refine Hx.run 0 (pc' := 17) (L' := [some (vr r), some (vi v), some (vi (i + 1)), some (vi (n : Int))]) (st' := []) (M' := (up (fl M r 0 i v) r i v)) rfl ?_
      refine Hx.run 1 (pc' := 5) (L' := [some (vr r), some (vi v), some (vi (i + 1)), some (vi (n : Int))]) (st' := []) (M' := (up (fl M r 0 i v) r i v)) rfl ?_
      rw [fl_up (by omega)]
      exact ih (i + 1) (by omega) (by omega)
    · skip
      refine Hx.ret rfl ?_
      have e : i = (n : Int) := by omega
      subst e
      exact ⟨rfl, rfl⟩
set_option maxRecDepth 100000 in
theorem c_fill {r n : Nat} (hs : shp r = .inl (n, false)) (hr : r < 73) (hn : n < 2000) (v : Int) (M : Mm) : Ct 224 [vr r, vi v] M (fun q0 M' => q0 = none ∧ fl M r 0 (n : Int) v = M') := by
  refine Hx.run 3 (pc' := 3) (L' := [some (vr r), some (vi v), some (vi 0), none]) (st' := [vr r]) (M' := M) rfl ?_
  refine Hx.alenI (n := n) rfl hs hr ?_
  refine Hx.run 1 (pc' := 5) (L' := [some (vr r), some (vi v), some (vi 0), some (vi (n : Int))]) (st' := []) (M' := M) rfl ?_
  have h0 := l_fill hs hr hn v M ((n : Int).toNat + 1) 0 (by omega) (by omega)
  rw [fl_0] at h0
  exact h0
set_option maxRecDepth 100000 in
theorem c_copyInto {rd rs n : Nat} (hd : shp rd = .inl (n, false)) (hs : shp rs = .inl (n, false)) (hrd : rd < 73) (hrs : rs < 73) (hn : n < 2000) (M : Mm) : Ct 123 [vr rd, vr rs] M (fun q0 M' => q0 = none ∧ cp M rs 0 rd 0 (n : Int) = M') := by
  refine Hx.run 5 (pc' := 5) (L' := [some (vr rd), some (vr rs)]) (st' := [vr rs, vi 0, vr rd, vi 0, vr rs]) (M' := M) rfl ?_
  refine Hx.alenI (n := n) rfl hs hrs ?_
  refine Hx.run 1 (pc' := 7) (L' := [some (vr rd), some (vr rs)]) (st' := [vr rd, vi (n : Int), vi 0, vr rd, vi 0, vr rs]) (M' := M) rfl ?_
  refine Hx.alenI (n := n) rfl hd hrd ?_
  refine Hx.call (t := 226) (as := [vi (n : Int), vi (n : Int)]) (pc' := 11) (rest := [vi 0, vr rd, vi 0, vr rs]) rfl (c_min (n : Int) (n : Int) M) ?_
  rintro _ _ ⟨rfl, rfl⟩
  refine Hx.run 0 (pc' := 11) (L' := [some (vr rd), some (vr rs)]) (st' := [vi (min (n : Int) (n : Int)), vi 0, vr rd, vi 0, vr rs]) (M' := M) rfl ?_
  refine Hx.acopyI (n0 := n) (n1 := n) rfl rfl hs hd hrs hrd (by omega) (by decide) ?_
  refine Hx.run 0 (pc' := 14) (L' := [some (vr rd), some (vr rs)]) (st' := []) (M' := (cp M rs 0 rd 0 (min (n : Int) (n : Int)))) rfl ?_
  refine Hx.ret rfl ?_
  exact ⟨rfl, by rw [show min (n : Int) (n : Int) = (n : Int) by omega]⟩
set_option maxRecDepth 100000 in
theorem c_isFull_8 (M : Mm) (hl : (M 8 0 = 4 ∧ M 8 1 = 5 ∧ 0 ≤ M 8 3 ∧ M 8 3 ≤ 5)) : Ct 34 [vr 8] M (fun q0 M' => ((M 8 3 = 5) ∧ q0 = some (vi 1) ∧ M = M') ∨ (¬ (M 8 3 = 5) ∧ q0 = some (vi 0) ∧ M = M')) := by
  refine Hx.run 4 (pc' := 8) (L' := [some (vr 8)]) (st' := [vi (M 8 1), vi (M 8 3)]) (M' := M) rfl ?_
  refine Hx.br (c := (M 8 3) < (M 8 1)) (t := 15) (f := 11) rfl (fun h1 => ?_) (fun h1 => ?_)
  · skip
    refine Hx.run 1 (pc' := 16) (L' := [some (vr 8)]) (st' := [vi 0]) (M' := M) rfl ?_
    refine Hx.ret rfl ?_
    first | exact Or.inl ⟨by omega, rfl, rfl⟩ | exact Or.inr ⟨by omega, rfl, rfl⟩
  · skip
    refine Hx.run 2 (pc' := 16) (L' := [some (vr 8)]) (st' := [vi 1]) (M' := M) rfl ?_
    refine Hx.ret rfl ?_
    first | exact Or.inl ⟨by omega, rfl, rfl⟩ | exact Or.inr ⟨by omega, rfl, rfl⟩
set_option maxRecDepth 100000 in
theorem c_lempty_8 (M : Mm) : Ct 35 [vr 8] M (fun q0 M' => q0 = some (vi (M 8 3)) ∧ up M 8 3 0 = M') := by
  refine Hx.run 7 (pc' := 11) (L' := [some (vr 8), some (vi (M 8 3))]) (st' := [vi (M 8 3)]) (M' := (up M 8 3 0)) rfl ?_
  refine Hx.ret rfl ?_
  exact ⟨rfl, rfl⟩
set_option maxRecDepth 100000 in
theorem c_cell_8 (x c : Int) (M : Mm) (hl : (M 8 0 = 4 ∧ M 8 1 = 5 ∧ 0 ≤ M 8 3 ∧ M 8 3 ≤ 5)) (hx : 0 ≤ x ∧ x < 5) (hc : 0 ≤ c ∧ c < 4) : Ct 38 [vr 8, vi x, vi c] M (fun q0 M' => q0 = some (vi (M 9 (x * 4 + c))) ∧ M = M') := by
  refine Hx.run 5 (pc' := 9) (L' := [some (vr 8), some (vi x), some (vi c)]) (st' := [vi (M 8 0), vi x, vr 9]) (M' := M) rfl ?_
  refine Hx.mul rfl (by (rw [hl.1]; omega)) ?_
  refine Hx.run 1 (pc' := 11) (L' := [some (vr 8), some (vi x), some (vi c)]) (st' := [vi c, vi (x * (M 8 0)), vr 9]) (M' := M) rfl ?_
  refine Hx.add rfl (by (rw [hl.1]; omega)) ?_
  refine Hx.call (t := 121) (as := [vr 9, vi ((x * (M 8 0)) + c)]) (pc' := 15) (rest := []) rfl (c_at (r := 9) (n := 20) rfl (by decide) (i := ((x * (M 8 0)) + c)) (by (rw [hl.1]; omega)) M) ?_
  rintro _ _ ⟨rfl, rfl⟩
  refine Hx.run 0 (pc' := 15) (L' := [some (vr 8), some (vi x), some (vi c)]) (st' := [vi (M 9 ((x * (M 8 0)) + c))]) (M' := M) rfl ?_
  refine Hx.ret rfl ?_
  exact ⟨some_vi (by rw [hl.1]), rfl⟩
set_option maxRecDepth 100000 in
theorem c_isFull_10 (M : Mm) (hl : (M 10 0 = 3 ∧ M 10 1 = 6 ∧ 0 ≤ M 10 3 ∧ M 10 3 ≤ 6)) : Ct 34 [vr 10] M (fun q0 M' => ((M 10 3 = 6) ∧ q0 = some (vi 1) ∧ M = M') ∨ (¬ (M 10 3 = 6) ∧ q0 = some (vi 0) ∧ M = M')) := by
  refine Hx.run 4 (pc' := 8) (L' := [some (vr 10)]) (st' := [vi (M 10 1), vi (M 10 3)]) (M' := M) rfl ?_
  refine Hx.br (c := (M 10 3) < (M 10 1)) (t := 15) (f := 11) rfl (fun h1 => ?_) (fun h1 => ?_)
  · skip
    refine Hx.run 1 (pc' := 16) (L' := [some (vr 10)]) (st' := [vi 0]) (M' := M) rfl ?_
    refine Hx.ret rfl ?_
    first | exact Or.inl ⟨by omega, rfl, rfl⟩ | exact Or.inr ⟨by omega, rfl, rfl⟩
  · skip
    refine Hx.run 2 (pc' := 16) (L' := [some (vr 10)]) (st' := [vi 1]) (M' := M) rfl ?_
    refine Hx.ret rfl ?_
    first | exact Or.inl ⟨by omega, rfl, rfl⟩ | exact Or.inr ⟨by omega, rfl, rfl⟩
set_option maxRecDepth 100000 in
theorem c_lempty_10 (M : Mm) : Ct 35 [vr 10] M (fun q0 M' => q0 = some (vi (M 10 3)) ∧ up M 10 3 0 = M') := by
  refine Hx.run 7 (pc' := 11) (L' := [some (vr 10), some (vi (M 10 3))]) (st' := [vi (M 10 3)]) (M' := (up M 10 3 0)) rfl ?_
  refine Hx.ret rfl ?_
  exact ⟨rfl, rfl⟩
set_option maxRecDepth 100000 in
theorem c_cell_10 (x c : Int) (M : Mm) (hl : (M 10 0 = 3 ∧ M 10 1 = 6 ∧ 0 ≤ M 10 3 ∧ M 10 3 ≤ 6)) (hx : 0 ≤ x ∧ x < 6) (hc : 0 ≤ c ∧ c < 3) : Ct 38 [vr 10, vi x, vi c] M (fun q0 M' => q0 = some (vi (M 11 (x * 3 + c))) ∧ M = M') := by
  refine Hx.run 5 (pc' := 9) (L' := [some (vr 10), some (vi x), some (vi c)]) (st' := [vi (M 10 0), vi x, vr 11]) (M' := M) rfl ?_
  refine Hx.mul rfl (by (rw [hl.1]; omega)) ?_
  refine Hx.run 1 (pc' := 11) (L' := [some (vr 10), some (vi x), some (vi c)]) (st' := [vi c, vi (x * (M 10 0)), vr 11]) (M' := M) rfl ?_
  refine Hx.add rfl (by (rw [hl.1]; omega)) ?_
  refine Hx.call (t := 121) (as := [vr 11, vi ((x * (M 10 0)) + c)]) (pc' := 15) (rest := []) rfl (c_at (r := 11) (n := 18) rfl (by decide) (i := ((x * (M 10 0)) + c)) (by (rw [hl.1]; omega)) M) ?_
  rintro _ _ ⟨rfl, rfl⟩
  refine Hx.run 0 (pc' := 15) (L' := [some (vr 10), some (vi x), some (vi c)]) (st' := [vi (M 11 ((x * (M 10 0)) + c))]) (M' := M) rfl ?_
  refine Hx.ret rfl ?_
  exact ⟨some_vi (by rw [hl.1]), rfl⟩
set_option maxRecDepth 100000 in
theorem c_isFull_12 (M : Mm) (hl : (M 12 0 = 5 ∧ M 12 1 = 6 ∧ 0 ≤ M 12 3 ∧ M 12 3 ≤ 6)) : Ct 34 [vr 12] M (fun q0 M' => ((M 12 3 = 6) ∧ q0 = some (vi 1) ∧ M = M') ∨ (¬ (M 12 3 = 6) ∧ q0 = some (vi 0) ∧ M = M')) := by
  refine Hx.run 4 (pc' := 8) (L' := [some (vr 12)]) (st' := [vi (M 12 1), vi (M 12 3)]) (M' := M) rfl ?_
  refine Hx.br (c := (M 12 3) < (M 12 1)) (t := 15) (f := 11) rfl (fun h1 => ?_) (fun h1 => ?_)
  · skip
    refine Hx.run 1 (pc' := 16) (L' := [some (vr 12)]) (st' := [vi 0]) (M' := M) rfl ?_
    refine Hx.ret rfl ?_
    first | exact Or.inl ⟨by omega, rfl, rfl⟩ | exact Or.inr ⟨by omega, rfl, rfl⟩
  · skip
    refine Hx.run 2 (pc' := 16) (L' := [some (vr 12)]) (st' := [vi 1]) (M' := M) rfl ?_
    refine Hx.ret rfl ?_
    first | exact Or.inl ⟨by omega, rfl, rfl⟩ | exact Or.inr ⟨by omega, rfl, rfl⟩
set_option maxRecDepth 100000 in
theorem c_lempty_12 (M : Mm) : Ct 35 [vr 12] M (fun q0 M' => q0 = some (vi (M 12 3)) ∧ up M 12 3 0 = M') := by
  refine Hx.run 7 (pc' := 11) (L' := [some (vr 12), some (vi (M 12 3))]) (st' := [vi (M 12 3)]) (M' := (up M 12 3 0)) rfl ?_
  refine Hx.ret rfl ?_
  exact ⟨rfl, rfl⟩
set_option maxRecDepth 100000 in
theorem c_cell_12 (x c : Int) (M : Mm) (hl : (M 12 0 = 5 ∧ M 12 1 = 6 ∧ 0 ≤ M 12 3 ∧ M 12 3 ≤ 6)) (hx : 0 ≤ x ∧ x < 6) (hc : 0 ≤ c ∧ c < 5) : Ct 38 [vr 12, vi x, vi c] M (fun q0 M' => q0 = some (vi (M 13 (x * 5 + c))) ∧ M = M') := by
  refine Hx.run 5 (pc' := 9) (L' := [some (vr 12), some (vi x), some (vi c)]) (st' := [vi (M 12 0), vi x, vr 13]) (M' := M) rfl ?_
  refine Hx.mul rfl (by (rw [hl.1]; omega)) ?_
  refine Hx.run 1 (pc' := 11) (L' := [some (vr 12), some (vi x), some (vi c)]) (st' := [vi c, vi (x * (M 12 0)), vr 13]) (M' := M) rfl ?_
  refine Hx.add rfl (by (rw [hl.1]; omega)) ?_
  refine Hx.call (t := 121) (as := [vr 13, vi ((x * (M 12 0)) + c)]) (pc' := 15) (rest := []) rfl (c_at (r := 13) (n := 30) rfl (by decide) (i := ((x * (M 12 0)) + c)) (by (rw [hl.1]; omega)) M) ?_
  rintro _ _ ⟨rfl, rfl⟩
  refine Hx.run 0 (pc' := 15) (L' := [some (vr 12), some (vi x), some (vi c)]) (st' := [vi (M 13 ((x * (M 12 0)) + c))]) (M' := M) rfl ?_
  refine Hx.ret rfl ?_
  exact ⟨some_vi (by rw [hl.1]), rfl⟩
