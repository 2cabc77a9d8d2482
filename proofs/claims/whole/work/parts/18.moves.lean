/-! a house emptied, taken over, its moments; ledgers grow (written by wip/whole/gen18.py) -/
def emM (M : Mm) (h : Nat) : Mm := up (up (up (fl (up (up (up M h 0 0) h 1 0) h 2 0) (h + 5) 0 17 0) (h + 7) 3 0) (h + 9) 3 0) (h + 11) 3 0
/-- house a takes over house b -/
def tkL (M : Mm) (a b : Nat) (n : Int) : Mm := cp (up M a 3 (M b 3)) (b + 1) 0 (a + 1) 0 n
def tkM (M : Mm) (a b : Nat) : Mm := tkL (tkL (tkL (cp (cp (cp (cp (cp (cp (up (up (up M a 0 (M b 0)) a 1 (M b 1)) a 2 (M b 2)) (b + 1) 0 (a + 1) 0 3) (b + 2) 0 (a + 2) 0 6) (b + 3) 0 (a + 3) 0 6) (b + 4) 0 (a + 4) 0 6) (b + 5) 0 (a + 5) 0 17) (b + 6) 0 (a + 6) 0 136) (a + 7) (b + 7) 20) (a + 9) (b + 9) 18) (a + 11) (b + 11) 30
/-- how many of the first n numbers of A are 11 or more -/
def ov (A : Int → Int) : Nat → Int
  | 0 => 0
  | n + 1 => ov A n + (if 11 ≤ A n then 1 else 0)
theorem ov_rng (A : Int → Int) : ∀ n, 0 ≤ ov A n ∧ ov A n ≤ n
  | 0 => ⟨Int.le_refl _, Int.le_refl _⟩
  | n + 1 => by
    have h := ov_rng A n
    unfold ov
    split <;> omega
def mx (h v : Int) : Int := l2 gadd (l2 gmul 31 h) v
/-- the numbers lo .. lo + n - 1 of A mixed in -/
def mxs (A : Int → Int) (lo : Int) : Nat → Int → Int
  | 0, h => h
  | n + 1, h => mx (mxs A lo n h) (A (lo + n))
set_option maxRecDepth 100000 in
theorem c_setIn_8 (c v z : Int) (M : Mm) (hw : M 8 0 = 4) (hz : M 8 3 = z + 1) (hzr : 0 ≤ z ∧ z < 5) (hc : 0 ≤ c ∧ c < 4) : Ct 37 [vr 8, vi c, vi v] M (fun q0 M' => q0 = none ∧ up M 9 (z * 4 + c) v = M') := by
  refine Hx.run 3 (pc' := 5) (L' := [some (vr 8), some (vi c), some (vi v)]) (st' := [vi (M 8 0), vi c]) (M' := M) rfl ?_
  refine Hx.br (c := c < (M 8 0)) (t := 8) (f := 29) rfl (fun h1 => ?_) (fun h1 => ?_)
  · skip
    refine Hx.run 5 (pc' := 17) (L' := [some (vr 8), some (vi c), some (vi v)]) (st' := [vi 1, vi (M 8 3), vr 9]) (M' := M) rfl ?_
    refine Hx.sub rfl (by (first | omega | (rw [hw, hz]; omega))) ?_
    refine Hx.run 2 (pc' := 22) (L' := [some (vr 8), some (vi c), some (vi v)]) (st' := [vi (M 8 0), vi ((M 8 3) - 1), vr 9]) (M' := M) rfl ?_
    refine Hx.mul rfl (by (first | omega | (rw [hw, hz]; omega))) ?_
    refine Hx.run 1 (pc' := 24) (L' := [some (vr 8), some (vi c), some (vi v)]) (st' := [vi c, vi (((M 8 3) - 1) * (M 8 0)), vr 9]) (M' := M) rfl ?_
    refine Hx.add rfl (by (first | omega | (rw [hw, hz]; omega))) ?_
    refine Hx.run 1 (pc' := 26) (L' := [some (vr 8), some (vi c), some (vi v)]) (st' := [vi v, vi ((((M 8 3) - 1) * (M 8 0)) + c), vr 9]) (M' := M) rfl ?_
    refine Hx.call (t := 122) (as := [vr 9, vi ((((M 8 3) - 1) * (M 8 0)) + c), vi v]) (pc' := 29) (rest := []) rfl (c_put (r := 9) (n := 20) rfl (by decide) (i := ((((M 8 3) - 1) * (M 8 0)) + c)) (by (first | omega | (rw [hw, hz]; omega))) v M) ?_
    rintro _ _ ⟨rfl, rfl⟩
    refine Hx.run 0 (pc' := 29) (L' := [some (vr 8), some (vi c), some (vi v)]) (st' := []) (M' := (up M 9 ((((M 8 3) - 1) * (M 8 0)) + c) v)) rfl ?_
    refine Hx.ret rfl ?_
    first | (exfalso; rw [hw] at h1; omega) | exact ⟨rfl, by rw [hw, hz, show (z + 1 - 1) = z by omega]⟩
  · skip
    refine Hx.ret rfl ?_
    first | (exfalso; rw [hw] at h1; omega) | exact ⟨rfl, by rw [hw, hz, show (z + 1 - 1) = z by omega]⟩
set_option maxRecDepth 100000 in
theorem c_setOut_8 (c v : Int) (M : Mm) (hw : M 8 0 = 4) (hc : 4 ≤ c ∧ c < 9) (h3 : 0 ≤ M 8 3 ∧ M 8 3 ≤ 9) : Ct 37 [vr 8, vi c, vi v] M (fun q0 M' => q0 = none ∧ M = M') := by
  refine Hx.run 3 (pc' := 5) (L' := [some (vr 8), some (vi c), some (vi v)]) (st' := [vi (M 8 0), vi c]) (M' := M) rfl ?_
  refine Hx.br (c := c < (M 8 0)) (t := 8) (f := 29) rfl (fun h1 => ?_) (fun h1 => ?_)
  · skip
    refine Hx.run 5 (pc' := 17) (L' := [some (vr 8), some (vi c), some (vi v)]) (st' := [vi 1, vi (M 8 3), vr 9]) (M' := M) rfl ?_
    refine Hx.sub rfl (by (first | omega | (exfalso; rw [hw] at h1; omega))) ?_
    refine Hx.run 2 (pc' := 22) (L' := [some (vr 8), some (vi c), some (vi v)]) (st' := [vi (M 8 0), vi ((M 8 3) - 1), vr 9]) (M' := M) rfl ?_
    refine Hx.mul rfl (by (first | omega | (exfalso; rw [hw] at h1; omega))) ?_
    refine Hx.run 1 (pc' := 24) (L' := [some (vr 8), some (vi c), some (vi v)]) (st' := [vi c, vi (((M 8 3) - 1) * (M 8 0)), vr 9]) (M' := M) rfl ?_
    refine Hx.add rfl (by (first | omega | (exfalso; rw [hw] at h1; omega))) ?_
    refine Hx.run 1 (pc' := 26) (L' := [some (vr 8), some (vi c), some (vi v)]) (st' := [vi v, vi ((((M 8 3) - 1) * (M 8 0)) + c), vr 9]) (M' := M) rfl ?_
    refine Hx.call (t := 122) (as := [vr 9, vi ((((M 8 3) - 1) * (M 8 0)) + c), vi v]) (pc' := 29) (rest := []) rfl (c_put (r := 9) (n := 20) rfl (by decide) (i := ((((M 8 3) - 1) * (M 8 0)) + c)) (by (first | omega | (exfalso; rw [hw] at h1; omega))) v M) ?_
    rintro _ _ ⟨rfl, rfl⟩
    refine Hx.run 0 (pc' := 29) (L' := [some (vr 8), some (vi c), some (vi v)]) (st' := []) (M' := (up M 9 ((((M 8 3) - 1) * (M 8 0)) + c) v)) rfl ?_
    refine Hx.ret rfl ?_
    first | exact ⟨rfl, rfl⟩ | (exfalso; rw [hw] at h1; omega)
  · skip
    refine Hx.ret rfl ?_
    first | exact ⟨rfl, rfl⟩ | (exfalso; rw [hw] at h1; omega)
set_option maxRecDepth 100000 in
theorem c_setIn_10 (c v z : Int) (M : Mm) (hw : M 10 0 = 3) (hz : M 10 3 = z + 1) (hzr : 0 ≤ z ∧ z < 6) (hc : 0 ≤ c ∧ c < 3) : Ct 37 [vr 10, vi c, vi v] M (fun q0 M' => q0 = none ∧ up M 11 (z * 3 + c) v = M') := by
  refine Hx.run 3 (pc' := 5) (L' := [some (vr 10), some (vi c), some (vi v)]) (st' := [vi (M 10 0), vi c]) (M' := M) rfl ?_
  refine Hx.br (c := c < (M 10 0)) (t := 8) (f := 29) rfl (fun h1 => ?_) (fun h1 => ?_)
  · skip
    refine Hx.run 5 (pc' := 17) (L' := [some (vr 10), some (vi c), some (vi v)]) (st' := [vi 1, vi (M 10 3), vr 11]) (M' := M) rfl ?_
    refine Hx.sub rfl (by (first | omega | (rw [hw, hz]; omega))) ?_
    refine Hx.run 2 (pc' := 22) (L' := [some (vr 10), some (vi c), some (vi v)]) (st' := [vi (M 10 0), vi ((M 10 3) - 1), vr 11]) (M' := M) rfl ?_
    refine Hx.mul rfl (by (first | omega | (rw [hw, hz]; omega))) ?_
    refine Hx.run 1 (pc' := 24) (L' := [some (vr 10), some (vi c), some (vi v)]) (st' := [vi c, vi (((M 10 3) - 1) * (M 10 0)), vr 11]) (M' := M) rfl ?_
    refine Hx.add rfl (by (first | omega | (rw [hw, hz]; omega))) ?_
    refine Hx.run 1 (pc' := 26) (L' := [some (vr 10), some (vi c), some (vi v)]) (st' := [vi v, vi ((((M 10 3) - 1) * (M 10 0)) + c), vr 11]) (M' := M) rfl ?_
    refine Hx.call (t := 122) (as := [vr 11, vi ((((M 10 3) - 1) * (M 10 0)) + c), vi v]) (pc' := 29) (rest := []) rfl (c_put (r := 11) (n := 18) rfl (by decide) (i := ((((M 10 3) - 1) * (M 10 0)) + c)) (by (first | omega | (rw [hw, hz]; omega))) v M) ?_
    rintro _ _ ⟨rfl, rfl⟩
    refine Hx.run 0 (pc' := 29) (L' := [some (vr 10), some (vi c), some (vi v)]) (st' := []) (M' := (up M 11 ((((M 10 3) - 1) * (M 10 0)) + c) v)) rfl ?_
    refine Hx.ret rfl ?_
    first | (exfalso; rw [hw] at h1; omega) | exact ⟨rfl, by rw [hw, hz, show (z + 1 - 1) = z by omega]⟩
  · skip
    refine Hx.ret rfl ?_
    first | (exfalso; rw [hw] at h1; omega) | exact ⟨rfl, by rw [hw, hz, show (z + 1 - 1) = z by omega]⟩
set_option maxRecDepth 100000 in
theorem c_setOut_10 (c v : Int) (M : Mm) (hw : M 10 0 = 3) (hc : 3 ≤ c ∧ c < 9) (h3 : 0 ≤ M 10 3 ∧ M 10 3 ≤ 9) : Ct 37 [vr 10, vi c, vi v] M (fun q0 M' => q0 = none ∧ M = M') := by
  refine Hx.run 3 (pc' := 5) (L' := [some (vr 10), some (vi c), some (vi v)]) (st' := [vi (M 10 0), vi c]) (M' := M) rfl ?_
  refine Hx.br (c := c < (M 10 0)) (t := 8) (f := 29) rfl (fun h1 => ?_) (fun h1 => ?_)
  · skip
    refine Hx.run 5 (pc' := 17) (L' := [some (vr 10), some (vi c), some (vi v)]) (st' := [vi 1, vi (M 10 3), vr 11]) (M' := M) rfl ?_
    refine Hx.sub rfl (by (first | omega | (exfalso; rw [hw] at h1; omega))) ?_
    refine Hx.run 2 (pc' := 22) (L' := [some (vr 10), some (vi c), some (vi v)]) (st' := [vi (M 10 0), vi ((M 10 3) - 1), vr 11]) (M' := M) rfl ?_
    refine Hx.mul rfl (by (first | omega | (exfalso; rw [hw] at h1; omega))) ?_
    refine Hx.run 1 (pc' := 24) (L' := [some (vr 10), some (vi c), some (vi v)]) (st' := [vi c, vi (((M 10 3) - 1) * (M 10 0)), vr 11]) (M' := M) rfl ?_
    refine Hx.add rfl (by (first | omega | (exfalso; rw [hw] at h1; omega))) ?_
    refine Hx.run 1 (pc' := 26) (L' := [some (vr 10), some (vi c), some (vi v)]) (st' := [vi v, vi ((((M 10 3) - 1) * (M 10 0)) + c), vr 11]) (M' := M) rfl ?_
    refine Hx.call (t := 122) (as := [vr 11, vi ((((M 10 3) - 1) * (M 10 0)) + c), vi v]) (pc' := 29) (rest := []) rfl (c_put (r := 11) (n := 18) rfl (by decide) (i := ((((M 10 3) - 1) * (M 10 0)) + c)) (by (first | omega | (exfalso; rw [hw] at h1; omega))) v M) ?_
    rintro _ _ ⟨rfl, rfl⟩
    refine Hx.run 0 (pc' := 29) (L' := [some (vr 10), some (vi c), some (vi v)]) (st' := []) (M' := (up M 11 ((((M 10 3) - 1) * (M 10 0)) + c) v)) rfl ?_
    refine Hx.ret rfl ?_
    first | exact ⟨rfl, rfl⟩ | (exfalso; rw [hw] at h1; omega)
  · skip
    refine Hx.ret rfl ?_
    first | exact ⟨rfl, rfl⟩ | (exfalso; rw [hw] at h1; omega)
set_option maxRecDepth 100000 in
theorem c_setIn_12 (c v z : Int) (M : Mm) (hw : M 12 0 = 5) (hz : M 12 3 = z + 1) (hzr : 0 ≤ z ∧ z < 6) (hc : 0 ≤ c ∧ c < 5) : Ct 37 [vr 12, vi c, vi v] M (fun q0 M' => q0 = none ∧ up M 13 (z * 5 + c) v = M') := by
  refine Hx.run 3 (pc' := 5) (L' := [some (vr 12), some (vi c), some (vi v)]) (st' := [vi (M 12 0), vi c]) (M' := M) rfl ?_
  refine Hx.br (c := c < (M 12 0)) (t := 8) (f := 29) rfl (fun h1 => ?_) (fun h1 => ?_)
  · skip
    refine Hx.run 5 (pc' := 17) (L' := [some (vr 12), some (vi c), some (vi v)]) (st' := [vi 1, vi (M 12 3), vr 13]) (M' := M) rfl ?_
    refine Hx.sub rfl (by (first | omega | (rw [hw, hz]; omega))) ?_
    refine Hx.run 2 (pc' := 22) (L' := [some (vr 12), some (vi c), some (vi v)]) (st' := [vi (M 12 0), vi ((M 12 3) - 1), vr 13]) (M' := M) rfl ?_
    refine Hx.mul rfl (by (first | omega | (rw [hw, hz]; omega))) ?_
    refine Hx.run 1 (pc' := 24) (L' := [some (vr 12), some (vi c), some (vi v)]) (st' := [vi c, vi (((M 12 3) - 1) * (M 12 0)), vr 13]) (M' := M) rfl ?_
    refine Hx.add rfl (by (first | omega | (rw [hw, hz]; omega))) ?_
    refine Hx.run 1 (pc' := 26) (L' := [some (vr 12), some (vi c), some (vi v)]) (st' := [vi v, vi ((((M 12 3) - 1) * (M 12 0)) + c), vr 13]) (M' := M) rfl ?_
    refine Hx.call (t := 122) (as := [vr 13, vi ((((M 12 3) - 1) * (M 12 0)) + c), vi v]) (pc' := 29) (rest := []) rfl (c_put (r := 13) (n := 30) rfl (by decide) (i := ((((M 12 3) - 1) * (M 12 0)) + c)) (by (first | omega | (rw [hw, hz]; omega))) v M) ?_
    rintro _ _ ⟨rfl, rfl⟩
    refine Hx.run 0 (pc' := 29) (L' := [some (vr 12), some (vi c), some (vi v)]) (st' := []) (M' := (up M 13 ((((M 12 3) - 1) * (M 12 0)) + c) v)) rfl ?_
    refine Hx.ret rfl ?_
    first | (exfalso; rw [hw] at h1; omega) | exact ⟨rfl, by rw [hw, hz, show (z + 1 - 1) = z by omega]⟩
  · skip
    refine Hx.ret rfl ?_
    first | (exfalso; rw [hw] at h1; omega) | exact ⟨rfl, by rw [hw, hz, show (z + 1 - 1) = z by omega]⟩
set_option maxRecDepth 100000 in
theorem c_add_8 (a b c d e : Int) (M : Mm) (hl : (M 8 0 = 4 ∧ M 8 1 = 5 ∧ 0 ≤ M 8 3 ∧ M 8 3 ≤ 5)) (hs : M 8 3 < 5) : Ct 36 [vr 8, vi a, vi b, vi c, vi d, vi e] M (fun q0 M' => q0 = some (vi (M 8 3 + 1)) ∧ (up (up (up (up (up M 8 3 (M 8 3 + 1)) 9 (M 8 3 * 4 + 0) a) 9 (M 8 3 * 4 + 1) b) 9 (M 8 3 * 4 + 2) c) 9 (M 8 3 * 4 + 3) d) = M') := by
  refine Hx.run 1 (pc' := 1) (L' := [some (vr 8), some (vi a), some (vi b), some (vi c), some (vi d), some (vi e)]) (st' := [vr 8]) (M' := M) rfl ?_
  refine Hx.call (t := 34) (as := [vr 8]) (pc' := 4) (rest := []) rfl (c_isFull_8  M (by omega)) ?_
  rintro _ _ (⟨q3, rfl, rfl⟩ | ⟨q3, rfl, rfl⟩)
  · skip
    refine Hx.run 3 (pc' := 11) (L' := [some (vr 8), some (vi a), some (vi b), some (vi c), some (vi d), some (vi e)]) (st' := [vi (M 8 3)]) (M' := M) rfl ?_
    refine Hx.ret rfl ?_
    first | exact ⟨rfl, rfl⟩ | (exfalso; omega)
  · skip
    refine Hx.run 5 (pc' := 18) (L' := [some (vr 8), some (vi a), some (vi b), some (vi c), some (vi d), some (vi e)]) (st' := [vi 1, vi (M 8 3), vr 8]) (M' := M) rfl ?_
    refine Hx.add rfl (by omega) ?_
    refine Hx.run 4 (pc' := 25) (L' := [some (vr 8), some (vi a), some (vi b), some (vi c), some (vi d), some (vi e)]) (st' := [vi a, vi 0, vr 8]) (M' := (up M 8 3 ((M 8 3) + 1))) rfl ?_
    refine Hx.call (t := 37) (as := [vr 8, vi 0, vi a]) (pc' := 28) (rest := []) rfl (c_setIn_8 0 a (M 8 3) (up M 8 3 ((M 8 3) + 1)) (by first | rfl | exact hl.1) rfl (by omega) (by decide)) ?_
    rintro _ _ ⟨rfl, rfl⟩
    refine Hx.run 0 (pc' := 28) (L' := [some (vr 8), some (vi a), some (vi b), some (vi c), some (vi d), some (vi e)]) (st' := []) (M' := (up (up M 8 3 ((M 8 3) + 1)) 9 ((M 8 3) * 4 + 0) a)) rfl ?_
    refine Hx.run 3 (pc' := 31) (L' := [some (vr 8), some (vi a), some (vi b), some (vi c), some (vi d), some (vi e)]) (st' := [vi b, vi 1, vr 8]) (M' := (up (up M 8 3 ((M 8 3) + 1)) 9 ((M 8 3) * 4 + 0) a)) rfl ?_
    refine Hx.call (t := 37) (as := [vr 8, vi 1, vi b]) (pc' := 34) (rest := []) rfl (c_setIn_8 1 b (M 8 3) (up (up M 8 3 ((M 8 3) + 1)) 9 ((M 8 3) * 4 + 0) a) (by first | rfl | exact hl.1) rfl (by omega) (by decide)) ?_
    rintro _ _ ⟨rfl, rfl⟩
    refine Hx.run 0 (pc' := 34) (L' := [some (vr 8), some (vi a), some (vi b), some (vi c), some (vi d), some (vi e)]) (st' := []) (M' := (up (up (up M 8 3 ((M 8 3) + 1)) 9 ((M 8 3) * 4 + 0) a) 9 ((M 8 3) * 4 + 1) b)) rfl ?_
    refine Hx.run 3 (pc' := 37) (L' := [some (vr 8), some (vi a), some (vi b), some (vi c), some (vi d), some (vi e)]) (st' := [vi c, vi 2, vr 8]) (M' := (up (up (up M 8 3 ((M 8 3) + 1)) 9 ((M 8 3) * 4 + 0) a) 9 ((M 8 3) * 4 + 1) b)) rfl ?_
    refine Hx.call (t := 37) (as := [vr 8, vi 2, vi c]) (pc' := 40) (rest := []) rfl (c_setIn_8 2 c (M 8 3) (up (up (up M 8 3 ((M 8 3) + 1)) 9 ((M 8 3) * 4 + 0) a) 9 ((M 8 3) * 4 + 1) b) (by first | rfl | exact hl.1) rfl (by omega) (by decide)) ?_
    rintro _ _ ⟨rfl, rfl⟩
    refine Hx.run 0 (pc' := 40) (L' := [some (vr 8), some (vi a), some (vi b), some (vi c), some (vi d), some (vi e)]) (st' := []) (M' := (up (up (up (up M 8 3 ((M 8 3) + 1)) 9 ((M 8 3) * 4 + 0) a) 9 ((M 8 3) * 4 + 1) b) 9 ((M 8 3) * 4 + 2) c)) rfl ?_
    refine Hx.run 3 (pc' := 44) (L' := [some (vr 8), some (vi a), some (vi b), some (vi c), some (vi d), some (vi e)]) (st' := [vi d, vi 3, vr 8]) (M' := (up (up (up (up M 8 3 ((M 8 3) + 1)) 9 ((M 8 3) * 4 + 0) a) 9 ((M 8 3) * 4 + 1) b) 9 ((M 8 3) * 4 + 2) c)) rfl ?_
    refine Hx.call (t := 37) (as := [vr 8, vi 3, vi d]) (pc' := 47) (rest := []) rfl (c_setIn_8 3 d (M 8 3) (up (up (up (up M 8 3 ((M 8 3) + 1)) 9 ((M 8 3) * 4 + 0) a) 9 ((M 8 3) * 4 + 1) b) 9 ((M 8 3) * 4 + 2) c) (by first | rfl | exact hl.1) rfl (by omega) (by decide)) ?_
    rintro _ _ ⟨rfl, rfl⟩
    refine Hx.run 0 (pc' := 47) (L' := [some (vr 8), some (vi a), some (vi b), some (vi c), some (vi d), some (vi e)]) (st' := []) (M' := (up (up (up (up (up M 8 3 ((M 8 3) + 1)) 9 ((M 8 3) * 4 + 0) a) 9 ((M 8 3) * 4 + 1) b) 9 ((M 8 3) * 4 + 2) c) 9 ((M 8 3) * 4 + 3) d)) rfl ?_
    refine Hx.run 3 (pc' := 51) (L' := [some (vr 8), some (vi a), some (vi b), some (vi c), some (vi d), some (vi e)]) (st' := [vi e, vi 4, vr 8]) (M' := (up (up (up (up (up M 8 3 ((M 8 3) + 1)) 9 ((M 8 3) * 4 + 0) a) 9 ((M 8 3) * 4 + 1) b) 9 ((M 8 3) * 4 + 2) c) 9 ((M 8 3) * 4 + 3) d)) rfl ?_
    refine Hx.call (t := 37) (as := [vr 8, vi 4, vi e]) (pc' := 54) (rest := []) rfl (c_setOut_8 4 e (up (up (up (up (up M 8 3 ((M 8 3) + 1)) 9 ((M 8 3) * 4 + 0) a) 9 ((M 8 3) * 4 + 1) b) 9 ((M 8 3) * 4 + 2) c) 9 ((M 8 3) * 4 + 3) d) (by first | rfl | exact hl.1) (by decide) (show 0 ≤ ((M 8 3) + 1) ∧ ((M 8 3) + 1) ≤ 9 from by omega)) ?_
    rintro _ _ ⟨rfl, rfl⟩
    refine Hx.run 0 (pc' := 54) (L' := [some (vr 8), some (vi a), some (vi b), some (vi c), some (vi d), some (vi e)]) (st' := []) (M' := (up (up (up (up (up M 8 3 ((M 8 3) + 1)) 9 ((M 8 3) * 4 + 0) a) 9 ((M 8 3) * 4 + 1) b) 9 ((M 8 3) * 4 + 2) c) 9 ((M 8 3) * 4 + 3) d)) rfl ?_
    refine Hx.run 2 (pc' := 58) (L' := [some (vr 8), some (vi a), some (vi b), some (vi c), some (vi d), some (vi e)]) (st' := [vi ((M 8 3) + 1)]) (M' := (up (up (up (up (up M 8 3 ((M 8 3) + 1)) 9 ((M 8 3) * 4 + 0) a) 9 ((M 8 3) * 4 + 1) b) 9 ((M 8 3) * 4 + 2) c) 9 ((M 8 3) * 4 + 3) d)) rfl ?_
    refine Hx.ret rfl ?_
    first | exact ⟨rfl, rfl⟩ | (exfalso; omega)
set_option maxRecDepth 100000 in
theorem c_add_10 (a b c d e : Int) (M : Mm) (hl : (M 10 0 = 3 ∧ M 10 1 = 6 ∧ 0 ≤ M 10 3 ∧ M 10 3 ≤ 6)) (hs : M 10 3 < 6) : Ct 36 [vr 10, vi a, vi b, vi c, vi d, vi e] M (fun q0 M' => q0 = some (vi (M 10 3 + 1)) ∧ (up (up (up (up M 10 3 (M 10 3 + 1)) 11 (M 10 3 * 3 + 0) a) 11 (M 10 3 * 3 + 1) b) 11 (M 10 3 * 3 + 2) c) = M') := by
  refine Hx.run 1 (pc' := 1) (L' := [some (vr 10), some (vi a), some (vi b), some (vi c), some (vi d), some (vi e)]) (st' := [vr 10]) (M' := M) rfl ?_
  refine Hx.call (t := 34) (as := [vr 10]) (pc' := 4) (rest := []) rfl (c_isFull_10  M (by omega)) ?_
  rintro _ _ (⟨q4, rfl, rfl⟩ | ⟨q4, rfl, rfl⟩)
  · skip
    refine Hx.run 3 (pc' := 11) (L' := [some (vr 10), some (vi a), some (vi b), some (vi c), some (vi d), some (vi e)]) (st' := [vi (M 10 3)]) (M' := M) rfl ?_
    refine Hx.ret rfl ?_
    first | exact ⟨rfl, rfl⟩ | (exfalso; omega)
  · skip
    refine Hx.run 5 (pc' := 18) (L' := [some (vr 10), some (vi a), some (vi b), some (vi c), some (vi d), some (vi e)]) (st' := [vi 1, vi (M 10 3), vr 10]) (M' := M) rfl ?_
    refine Hx.add rfl (by omega) ?_
    refine Hx.run 4 (pc' := 25) (L' := [some (vr 10), some (vi a), some (vi b), some (vi c), some (vi d), some (vi e)]) (st' := [vi a, vi 0, vr 10]) (M' := (up M 10 3 ((M 10 3) + 1))) rfl ?_
    refine Hx.call (t := 37) (as := [vr 10, vi 0, vi a]) (pc' := 28) (rest := []) rfl (c_setIn_10 0 a (M 10 3) (up M 10 3 ((M 10 3) + 1)) (by first | rfl | exact hl.1) rfl (by omega) (by decide)) ?_
    rintro _ _ ⟨rfl, rfl⟩
    refine Hx.run 0 (pc' := 28) (L' := [some (vr 10), some (vi a), some (vi b), some (vi c), some (vi d), some (vi e)]) (st' := []) (M' := (up (up M 10 3 ((M 10 3) + 1)) 11 ((M 10 3) * 3 + 0) a)) rfl ?_
    refine Hx.run 3 (pc' := 31) (L' := [some (vr 10), some (vi a), some (vi b), some (vi c), some (vi d), some (vi e)]) (st' := [vi b, vi 1, vr 10]) (M' := (up (up M 10 3 ((M 10 3) + 1)) 11 ((M 10 3) * 3 + 0) a)) rfl ?_
    refine Hx.call (t := 37) (as := [vr 10, vi 1, vi b]) (pc' := 34) (rest := []) rfl (c_setIn_10 1 b (M 10 3) (up (up M 10 3 ((M 10 3) + 1)) 11 ((M 10 3) * 3 + 0) a) (by first | rfl | exact hl.1) rfl (by omega) (by decide)) ?_
    rintro _ _ ⟨rfl, rfl⟩
    refine Hx.run 0 (pc' := 34) (L' := [some (vr 10), some (vi a), some (vi b), some (vi c), some (vi d), some (vi e)]) (st' := []) (M' := (up (up (up M 10 3 ((M 10 3) + 1)) 11 ((M 10 3) * 3 + 0) a) 11 ((M 10 3) * 3 + 1) b)) rfl ?_
    refine Hx.run 3 (pc' := 37) (L' := [some (vr 10), some (vi a), some (vi b), some (vi c), some (vi d), some (vi e)]) (st' := [vi c, vi 2, vr 10]) (M' := (up (up (up M 10 3 ((M 10 3) + 1)) 11 ((M 10 3) * 3 + 0) a) 11 ((M 10 3) * 3 + 1) b)) rfl ?_
    refine Hx.call (t := 37) (as := [vr 10, vi 2, vi c]) (pc' := 40) (rest := []) rfl (c_setIn_10 2 c (M 10 3) (up (up (up M 10 3 ((M 10 3) + 1)) 11 ((M 10 3) * 3 + 0) a) 11 ((M 10 3) * 3 + 1) b) (by first | rfl | exact hl.1) rfl (by omega) (by decide)) ?_
    rintro _ _ ⟨rfl, rfl⟩
    refine Hx.run 0 (pc' := 40) (L' := [some (vr 10), some (vi a), some (vi b), some (vi c), some (vi d), some (vi e)]) (st' := []) (M' := (up (up (up (up M 10 3 ((M 10 3) + 1)) 11 ((M 10 3) * 3 + 0) a) 11 ((M 10 3) * 3 + 1) b) 11 ((M 10 3) * 3 + 2) c)) rfl ?_
    refine Hx.run 3 (pc' := 44) (L' := [some (vr 10), some (vi a), some (vi b), some (vi c), some (vi d), some (vi e)]) (st' := [vi d, vi 3, vr 10]) (M' := (up (up (up (up M 10 3 ((M 10 3) + 1)) 11 ((M 10 3) * 3 + 0) a) 11 ((M 10 3) * 3 + 1) b) 11 ((M 10 3) * 3 + 2) c)) rfl ?_
    refine Hx.call (t := 37) (as := [vr 10, vi 3, vi d]) (pc' := 47) (rest := []) rfl (c_setOut_10 3 d (up (up (up (up M 10 3 ((M 10 3) + 1)) 11 ((M 10 3) * 3 + 0) a) 11 ((M 10 3) * 3 + 1) b) 11 ((M 10 3) * 3 + 2) c) (by first | rfl | exact hl.1) (by decide) (show 0 ≤ ((M 10 3) + 1) ∧ ((M 10 3) + 1) ≤ 9 from by omega)) ?_
    rintro _ _ ⟨rfl, rfl⟩
    refine Hx.run 0 (pc' := 47) (L' := [some (vr 10), some (vi a), some (vi b), some (vi c), some (vi d), some (vi e)]) (st' := []) (M' := (up (up (up (up M 10 3 ((M 10 3) + 1)) 11 ((M 10 3) * 3 + 0) a) 11 ((M 10 3) * 3 + 1) b) 11 ((M 10 3) * 3 + 2) c)) rfl ?_
    refine Hx.run 3 (pc' := 51) (L' := [some (vr 10), some (vi a), some (vi b), some (vi c), some (vi d), some (vi e)]) (st' := [vi e, vi 4, vr 10]) (M' := (up (up (up (up M 10 3 ((M 10 3) + 1)) 11 ((M 10 3) * 3 + 0) a) 11 ((M 10 3) * 3 + 1) b) 11 ((M 10 3) * 3 + 2) c)) rfl ?_
    refine Hx.call (t := 37) (as := [vr 10, vi 4, vi e]) (pc' := 54) (rest := []) rfl (c_setOut_10 4 e (up (up (up (up M 10 3 ((M 10 3) + 1)) 11 ((M 10 3) * 3 + 0) a) 11 ((M 10 3) * 3 + 1) b) 11 ((M 10 3) * 3 + 2) c) (by first | rfl | exact hl.1) (by decide) (show 0 ≤ ((M 10 3) + 1) ∧ ((M 10 3) + 1) ≤ 9 from by omega)) ?_
    rintro _ _ ⟨rfl, rfl⟩
    refine Hx.run 0 (pc' := 54) (L' := [some (vr 10), some (vi a), some (vi b), some (vi c), some (vi d), some (vi e)]) (st' := []) (M' := (up (up (up (up M 10 3 ((M 10 3) + 1)) 11 ((M 10 3) * 3 + 0) a) 11 ((M 10 3) * 3 + 1) b) 11 ((M 10 3) * 3 + 2) c)) rfl ?_
    refine Hx.run 2 (pc' := 58) (L' := [some (vr 10), some (vi a), some (vi b), some (vi c), some (vi d), some (vi e)]) (st' := [vi ((M 10 3) + 1)]) (M' := (up (up (up (up M 10 3 ((M 10 3) + 1)) 11 ((M 10 3) * 3 + 0) a) 11 ((M 10 3) * 3 + 1) b) 11 ((M 10 3) * 3 + 2) c)) rfl ?_
    refine Hx.ret rfl ?_
    first | exact ⟨rfl, rfl⟩ | (exfalso; omega)
set_option maxRecDepth 100000 in
theorem c_add_12 (a b c d e : Int) (M : Mm) (hl : (M 12 0 = 5 ∧ M 12 1 = 6 ∧ 0 ≤ M 12 3 ∧ M 12 3 ≤ 6)) (hs : M 12 3 < 6) : Ct 36 [vr 12, vi a, vi b, vi c, vi d, vi e] M (fun q0 M' => q0 = some (vi (M 12 3 + 1)) ∧ (up (up (up (up (up (up M 12 3 (M 12 3 + 1)) 13 (M 12 3 * 5 + 0) a) 13 (M 12 3 * 5 + 1) b) 13 (M 12 3 * 5 + 2) c) 13 (M 12 3 * 5 + 3) d) 13 (M 12 3 * 5 + 4) e) = M') := by
  refine Hx.run 1 (pc' := 1) (L' := [some (vr 12), some (vi a), some (vi b), some (vi c), some (vi d), some (vi e)]) (st' := [vr 12]) (M' := M) rfl ?_
  refine Hx.call (t := 34) (as := [vr 12]) (pc' := 4) (rest := []) rfl (c_isFull_12  M (by omega)) ?_
  rintro _ _ (⟨q5, rfl, rfl⟩ | ⟨q5, rfl, rfl⟩)
  · skip
    refine Hx.run 3 (pc' := 11) (L' := [some (vr 12), some (vi a), some (vi b), some (vi c), some (vi d), some (vi e)]) (st' := [vi (M 12 3)]) (M' := M) rfl ?_
    refine Hx.ret rfl ?_
    first | exact ⟨rfl, rfl⟩ | (exfalso; omega)
  · skip
    refine Hx.run 5 (pc' := 18) (L' := [some (vr 12), some (vi a), some (vi b), some (vi c), some (vi d), some (vi e)]) (st' := [vi 1, vi (M 12 3), vr 12]) (M' := M) rfl ?_
    refine Hx.add rfl (by omega) ?_
    refine Hx.run 4 (pc' := 25) (L' := [some (vr 12), some (vi a), some (vi b), some (vi c), some (vi d), some (vi e)]) (st' := [vi a, vi 0, vr 12]) (M' := (up M 12 3 ((M 12 3) + 1))) rfl ?_
    refine Hx.call (t := 37) (as := [vr 12, vi 0, vi a]) (pc' := 28) (rest := []) rfl (c_setIn_12 0 a (M 12 3) (up M 12 3 ((M 12 3) + 1)) (by first | rfl | exact hl.1) rfl (by omega) (by decide)) ?_
    rintro _ _ ⟨rfl, rfl⟩
    refine Hx.run 0 (pc' := 28) (L' := [some (vr 12), some (vi a), some (vi b), some (vi c), some (vi d), some (vi e)]) (st' := []) (M' := (up (up M 12 3 ((M 12 3) + 1)) 13 ((M 12 3) * 5 + 0) a)) rfl ?_
    refine Hx.run 3 (pc' := 31) (L' := [some (vr 12), some (vi a), some (vi b), some (vi c), some (vi d), some (vi e)]) (st' := [vi b, vi 1, vr 12]) (M' := (up (up M 12 3 ((M 12 3) + 1)) 13 ((M 12 3) * 5 + 0) a)) rfl ?_
    refine Hx.call (t := 37) (as := [vr 12, vi 1, vi b]) (pc' := 34) (rest := []) rfl (c_setIn_12 1 b (M 12 3) (up (up M 12 3 ((M 12 3) + 1)) 13 ((M 12 3) * 5 + 0) a) (by first | rfl | exact hl.1) rfl (by omega) (by decide)) ?_
    rintro _ _ ⟨rfl, rfl⟩
    refine Hx.run 0 (pc' := 34) (L' := [some (vr 12), some (vi a), some (vi b), some (vi c), some (vi d), some (vi e)]) (st' := []) (M' := (up (up (up M 12 3 ((M 12 3) + 1)) 13 ((M 12 3) * 5 + 0) a) 13 ((M 12 3) * 5 + 1) b)) rfl ?_
    refine Hx.run 3 (pc' := 37) (L' := [some (vr 12), some (vi a), some (vi b), some (vi c), some (vi d), some (vi e)]) (st' := [vi c, vi 2, vr 12]) (M' := (up (up (up M 12 3 ((M 12 3) + 1)) 13 ((M 12 3) * 5 + 0) a) 13 ((M 12 3) * 5 + 1) b)) rfl ?_
    refine Hx.call (t := 37) (as := [vr 12, vi 2, vi c]) (pc' := 40) (rest := []) rfl (c_setIn_12 2 c (M 12 3) (up (up (up M 12 3 ((M 12 3) + 1)) 13 ((M 12 3) * 5 + 0) a) 13 ((M 12 3) * 5 + 1) b) (by first | rfl | exact hl.1) rfl (by omega) (by decide)) ?_
    rintro _ _ ⟨rfl, rfl⟩
    refine Hx.run 0 (pc' := 40) (L' := [some (vr 12), some (vi a), some (vi b), some (vi c), some (vi d), some (vi e)]) (st' := []) (M' := (up (up (up (up M 12 3 ((M 12 3) + 1)) 13 ((M 12 3) * 5 + 0) a) 13 ((M 12 3) * 5 + 1) b) 13 ((M 12 3) * 5 + 2) c)) rfl ?_
    refine Hx.run 3 (pc' := 44) (L' := [some (vr 12), some (vi a), some (vi b), some (vi c), some (vi d), some (vi e)]) (st' := [vi d, vi 3, vr 12]) (M' := (up (up (up (up M 12 3 ((M 12 3) + 1)) 13 ((M 12 3) * 5 + 0) a) 13 ((M 12 3) * 5 + 1) b) 13 ((M 12 3) * 5 + 2) c)) rfl ?_
    refine Hx.call (t := 37) (as := [vr 12, vi 3, vi d]) (pc' := 47) (rest := []) rfl (c_setIn_12 3 d (M 12 3) (up (up (up (up M 12 3 ((M 12 3) + 1)) 13 ((M 12 3) * 5 + 0) a) 13 ((M 12 3) * 5 + 1) b) 13 ((M 12 3) * 5 + 2) c) (by first | rfl | exact hl.1) rfl (by omega) (by decide)) ?_
    rintro _ _ ⟨rfl, rfl⟩
    refine Hx.run 0 (pc' := 47) (L' := [some (vr 12), some (vi a), some (vi b), some (vi c), some (vi d), some (vi e)]) (st' := []) (M' := (up (up (up (up (up M 12 3 ((M 12 3) + 1)) 13 ((M 12 3) * 5 + 0) a) 13 ((M 12 3) * 5 + 1) b) 13 ((M 12 3) * 5 + 2) c) 13 ((M 12 3) * 5 + 3) d)) rfl ?_
    refine Hx.run 3 (pc' := 51) (L' := [some (vr 12), some (vi a), some (vi b), some (vi c), some (vi d), some (vi e)]) (st' := [vi e, vi 4, vr 12]) (M' := (up (up (up (up (up M 12 3 ((M 12 3) + 1)) 13 ((M 12 3) * 5 + 0) a) 13 ((M 12 3) * 5 + 1) b) 13 ((M 12 3) * 5 + 2) c) 13 ((M 12 3) * 5 + 3) d)) rfl ?_
    refine Hx.call (t := 37) (as := [vr 12, vi 4, vi e]) (pc' := 54) (rest := []) rfl (c_setIn_12 4 e (M 12 3) (up (up (up (up (up M 12 3 ((M 12 3) + 1)) 13 ((M 12 3) * 5 + 0) a) 13 ((M 12 3) * 5 + 1) b) 13 ((M 12 3) * 5 + 2) c) 13 ((M 12 3) * 5 + 3) d) (by first | rfl | exact hl.1) rfl (by omega) (by decide)) ?_
    rintro _ _ ⟨rfl, rfl⟩
    refine Hx.run 0 (pc' := 54) (L' := [some (vr 12), some (vi a), some (vi b), some (vi c), some (vi d), some (vi e)]) (st' := []) (M' := (up (up (up (up (up (up M 12 3 ((M 12 3) + 1)) 13 ((M 12 3) * 5 + 0) a) 13 ((M 12 3) * 5 + 1) b) 13 ((M 12 3) * 5 + 2) c) 13 ((M 12 3) * 5 + 3) d) 13 ((M 12 3) * 5 + 4) e)) rfl ?_
    refine Hx.run 2 (pc' := 58) (L' := [some (vr 12), some (vi a), some (vi b), some (vi c), some (vi d), some (vi e)]) (st' := [vi ((M 12 3) + 1)]) (M' := (up (up (up (up (up (up M 12 3 ((M 12 3) + 1)) 13 ((M 12 3) * 5 + 0) a) 13 ((M 12 3) * 5 + 1) b) 13 ((M 12 3) * 5 + 2) c) 13 ((M 12 3) * 5 + 3) d) 13 ((M 12 3) * 5 + 4) e)) rfl ?_
    refine Hx.ret rfl ?_
    first | exact ⟨rfl, rfl⟩ | (exfalso; omega)
set_option maxRecDepth 100000 in
theorem c_lempty_47 (M : Mm) : Ct 35 [vr 47] M (fun q0 M' => q0 = some (vi (M 47 3)) ∧ up M 47 3 0 = M') := by
  refine Hx.run 7 (pc' := 11) (L' := [some (vr 47), some (vi (M 47 3))]) (st' := [vi (M 47 3)]) (M' := (up M 47 3 0)) rfl ?_
  refine Hx.ret rfl ?_
  exact ⟨rfl, rfl⟩
set_option maxRecDepth 100000 in
theorem c_lempty_49 (M : Mm) : Ct 35 [vr 49] M (fun q0 M' => q0 = some (vi (M 49 3)) ∧ up M 49 3 0 = M') := by
  refine Hx.run 7 (pc' := 11) (L' := [some (vr 49), some (vi (M 49 3))]) (st' := [vi (M 49 3)]) (M' := (up M 49 3 0)) rfl ?_
  refine Hx.ret rfl ?_
  exact ⟨rfl, rfl⟩
set_option maxRecDepth 100000 in
theorem c_lempty_51 (M : Mm) : Ct 35 [vr 51] M (fun q0 M' => q0 = some (vi (M 51 3)) ∧ up M 51 3 0 = M') := by
  refine Hx.run 7 (pc' := 11) (L' := [some (vr 51), some (vi (M 51 3))]) (st' := [vi (M 51 3)]) (M' := (up M 51 3 0)) rfl ?_
  refine Hx.ret rfl ?_
  exact ⟨rfl, rfl⟩
set_option maxRecDepth 100000 in
theorem c_empty_1 (M : Mm) : Ct 5 [vr 1] M (fun q0 M' => q0 = none ∧ emM M 1 = M') := by
  refine Hx.run 12 (pc' := 20) (L' := [some (vr 1)]) (st' := [vi 0, vr 6]) (M' := (up (up (up M 1 0 0) 1 1 0) 1 2 0)) rfl ?_
  refine Hx.call (t := 224) (as := [vr 6, vi 0]) (pc' := 23) (rest := []) rfl (c_fill (r := 6) (n := 17) rfl (by decide) (by decide) 0 (up (up (up M 1 0 0) 1 1 0) 1 2 0)) ?_
  rintro _ _ ⟨rfl, rfl⟩
  refine Hx.run 0 (pc' := 23) (L' := [some (vr 1)]) (st' := []) (M' := (fl (up (up (up M 1 0 0) 1 1 0) 1 2 0) 6 0 17 0)) rfl ?_
  refine Hx.run 2 (pc' := 27) (L' := [some (vr 1)]) (st' := [vr 8]) (M' := (fl (up (up (up M 1 0 0) 1 1 0) 1 2 0) 6 0 17 0)) rfl ?_
  refine Hx.call (t := 35) (as := [vr 8]) (pc' := 30) (rest := []) rfl (c_lempty_8 (fl (up (up (up M 1 0 0) 1 1 0) 1 2 0) 6 0 17 0)) ?_
  rintro _ _ ⟨rfl, rfl⟩
  refine Hx.run 0 (pc' := 30) (L' := [some (vr 1)]) (st' := [vi ((fl (up (up (up M 1 0 0) 1 1 0) 1 2 0) 6 0 17 0) 8 3)]) (M' := (up (fl (up (up (up M 1 0 0) 1 1 0) 1 2 0) 6 0 17 0) 8 3 0)) rfl ?_
  refine Hx.run 3 (pc' := 35) (L' := [some (vr 1)]) (st' := [vr 10]) (M' := (up (fl (up (up (up M 1 0 0) 1 1 0) 1 2 0) 6 0 17 0) 8 3 0)) rfl ?_
  refine Hx.call (t := 35) (as := [vr 10]) (pc' := 38) (rest := []) rfl (c_lempty_10 (up (fl (up (up (up M 1 0 0) 1 1 0) 1 2 0) 6 0 17 0) 8 3 0)) ?_
  rintro _ _ ⟨rfl, rfl⟩
  refine Hx.run 0 (pc' := 38) (L' := [some (vr 1)]) (st' := [vi ((fl (up (up (up M 1 0 0) 1 1 0) 1 2 0) 6 0 17 0) 10 3)]) (M' := (up (up (fl (up (up (up M 1 0 0) 1 1 0) 1 2 0) 6 0 17 0) 8 3 0) 10 3 0)) rfl ?_
  refine Hx.run 3 (pc' := 43) (L' := [some (vr 1)]) (st' := [vr 12]) (M' := (up (up (fl (up (up (up M 1 0 0) 1 1 0) 1 2 0) 6 0 17 0) 8 3 0) 10 3 0)) rfl ?_
  refine Hx.call (t := 35) (as := [vr 12]) (pc' := 46) (rest := []) rfl (c_lempty_12 (up (up (fl (up (up (up M 1 0 0) 1 1 0) 1 2 0) 6 0 17 0) 8 3 0) 10 3 0)) ?_
  rintro _ _ ⟨rfl, rfl⟩
  refine Hx.run 0 (pc' := 46) (L' := [some (vr 1)]) (st' := [vi ((fl (up (up (up M 1 0 0) 1 1 0) 1 2 0) 6 0 17 0) 12 3)]) (M' := (up (up (up (fl (up (up (up M 1 0 0) 1 1 0) 1 2 0) 6 0 17 0) 8 3 0) 10 3 0) 12 3 0)) rfl ?_
  refine Hx.run 1 (pc' := 47) (L' := [some (vr 1)]) (st' := []) (M' := (up (up (up (fl (up (up (up M 1 0 0) 1 1 0) 1 2 0) 6 0 17 0) 8 3 0) 10 3 0) 12 3 0)) rfl ?_
  refine Hx.ret rfl ?_
  exact ⟨rfl, rfl⟩
set_option maxRecDepth 100000 in
theorem c_empty_40 (M : Mm) : Ct 5 [vr 40] M (fun q0 M' => q0 = none ∧ emM M 40 = M') := by
  refine Hx.run 12 (pc' := 20) (L' := [some (vr 40)]) (st' := [vi 0, vr 45]) (M' := (up (up (up M 40 0 0) 40 1 0) 40 2 0)) rfl ?_
  refine Hx.call (t := 224) (as := [vr 45, vi 0]) (pc' := 23) (rest := []) rfl (c_fill (r := 45) (n := 17) rfl (by decide) (by decide) 0 (up (up (up M 40 0 0) 40 1 0) 40 2 0)) ?_
  rintro _ _ ⟨rfl, rfl⟩
  refine Hx.run 0 (pc' := 23) (L' := [some (vr 40)]) (st' := []) (M' := (fl (up (up (up M 40 0 0) 40 1 0) 40 2 0) 45 0 17 0)) rfl ?_
  refine Hx.run 2 (pc' := 27) (L' := [some (vr 40)]) (st' := [vr 47]) (M' := (fl (up (up (up M 40 0 0) 40 1 0) 40 2 0) 45 0 17 0)) rfl ?_
  refine Hx.call (t := 35) (as := [vr 47]) (pc' := 30) (rest := []) rfl (c_lempty_47 (fl (up (up (up M 40 0 0) 40 1 0) 40 2 0) 45 0 17 0)) ?_
  rintro _ _ ⟨rfl, rfl⟩
  refine Hx.run 0 (pc' := 30) (L' := [some (vr 40)]) (st' := [vi ((fl (up (up (up M 40 0 0) 40 1 0) 40 2 0) 45 0 17 0) 47 3)]) (M' := (up (fl (up (up (up M 40 0 0) 40 1 0) 40 2 0) 45 0 17 0) 47 3 0)) rfl ?_
  refine Hx.run 3 (pc' := 35) (L' := [some (vr 40)]) (st' := [vr 49]) (M' := (up (fl (up (up (up M 40 0 0) 40 1 0) 40 2 0) 45 0 17 0) 47 3 0)) rfl ?_
  refine Hx.call (t := 35) (as := [vr 49]) (pc' := 38) (rest := []) rfl (c_lempty_49 (up (fl (up (up (up M 40 0 0) 40 1 0) 40 2 0) 45 0 17 0) 47 3 0)) ?_
  rintro _ _ ⟨rfl, rfl⟩
  refine Hx.run 0 (pc' := 38) (L' := [some (vr 40)]) (st' := [vi ((fl (up (up (up M 40 0 0) 40 1 0) 40 2 0) 45 0 17 0) 49 3)]) (M' := (up (up (fl (up (up (up M 40 0 0) 40 1 0) 40 2 0) 45 0 17 0) 47 3 0) 49 3 0)) rfl ?_
  refine Hx.run 3 (pc' := 43) (L' := [some (vr 40)]) (st' := [vr 51]) (M' := (up (up (fl (up (up (up M 40 0 0) 40 1 0) 40 2 0) 45 0 17 0) 47 3 0) 49 3 0)) rfl ?_
  refine Hx.call (t := 35) (as := [vr 51]) (pc' := 46) (rest := []) rfl (c_lempty_51 (up (up (fl (up (up (up M 40 0 0) 40 1 0) 40 2 0) 45 0 17 0) 47 3 0) 49 3 0)) ?_
  rintro _ _ ⟨rfl, rfl⟩
  refine Hx.run 0 (pc' := 46) (L' := [some (vr 40)]) (st' := [vi ((fl (up (up (up M 40 0 0) 40 1 0) 40 2 0) 45 0 17 0) 51 3)]) (M' := (up (up (up (fl (up (up (up M 40 0 0) 40 1 0) 40 2 0) 45 0 17 0) 47 3 0) 49 3 0) 51 3 0)) rfl ?_
  refine Hx.run 1 (pc' := 47) (L' := [some (vr 40)]) (st' := []) (M' := (up (up (up (fl (up (up (up M 40 0 0) 40 1 0) 40 2 0) 45 0 17 0) 47 3 0) 49 3 0) 51 3 0)) rfl ?_
  refine Hx.ret rfl ?_
  exact ⟨rfl, rfl⟩
set_option maxRecDepth 100000 in
theorem c_ltake_8_47 (M : Mm) : Ct 39 [vr 8, vr 47] M (fun q0 M' => q0 = none ∧ tkL M 8 47 20 = M') := by
  refine Hx.run 8 (pc' := 16) (L' := [some (vr 8), some (vr 47)]) (st' := [vr 48, vr 9]) (M' := (up M 8 3 (M 47 3))) rfl ?_
  refine Hx.call (t := 123) (as := [vr 9, vr 48]) (pc' := 19) (rest := []) rfl (c_copyInto (rd := 9) (rs := 48) (n := 20) rfl rfl (by decide) (by decide) (by decide) (up M 8 3 (M 47 3))) ?_
  rintro _ _ ⟨rfl, rfl⟩
  refine Hx.run 0 (pc' := 19) (L' := [some (vr 8), some (vr 47)]) (st' := []) (M' := (cp (up M 8 3 (M 47 3)) 48 0 9 0 20)) rfl ?_
  refine Hx.ret rfl ?_
  exact ⟨rfl, rfl⟩
set_option maxRecDepth 100000 in
theorem c_ltake_10_49 (M : Mm) : Ct 39 [vr 10, vr 49] M (fun q0 M' => q0 = none ∧ tkL M 10 49 18 = M') := by
  refine Hx.run 8 (pc' := 16) (L' := [some (vr 10), some (vr 49)]) (st' := [vr 50, vr 11]) (M' := (up M 10 3 (M 49 3))) rfl ?_
  refine Hx.call (t := 123) (as := [vr 11, vr 50]) (pc' := 19) (rest := []) rfl (c_copyInto (rd := 11) (rs := 50) (n := 18) rfl rfl (by decide) (by decide) (by decide) (up M 10 3 (M 49 3))) ?_
  rintro _ _ ⟨rfl, rfl⟩
  refine Hx.run 0 (pc' := 19) (L' := [some (vr 10), some (vr 49)]) (st' := []) (M' := (cp (up M 10 3 (M 49 3)) 50 0 11 0 18)) rfl ?_
  refine Hx.ret rfl ?_
  exact ⟨rfl, rfl⟩
set_option maxRecDepth 100000 in
theorem c_ltake_12_51 (M : Mm) : Ct 39 [vr 12, vr 51] M (fun q0 M' => q0 = none ∧ tkL M 12 51 30 = M') := by
  refine Hx.run 8 (pc' := 16) (L' := [some (vr 12), some (vr 51)]) (st' := [vr 52, vr 13]) (M' := (up M 12 3 (M 51 3))) rfl ?_
  refine Hx.call (t := 123) (as := [vr 13, vr 52]) (pc' := 19) (rest := []) rfl (c_copyInto (rd := 13) (rs := 52) (n := 30) rfl rfl (by decide) (by decide) (by decide) (up M 12 3 (M 51 3))) ?_
  rintro _ _ ⟨rfl, rfl⟩
  refine Hx.run 0 (pc' := 19) (L' := [some (vr 12), some (vr 51)]) (st' := []) (M' := (cp (up M 12 3 (M 51 3)) 52 0 13 0 30)) rfl ?_
  refine Hx.ret rfl ?_
  exact ⟨rfl, rfl⟩
set_option maxRecDepth 100000 in
theorem c_ltake_47_8 (M : Mm) : Ct 39 [vr 47, vr 8] M (fun q0 M' => q0 = none ∧ tkL M 47 8 20 = M') := by
  refine Hx.run 8 (pc' := 16) (L' := [some (vr 47), some (vr 8)]) (st' := [vr 9, vr 48]) (M' := (up M 47 3 (M 8 3))) rfl ?_
  refine Hx.call (t := 123) (as := [vr 48, vr 9]) (pc' := 19) (rest := []) rfl (c_copyInto (rd := 48) (rs := 9) (n := 20) rfl rfl (by decide) (by decide) (by decide) (up M 47 3 (M 8 3))) ?_
  rintro _ _ ⟨rfl, rfl⟩
  refine Hx.run 0 (pc' := 19) (L' := [some (vr 47), some (vr 8)]) (st' := []) (M' := (cp (up M 47 3 (M 8 3)) 9 0 48 0 20)) rfl ?_
  refine Hx.ret rfl ?_
  exact ⟨rfl, rfl⟩
set_option maxRecDepth 100000 in
theorem c_ltake_49_10 (M : Mm) : Ct 39 [vr 49, vr 10] M (fun q0 M' => q0 = none ∧ tkL M 49 10 18 = M') := by
  refine Hx.run 8 (pc' := 16) (L' := [some (vr 49), some (vr 10)]) (st' := [vr 11, vr 50]) (M' := (up M 49 3 (M 10 3))) rfl ?_
  refine Hx.call (t := 123) (as := [vr 50, vr 11]) (pc' := 19) (rest := []) rfl (c_copyInto (rd := 50) (rs := 11) (n := 18) rfl rfl (by decide) (by decide) (by decide) (up M 49 3 (M 10 3))) ?_
  rintro _ _ ⟨rfl, rfl⟩
  refine Hx.run 0 (pc' := 19) (L' := [some (vr 49), some (vr 10)]) (st' := []) (M' := (cp (up M 49 3 (M 10 3)) 11 0 50 0 18)) rfl ?_
  refine Hx.ret rfl ?_
  exact ⟨rfl, rfl⟩
set_option maxRecDepth 100000 in
theorem c_ltake_51_12 (M : Mm) : Ct 39 [vr 51, vr 12] M (fun q0 M' => q0 = none ∧ tkL M 51 12 30 = M') := by
  refine Hx.run 8 (pc' := 16) (L' := [some (vr 51), some (vr 12)]) (st' := [vr 13, vr 52]) (M' := (up M 51 3 (M 12 3))) rfl ?_
  refine Hx.call (t := 123) (as := [vr 52, vr 13]) (pc' := 19) (rest := []) rfl (c_copyInto (rd := 52) (rs := 13) (n := 30) rfl rfl (by decide) (by decide) (by decide) (up M 51 3 (M 12 3))) ?_
  rintro _ _ ⟨rfl, rfl⟩
  refine Hx.run 0 (pc' := 19) (L' := [some (vr 51), some (vr 12)]) (st' := []) (M' := (cp (up M 51 3 (M 12 3)) 13 0 52 0 30)) rfl ?_
  refine Hx.ret rfl ?_
  exact ⟨rfl, rfl⟩
set_option maxRecDepth 100000 in
theorem c_ltake_21_8 (M : Mm) : Ct 39 [vr 21, vr 8] M (fun q0 M' => q0 = none ∧ tkL M 21 8 20 = M') := by
  refine Hx.run 8 (pc' := 16) (L' := [some (vr 21), some (vr 8)]) (st' := [vr 9, vr 22]) (M' := (up M 21 3 (M 8 3))) rfl ?_
  refine Hx.call (t := 123) (as := [vr 22, vr 9]) (pc' := 19) (rest := []) rfl (c_copyInto (rd := 22) (rs := 9) (n := 20) rfl rfl (by decide) (by decide) (by decide) (up M 21 3 (M 8 3))) ?_
  rintro _ _ ⟨rfl, rfl⟩
  refine Hx.run 0 (pc' := 19) (L' := [some (vr 21), some (vr 8)]) (st' := []) (M' := (cp (up M 21 3 (M 8 3)) 9 0 22 0 20)) rfl ?_
  refine Hx.ret rfl ?_
  exact ⟨rfl, rfl⟩
set_option maxRecDepth 100000 in
theorem c_ltake_23_10 (M : Mm) : Ct 39 [vr 23, vr 10] M (fun q0 M' => q0 = none ∧ tkL M 23 10 18 = M') := by
  refine Hx.run 8 (pc' := 16) (L' := [some (vr 23), some (vr 10)]) (st' := [vr 11, vr 24]) (M' := (up M 23 3 (M 10 3))) rfl ?_
  refine Hx.call (t := 123) (as := [vr 24, vr 11]) (pc' := 19) (rest := []) rfl (c_copyInto (rd := 24) (rs := 11) (n := 18) rfl rfl (by decide) (by decide) (by decide) (up M 23 3 (M 10 3))) ?_
  rintro _ _ ⟨rfl, rfl⟩
  refine Hx.run 0 (pc' := 19) (L' := [some (vr 23), some (vr 10)]) (st' := []) (M' := (cp (up M 23 3 (M 10 3)) 11 0 24 0 18)) rfl ?_
  refine Hx.ret rfl ?_
  exact ⟨rfl, rfl⟩
set_option maxRecDepth 100000 in
theorem c_ltake_25_12 (M : Mm) : Ct 39 [vr 25, vr 12] M (fun q0 M' => q0 = none ∧ tkL M 25 12 30 = M') := by
  refine Hx.run 8 (pc' := 16) (L' := [some (vr 25), some (vr 12)]) (st' := [vr 13, vr 26]) (M' := (up M 25 3 (M 12 3))) rfl ?_
  refine Hx.call (t := 123) (as := [vr 26, vr 13]) (pc' := 19) (rest := []) rfl (c_copyInto (rd := 26) (rs := 13) (n := 30) rfl rfl (by decide) (by decide) (by decide) (up M 25 3 (M 12 3))) ?_
  rintro _ _ ⟨rfl, rfl⟩
  refine Hx.run 0 (pc' := 19) (L' := [some (vr 25), some (vr 12)]) (st' := []) (M' := (cp (up M 25 3 (M 12 3)) 13 0 26 0 30)) rfl ?_
  refine Hx.ret rfl ?_
  exact ⟨rfl, rfl⟩
set_option maxRecDepth 100000 in
theorem c_ltake_34_8 (M : Mm) : Ct 39 [vr 34, vr 8] M (fun q0 M' => q0 = none ∧ tkL M 34 8 20 = M') := by
  refine Hx.run 8 (pc' := 16) (L' := [some (vr 34), some (vr 8)]) (st' := [vr 9, vr 35]) (M' := (up M 34 3 (M 8 3))) rfl ?_
  refine Hx.call (t := 123) (as := [vr 35, vr 9]) (pc' := 19) (rest := []) rfl (c_copyInto (rd := 35) (rs := 9) (n := 20) rfl rfl (by decide) (by decide) (by decide) (up M 34 3 (M 8 3))) ?_
  rintro _ _ ⟨rfl, rfl⟩
  refine Hx.run 0 (pc' := 19) (L' := [some (vr 34), some (vr 8)]) (st' := []) (M' := (cp (up M 34 3 (M 8 3)) 9 0 35 0 20)) rfl ?_
  refine Hx.ret rfl ?_
  exact ⟨rfl, rfl⟩
set_option maxRecDepth 100000 in
theorem c_ltake_36_10 (M : Mm) : Ct 39 [vr 36, vr 10] M (fun q0 M' => q0 = none ∧ tkL M 36 10 18 = M') := by
  refine Hx.run 8 (pc' := 16) (L' := [some (vr 36), some (vr 10)]) (st' := [vr 11, vr 37]) (M' := (up M 36 3 (M 10 3))) rfl ?_
  refine Hx.call (t := 123) (as := [vr 37, vr 11]) (pc' := 19) (rest := []) rfl (c_copyInto (rd := 37) (rs := 11) (n := 18) rfl rfl (by decide) (by decide) (by decide) (up M 36 3 (M 10 3))) ?_
  rintro _ _ ⟨rfl, rfl⟩
  refine Hx.run 0 (pc' := 19) (L' := [some (vr 36), some (vr 10)]) (st' := []) (M' := (cp (up M 36 3 (M 10 3)) 11 0 37 0 18)) rfl ?_
  refine Hx.ret rfl ?_
  exact ⟨rfl, rfl⟩
set_option maxRecDepth 100000 in
theorem c_ltake_38_12 (M : Mm) : Ct 39 [vr 38, vr 12] M (fun q0 M' => q0 = none ∧ tkL M 38 12 30 = M') := by
  refine Hx.run 8 (pc' := 16) (L' := [some (vr 38), some (vr 12)]) (st' := [vr 13, vr 39]) (M' := (up M 38 3 (M 12 3))) rfl ?_
  refine Hx.call (t := 123) (as := [vr 39, vr 13]) (pc' := 19) (rest := []) rfl (c_copyInto (rd := 39) (rs := 13) (n := 30) rfl rfl (by decide) (by decide) (by decide) (up M 38 3 (M 12 3))) ?_
  rintro _ _ ⟨rfl, rfl⟩
  refine Hx.run 0 (pc' := 19) (L' := [some (vr 38), some (vr 12)]) (st' := []) (M' := (cp (up M 38 3 (M 12 3)) 13 0 39 0 30)) rfl ?_
  refine Hx.ret rfl ?_
  exact ⟨rfl, rfl⟩
set_option maxRecDepth 100000 in
theorem c_ltake_8_21 (M : Mm) : Ct 39 [vr 8, vr 21] M (fun q0 M' => q0 = none ∧ tkL M 8 21 20 = M') := by
  refine Hx.run 8 (pc' := 16) (L' := [some (vr 8), some (vr 21)]) (st' := [vr 22, vr 9]) (M' := (up M 8 3 (M 21 3))) rfl ?_
  refine Hx.call (t := 123) (as := [vr 9, vr 22]) (pc' := 19) (rest := []) rfl (c_copyInto (rd := 9) (rs := 22) (n := 20) rfl rfl (by decide) (by decide) (by decide) (up M 8 3 (M 21 3))) ?_
  rintro _ _ ⟨rfl, rfl⟩
  refine Hx.run 0 (pc' := 19) (L' := [some (vr 8), some (vr 21)]) (st' := []) (M' := (cp (up M 8 3 (M 21 3)) 22 0 9 0 20)) rfl ?_
  refine Hx.ret rfl ?_
  exact ⟨rfl, rfl⟩
set_option maxRecDepth 100000 in
theorem c_ltake_10_23 (M : Mm) : Ct 39 [vr 10, vr 23] M (fun q0 M' => q0 = none ∧ tkL M 10 23 18 = M') := by
  refine Hx.run 8 (pc' := 16) (L' := [some (vr 10), some (vr 23)]) (st' := [vr 24, vr 11]) (M' := (up M 10 3 (M 23 3))) rfl ?_
  refine Hx.call (t := 123) (as := [vr 11, vr 24]) (pc' := 19) (rest := []) rfl (c_copyInto (rd := 11) (rs := 24) (n := 18) rfl rfl (by decide) (by decide) (by decide) (up M 10 3 (M 23 3))) ?_
  rintro _ _ ⟨rfl, rfl⟩
  refine Hx.run 0 (pc' := 19) (L' := [some (vr 10), some (vr 23)]) (st' := []) (M' := (cp (up M 10 3 (M 23 3)) 24 0 11 0 18)) rfl ?_
  refine Hx.ret rfl ?_
  exact ⟨rfl, rfl⟩
set_option maxRecDepth 100000 in
theorem c_ltake_12_25 (M : Mm) : Ct 39 [vr 12, vr 25] M (fun q0 M' => q0 = none ∧ tkL M 12 25 30 = M') := by
  refine Hx.run 8 (pc' := 16) (L' := [some (vr 12), some (vr 25)]) (st' := [vr 26, vr 13]) (M' := (up M 12 3 (M 25 3))) rfl ?_
  refine Hx.call (t := 123) (as := [vr 13, vr 26]) (pc' := 19) (rest := []) rfl (c_copyInto (rd := 13) (rs := 26) (n := 30) rfl rfl (by decide) (by decide) (by decide) (up M 12 3 (M 25 3))) ?_
  rintro _ _ ⟨rfl, rfl⟩
  refine Hx.run 0 (pc' := 19) (L' := [some (vr 12), some (vr 25)]) (st' := []) (M' := (cp (up M 12 3 (M 25 3)) 26 0 13 0 30)) rfl ?_
  refine Hx.ret rfl ?_
  exact ⟨rfl, rfl⟩
set_option maxRecDepth 100000 in
theorem c_ltake_8_34 (M : Mm) : Ct 39 [vr 8, vr 34] M (fun q0 M' => q0 = none ∧ tkL M 8 34 20 = M') := by
  refine Hx.run 8 (pc' := 16) (L' := [some (vr 8), some (vr 34)]) (st' := [vr 35, vr 9]) (M' := (up M 8 3 (M 34 3))) rfl ?_
  refine Hx.call (t := 123) (as := [vr 9, vr 35]) (pc' := 19) (rest := []) rfl (c_copyInto (rd := 9) (rs := 35) (n := 20) rfl rfl (by decide) (by decide) (by decide) (up M 8 3 (M 34 3))) ?_
  rintro _ _ ⟨rfl, rfl⟩
  refine Hx.run 0 (pc' := 19) (L' := [some (vr 8), some (vr 34)]) (st' := []) (M' := (cp (up M 8 3 (M 34 3)) 35 0 9 0 20)) rfl ?_
  refine Hx.ret rfl ?_
  exact ⟨rfl, rfl⟩
set_option maxRecDepth 100000 in
theorem c_ltake_10_36 (M : Mm) : Ct 39 [vr 10, vr 36] M (fun q0 M' => q0 = none ∧ tkL M 10 36 18 = M') := by
  refine Hx.run 8 (pc' := 16) (L' := [some (vr 10), some (vr 36)]) (st' := [vr 37, vr 11]) (M' := (up M 10 3 (M 36 3))) rfl ?_
  refine Hx.call (t := 123) (as := [vr 11, vr 37]) (pc' := 19) (rest := []) rfl (c_copyInto (rd := 11) (rs := 37) (n := 18) rfl rfl (by decide) (by decide) (by decide) (up M 10 3 (M 36 3))) ?_
  rintro _ _ ⟨rfl, rfl⟩
  refine Hx.run 0 (pc' := 19) (L' := [some (vr 10), some (vr 36)]) (st' := []) (M' := (cp (up M 10 3 (M 36 3)) 37 0 11 0 18)) rfl ?_
  refine Hx.ret rfl ?_
  exact ⟨rfl, rfl⟩
set_option maxRecDepth 100000 in
theorem c_ltake_12_38 (M : Mm) : Ct 39 [vr 12, vr 38] M (fun q0 M' => q0 = none ∧ tkL M 12 38 30 = M') := by
  refine Hx.run 8 (pc' := 16) (L' := [some (vr 12), some (vr 38)]) (st' := [vr 39, vr 13]) (M' := (up M 12 3 (M 38 3))) rfl ?_
  refine Hx.call (t := 123) (as := [vr 13, vr 39]) (pc' := 19) (rest := []) rfl (c_copyInto (rd := 13) (rs := 39) (n := 30) rfl rfl (by decide) (by decide) (by decide) (up M 12 3 (M 38 3))) ?_
  rintro _ _ ⟨rfl, rfl⟩
  refine Hx.run 0 (pc' := 19) (L' := [some (vr 12), some (vr 38)]) (st' := []) (M' := (cp (up M 12 3 (M 38 3)) 39 0 13 0 30)) rfl ?_
  refine Hx.ret rfl ?_
  exact ⟨rfl, rfl⟩
set_option maxRecDepth 100000 in
set_option maxHeartbeats 4000000 in
theorem c_takeOver_1_40 (M : Mm) : Ct 6 [vr 1, vr 40] M (fun q0 M' => q0 = none ∧ tkM M 1 40 = M') := by
  refine Hx.run 12 (pc' := 24) (L' := [some (vr 1), some (vr 40)]) (st' := []) (M' := (up (up (up M 1 0 (M 40 0)) 1 1 (M 40 1)) 1 2 (M 40 2))) rfl ?_
  refine Hx.run 4 (pc' := 32) (L' := [some (vr 1), some (vr 40)]) (st' := [vr 41, vr 2]) (M' := (up (up (up M 1 0 (M 40 0)) 1 1 (M 40 1)) 1 2 (M 40 2))) rfl ?_
  refine Hx.call (t := 123) (as := [vr 2, vr 41]) (pc' := 35) (rest := []) rfl (c_copyInto (rd := 2) (rs := 41) (n := 3) rfl rfl (by decide) (by decide) (by decide) (up (up (up M 1 0 (M 40 0)) 1 1 (M 40 1)) 1 2 (M 40 2))) ?_
  rintro _ _ ⟨rfl, rfl⟩
  refine Hx.run 0 (pc' := 35) (L' := [some (vr 1), some (vr 40)]) (st' := []) (M' := (cp (up (up (up M 1 0 (M 40 0)) 1 1 (M 40 1)) 1 2 (M 40 2)) 41 0 2 0 3)) rfl ?_
  refine Hx.run 4 (pc' := 43) (L' := [some (vr 1), some (vr 40)]) (st' := [vr 42, vr 3]) (M' := (cp (up (up (up M 1 0 (M 40 0)) 1 1 (M 40 1)) 1 2 (M 40 2)) 41 0 2 0 3)) rfl ?_
  refine Hx.call (t := 123) (as := [vr 3, vr 42]) (pc' := 46) (rest := []) rfl (c_copyInto (rd := 3) (rs := 42) (n := 6) rfl rfl (by decide) (by decide) (by decide) (cp (up (up (up M 1 0 (M 40 0)) 1 1 (M 40 1)) 1 2 (M 40 2)) 41 0 2 0 3)) ?_
  rintro _ _ ⟨rfl, rfl⟩
  refine Hx.run 0 (pc' := 46) (L' := [some (vr 1), some (vr 40)]) (st' := []) (M' := (cp (cp (up (up (up M 1 0 (M 40 0)) 1 1 (M 40 1)) 1 2 (M 40 2)) 41 0 2 0 3) 42 0 3 0 6)) rfl ?_
  refine Hx.run 4 (pc' := 54) (L' := [some (vr 1), some (vr 40)]) (st' := [vr 43, vr 4]) (M' := (cp (cp (up (up (up M 1 0 (M 40 0)) 1 1 (M 40 1)) 1 2 (M 40 2)) 41 0 2 0 3) 42 0 3 0 6)) rfl ?_
  refine Hx.call (t := 123) (as := [vr 4, vr 43]) (pc' := 57) (rest := []) rfl (c_copyInto (rd := 4) (rs := 43) (n := 6) rfl rfl (by decide) (by decide) (by decide) (cp (cp (up (up (up M 1 0 (M 40 0)) 1 1 (M 40 1)) 1 2 (M 40 2)) 41 0 2 0 3) 42 0 3 0 6)) ?_
  rintro _ _ ⟨rfl, rfl⟩
  refine Hx.run 0 (pc' := 57) (L' := [some (vr 1), some (vr 40)]) (st' := []) (M' := (cp (cp (cp (up (up (up M 1 0 (M 40 0)) 1 1 (M 40 1)) 1 2 (M 40 2)) 41 0 2 0 3) 42 0 3 0 6) 43 0 4 0 6)) rfl ?_
  refine Hx.run 4 (pc' := 65) (L' := [some (vr 1), some (vr 40)]) (st' := [vr 44, vr 5]) (M' := (cp (cp (cp (up (up (up M 1 0 (M 40 0)) 1 1 (M 40 1)) 1 2 (M 40 2)) 41 0 2 0 3) 42 0 3 0 6) 43 0 4 0 6)) rfl ?_
  refine Hx.call (t := 123) (as := [vr 5, vr 44]) (pc' := 68) (rest := []) rfl (c_copyInto (rd := 5) (rs := 44) (n := 6) rfl rfl (by decide) (by decide) (by decide) (cp (cp (cp (up (up (up M 1 0 (M 40 0)) 1 1 (M 40 1)) 1 2 (M 40 2)) 41 0 2 0 3) 42 0 3 0 6) 43 0 4 0 6)) ?_
  rintro _ _ ⟨rfl, rfl⟩
  refine Hx.run 0 (pc' := 68) (L' := [some (vr 1), some (vr 40)]) (st' := []) (M' := (cp (cp (cp (cp (up (up (up M 1 0 (M 40 0)) 1 1 (M 40 1)) 1 2 (M 40 2)) 41 0 2 0 3) 42 0 3 0 6) 43 0 4 0 6) 44 0 5 0 6)) rfl ?_
  refine Hx.run 4 (pc' := 76) (L' := [some (vr 1), some (vr 40)]) (st' := [vr 45, vr 6]) (M' := (cp (cp (cp (cp (up (up (up M 1 0 (M 40 0)) 1 1 (M 40 1)) 1 2 (M 40 2)) 41 0 2 0 3) 42 0 3 0 6) 43 0 4 0 6) 44 0 5 0 6)) rfl ?_
  refine Hx.call (t := 123) (as := [vr 6, vr 45]) (pc' := 79) (rest := []) rfl (c_copyInto (rd := 6) (rs := 45) (n := 17) rfl rfl (by decide) (by decide) (by decide) (cp (cp (cp (cp (up (up (up M 1 0 (M 40 0)) 1 1 (M 40 1)) 1 2 (M 40 2)) 41 0 2 0 3) 42 0 3 0 6) 43 0 4 0 6) 44 0 5 0 6)) ?_
  rintro _ _ ⟨rfl, rfl⟩
  refine Hx.run 0 (pc' := 79) (L' := [some (vr 1), some (vr 40)]) (st' := []) (M' := (cp (cp (cp (cp (cp (up (up (up M 1 0 (M 40 0)) 1 1 (M 40 1)) 1 2 (M 40 2)) 41 0 2 0 3) 42 0 3 0 6) 43 0 4 0 6) 44 0 5 0 6) 45 0 6 0 17)) rfl ?_
  refine Hx.run 4 (pc' := 87) (L' := [some (vr 1), some (vr 40)]) (st' := [vr 46, vr 7]) (M' := (cp (cp (cp (cp (cp (up (up (up M 1 0 (M 40 0)) 1 1 (M 40 1)) 1 2 (M 40 2)) 41 0 2 0 3) 42 0 3 0 6) 43 0 4 0 6) 44 0 5 0 6) 45 0 6 0 17)) rfl ?_
  refine Hx.call (t := 123) (as := [vr 7, vr 46]) (pc' := 90) (rest := []) rfl (c_copyInto (rd := 7) (rs := 46) (n := 136) rfl rfl (by decide) (by decide) (by decide) (cp (cp (cp (cp (cp (up (up (up M 1 0 (M 40 0)) 1 1 (M 40 1)) 1 2 (M 40 2)) 41 0 2 0 3) 42 0 3 0 6) 43 0 4 0 6) 44 0 5 0 6) 45 0 6 0 17)) ?_
  rintro _ _ ⟨rfl, rfl⟩
  refine Hx.run 0 (pc' := 90) (L' := [some (vr 1), some (vr 40)]) (st' := []) (M' := (cp (cp (cp (cp (cp (cp (up (up (up M 1 0 (M 40 0)) 1 1 (M 40 1)) 1 2 (M 40 2)) 41 0 2 0 3) 42 0 3 0 6) 43 0 4 0 6) 44 0 5 0 6) 45 0 6 0 17) 46 0 7 0 136)) rfl ?_
  refine Hx.run 4 (pc' := 98) (L' := [some (vr 1), some (vr 40)]) (st' := [vr 47, vr 8]) (M' := (cp (cp (cp (cp (cp (cp (up (up (up M 1 0 (M 40 0)) 1 1 (M 40 1)) 1 2 (M 40 2)) 41 0 2 0 3) 42 0 3 0 6) 43 0 4 0 6) 44 0 5 0 6) 45 0 6 0 17) 46 0 7 0 136)) rfl ?_
  refine Hx.call (t := 39) (as := [vr 8, vr 47]) (pc' := 101) (rest := []) rfl (c_ltake_8_47 (cp (cp (cp (cp (cp (cp (up (up (up M 1 0 (M 40 0)) 1 1 (M 40 1)) 1 2 (M 40 2)) 41 0 2 0 3) 42 0 3 0 6) 43 0 4 0 6) 44 0 5 0 6) 45 0 6 0 17) 46 0 7 0 136)) ?_
  rintro _ _ ⟨rfl, rfl⟩
  refine Hx.run 0 (pc' := 101) (L' := [some (vr 1), some (vr 40)]) (st' := []) (M' := (tkL (cp (cp (cp (cp (cp (cp (up (up (up M 1 0 (M 40 0)) 1 1 (M 40 1)) 1 2 (M 40 2)) 41 0 2 0 3) 42 0 3 0 6) 43 0 4 0 6) 44 0 5 0 6) 45 0 6 0 17) 46 0 7 0 136) 8 47 20)) rfl ?_
  refine Hx.run 4 (pc' := 109) (L' := [some (vr 1), some (vr 40)]) (st' := [vr 49, vr 10]) (M' := (tkL (cp (cp (cp (cp (cp (cp (up (up (up M 1 0 (M 40 0)) 1 1 (M 40 1)) 1 2 (M 40 2)) 41 0 2 0 3) 42 0 3 0 6) 43 0 4 0 6) 44 0 5 0 6) 45 0 6 0 17) 46 0 7 0 136) 8 47 20)) rfl ?_
  refine Hx.call (t := 39) (as := [vr 10, vr 49]) (pc' := 112) (rest := []) rfl (c_ltake_10_49 (tkL (cp (cp (cp (cp (cp (cp (up (up (up M 1 0 (M 40 0)) 1 1 (M 40 1)) 1 2 (M 40 2)) 41 0 2 0 3) 42 0 3 0 6) 43 0 4 0 6) 44 0 5 0 6) 45 0 6 0 17) 46 0 7 0 136) 8 47 20)) ?_
  rintro _ _ ⟨rfl, rfl⟩
  refine Hx.run 0 (pc' := 112) (L' := [some (vr 1), some (vr 40)]) (st' := []) (M' := (tkL (tkL (cp (cp (cp (cp (cp (cp (up (up (up M 1 0 (M 40 0)) 1 1 (M 40 1)) 1 2 (M 40 2)) 41 0 2 0 3) 42 0 3 0 6) 43 0 4 0 6) 44 0 5 0 6) 45 0 6 0 17) 46 0 7 0 136) 8 47 20) 10 49 18)) rfl ?_
  refine Hx.run 4 (pc' := 120) (L' := [some (vr 1), some (vr 40)]) (st' := [vr 51, vr 12]) (M' := (tkL (tkL (cp (cp (cp (cp (cp (cp (up (up (up M 1 0 (M 40 0)) 1 1 (M 40 1)) 1 2 (M 40 2)) 41 0 2 0 3) 42 0 3 0 6) 43 0 4 0 6) 44 0 5 0 6) 45 0 6 0 17) 46 0 7 0 136) 8 47 20) 10 49 18)) rfl ?_
  refine Hx.call (t := 39) (as := [vr 12, vr 51]) (pc' := 123) (rest := []) rfl (c_ltake_12_51 (tkL (tkL (cp (cp (cp (cp (cp (cp (up (up (up M 1 0 (M 40 0)) 1 1 (M 40 1)) 1 2 (M 40 2)) 41 0 2 0 3) 42 0 3 0 6) 43 0 4 0 6) 44 0 5 0 6) 45 0 6 0 17) 46 0 7 0 136) 8 47 20) 10 49 18)) ?_
  rintro _ _ ⟨rfl, rfl⟩
  refine Hx.run 0 (pc' := 123) (L' := [some (vr 1), some (vr 40)]) (st' := []) (M' := (tkL (tkL (tkL (cp (cp (cp (cp (cp (cp (up (up (up M 1 0 (M 40 0)) 1 1 (M 40 1)) 1 2 (M 40 2)) 41 0 2 0 3) 42 0 3 0 6) 43 0 4 0 6) 44 0 5 0 6) 45 0 6 0 17) 46 0 7 0 136) 8 47 20) 10 49 18) 12 51 30)) rfl ?_
  refine Hx.ret rfl ?_
  exact ⟨rfl, rfl⟩
set_option maxRecDepth 100000 in
set_option maxHeartbeats 4000000 in
theorem c_takeOver_40_1 (M : Mm) : Ct 6 [vr 40, vr 1] M (fun q0 M' => q0 = none ∧ tkM M 40 1 = M') := by
  refine Hx.run 12 (pc' := 24) (L' := [some (vr 40), some (vr 1)]) (st' := []) (M' := (up (up (up M 40 0 (M 1 0)) 40 1 (M 1 1)) 40 2 (M 1 2))) rfl ?_
  refine Hx.run 4 (pc' := 32) (L' := [some (vr 40), some (vr 1)]) (st' := [vr 2, vr 41]) (M' := (up (up (up M 40 0 (M 1 0)) 40 1 (M 1 1)) 40 2 (M 1 2))) rfl ?_
  refine Hx.call (t := 123) (as := [vr 41, vr 2]) (pc' := 35) (rest := []) rfl (c_copyInto (rd := 41) (rs := 2) (n := 3) rfl rfl (by decide) (by decide) (by decide) (up (up (up M 40 0 (M 1 0)) 40 1 (M 1 1)) 40 2 (M 1 2))) ?_
  rintro _ _ ⟨rfl, rfl⟩
  refine Hx.run 0 (pc' := 35) (L' := [some (vr 40), some (vr 1)]) (st' := []) (M' := (cp (up (up (up M 40 0 (M 1 0)) 40 1 (M 1 1)) 40 2 (M 1 2)) 2 0 41 0 3)) rfl ?_
  refine Hx.run 4 (pc' := 43) (L' := [some (vr 40), some (vr 1)]) (st' := [vr 3, vr 42]) (M' := (cp (up (up (up M 40 0 (M 1 0)) 40 1 (M 1 1)) 40 2 (M 1 2)) 2 0 41 0 3)) rfl ?_
  refine Hx.call (t := 123) (as := [vr 42, vr 3]) (pc' := 46) (rest := []) rfl (c_copyInto (rd := 42) (rs := 3) (n := 6) rfl rfl (by decide) (by decide) (by decide) (cp (up (up (up M 40 0 (M 1 0)) 40 1 (M 1 1)) 40 2 (M 1 2)) 2 0 41 0 3)) ?_
  rintro _ _ ⟨rfl, rfl⟩
  refine Hx.run 0 (pc' := 46) (L' := [some (vr 40), some (vr 1)]) (st' := []) (M' := (cp (cp (up (up (up M 40 0 (M 1 0)) 40 1 (M 1 1)) 40 2 (M 1 2)) 2 0 41 0 3) 3 0 42 0 6)) rfl ?_
  refine Hx.run 4 (pc' := 54) (L' := [some (vr 40), some (vr 1)]) (st' := [vr 4, vr 43]) (M' := (cp (cp (up (up (up M 40 0 (M 1 0)) 40 1 (M 1 1)) 40 2 (M 1 2)) 2 0 41 0 3) 3 0 42 0 6)) rfl ?_
  refine Hx.call (t := 123) (as := [vr 43, vr 4]) (pc' := 57) (rest := []) rfl (c_copyInto (rd := 43) (rs := 4) (n := 6) rfl rfl (by decide) (by decide) (by decide) (cp (cp (up (up (up M 40 0 (M 1 0)) 40 1 (M 1 1)) 40 2 (M 1 2)) 2 0 41 0 3) 3 0 42 0 6)) ?_
  rintro _ _ ⟨rfl, rfl⟩
  refine Hx.run 0 (pc' := 57) (L' := [some (vr 40), some (vr 1)]) (st' := []) (M' := (cp (cp (cp (up (up (up M 40 0 (M 1 0)) 40 1 (M 1 1)) 40 2 (M 1 2)) 2 0 41 0 3) 3 0 42 0 6) 4 0 43 0 6)) rfl ?_
  refine Hx.run 4 (pc' := 65) (L' := [some (vr 40), some (vr 1)]) (st' := [vr 5, vr 44]) (M' := (cp (cp (cp (up (up (up M 40 0 (M 1 0)) 40 1 (M 1 1)) 40 2 (M 1 2)) 2 0 41 0 3) 3 0 42 0 6) 4 0 43 0 6)) rfl ?_
  refine Hx.call (t := 123) (as := [vr 44, vr 5]) (pc' := 68) (rest := []) rfl (c_copyInto (rd := 44) (rs := 5) (n := 6) rfl rfl (by decide) (by decide) (by decide) (cp (cp (cp (up (up (up M 40 0 (M 1 0)) 40 1 (M 1 1)) 40 2 (M 1 2)) 2 0 41 0 3) 3 0 42 0 6) 4 0 43 0 6)) ?_
  rintro _ _ ⟨rfl, rfl⟩
  refine Hx.run 0 (pc' := 68) (L' := [some (vr 40), some (vr 1)]) (st' := []) (M' := (cp (cp (cp (cp (up (up (up M 40 0 (M 1 0)) 40 1 (M 1 1)) 40 2 (M 1 2)) 2 0 41 0 3) 3 0 42 0 6) 4 0 43 0 6) 5 0 44 0 6)) rfl ?_
  refine Hx.run 4 (pc' := 76) (L' := [some (vr 40), some (vr 1)]) (st' := [vr 6, vr 45]) (M' := (cp (cp (cp (cp (up (up (up M 40 0 (M 1 0)) 40 1 (M 1 1)) 40 2 (M 1 2)) 2 0 41 0 3) 3 0 42 0 6) 4 0 43 0 6) 5 0 44 0 6)) rfl ?_
  refine Hx.call (t := 123) (as := [vr 45, vr 6]) (pc' := 79) (rest := []) rfl (c_copyInto (rd := 45) (rs := 6) (n := 17) rfl rfl (by decide) (by decide) (by decide) (cp (cp (cp (cp (up (up (up M 40 0 (M 1 0)) 40 1 (M 1 1)) 40 2 (M 1 2)) 2 0 41 0 3) 3 0 42 0 6) 4 0 43 0 6) 5 0 44 0 6)) ?_
  rintro _ _ ⟨rfl, rfl⟩
  refine Hx.run 0 (pc' := 79) (L' := [some (vr 40), some (vr 1)]) (st' := []) (M' := (cp (cp (cp (cp (cp (up (up (up M 40 0 (M 1 0)) 40 1 (M 1 1)) 40 2 (M 1 2)) 2 0 41 0 3) 3 0 42 0 6) 4 0 43 0 6) 5 0 44 0 6) 6 0 45 0 17)) rfl ?_
  refine Hx.run 4 (pc' := 87) (L' := [some (vr 40), some (vr 1)]) (st' := [vr 7, vr 46]) (M' := (cp (cp (cp (cp (cp (up (up (up M 40 0 (M 1 0)) 40 1 (M 1 1)) 40 2 (M 1 2)) 2 0 41 0 3) 3 0 42 0 6) 4 0 43 0 6) 5 0 44 0 6) 6 0 45 0 17)) rfl ?_
  refine Hx.call (t := 123) (as := [vr 46, vr 7]) (pc' := 90) (rest := []) rfl (c_copyInto (rd := 46) (rs := 7) (n := 136) rfl rfl (by decide) (by decide) (by decide) (cp (cp (cp (cp (cp (up (up (up M 40 0 (M 1 0)) 40 1 (M 1 1)) 40 2 (M 1 2)) 2 0 41 0 3) 3 0 42 0 6) 4 0 43 0 6) 5 0 44 0 6) 6 0 45 0 17)) ?_
  rintro _ _ ⟨rfl, rfl⟩
  refine Hx.run 0 (pc' := 90) (L' := [some (vr 40), some (vr 1)]) (st' := []) (M' := (cp (cp (cp (cp (cp (cp (up (up (up M 40 0 (M 1 0)) 40 1 (M 1 1)) 40 2 (M 1 2)) 2 0 41 0 3) 3 0 42 0 6) 4 0 43 0 6) 5 0 44 0 6) 6 0 45 0 17) 7 0 46 0 136)) rfl ?_
  refine Hx.run 4 (pc' := 98) (L' := [some (vr 40), some (vr 1)]) (st' := [vr 8, vr 47]) (M' := (cp (cp (cp (cp (cp (cp (up (up (up M 40 0 (M 1 0)) 40 1 (M 1 1)) 40 2 (M 1 2)) 2 0 41 0 3) 3 0 42 0 6) 4 0 43 0 6) 5 0 44 0 6) 6 0 45 0 17) 7 0 46 0 136)) rfl ?_
  refine Hx.call (t := 39) (as := [vr 47, vr 8]) (pc' := 101) (rest := []) rfl (c_ltake_47_8 (cp (cp (cp (cp (cp (cp (up (up (up M 40 0 (M 1 0)) 40 1 (M 1 1)) 40 2 (M 1 2)) 2 0 41 0 3) 3 0 42 0 6) 4 0 43 0 6) 5 0 44 0 6) 6 0 45 0 17) 7 0 46 0 136)) ?_
  rintro _ _ ⟨rfl, rfl⟩
  refine Hx.run 0 (pc' := 101) (L' := [some (vr 40), some (vr 1)]) (st' := []) (M' := (tkL (cp (cp (cp (cp (cp (cp (up (up (up M 40 0 (M 1 0)) 40 1 (M 1 1)) 40 2 (M 1 2)) 2 0 41 0 3) 3 0 42 0 6) 4 0 43 0 6) 5 0 44 0 6) 6 0 45 0 17) 7 0 46 0 136) 47 8 20)) rfl ?_
  refine Hx.run 4 (pc' := 109) (L' := [some (vr 40), some (vr 1)]) (st' := [vr 10, vr 49]) (M' := (tkL (cp (cp (cp (cp (cp (cp (up (up (up M 40 0 (M 1 0)) 40 1 (M 1 1)) 40 2 (M 1 2)) 2 0 41 0 3) 3 0 42 0 6) 4 0 43 0 6) 5 0 44 0 6) 6 0 45 0 17) 7 0 46 0 136) 47 8 20)) rfl ?_
  refine Hx.call (t := 39) (as := [vr 49, vr 10]) (pc' := 112) (rest := []) rfl (c_ltake_49_10 (tkL (cp (cp (cp (cp (cp (cp (up (up (up M 40 0 (M 1 0)) 40 1 (M 1 1)) 40 2 (M 1 2)) 2 0 41 0 3) 3 0 42 0 6) 4 0 43 0 6) 5 0 44 0 6) 6 0 45 0 17) 7 0 46 0 136) 47 8 20)) ?_
  rintro _ _ ⟨rfl, rfl⟩
  refine Hx.run 0 (pc' := 112) (L' := [some (vr 40), some (vr 1)]) (st' := []) (M' := (tkL (tkL (cp (cp (cp (cp (cp (cp (up (up (up M 40 0 (M 1 0)) 40 1 (M 1 1)) 40 2 (M 1 2)) 2 0 41 0 3) 3 0 42 0 6) 4 0 43 0 6) 5 0 44 0 6) 6 0 45 0 17) 7 0 46 0 136) 47 8 20) 49 10 18)) rfl ?_
  refine Hx.run 4 (pc' := 120) (L' := [some (vr 40), some (vr 1)]) (st' := [vr 12, vr 51]) (M' := (tkL (tkL (cp (cp (cp (cp (cp (cp (up (up (up M 40 0 (M 1 0)) 40 1 (M 1 1)) 40 2 (M 1 2)) 2 0 41 0 3) 3 0 42 0 6) 4 0 43 0 6) 5 0 44 0 6) 6 0 45 0 17) 7 0 46 0 136) 47 8 20) 49 10 18)) rfl ?_
  refine Hx.call (t := 39) (as := [vr 51, vr 12]) (pc' := 123) (rest := []) rfl (c_ltake_51_12 (tkL (tkL (cp (cp (cp (cp (cp (cp (up (up (up M 40 0 (M 1 0)) 40 1 (M 1 1)) 40 2 (M 1 2)) 2 0 41 0 3) 3 0 42 0 6) 4 0 43 0 6) 5 0 44 0 6) 6 0 45 0 17) 7 0 46 0 136) 47 8 20) 49 10 18)) ?_
  rintro _ _ ⟨rfl, rfl⟩
  refine Hx.run 0 (pc' := 123) (L' := [some (vr 40), some (vr 1)]) (st' := []) (M' := (tkL (tkL (tkL (cp (cp (cp (cp (cp (cp (up (up (up M 40 0 (M 1 0)) 40 1 (M 1 1)) 40 2 (M 1 2)) 2 0 41 0 3) 3 0 42 0 6) 4 0 43 0 6) 5 0 44 0 6) 6 0 45 0 17) 7 0 46 0 136) 47 8 20) 49 10 18) 51 12 30)) rfl ?_
  refine Hx.ret rfl ?_
  exact ⟨rfl, rfl⟩
set_option maxRecDepth 100000 in
set_option maxHeartbeats 4000000 in
theorem c_takeOver_14_1 (M : Mm) : Ct 6 [vr 14, vr 1] M (fun q0 M' => q0 = none ∧ tkM M 14 1 = M') := by
  refine Hx.run 12 (pc' := 24) (L' := [some (vr 14), some (vr 1)]) (st' := []) (M' := (up (up (up M 14 0 (M 1 0)) 14 1 (M 1 1)) 14 2 (M 1 2))) rfl ?_
  refine Hx.run 4 (pc' := 32) (L' := [some (vr 14), some (vr 1)]) (st' := [vr 2, vr 15]) (M' := (up (up (up M 14 0 (M 1 0)) 14 1 (M 1 1)) 14 2 (M 1 2))) rfl ?_
  refine Hx.call (t := 123) (as := [vr 15, vr 2]) (pc' := 35) (rest := []) rfl (c_copyInto (rd := 15) (rs := 2) (n := 3) rfl rfl (by decide) (by decide) (by decide) (up (up (up M 14 0 (M 1 0)) 14 1 (M 1 1)) 14 2 (M 1 2))) ?_
  rintro _ _ ⟨rfl, rfl⟩
  refine Hx.run 0 (pc' := 35) (L' := [some (vr 14), some (vr 1)]) (st' := []) (M' := (cp (up (up (up M 14 0 (M 1 0)) 14 1 (M 1 1)) 14 2 (M 1 2)) 2 0 15 0 3)) rfl ?_
  refine Hx.run 4 (pc' := 43) (L' := [some (vr 14), some (vr 1)]) (st' := [vr 3, vr 16]) (M' := (cp (up (up (up M 14 0 (M 1 0)) 14 1 (M 1 1)) 14 2 (M 1 2)) 2 0 15 0 3)) rfl ?_
  refine Hx.call (t := 123) (as := [vr 16, vr 3]) (pc' := 46) (rest := []) rfl (c_copyInto (rd := 16) (rs := 3) (n := 6) rfl rfl (by decide) (by decide) (by decide) (cp (up (up (up M 14 0 (M 1 0)) 14 1 (M 1 1)) 14 2 (M 1 2)) 2 0 15 0 3)) ?_
  rintro _ _ ⟨rfl, rfl⟩
  refine Hx.run 0 (pc' := 46) (L' := [some (vr 14), some (vr 1)]) (st' := []) (M' := (cp (cp (up (up (up M 14 0 (M 1 0)) 14 1 (M 1 1)) 14 2 (M 1 2)) 2 0 15 0 3) 3 0 16 0 6)) rfl ?_
  refine Hx.run 4 (pc' := 54) (L' := [some (vr 14), some (vr 1)]) (st' := [vr 4, vr 17]) (M' := (cp (cp (up (up (up M 14 0 (M 1 0)) 14 1 (M 1 1)) 14 2 (M 1 2)) 2 0 15 0 3) 3 0 16 0 6)) rfl ?_
  refine Hx.call (t := 123) (as := [vr 17, vr 4]) (pc' := 57) (rest := []) rfl (c_copyInto (rd := 17) (rs := 4) (n := 6) rfl rfl (by decide) (by decide) (by decide) (cp (cp (up (up (up M 14 0 (M 1 0)) 14 1 (M 1 1)) 14 2 (M 1 2)) 2 0 15 0 3) 3 0 16 0 6)) ?_
  rintro _ _ ⟨rfl, rfl⟩
  refine Hx.run 0 (pc' := 57) (L' := [some (vr 14), some (vr 1)]) (st' := []) (M' := (cp (cp (cp (up (up (up M 14 0 (M 1 0)) 14 1 (M 1 1)) 14 2 (M 1 2)) 2 0 15 0 3) 3 0 16 0 6) 4 0 17 0 6)) rfl ?_
  refine Hx.run 4 (pc' := 65) (L' := [some (vr 14), some (vr 1)]) (st' := [vr 5, vr 18]) (M' := (cp (cp (cp (up (up (up M 14 0 (M 1 0)) 14 1 (M 1 1)) 14 2 (M 1 2)) 2 0 15 0 3) 3 0 16 0 6) 4 0 17 0 6)) rfl ?_
  refine Hx.call (t := 123) (as := [vr 18, vr 5]) (pc' := 68) (rest := []) rfl (c_copyInto (rd := 18) (rs := 5) (n := 6) rfl rfl (by decide) (by decide) (by decide) (cp (cp (cp (up (up (up M 14 0 (M 1 0)) 14 1 (M 1 1)) 14 2 (M 1 2)) 2 0 15 0 3) 3 0 16 0 6) 4 0 17 0 6)) ?_
  rintro _ _ ⟨rfl, rfl⟩
  refine Hx.run 0 (pc' := 68) (L' := [some (vr 14), some (vr 1)]) (st' := []) (M' := (cp (cp (cp (cp (up (up (up M 14 0 (M 1 0)) 14 1 (M 1 1)) 14 2 (M 1 2)) 2 0 15 0 3) 3 0 16 0 6) 4 0 17 0 6) 5 0 18 0 6)) rfl ?_
  refine Hx.run 4 (pc' := 76) (L' := [some (vr 14), some (vr 1)]) (st' := [vr 6, vr 19]) (M' := (cp (cp (cp (cp (up (up (up M 14 0 (M 1 0)) 14 1 (M 1 1)) 14 2 (M 1 2)) 2 0 15 0 3) 3 0 16 0 6) 4 0 17 0 6) 5 0 18 0 6)) rfl ?_
  refine Hx.call (t := 123) (as := [vr 19, vr 6]) (pc' := 79) (rest := []) rfl (c_copyInto (rd := 19) (rs := 6) (n := 17) rfl rfl (by decide) (by decide) (by decide) (cp (cp (cp (cp (up (up (up M 14 0 (M 1 0)) 14 1 (M 1 1)) 14 2 (M 1 2)) 2 0 15 0 3) 3 0 16 0 6) 4 0 17 0 6) 5 0 18 0 6)) ?_
  rintro _ _ ⟨rfl, rfl⟩
  refine Hx.run 0 (pc' := 79) (L' := [some (vr 14), some (vr 1)]) (st' := []) (M' := (cp (cp (cp (cp (cp (up (up (up M 14 0 (M 1 0)) 14 1 (M 1 1)) 14 2 (M 1 2)) 2 0 15 0 3) 3 0 16 0 6) 4 0 17 0 6) 5 0 18 0 6) 6 0 19 0 17)) rfl ?_
  refine Hx.run 4 (pc' := 87) (L' := [some (vr 14), some (vr 1)]) (st' := [vr 7, vr 20]) (M' := (cp (cp (cp (cp (cp (up (up (up M 14 0 (M 1 0)) 14 1 (M 1 1)) 14 2 (M 1 2)) 2 0 15 0 3) 3 0 16 0 6) 4 0 17 0 6) 5 0 18 0 6) 6 0 19 0 17)) rfl ?_
  refine Hx.call (t := 123) (as := [vr 20, vr 7]) (pc' := 90) (rest := []) rfl (c_copyInto (rd := 20) (rs := 7) (n := 136) rfl rfl (by decide) (by decide) (by decide) (cp (cp (cp (cp (cp (up (up (up M 14 0 (M 1 0)) 14 1 (M 1 1)) 14 2 (M 1 2)) 2 0 15 0 3) 3 0 16 0 6) 4 0 17 0 6) 5 0 18 0 6) 6 0 19 0 17)) ?_
  rintro _ _ ⟨rfl, rfl⟩
  refine Hx.run 0 (pc' := 90) (L' := [some (vr 14), some (vr 1)]) (st' := []) (M' := (cp (cp (cp (cp (cp (cp (up (up (up M 14 0 (M 1 0)) 14 1 (M 1 1)) 14 2 (M 1 2)) 2 0 15 0 3) 3 0 16 0 6) 4 0 17 0 6) 5 0 18 0 6) 6 0 19 0 17) 7 0 20 0 136)) rfl ?_
  refine Hx.run 4 (pc' := 98) (L' := [some (vr 14), some (vr 1)]) (st' := [vr 8, vr 21]) (M' := (cp (cp (cp (cp (cp (cp (up (up (up M 14 0 (M 1 0)) 14 1 (M 1 1)) 14 2 (M 1 2)) 2 0 15 0 3) 3 0 16 0 6) 4 0 17 0 6) 5 0 18 0 6) 6 0 19 0 17) 7 0 20 0 136)) rfl ?_
  refine Hx.call (t := 39) (as := [vr 21, vr 8]) (pc' := 101) (rest := []) rfl (c_ltake_21_8 (cp (cp (cp (cp (cp (cp (up (up (up M 14 0 (M 1 0)) 14 1 (M 1 1)) 14 2 (M 1 2)) 2 0 15 0 3) 3 0 16 0 6) 4 0 17 0 6) 5 0 18 0 6) 6 0 19 0 17) 7 0 20 0 136)) ?_
  rintro _ _ ⟨rfl, rfl⟩
  refine Hx.run 0 (pc' := 101) (L' := [some (vr 14), some (vr 1)]) (st' := []) (M' := (tkL (cp (cp (cp (cp (cp (cp (up (up (up M 14 0 (M 1 0)) 14 1 (M 1 1)) 14 2 (M 1 2)) 2 0 15 0 3) 3 0 16 0 6) 4 0 17 0 6) 5 0 18 0 6) 6 0 19 0 17) 7 0 20 0 136) 21 8 20)) rfl ?_
  refine Hx.run 4 (pc' := 109) (L' := [some (vr 14), some (vr 1)]) (st' := [vr 10, vr 23]) (M' := (tkL (cp (cp (cp (cp (cp (cp (up (up (up M 14 0 (M 1 0)) 14 1 (M 1 1)) 14 2 (M 1 2)) 2 0 15 0 3) 3 0 16 0 6) 4 0 17 0 6) 5 0 18 0 6) 6 0 19 0 17) 7 0 20 0 136) 21 8 20)) rfl ?_
  refine Hx.call (t := 39) (as := [vr 23, vr 10]) (pc' := 112) (rest := []) rfl (c_ltake_23_10 (tkL (cp (cp (cp (cp (cp (cp (up (up (up M 14 0 (M 1 0)) 14 1 (M 1 1)) 14 2 (M 1 2)) 2 0 15 0 3) 3 0 16 0 6) 4 0 17 0 6) 5 0 18 0 6) 6 0 19 0 17) 7 0 20 0 136) 21 8 20)) ?_
  rintro _ _ ⟨rfl, rfl⟩
  refine Hx.run 0 (pc' := 112) (L' := [some (vr 14), some (vr 1)]) (st' := []) (M' := (tkL (tkL (cp (cp (cp (cp (cp (cp (up (up (up M 14 0 (M 1 0)) 14 1 (M 1 1)) 14 2 (M 1 2)) 2 0 15 0 3) 3 0 16 0 6) 4 0 17 0 6) 5 0 18 0 6) 6 0 19 0 17) 7 0 20 0 136) 21 8 20) 23 10 18)) rfl ?_
  refine Hx.run 4 (pc' := 120) (L' := [some (vr 14), some (vr 1)]) (st' := [vr 12, vr 25]) (M' := (tkL (tkL (cp (cp (cp (cp (cp (cp (up (up (up M 14 0 (M 1 0)) 14 1 (M 1 1)) 14 2 (M 1 2)) 2 0 15 0 3) 3 0 16 0 6) 4 0 17 0 6) 5 0 18 0 6) 6 0 19 0 17) 7 0 20 0 136) 21 8 20) 23 10 18)) rfl ?_
  refine Hx.call (t := 39) (as := [vr 25, vr 12]) (pc' := 123) (rest := []) rfl (c_ltake_25_12 (tkL (tkL (cp (cp (cp (cp (cp (cp (up (up (up M 14 0 (M 1 0)) 14 1 (M 1 1)) 14 2 (M 1 2)) 2 0 15 0 3) 3 0 16 0 6) 4 0 17 0 6) 5 0 18 0 6) 6 0 19 0 17) 7 0 20 0 136) 21 8 20) 23 10 18)) ?_
  rintro _ _ ⟨rfl, rfl⟩
  refine Hx.run 0 (pc' := 123) (L' := [some (vr 14), some (vr 1)]) (st' := []) (M' := (tkL (tkL (tkL (cp (cp (cp (cp (cp (cp (up (up (up M 14 0 (M 1 0)) 14 1 (M 1 1)) 14 2 (M 1 2)) 2 0 15 0 3) 3 0 16 0 6) 4 0 17 0 6) 5 0 18 0 6) 6 0 19 0 17) 7 0 20 0 136) 21 8 20) 23 10 18) 25 12 30)) rfl ?_
  refine Hx.ret rfl ?_
  exact ⟨rfl, rfl⟩
set_option maxRecDepth 100000 in
set_option maxHeartbeats 4000000 in
theorem c_takeOver_27_1 (M : Mm) : Ct 6 [vr 27, vr 1] M (fun q0 M' => q0 = none ∧ tkM M 27 1 = M') := by
  refine Hx.run 12 (pc' := 24) (L' := [some (vr 27), some (vr 1)]) (st' := []) (M' := (up (up (up M 27 0 (M 1 0)) 27 1 (M 1 1)) 27 2 (M 1 2))) rfl ?_
  refine Hx.run 4 (pc' := 32) (L' := [some (vr 27), some (vr 1)]) (st' := [vr 2, vr 28]) (M' := (up (up (up M 27 0 (M 1 0)) 27 1 (M 1 1)) 27 2 (M 1 2))) rfl ?_
  refine Hx.call (t := 123) (as := [vr 28, vr 2]) (pc' := 35) (rest := []) rfl (c_copyInto (rd := 28) (rs := 2) (n := 3) rfl rfl (by decide) (by decide) (by decide) (up (up (up M 27 0 (M 1 0)) 27 1 (M 1 1)) 27 2 (M 1 2))) ?_
  rintro _ _ ⟨rfl, rfl⟩
  refine Hx.run 0 (pc' := 35) (L' := [some (vr 27), some (vr 1)]) (st' := []) (M' := (cp (up (up (up M 27 0 (M 1 0)) 27 1 (M 1 1)) 27 2 (M 1 2)) 2 0 28 0 3)) rfl ?_
  refine Hx.run 4 (pc' := 43) (L' := [some (vr 27), some (vr 1)]) (st' := [vr 3, vr 29]) (M' := (cp (up (up (up M 27 0 (M 1 0)) 27 1 (M 1 1)) 27 2 (M 1 2)) 2 0 28 0 3)) rfl ?_
  refine Hx.call (t := 123) (as := [vr 29, vr 3]) (pc' := 46) (rest := []) rfl (c_copyInto (rd := 29) (rs := 3) (n := 6) rfl rfl (by decide) (by decide) (by decide) (cp (up (up (up M 27 0 (M 1 0)) 27 1 (M 1 1)) 27 2 (M 1 2)) 2 0 28 0 3)) ?_
  rintro _ _ ⟨rfl, rfl⟩
  refine Hx.run 0 (pc' := 46) (L' := [some (vr 27), some (vr 1)]) (st' := []) (M' := (cp (cp (up (up (up M 27 0 (M 1 0)) 27 1 (M 1 1)) 27 2 (M 1 2)) 2 0 28 0 3) 3 0 29 0 6)) rfl ?_
  refine Hx.run 4 (pc' := 54) (L' := [some (vr 27), some (vr 1)]) (st' := [vr 4, vr 30]) (M' := (cp (cp (up (up (up M 27 0 (M 1 0)) 27 1 (M 1 1)) 27 2 (M 1 2)) 2 0 28 0 3) 3 0 29 0 6)) rfl ?_
  refine Hx.call (t := 123) (as := [vr 30, vr 4]) (pc' := 57) (rest := []) rfl (c_copyInto (rd := 30) (rs := 4) (n := 6) rfl rfl (by decide) (by decide) (by decide) (cp (cp (up (up (up M 27 0 (M 1 0)) 27 1 (M 1 1)) 27 2 (M 1 2)) 2 0 28 0 3) 3 0 29 0 6)) ?_
  rintro _ _ ⟨rfl, rfl⟩
  refine Hx.run 0 (pc' := 57) (L' := [some (vr 27), some (vr 1)]) (st' := []) (M' := (cp (cp (cp (up (up (up M 27 0 (M 1 0)) 27 1 (M 1 1)) 27 2 (M 1 2)) 2 0 28 0 3) 3 0 29 0 6) 4 0 30 0 6)) rfl ?_
  refine Hx.run 4 (pc' := 65) (L' := [some (vr 27), some (vr 1)]) (st' := [vr 5, vr 31]) (M' := (cp (cp (cp (up (up (up M 27 0 (M 1 0)) 27 1 (M 1 1)) 27 2 (M 1 2)) 2 0 28 0 3) 3 0 29 0 6) 4 0 30 0 6)) rfl ?_
  refine Hx.call (t := 123) (as := [vr 31, vr 5]) (pc' := 68) (rest := []) rfl (c_copyInto (rd := 31) (rs := 5) (n := 6) rfl rfl (by decide) (by decide) (by decide) (cp (cp (cp (up (up (up M 27 0 (M 1 0)) 27 1 (M 1 1)) 27 2 (M 1 2)) 2 0 28 0 3) 3 0 29 0 6) 4 0 30 0 6)) ?_
  rintro _ _ ⟨rfl, rfl⟩
  refine Hx.run 0 (pc' := 68) (L' := [some (vr 27), some (vr 1)]) (st' := []) (M' := (cp (cp (cp (cp (up (up (up M 27 0 (M 1 0)) 27 1 (M 1 1)) 27 2 (M 1 2)) 2 0 28 0 3) 3 0 29 0 6) 4 0 30 0 6) 5 0 31 0 6)) rfl ?_
  refine Hx.run 4 (pc' := 76) (L' := [some (vr 27), some (vr 1)]) (st' := [vr 6, vr 32]) (M' := (cp (cp (cp (cp (up (up (up M 27 0 (M 1 0)) 27 1 (M 1 1)) 27 2 (M 1 2)) 2 0 28 0 3) 3 0 29 0 6) 4 0 30 0 6) 5 0 31 0 6)) rfl ?_
  refine Hx.call (t := 123) (as := [vr 32, vr 6]) (pc' := 79) (rest := []) rfl (c_copyInto (rd := 32) (rs := 6) (n := 17) rfl rfl (by decide) (by decide) (by decide) (cp (cp (cp (cp (up (up (up M 27 0 (M 1 0)) 27 1 (M 1 1)) 27 2 (M 1 2)) 2 0 28 0 3) 3 0 29 0 6) 4 0 30 0 6) 5 0 31 0 6)) ?_
  rintro _ _ ⟨rfl, rfl⟩
  refine Hx.run 0 (pc' := 79) (L' := [some (vr 27), some (vr 1)]) (st' := []) (M' := (cp (cp (cp (cp (cp (up (up (up M 27 0 (M 1 0)) 27 1 (M 1 1)) 27 2 (M 1 2)) 2 0 28 0 3) 3 0 29 0 6) 4 0 30 0 6) 5 0 31 0 6) 6 0 32 0 17)) rfl ?_
  refine Hx.run 4 (pc' := 87) (L' := [some (vr 27), some (vr 1)]) (st' := [vr 7, vr 33]) (M' := (cp (cp (cp (cp (cp (up (up (up M 27 0 (M 1 0)) 27 1 (M 1 1)) 27 2 (M 1 2)) 2 0 28 0 3) 3 0 29 0 6) 4 0 30 0 6) 5 0 31 0 6) 6 0 32 0 17)) rfl ?_
  refine Hx.call (t := 123) (as := [vr 33, vr 7]) (pc' := 90) (rest := []) rfl (c_copyInto (rd := 33) (rs := 7) (n := 136) rfl rfl (by decide) (by decide) (by decide) (cp (cp (cp (cp (cp (up (up (up M 27 0 (M 1 0)) 27 1 (M 1 1)) 27 2 (M 1 2)) 2 0 28 0 3) 3 0 29 0 6) 4 0 30 0 6) 5 0 31 0 6) 6 0 32 0 17)) ?_
  rintro _ _ ⟨rfl, rfl⟩
  refine Hx.run 0 (pc' := 90) (L' := [some (vr 27), some (vr 1)]) (st' := []) (M' := (cp (cp (cp (cp (cp (cp (up (up (up M 27 0 (M 1 0)) 27 1 (M 1 1)) 27 2 (M 1 2)) 2 0 28 0 3) 3 0 29 0 6) 4 0 30 0 6) 5 0 31 0 6) 6 0 32 0 17) 7 0 33 0 136)) rfl ?_
  refine Hx.run 4 (pc' := 98) (L' := [some (vr 27), some (vr 1)]) (st' := [vr 8, vr 34]) (M' := (cp (cp (cp (cp (cp (cp (up (up (up M 27 0 (M 1 0)) 27 1 (M 1 1)) 27 2 (M 1 2)) 2 0 28 0 3) 3 0 29 0 6) 4 0 30 0 6) 5 0 31 0 6) 6 0 32 0 17) 7 0 33 0 136)) rfl ?_
  refine Hx.call (t := 39) (as := [vr 34, vr 8]) (pc' := 101) (rest := []) rfl (c_ltake_34_8 (cp (cp (cp (cp (cp (cp (up (up (up M 27 0 (M 1 0)) 27 1 (M 1 1)) 27 2 (M 1 2)) 2 0 28 0 3) 3 0 29 0 6) 4 0 30 0 6) 5 0 31 0 6) 6 0 32 0 17) 7 0 33 0 136)) ?_
  rintro _ _ ⟨rfl, rfl⟩
  refine Hx.run 0 (pc' := 101) (L' := [some (vr 27), some (vr 1)]) (st' := []) (M' := (tkL (cp (cp (cp (cp (cp (cp (up (up (up M 27 0 (M 1 0)) 27 1 (M 1 1)) 27 2 (M 1 2)) 2 0 28 0 3) 3 0 29 0 6) 4 0 30 0 6) 5 0 31 0 6) 6 0 32 0 17) 7 0 33 0 136) 34 8 20)) rfl ?_
  refine Hx.run 4 (pc' := 109) (L' := [some (vr 27), some (vr 1)]) (st' := [vr 10, vr 36]) (M' := (tkL (cp (cp (cp (cp (cp (cp (up (up (up M 27 0 (M 1 0)) 27 1 (M 1 1)) 27 2 (M 1 2)) 2 0 28 0 3) 3 0 29 0 6) 4 0 30 0 6) 5 0 31 0 6) 6 0 32 0 17) 7 0 33 0 136) 34 8 20)) rfl ?_
  refine Hx.call (t := 39) (as := [vr 36, vr 10]) (pc' := 112) (rest := []) rfl (c_ltake_36_10 (tkL (cp (cp (cp (cp (cp (cp (up (up (up M 27 0 (M 1 0)) 27 1 (M 1 1)) 27 2 (M 1 2)) 2 0 28 0 3) 3 0 29 0 6) 4 0 30 0 6) 5 0 31 0 6) 6 0 32 0 17) 7 0 33 0 136) 34 8 20)) ?_
  rintro _ _ ⟨rfl, rfl⟩
  refine Hx.run 0 (pc' := 112) (L' := [some (vr 27), some (vr 1)]) (st' := []) (M' := (tkL (tkL (cp (cp (cp (cp (cp (cp (up (up (up M 27 0 (M 1 0)) 27 1 (M 1 1)) 27 2 (M 1 2)) 2 0 28 0 3) 3 0 29 0 6) 4 0 30 0 6) 5 0 31 0 6) 6 0 32 0 17) 7 0 33 0 136) 34 8 20) 36 10 18)) rfl ?_
  refine Hx.run 4 (pc' := 120) (L' := [some (vr 27), some (vr 1)]) (st' := [vr 12, vr 38]) (M' := (tkL (tkL (cp (cp (cp (cp (cp (cp (up (up (up M 27 0 (M 1 0)) 27 1 (M 1 1)) 27 2 (M 1 2)) 2 0 28 0 3) 3 0 29 0 6) 4 0 30 0 6) 5 0 31 0 6) 6 0 32 0 17) 7 0 33 0 136) 34 8 20) 36 10 18)) rfl ?_
  refine Hx.call (t := 39) (as := [vr 38, vr 12]) (pc' := 123) (rest := []) rfl (c_ltake_38_12 (tkL (tkL (cp (cp (cp (cp (cp (cp (up (up (up M 27 0 (M 1 0)) 27 1 (M 1 1)) 27 2 (M 1 2)) 2 0 28 0 3) 3 0 29 0 6) 4 0 30 0 6) 5 0 31 0 6) 6 0 32 0 17) 7 0 33 0 136) 34 8 20) 36 10 18)) ?_
  rintro _ _ ⟨rfl, rfl⟩
  refine Hx.run 0 (pc' := 123) (L' := [some (vr 27), some (vr 1)]) (st' := []) (M' := (tkL (tkL (tkL (cp (cp (cp (cp (cp (cp (up (up (up M 27 0 (M 1 0)) 27 1 (M 1 1)) 27 2 (M 1 2)) 2 0 28 0 3) 3 0 29 0 6) 4 0 30 0 6) 5 0 31 0 6) 6 0 32 0 17) 7 0 33 0 136) 34 8 20) 36 10 18) 38 12 30)) rfl ?_
  refine Hx.ret rfl ?_
  exact ⟨rfl, rfl⟩
set_option maxRecDepth 100000 in
set_option maxHeartbeats 4000000 in
theorem c_takeOver_1_14 (M : Mm) : Ct 6 [vr 1, vr 14] M (fun q0 M' => q0 = none ∧ tkM M 1 14 = M') := by
  refine Hx.run 12 (pc' := 24) (L' := [some (vr 1), some (vr 14)]) (st' := []) (M' := (up (up (up M 1 0 (M 14 0)) 1 1 (M 14 1)) 1 2 (M 14 2))) rfl ?_
  refine Hx.run 4 (pc' := 32) (L' := [some (vr 1), some (vr 14)]) (st' := [vr 15, vr 2]) (M' := (up (up (up M 1 0 (M 14 0)) 1 1 (M 14 1)) 1 2 (M 14 2))) rfl ?_
  refine Hx.call (t := 123) (as := [vr 2, vr 15]) (pc' := 35) (rest := []) rfl (c_copyInto (rd := 2) (rs := 15) (n := 3) rfl rfl (by decide) (by decide) (by decide) (up (up (up M 1 0 (M 14 0)) 1 1 (M 14 1)) 1 2 (M 14 2))) ?_
  rintro _ _ ⟨rfl, rfl⟩
  refine Hx.run 0 (pc' := 35) (L' := [some (vr 1), some (vr 14)]) (st' := []) (M' := (cp (up (up (up M 1 0 (M 14 0)) 1 1 (M 14 1)) 1 2 (M 14 2)) 15 0 2 0 3)) rfl ?_
  refine Hx.run 4 (pc' := 43) (L' := [some (vr 1), some (vr 14)]) (st' := [vr 16, vr 3]) (M' := (cp (up (up (up M 1 0 (M 14 0)) 1 1 (M 14 1)) 1 2 (M 14 2)) 15 0 2 0 3)) rfl ?_
  refine Hx.call (t := 123) (as := [vr 3, vr 16]) (pc' := 46) (rest := []) rfl (c_copyInto (rd := 3) (rs := 16) (n := 6) rfl rfl (by decide) (by decide) (by decide) (cp (up (up (up M 1 0 (M 14 0)) 1 1 (M 14 1)) 1 2 (M 14 2)) 15 0 2 0 3)) ?_
  rintro _ _ ⟨rfl, rfl⟩
  refine Hx.run 0 (pc' := 46) (L' := [some (vr 1), some (vr 14)]) (st' := []) (M' := (cp (cp (up (up (up M 1 0 (M 14 0)) 1 1 (M 14 1)) 1 2 (M 14 2)) 15 0 2 0 3) 16 0 3 0 6)) rfl ?_
  refine Hx.run 4 (pc' := 54) (L' := [some (vr 1), some (vr 14)]) (st' := [vr 17, vr 4]) (M' := (cp (cp (up (up (up M 1 0 (M 14 0)) 1 1 (M 14 1)) 1 2 (M 14 2)) 15 0 2 0 3) 16 0 3 0 6)) rfl ?_
  refine Hx.call (t := 123) (as := [vr 4, vr 17]) (pc' := 57) (rest := []) rfl (c_copyInto (rd := 4) (rs := 17) (n := 6) rfl rfl (by decide) (by decide) (by decide) (cp (cp (up (up (up M 1 0 (M 14 0)) 1 1 (M 14 1)) 1 2 (M 14 2)) 15 0 2 0 3) 16 0 3 0 6)) ?_
  rintro _ _ ⟨rfl, rfl⟩
  refine Hx.run 0 (pc' := 57) (L' := [some (vr 1), some (vr 14)]) (st' := []) (M' := (cp (cp (cp (up (up (up M 1 0 (M 14 0)) 1 1 (M 14 1)) 1 2 (M 14 2)) 15 0 2 0 3) 16 0 3 0 6) 17 0 4 0 6)) rfl ?_
  refine Hx.run 4 (pc' := 65) (L' := [some (vr 1), some (vr 14)]) (st' := [vr 18, vr 5]) (M' := (cp (cp (cp (up (up (up M 1 0 (M 14 0)) 1 1 (M 14 1)) 1 2 (M 14 2)) 15 0 2 0 3) 16 0 3 0 6) 17 0 4 0 6)) rfl ?_
  refine Hx.call (t := 123) (as := [vr 5, vr 18]) (pc' := 68) (rest := []) rfl (c_copyInto (rd := 5) (rs := 18) (n := 6) rfl rfl (by decide) (by decide) (by decide) (cp (cp (cp (up (up (up M 1 0 (M 14 0)) 1 1 (M 14 1)) 1 2 (M 14 2)) 15 0 2 0 3) 16 0 3 0 6) 17 0 4 0 6)) ?_
  rintro _ _ ⟨rfl, rfl⟩
  refine Hx.run 0 (pc' := 68) (L' := [some (vr 1), some (vr 14)]) (st' := []) (M' := (cp (cp (cp (cp (up (up (up M 1 0 (M 14 0)) 1 1 (M 14 1)) 1 2 (M 14 2)) 15 0 2 0 3) 16 0 3 0 6) 17 0 4 0 6) 18 0 5 0 6)) rfl ?_
  refine Hx.run 4 (pc' := 76) (L' := [some (vr 1), some (vr 14)]) (st' := [vr 19, vr 6]) (M' := (cp (cp (cp (cp (up (up (up M 1 0 (M 14 0)) 1 1 (M 14 1)) 1 2 (M 14 2)) 15 0 2 0 3) 16 0 3 0 6) 17 0 4 0 6) 18 0 5 0 6)) rfl ?_
  refine Hx.call (t := 123) (as := [vr 6, vr 19]) (pc' := 79) (rest := []) rfl (c_copyInto (rd := 6) (rs := 19) (n := 17) rfl rfl (by decide) (by decide) (by decide) (cp (cp (cp (cp (up (up (up M 1 0 (M 14 0)) 1 1 (M 14 1)) 1 2 (M 14 2)) 15 0 2 0 3) 16 0 3 0 6) 17 0 4 0 6) 18 0 5 0 6)) ?_
  rintro _ _ ⟨rfl, rfl⟩
  refine Hx.run 0 (pc' := 79) (L' := [some (vr 1), some (vr 14)]) (st' := []) (M' := (cp (cp (cp (cp (cp (up (up (up M 1 0 (M 14 0)) 1 1 (M 14 1)) 1 2 (M 14 2)) 15 0 2 0 3) 16 0 3 0 6) 17 0 4 0 6) 18 0 5 0 6) 19 0 6 0 17)) rfl ?_
  refine Hx.run 4 (pc' := 87) (L' := [some (vr 1), some (vr 14)]) (st' := [vr 20, vr 7]) (M' := (cp (cp (cp (cp (cp (up (up (up M 1 0 (M 14 0)) 1 1 (M 14 1)) 1 2 (M 14 2)) 15 0 2 0 3) 16 0 3 0 6) 17 0 4 0 6) 18 0 5 0 6) 19 0 6 0 17)) rfl ?_
  refine Hx.call (t := 123) (as := [vr 7, vr 20]) (pc' := 90) (rest := []) rfl (c_copyInto (rd := 7) (rs := 20) (n := 136) rfl rfl (by decide) (by decide) (by decide) (cp (cp (cp (cp (cp (up (up (up M 1 0 (M 14 0)) 1 1 (M 14 1)) 1 2 (M 14 2)) 15 0 2 0 3) 16 0 3 0 6) 17 0 4 0 6) 18 0 5 0 6) 19 0 6 0 17)) ?_
  rintro _ _ ⟨rfl, rfl⟩
  refine Hx.run 0 (pc' := 90) (L' := [some (vr 1), some (vr 14)]) (st' := []) (M' := (cp (cp (cp (cp (cp (cp (up (up (up M 1 0 (M 14 0)) 1 1 (M 14 1)) 1 2 (M 14 2)) 15 0 2 0 3) 16 0 3 0 6) 17 0 4 0 6) 18 0 5 0 6) 19 0 6 0 17) 20 0 7 0 136)) rfl ?_
  refine Hx.run 4 (pc' := 98) (L' := [some (vr 1), some (vr 14)]) (st' := [vr 21, vr 8]) (M' := (cp (cp (cp (cp (cp (cp (up (up (up M 1 0 (M 14 0)) 1 1 (M 14 1)) 1 2 (M 14 2)) 15 0 2 0 3) 16 0 3 0 6) 17 0 4 0 6) 18 0 5 0 6) 19 0 6 0 17) 20 0 7 0 136)) rfl ?_
  refine Hx.call (t := 39) (as := [vr 8, vr 21]) (pc' := 101) (rest := []) rfl (c_ltake_8_21 (cp (cp (cp (cp (cp (cp (up (up (up M 1 0 (M 14 0)) 1 1 (M 14 1)) 1 2 (M 14 2)) 15 0 2 0 3) 16 0 3 0 6) 17 0 4 0 6) 18 0 5 0 6) 19 0 6 0 17) 20 0 7 0 136)) ?_
  rintro _ _ ⟨rfl, rfl⟩
  refine Hx.run 0 (pc' := 101) (L' := [some (vr 1), some (vr 14)]) (st' := []) (M' := (tkL (cp (cp (cp (cp (cp (cp (up (up (up M 1 0 (M 14 0)) 1 1 (M 14 1)) 1 2 (M 14 2)) 15 0 2 0 3) 16 0 3 0 6) 17 0 4 0 6) 18 0 5 0 6) 19 0 6 0 17) 20 0 7 0 136) 8 21 20)) rfl ?_
  refine Hx.run 4 (pc' := 109) (L' := [some (vr 1), some (vr 14)]) (st' := [vr 23, vr 10]) (M' := (tkL (cp (cp (cp (cp (cp (cp (up (up (up M 1 0 (M 14 0)) 1 1 (M 14 1)) 1 2 (M 14 2)) 15 0 2 0 3) 16 0 3 0 6) 17 0 4 0 6) 18 0 5 0 6) 19 0 6 0 17) 20 0 7 0 136) 8 21 20)) rfl ?_
  refine Hx.call (t := 39) (as := [vr 10, vr 23]) (pc' := 112) (rest := []) rfl (c_ltake_10_23 (tkL (cp (cp (cp (cp (cp (cp (up (up (up M 1 0 (M 14 0)) 1 1 (M 14 1)) 1 2 (M 14 2)) 15 0 2 0 3) 16 0 3 0 6) 17 0 4 0 6) 18 0 5 0 6) 19 0 6 0 17) 20 0 7 0 136) 8 21 20)) ?_
  rintro _ _ ⟨rfl, rfl⟩
  refine Hx.run 0 (pc' := 112) (L' := [some (vr 1), some (vr 14)]) (st' := []) (M' := (tkL (tkL (cp (cp (cp (cp (cp (cp (up (up (up M 1 0 (M 14 0)) 1 1 (M 14 1)) 1 2 (M 14 2)) 15 0 2 0 3) 16 0 3 0 6) 17 0 4 0 6) 18 0 5 0 6) 19 0 6 0 17) 20 0 7 0 136) 8 21 20) 10 23 18)) rfl ?_
  refine Hx.run 4 (pc' := 120) (L' := [some (vr 1), some (vr 14)]) (st' := [vr 25, vr 12]) (M' := (tkL (tkL (cp (cp (cp (cp (cp (cp (up (up (up M 1 0 (M 14 0)) 1 1 (M 14 1)) 1 2 (M 14 2)) 15 0 2 0 3) 16 0 3 0 6) 17 0 4 0 6) 18 0 5 0 6) 19 0 6 0 17) 20 0 7 0 136) 8 21 20) 10 23 18)) rfl ?_
  refine Hx.call (t := 39) (as := [vr 12, vr 25]) (pc' := 123) (rest := []) rfl (c_ltake_12_25 (tkL (tkL (cp (cp (cp (cp (cp (cp (up (up (up M 1 0 (M 14 0)) 1 1 (M 14 1)) 1 2 (M 14 2)) 15 0 2 0 3) 16 0 3 0 6) 17 0 4 0 6) 18 0 5 0 6) 19 0 6 0 17) 20 0 7 0 136) 8 21 20) 10 23 18)) ?_
  rintro _ _ ⟨rfl, rfl⟩
  refine Hx.run 0 (pc' := 123) (L' := [some (vr 1), some (vr 14)]) (st' := []) (M' := (tkL (tkL (tkL (cp (cp (cp (cp (cp (cp (up (up (up M 1 0 (M 14 0)) 1 1 (M 14 1)) 1 2 (M 14 2)) 15 0 2 0 3) 16 0 3 0 6) 17 0 4 0 6) 18 0 5 0 6) 19 0 6 0 17) 20 0 7 0 136) 8 21 20) 10 23 18) 12 25 30)) rfl ?_
  refine Hx.ret rfl ?_
  exact ⟨rfl, rfl⟩
set_option maxRecDepth 100000 in
set_option maxHeartbeats 4000000 in
theorem c_takeOver_1_27 (M : Mm) : Ct 6 [vr 1, vr 27] M (fun q0 M' => q0 = none ∧ tkM M 1 27 = M') := by
  refine Hx.run 12 (pc' := 24) (L' := [some (vr 1), some (vr 27)]) (st' := []) (M' := (up (up (up M 1 0 (M 27 0)) 1 1 (M 27 1)) 1 2 (M 27 2))) rfl ?_
  refine Hx.run 4 (pc' := 32) (L' := [some (vr 1), some (vr 27)]) (st' := [vr 28, vr 2]) (M' := (up (up (up M 1 0 (M 27 0)) 1 1 (M 27 1)) 1 2 (M 27 2))) rfl ?_
  refine Hx.call (t := 123) (as := [vr 2, vr 28]) (pc' := 35) (rest := []) rfl (c_copyInto (rd := 2) (rs := 28) (n := 3) rfl rfl (by decide) (by decide) (by decide) (up (up (up M 1 0 (M 27 0)) 1 1 (M 27 1)) 1 2 (M 27 2))) ?_
  rintro _ _ ⟨rfl, rfl⟩
  refine Hx.run 0 (pc' := 35) (L' := [some (vr 1), some (vr 27)]) (st' := []) (M' := (cp (up (up (up M 1 0 (M 27 0)) 1 1 (M 27 1)) 1 2 (M 27 2)) 28 0 2 0 3)) rfl ?_
  refine Hx.run 4 (pc' := 43) (L' := [some (vr 1), some (vr 27)]) (st' := [vr 29, vr 3]) (M' := (cp (up (up (up M 1 0 (M 27 0)) 1 1 (M 27 1)) 1 2 (M 27 2)) 28 0 2 0 3)) rfl ?_
  refine Hx.call (t := 123) (as := [vr 3, vr 29]) (pc' := 46) (rest := []) rfl (c_copyInto (rd := 3) (rs := 29) (n := 6) rfl rfl (by decide) (by decide) (by decide) (cp (up (up (up M 1 0 (M 27 0)) 1 1 (M 27 1)) 1 2 (M 27 2)) 28 0 2 0 3)) ?_
  rintro _ _ ⟨rfl, rfl⟩
  refine Hx.run 0 (pc' := 46) (L' := [some (vr 1), some (vr 27)]) (st' := []) (M' := (cp (cp (up (up (up M 1 0 (M 27 0)) 1 1 (M 27 1)) 1 2 (M 27 2)) 28 0 2 0 3) 29 0 3 0 6)) rfl ?_
  refine Hx.run 4 (pc' := 54) (L' := [some (vr 1), some (vr 27)]) (st' := [vr 30, vr 4]) (M' := (cp (cp (up (up (up M 1 0 (M 27 0)) 1 1 (M 27 1)) 1 2 (M 27 2)) 28 0 2 0 3) 29 0 3 0 6)) rfl ?_
  refine Hx.call (t := 123) (as := [vr 4, vr 30]) (pc' := 57) (rest := []) rfl (c_copyInto (rd := 4) (rs := 30) (n := 6) rfl rfl (by decide) (by decide) (by decide) (cp (cp (up (up (up M 1 0 (M 27 0)) 1 1 (M 27 1)) 1 2 (M 27 2)) 28 0 2 0 3) 29 0 3 0 6)) ?_
  rintro _ _ ⟨rfl, rfl⟩
  refine Hx.run 0 (pc' := 57) (L' := [some (vr 1), some (vr 27)]) (st' := []) (M' := (cp (cp (cp (up (up (up M 1 0 (M 27 0)) 1 1 (M 27 1)) 1 2 (M 27 2)) 28 0 2 0 3) 29 0 3 0 6) 30 0 4 0 6)) rfl ?_
  refine Hx.run 4 (pc' := 65) (L' := [some (vr 1), some (vr 27)]) (st' := [vr 31, vr 5]) (M' := (cp (cp (cp (up (up (up M 1 0 (M 27 0)) 1 1 (M 27 1)) 1 2 (M 27 2)) 28 0 2 0 3) 29 0 3 0 6) 30 0 4 0 6)) rfl ?_
  refine Hx.call (t := 123) (as := [vr 5, vr 31]) (pc' := 68) (rest := []) rfl (c_copyInto (rd := 5) (rs := 31) (n := 6) rfl rfl (by decide) (by decide) (by decide) (cp (cp (cp (up (up (up M 1 0 (M 27 0)) 1 1 (M 27 1)) 1 2 (M 27 2)) 28 0 2 0 3) 29 0 3 0 6) 30 0 4 0 6)) ?_
  rintro _ _ ⟨rfl, rfl⟩
  refine Hx.run 0 (pc' := 68) (L' := [some (vr 1), some (vr 27)]) (st' := []) (M' := (cp (cp (cp (cp (up (up (up M 1 0 (M 27 0)) 1 1 (M 27 1)) 1 2 (M 27 2)) 28 0 2 0 3) 29 0 3 0 6) 30 0 4 0 6) 31 0 5 0 6)) rfl ?_
  refine Hx.run 4 (pc' := 76) (L' := [some (vr 1), some (vr 27)]) (st' := [vr 32, vr 6]) (M' := (cp (cp (cp (cp (up (up (up M 1 0 (M 27 0)) 1 1 (M 27 1)) 1 2 (M 27 2)) 28 0 2 0 3) 29 0 3 0 6) 30 0 4 0 6) 31 0 5 0 6)) rfl ?_
  refine Hx.call (t := 123) (as := [vr 6, vr 32]) (pc' := 79) (rest := []) rfl (c_copyInto (rd := 6) (rs := 32) (n := 17) rfl rfl (by decide) (by decide) (by decide) (cp (cp (cp (cp (up (up (up M 1 0 (M 27 0)) 1 1 (M 27 1)) 1 2 (M 27 2)) 28 0 2 0 3) 29 0 3 0 6) 30 0 4 0 6) 31 0 5 0 6)) ?_
  rintro _ _ ⟨rfl, rfl⟩
  refine Hx.run 0 (pc' := 79) (L' := [some (vr 1), some (vr 27)]) (st' := []) (M' := (cp (cp (cp (cp (cp (up (up (up M 1 0 (M 27 0)) 1 1 (M 27 1)) 1 2 (M 27 2)) 28 0 2 0 3) 29 0 3 0 6) 30 0 4 0 6) 31 0 5 0 6) 32 0 6 0 17)) rfl ?_
  refine Hx.run 4 (pc' := 87) (L' := [some (vr 1), some (vr 27)]) (st' := [vr 33, vr 7]) (M' := (cp (cp (cp (cp (cp (up (up (up M 1 0 (M 27 0)) 1 1 (M 27 1)) 1 2 (M 27 2)) 28 0 2 0 3) 29 0 3 0 6) 30 0 4 0 6) 31 0 5 0 6) 32 0 6 0 17)) rfl ?_
  refine Hx.call (t := 123) (as := [vr 7, vr 33]) (pc' := 90) (rest := []) rfl (c_copyInto (rd := 7) (rs := 33) (n := 136) rfl rfl (by decide) (by decide) (by decide) (cp (cp (cp (cp (cp (up (up (up M 1 0 (M 27 0)) 1 1 (M 27 1)) 1 2 (M 27 2)) 28 0 2 0 3) 29 0 3 0 6) 30 0 4 0 6) 31 0 5 0 6) 32 0 6 0 17)) ?_
  rintro _ _ ⟨rfl, rfl⟩
  refine Hx.run 0 (pc' := 90) (L' := [some (vr 1), some (vr 27)]) (st' := []) (M' := (cp (cp (cp (cp (cp (cp (up (up (up M 1 0 (M 27 0)) 1 1 (M 27 1)) 1 2 (M 27 2)) 28 0 2 0 3) 29 0 3 0 6) 30 0 4 0 6) 31 0 5 0 6) 32 0 6 0 17) 33 0 7 0 136)) rfl ?_
  refine Hx.run 4 (pc' := 98) (L' := [some (vr 1), some (vr 27)]) (st' := [vr 34, vr 8]) (M' := (cp (cp (cp (cp (cp (cp (up (up (up M 1 0 (M 27 0)) 1 1 (M 27 1)) 1 2 (M 27 2)) 28 0 2 0 3) 29 0 3 0 6) 30 0 4 0 6) 31 0 5 0 6) 32 0 6 0 17) 33 0 7 0 136)) rfl ?_
  refine Hx.call (t := 39) (as := [vr 8, vr 34]) (pc' := 101) (rest := []) rfl (c_ltake_8_34 (cp (cp (cp (cp (cp (cp (up (up (up M 1 0 (M 27 0)) 1 1 (M 27 1)) 1 2 (M 27 2)) 28 0 2 0 3) 29 0 3 0 6) 30 0 4 0 6) 31 0 5 0 6) 32 0 6 0 17) 33 0 7 0 136)) ?_
  rintro _ _ ⟨rfl, rfl⟩
  refine Hx.run 0 (pc' := 101) (L' := [some (vr 1), some (vr 27)]) (st' := []) (M' := (tkL (cp (cp (cp (cp (cp (cp (up (up (up M 1 0 (M 27 0)) 1 1 (M 27 1)) 1 2 (M 27 2)) 28 0 2 0 3) 29 0 3 0 6) 30 0 4 0 6) 31 0 5 0 6) 32 0 6 0 17) 33 0 7 0 136) 8 34 20)) rfl ?_
  refine Hx.run 4 (pc' := 109) (L' := [some (vr 1), some (vr 27)]) (st' := [vr 36, vr 10]) (M' := (tkL (cp (cp (cp (cp (cp (cp (up (up (up M 1 0 (M 27 0)) 1 1 (M 27 1)) 1 2 (M 27 2)) 28 0 2 0 3) 29 0 3 0 6) 30 0 4 0 6) 31 0 5 0 6) 32 0 6 0 17) 33 0 7 0 136) 8 34 20)) rfl ?_
  refine Hx.call (t := 39) (as := [vr 10, vr 36]) (pc' := 112) (rest := []) rfl (c_ltake_10_36 (tkL (cp (cp (cp (cp (cp (cp (up (up (up M 1 0 (M 27 0)) 1 1 (M 27 1)) 1 2 (M 27 2)) 28 0 2 0 3) 29 0 3 0 6) 30 0 4 0 6) 31 0 5 0 6) 32 0 6 0 17) 33 0 7 0 136) 8 34 20)) ?_
  rintro _ _ ⟨rfl, rfl⟩
  refine Hx.run 0 (pc' := 112) (L' := [some (vr 1), some (vr 27)]) (st' := []) (M' := (tkL (tkL (cp (cp (cp (cp (cp (cp (up (up (up M 1 0 (M 27 0)) 1 1 (M 27 1)) 1 2 (M 27 2)) 28 0 2 0 3) 29 0 3 0 6) 30 0 4 0 6) 31 0 5 0 6) 32 0 6 0 17) 33 0 7 0 136) 8 34 20) 10 36 18)) rfl ?_
  refine Hx.run 4 (pc' := 120) (L' := [some (vr 1), some (vr 27)]) (st' := [vr 38, vr 12]) (M' := (tkL (tkL (cp (cp (cp (cp (cp (cp (up (up (up M 1 0 (M 27 0)) 1 1 (M 27 1)) 1 2 (M 27 2)) 28 0 2 0 3) 29 0 3 0 6) 30 0 4 0 6) 31 0 5 0 6) 32 0 6 0 17) 33 0 7 0 136) 8 34 20) 10 36 18)) rfl ?_
  refine Hx.call (t := 39) (as := [vr 12, vr 38]) (pc' := 123) (rest := []) rfl (c_ltake_12_38 (tkL (tkL (cp (cp (cp (cp (cp (cp (up (up (up M 1 0 (M 27 0)) 1 1 (M 27 1)) 1 2 (M 27 2)) 28 0 2 0 3) 29 0 3 0 6) 30 0 4 0 6) 31 0 5 0 6) 32 0 6 0 17) 33 0 7 0 136) 8 34 20) 10 36 18)) ?_
  rintro _ _ ⟨rfl, rfl⟩
  refine Hx.run 0 (pc' := 123) (L' := [some (vr 1), some (vr 27)]) (st' := []) (M' := (tkL (tkL (tkL (cp (cp (cp (cp (cp (cp (up (up (up M 1 0 (M 27 0)) 1 1 (M 27 1)) 1 2 (M 27 2)) 28 0 2 0 3) 29 0 3 0 6) 30 0 4 0 6) 31 0 5 0 6) 32 0 6 0 17) 33 0 7 0 136) 8 34 20) 10 36 18) 12 38 30)) rfl ?_
  refine Hx.ret rfl ?_
  exact ⟨rfl, rfl⟩
/-- a moment is kept -/
def kmM (M : Mm) : Mm := if M 1 2 = 8 then up (cp (up (cp M 7 17 7 0 119) 1 2 7) 6 0 7 119 17) 1 2 8 else up (cp M 6 0 7 (M 1 2 * 17) 17) 1 2 (M 1 2 + 1)
set_option maxRecDepth 100000 in
theorem c_keepMoment (M : Mm) (hk : 0 ≤ M 1 2 ∧ M 1 2 ≤ 8) : Ct 11 [vr 1] M (fun q0 M' => q0 = none ∧ kmM M = M') := by
  refine Hx.run 3 (pc' := 6) (L' := [some (vr 1)]) (st' := [vi 8, vi (M 1 2)]) (M' := M) rfl ?_
  refine Hx.br (c := (M 1 2) < 8) (t := 31) (f := 9) rfl (fun h1 => ?_) (fun h1 => ?_)
  · skip
    refine Hx.run 2 (pc' := 35) (L' := [some (vr 1)]) (st' := [vi (M 1 2)]) (M' := M) rfl ?_
    refine Hx.br (c := (M 1 2) < 0) (t := 59) (f := 38) rfl (fun h2 => ?_) (fun h2 => ?_)
    · skip
      refine Hx.run 4 (pc' := 65) (L' := [some (vr 1)]) (st' := [vi 1, vi (M 1 2), vr 1]) (M' := M) rfl ?_
      refine Hx.add rfl (by omega) ?_
      refine Hx.run 1 (pc' := 69) (L' := [some (vr 1)]) (st' := []) (M' := (up M 1 2 ((M 1 2) + 1))) rfl ?_
      refine Hx.ret rfl ?_
      refine ⟨rfl, ?_⟩
      unfold kmM
      first | (exfalso; omega) | (rw [if_pos (by omega)]; done) | (rw [if_pos (by omega)]; rfl) | (rw [if_neg (by omega)]; done) | (rw [if_neg (by omega)]; rfl)
    · skip
      refine Hx.run 8 (pc' := 53) (L' := [some (vr 1)]) (st' := [vi 17, vi (M 1 2), vr 7, vi 0, vr 6]) (M' := M) rfl ?_
      refine Hx.mul rfl (by omega) ?_
      refine Hx.run 1 (pc' := 56) (L' := [some (vr 1)]) (st' := [vi 17, vi ((M 1 2) * 17), vr 7, vi 0, vr 6]) (M' := M) rfl ?_
      refine Hx.acopyI (n0 := 17) (n1 := 136) rfl rfl rfl rfl (by decide) (by decide) (by omega) (by decide) ?_
      refine Hx.run 0 (pc' := 59) (L' := [some (vr 1)]) (st' := []) (M' := (cp M 6 0 7 ((M 1 2) * 17) 17)) rfl ?_
      refine Hx.run 4 (pc' := 65) (L' := [some (vr 1)]) (st' := [vi 1, vi (M 1 2), vr 1]) (M' := (cp M 6 0 7 ((M 1 2) * 17) 17)) rfl ?_
      refine Hx.add rfl (by omega) ?_
      refine Hx.run 1 (pc' := 69) (L' := [some (vr 1)]) (st' := []) (M' := (up (cp M 6 0 7 ((M 1 2) * 17) 17) 1 2 ((M 1 2) + 1))) rfl ?_
      refine Hx.ret rfl ?_
      refine ⟨rfl, ?_⟩
      unfold kmM
      first | (exfalso; omega) | (rw [if_pos (by omega)]; done) | (rw [if_pos (by omega)]; rfl) | (rw [if_neg (by omega)]; done) | (rw [if_neg (by omega)]; rfl)
  · skip
    refine Hx.run 7 (pc' := 22) (L' := [some (vr 1)]) (st' := [vi 119, vi 0, vr 7, vi 17, vr 7]) (M' := M) rfl ?_
    refine Hx.acopyI (n0 := 136) (n1 := 136) rfl rfl rfl rfl (by decide) (by decide) (by omega) (by decide) ?_
    refine Hx.run 0 (pc' := 25) (L' := [some (vr 1)]) (st' := []) (M' := (cp M 7 17 7 0 119)) rfl ?_
    refine Hx.run 12 (pc' := 48) (L' := [some (vr 1)]) (st' := [vr 1, vr 7, vi 0, vr 6]) (M' := (up (cp M 7 17 7 0 119) 1 2 7)) rfl ?_
    refine Hx.run 2 (pc' := 53) (L' := [some (vr 1)]) (st' := [vi 17, vi 7, vr 7, vi 0, vr 6]) (M' := (up (cp M 7 17 7 0 119) 1 2 7)) rfl ?_
    refine Hx.mul rfl (by omega) ?_
    refine Hx.run 0 (pc' := 54) (L' := [some (vr 1)]) (st' := [vi 119, vr 7, vi 0, vr 6]) (M' := (up (cp M 7 17 7 0 119) 1 2 7)) rfl ?_
    refine Hx.run 1 (pc' := 56) (L' := [some (vr 1)]) (st' := [vi 17, vi 119, vr 7, vi 0, vr 6]) (M' := (up (cp M 7 17 7 0 119) 1 2 7)) rfl ?_
    refine Hx.acopyI (n0 := 17) (n1 := 136) rfl rfl rfl rfl (by decide) (by decide) (by omega) (by decide) ?_
    refine Hx.run 0 (pc' := 59) (L' := [some (vr 1)]) (st' := []) (M' := (cp (up (cp M 7 17 7 0 119) 1 2 7) 6 0 7 119 17)) rfl ?_
    refine Hx.run 4 (pc' := 65) (L' := [some (vr 1)]) (st' := [vi 1, vi 7, vr 1]) (M' := (cp (up (cp M 7 17 7 0 119) 1 2 7) 6 0 7 119 17)) rfl ?_
    refine Hx.add rfl (by omega) ?_
    refine Hx.run 0 (pc' := 66) (L' := [some (vr 1)]) (st' := [vi 8, vr 1]) (M' := (cp (up (cp M 7 17 7 0 119) 1 2 7) 6 0 7 119 17)) rfl ?_
    refine Hx.run 1 (pc' := 69) (L' := [some (vr 1)]) (st' := []) (M' := (up (cp (up (cp M 7 17 7 0 119) 1 2 7) 6 0 7 119 17) 1 2 8)) rfl ?_
    refine Hx.ret rfl ?_
    refine ⟨rfl, ?_⟩
    unfold kmM
    first | (exfalso; omega) | (rw [if_pos (by omega)]; done) | (rw [if_pos (by omega)]; rfl) | (rw [if_neg (by omega)]; done) | (rw [if_neg (by omega)]; rfl)
set_option maxRecDepth 100000 in
theorem c_dropMoment (M : Mm) (hk : 1 ≤ M 1 2 ∧ M 1 2 ≤ 8) : Ct 12 [vr 1] M (fun q0 M' => q0 = none ∧ cp (up M 1 2 (M 1 2 - 1)) 7 ((M 1 2 - 1) * 17) 6 0 17 = M') := by
  refine Hx.run 3 (pc' := 5) (L' := [some (vr 1)]) (st' := [vi 1, vi (M 1 2)]) (M' := M) rfl ?_
  refine Hx.br (c := (M 1 2) < 1) (t := 17) (f := 8) rfl (fun h1 => ?_) (fun h1 => ?_)
  · skip
    refine Hx.ret rfl ?_
    first | exact ⟨rfl, rfl⟩ | (exfalso; omega)
  · skip
    refine Hx.run 3 (pc' := 14) (L' := [some (vr 1)]) (st' := [vi 8, vi (M 1 2)]) (M' := M) rfl ?_
    refine Hx.br (c := 8 < (M 1 2)) (t := 17) (f := 18) rfl (fun h2 => ?_) (fun h2 => ?_)
    · skip
      refine Hx.ret rfl ?_
      first | exact ⟨rfl, rfl⟩ | (exfalso; omega)
    · skip
      refine Hx.run 4 (pc' := 24) (L' := [some (vr 1)]) (st' := [vi 1, vi (M 1 2), vr 1]) (M' := M) rfl ?_
      refine Hx.sub rfl (by omega) ?_
      refine Hx.run 6 (pc' := 38) (L' := [some (vr 1)]) (st' := [vi 17, vi ((M 1 2) - 1), vr 7]) (M' := (up M 1 2 ((M 1 2) - 1))) rfl ?_
      refine Hx.mul rfl (by omega) ?_
      refine Hx.run 4 (pc' := 46) (L' := [some (vr 1)]) (st' := [vi 17, vi 0, vr 6, vi (((M 1 2) - 1) * 17), vr 7]) (M' := (up M 1 2 ((M 1 2) - 1))) rfl ?_
      refine Hx.acopyI (n0 := 136) (n1 := 17) rfl rfl rfl rfl (by decide) (by decide) (by omega) (by decide) ?_
      refine Hx.run 0 (pc' := 49) (L' := [some (vr 1)]) (st' := []) (M' := (cp (up M 1 2 ((M 1 2) - 1)) 7 (((M 1 2) - 1) * 17) 6 0 17)) rfl ?_
      refine Hx.ret rfl ?_
      first | exact ⟨rfl, rfl⟩ | (exfalso; omega)
