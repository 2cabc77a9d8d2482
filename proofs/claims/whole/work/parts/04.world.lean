/-! THE WORLD OF A MEMORY -/
def toV (ad : Nat → Nat) : PV → Value
  | .inl z => .int (Int32.ofInt z)
  | .inr (.inl z) => .long (Int64.ofInt z)
  | .inr (.inr k) => .ref (ad k)
def ok32 (z : Int) : Prop := -2147483648 ≤ z ∧ z < 2147483648
def ok64 (z : Int) : Prop := -9223372036854775808 ≤ z ∧ z < 9223372036854775808
def okV : PV → Prop
  | .inl z => ok32 z
  | .inr (.inl z) => ok64 z
  | .inr (.inr _) => True
theorem of32 {z : Int} (h : ok32 z) : (Int32.ofInt z).toInt = z := Int32.toInt_ofInt_of_le h.1 h.2
theorem of64 {z : Int} (h : ok64 z) : (Int64.ofInt z).toInt = z := Int64.toInt_ofInt_of_le h.1 h.2
theorem ok32_to (x : Int32) : ok32 x.toInt := ⟨x.le_toInt, x.toInt_lt⟩
theorem ok64_to (x : Int64) : ok64 x.toInt := ⟨x.le_toInt, x.toInt_lt⟩
theorem as32 (x : Int32) : Int32.ofInt x.toInt = x := Int32.ofInt_toInt x
theorem as64 (x : Int64) : Int64.ofInt x.toInt = x := Int64.ofInt_toInt x
/-- the number (r, i) is a long -/
def lgc (r i : Nat) : Bool := match shp r with
  | .inr (_, ks) => Nat.beq (nth ks i 0) 1
  | _ => false
def okM (M : Mm) : Prop := ∀ (r i : Nat), if lgc r i then ok64 (M r i) else ok32 (M r i)
def cellE (cI cZ : ClassId) (ad : Nat → Nat) (M : Mm) (r : Nat) : Shp → va_E
  | .inl (n, b) => .inl (if b then cZ else cI, n, .inl (fun j => Int32.ofInt (M r j)))
  | .inr (ci, ks) => .inr (ci, ks.mapIdx (fun f k => toV ad (gf M r f k)))
def wd (cI cZ : ClassId) (ad : Nat → Nat) (M : Mm) : va_W := SH.mapIdx (fun r s => (ad r, cellE cI cZ ad M r s))
theorem SH_len : SH.length = 73 := by decide +kernel
theorem shp_get {r : Nat} (h : r < 73) : SH[r]? = some (shp r) := nth_get SH r (by rw [SH_len]; exact h)
theorem shp_out {r : Nat} (h : 73 ≤ r) : shp r = .inl (0, false) := nth_out SH r (by rw [SH_len]; exact h)
theorem wd_get {cI cZ : ClassId} {ad : Nat → Nat} {M : Mm} {r : Nat} (h : r < 73) : (wd cI cZ ad M)[r]? = some (ad r, cellE cI cZ ad M r (shp r)) := by
  rw [wd, List.getElem?_mapIdx, shp_get h]; rfl
theorem wd_lt {cI cZ : ClassId} {ad : Nat → Nat} {M : Mm} {k : Nat} {q : Nat × va_E} (h : (wd cI cZ ad M)[k]? = some q) : k < 73 ∧ q.1 = ad k := by
  have hk : k < 73 := by
    have := (List.getElem?_eq_some_iff.mp h).1
    simpa [wd, SH_len] using this
  rw [wd_get hk] at h
  exact ⟨hk, by rw [← Option.some.inj h]⟩
theorem cellE_congr {cI cZ : ClassId} {ad : Nat → Nat} {M M' : Mm} {r : Nat} (h : ∀ i, M' r i = M r i) (s : Shp) : cellE cI cZ ad M' r s = cellE cI cZ ad M r s := by
  rcases s with ⟨n, b⟩ | ⟨ci, ks⟩
  · simp only [cellE, h]
  · simp only [cellE]
    congr 2
    refine congrFun (congrArg _ ?_) _
    funext f k
    rcases k with _ | _ | _ | k <;> simp [gf, h]
theorem wd_set {cI cZ : ClassId} {ad : Nat → Nat} {M M' : Mm} {r : Nat} (hr : r < 73) (h : ∀ (a : Nat) (i : Int), a ≠ r → M' a i = M a i) : (wd cI cZ ad M).set r (ad r, cellE cI cZ ad M' r (shp r)) = wd cI cZ ad M' := by
  apply List.ext_getElem?
  intro k
  by_cases hk : k = r
  · subst hk
    rw [List.getElem?_set_self (by simp [wd, SH_len]; exact hr), wd_get hr]
  · rw [List.getElem?_set_ne (Ne.symm hk)]
    by_cases hk2 : k < 73
    · rw [wd_get hk2, wd_get hk2, cellE_congr (fun i => h k i hk)]
    · rw [List.getElem?_eq_none (by simp [wd, SH_len]; omega), List.getElem?_eq_none (by simp [wd, SH_len]; omega)]
theorem up_other {M : Mm} {r : Nat} {f z : Int} {a : Nat} (h : a ≠ r) (i : Int) : up M r f z a i = M a i := by
  simp [up, h]
theorem up_same {M : Mm} {r : Nat} {f z : Int} (i : Int) : up M r f z r i = if i = f then z else M r i := by
  simp [up]
theorem cellE_upA {cI cZ : ClassId} {ad : Nat → Nat} {M : Mm} {r n : Nat} {b : Bool} {i z : Int} (hi : 0 ≤ i) (hs : shp r = .inl (n, b)) :
    cellE cI cZ ad (up M r i z) r (shp r) = .inl (if b then cZ else cI, n, .inl (upd (fun j => Int32.ofInt (M r j)) i.toNat (Int32.ofInt z))) := by
  rw [hs]
  simp only [cellE]
  congr 4
  funext j
  rw [up_same]
  simp only [upd]
  by_cases hj : j = i.toNat
  · rw [if_pos hj, if_pos (by omega)]
  · rw [if_neg hj, if_neg (by omega)]
theorem cellE_upO {cI cZ : ClassId} {ad : Nat → Nat} {M : Mm} {r f ci k : Nat} {ks : List Nat} {z : Int} {v : PV} (hs : shp r = .inr (ci, ks)) (hk : ks[f]? = some k) (hv : gf (up M r f z) r f k = v) :
    cellE cI cZ ad (up M r f z) r (shp r) = .inr (ci, (ks.mapIdx (fun f k => toV ad (gf M r f k))).set f (toV ad v)) := by
  rw [hs]
  simp only [cellE]
  congr 2
  apply List.ext_getElem?
  intro j
  by_cases hj : j = f
  · subst hj
    rw [List.getElem?_set_self (by have := (List.getElem?_eq_some_iff.mp hk).1; simpa using this), List.getElem?_mapIdx, hk]
    simp [hv]
  · rw [List.getElem?_set_ne (Ne.symm hj), List.getElem?_mapIdx, List.getElem?_mapIdx]
    cases ks[j]? with
    | none => rfl
    | some q =>
      simp only [Option.map_some, Option.some.injEq]
      have hj2 : ¬ ((j : Int) = (f : Int)) := by omega
      rcases q with _ | _ | _ | q <;> simp [gf, up, hj2]
/-- the cells' own addresses -/
def Ar (ad : Nat → Nat) (q : Nat) : Prop := ∃ r, r < 73 ∧ q = ad r
def strL : List Nat := strB.map List.length
def strY : List (List Int32) := strB.map (fun l => l.map Int32.ofInt)
def strP : List Nat := (nth strT 3 []).map (fun q => q.1)
/-- calls of a nest mate's private methods: own class, pool index, method -/
def nestL : List (Nat × Nat × Nat) := [(1, 73, 122), (3, 19, 122), (3, 117, 121), (1, 92, 121), (1, 131, 129), (1, 113, 124), (1, 116, 125), (1, 147, 128), (1, 65, 123), (2, 41, 123), (0, 22, 122), (0, 34, 128), (0, 30, 121), (2, 31, 122), (2, 37, 121)]
