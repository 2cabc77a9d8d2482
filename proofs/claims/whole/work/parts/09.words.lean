theorem look4_mem {α : Type} : ∀ (t : List (Nat × α)) (i : Nat) (v : α), look4 t i = some v → (i, v) ∈ t
  | [], _, _, h => by cases h
  | (k, w) :: t, i, v, h => by
    unfold look4 at h
    cases hk : Nat.beq k i with
    | true =>
      rw [hk] at h
      have := Nat.eq_of_beq_eq_true hk
      subst this
      cases h
      exact List.mem_cons_self
    | false =>
      rw [hk] at h
      exact List.mem_cons_of_mem _ (look4_mem t i v h)
theorem fetch_ok {y pc : Nat} {i : Instr} {len : Nat} (hy : y < 227) (h : fetch y pc = some (i, len)) : decode (mC y) pc = .ok (i, len) ∧ insOK y pc i len = true := by
  have h2 := List.all_eq_true.mp (ck_all y hy) _ (look4_mem _ _ _ h)
  simp only [Bool.and_eq_true, decide_eq_true_eq] at h2
  exact h2
/-- words of the methods -/
def mOk (y : Nat) : Bool := decide ((mN y).cls = nth ownN (mK y) "") && (plainFor (mN y) && (decide ((mN y).cls ≠ "java/lang/invoke/MethodHandle") && (decide ((mN y).cls ≠ "java/lang/invoke/VarHandle") && (decide (mL y ≤ 20) && (decide (lw_tbl[(mW y).2.1]? = some (.initialized (mN y).cls)) &&
  (if mS y then decide (lw_tbl[(mW y).2.2.1]? = some (.static (mN y))) else decide (lw_tbl[(mW y).2.2.1]? = some (.instanceMethod (mN y))) && (decide (lw_tbl[(mW y).2.2.2]? = some (.selects (mN y).cls (mN y) (mN y))) && decide ((mN y).cls = clN (mK y)))))))))
theorem m_ok : (List.range 227).all mOk = true := by decide +kernel
/-- words of the links -/
def fldOk (o : Nat) (q : Nat × Nat × Nat × Nat) : Bool := Nat.blt q.2.1 6 && decide (lw_tbl[q.2.2.2]? = some (.fieldLink (nth ownN o "") q.1 ((clT q.2.1) q.2.2.1).1 ((clT q.2.1) q.2.2.1).2.1 ((clT q.2.1) q.2.2.1).2.2.1))
theorem fld_ok : (List.range 9).all (fun o => (nth fldT o []).all (fldOk o)) = true := by decide +kernel
def mthOk (o : Nat) (q : Nat × Nat × Nat × Bool × Nat) : Bool :=
  if q.2.1 = 1002 then decide (lw_tbl[q.2.2.2.2]? = some (.methodLink (nth ownN o "") q.1 arraycopyName))
  else if q.2.1 = 1003 then decide (lw_tbl[q.2.2.2.2]? = some (.methodLink (nth ownN o "") q.1 yJ0_length_8abf5)) && !q.2.2.2.1
  else if q.2.1 = 1004 then decide (lw_tbl[q.2.2.2.2]? = some (.methodLink (nth ownN o "") q.1 yJ0_charAt_5068e)) && !q.2.2.2.1
  else (if q.2.2.2.1 then nestL.contains (o, q.1, q.2.1) && mS q.2.1 else decide (lw_tbl[q.2.2.2.2]? = some (.methodLink (nth ownN o "") q.1 (mN q.2.1)))) && decide ((parseMethodDescriptor (mN q.2.1).desc).map (fun d => d.parameters.length) = some q.2.2.1)
theorem mth_ok : (List.range 9).all (fun o => (nth mthT o []).all (mthOk o)) = true := by decide +kernel
theorem cst_ok : (List.range 9).all (fun o => (nth cstT o []).all (fun q => decide (lw_tbl[q.2.2]? = some (.constant (nth ownN o "") q.1 (Int32.ofInt q.2.1))) && dok q.2.1)) = true := by decide +kernel
theorem lng_ok : (List.range 9).all (fun o => (nth lngT o []).all (fun q => decide (lw_tbl[q.2.2]? = some (.constantLong (nth ownN o "") q.1 (Int64.ofInt q.2.1))) && dokL q.2.1)) = true := by decide +kernel
theorem str_ok : (List.range 9).all (fun o => (nth strT o []).all (fun q => decide (nth ownN o "" = "StairSteps$Reader") && (decide (strP.getD q.2.1 0 = q.1) && Nat.blt q.2.1 6))) = true := by decide +kernel
theorem lay0 : u_ws RX0 TX0 3 = ([184, 186, 188] : List Nat).filterMap (fun i => lw_tbl[i]?) := by decide +kernel
theorem layg0 : (u_ws RX0 TX0 3).all goodWord = true := by decide +kernel
theorem lay1 : u_ws RX1 TX1 12 = ([149, 151, 153, 155, 157, 159, 161, 163, 165, 167, 169, 171] : List Nat).filterMap (fun i => lw_tbl[i]?) := by decide +kernel
theorem layg1 : (u_ws RX1 TX1 12).all goodWord = true := by decide +kernel
theorem lay2 : u_ws RX2 TX2 4 = ([119, 121, 123, 125] : List Nat).filterMap (fun i => lw_tbl[i]?) := by decide +kernel
theorem layg2 : (u_ws RX2 TX2 4).all goodWord = true := by decide +kernel
theorem lay3 : u_ws RX3 TX3 6 = ([205, 207, 209, 211, 213, 215] : List Nat).filterMap (fun i => lw_tbl[i]?) := by decide +kernel
theorem layg3 : (u_ws RX3 TX3 6).all goodWord = true := by decide +kernel
theorem lay4 : u_ws RX4 TX4 17 = ([235, 237, 239, 241, 243, 245, 247, 249, 251, 253, 255, 257, 259, 261, 263, 265, 267] : List Nat).filterMap (fun i => lw_tbl[i]?) := by decide +kernel
theorem layg4 : (u_ws RX4 TX4 17).all goodWord = true := by decide +kernel
theorem lay5 : u_ws RX5 TX5 15 = ([923, 925, 927, 929, 931, 933, 935, 937, 939, 941, 943, 945, 947, 949, 951] : List Nat).filterMap (fun i => lw_tbl[i]?) := by decide +kernel
theorem layg5 : (u_ws RX5 TX5 15).all goodWord = true := by decide +kernel
theorem lay_in {ws : List Jvm.Cond} {ps : List Nat} (h : ws = ps.filterMap (fun i => lw_tbl[i]?)) (hg : ws.all goodWord = true) : ∀ w ∈ ws, w ∈ gt := by
  intro w hw
  have h1 := List.all_eq_true.mp hg w hw
  rw [h] at hw
  obtain ⟨i, -, hi⟩ := List.mem_filterMap.mp hw
  exact gt_of hi h1
theorem lay_all : ∀ ci, ci < 6 → ∀ w ∈ u_ws (clN ci) (clT ci) (clS ci), w ∈ gt := by
  intro ci h
  match ci, h with
  | 0, _ => exact lay_in lay0 layg0
  | 1, _ => exact lay_in lay1 layg1
  | 2, _ => exact lay_in lay2 layg2
  | 3, _ => exact lay_in lay3 layg3
  | 4, _ => exact lay_in lay4 layg4
  | 5, _ => exact lay_in lay5 layg5
  | c + 6, h => exact absurd h (by omega)
theorem ty_all : ∀ ci, ci < 6 → ∀ k, k < clS ci → parseFieldDescriptor ((clT ci) k).2.2.1 = some (tyO ci k) := by
  intro ci h
  match ci, h with
  | 0, _ => exact tyX0_ok
  | 1, _ => exact tyX1_ok
  | 2, _ => exact tyX2_ok
  | 3, _ => exact tyX3_ok
  | 4, _ => exact tyX4_ok
  | 5, _ => exact tyX5_ok
  | c + 6, h => exact absurd h (by omega)
theorem nm_all : ∀ ci, ci < 6 → ∀ a, a < clS ci → ∀ b, b < clS ci → a ≠ b → ((clT ci) a).2.1 ≠ ((clT ci) b).2.1 := by
  intro ci h
  match ci, h with
  | 0, _ => exact nmX0
  | 1, _ => exact nmX1
  | 2, _ => exact nmX2
  | 3, _ => exact nmX3
  | 4, _ => exact nmX4
  | 5, _ => exact nmX5
  | c + 6, h => exact absurd h (by omega)
