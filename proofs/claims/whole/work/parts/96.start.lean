/-! THE START: what the Statement gives, the first world (written by wip/whole/gen96.py) -/
theorem inst_in : ∀ ci, ci < 6 → Jvm.Cond.instantiable (clN ci) (clS ci) ∈ gt := by
  intro ci h
  match ci, h with
  | 0, _ => exact gt_of (i := 175) (by decide +kernel) rfl
  | 1, _ => exact gt_of (i := 103) (by decide +kernel) rfl
  | 2, _ => exact gt_of (i := 109) (by decide +kernel) rfl
  | 3, _ => exact gt_of (i := 192) (by decide +kernel) rfl
  | 4, _ => exact gt_of (i := 95) (by decide +kernel) rfl
  | 5, _ => exact gt_of (i := 903) (by decide +kernel) rfl
  | c + 6, h => exact absurd h (by omega)
theorem K_start {args : Array Value} {s : State} (hts : ∀ w ∈ gt, w.before args s = true) : ∃ (D : va_G) (cI cZ : ClassId), va_K D cls (tyw cI cZ) s := by
  have h0 : ∀ ci : Nat, ∃ q : ClassId × (Nat → Nat), ci < 6 → u_Kn s (clN ci) (clT ci) (clS ci) q.1 q.2 := by
    intro ci
    by_cases h : ci < 6
    · obtain ⟨cC, iS, hk⟩ := u_known (C := clN ci) (T := clT ci) (N := clS ci) (n := clS ci) hts (lay_all ci h) (hts _ (inst_in ci h))
      exact ⟨(cC, iS), fun _ => hk⟩
    · exact ⟨(0, fun _ => 0), fun q => absurd q h⟩
  obtain ⟨f, hf⟩ := Classical.axiomOfChoice h0
  obtain ⟨cI, kI, compI, a1, a2, a3⟩ := Cond.arrayClass_spec (hts _ k_nI)
  obtain ⟨cZ, kZ, compZ, b1, b2, b3⟩ := Cond.arrayClass_spec (hts _ k_nZ)
  refine ⟨(fun c => (f c).1, fun c => (f c).2), cI, cZ, fun c q hq => ?_, fun k q hk => ?_⟩
  · have hc : c < 6 := (List.getElem?_eq_some_iff.mp hq).1
    rw [cls_get hc] at hq
    cases hq
    exact hf c hc
  · match k, hk with
    | 0, hk =>
      cases hk
      exact ⟨fun n z => ⟨fun k h => (by cases h), kI, a2, compI, a3⟩, a1⟩
    | 1, hk =>
      cases hk
      exact ⟨fun n z => ⟨fun k h => (by cases h), kZ, b2, compZ, b3⟩, b1⟩
    | k + 2, hk => simp [tyw] at hk
def tmR (i : Nat) : Term := .string "StairSteps$Reader" (strP.getD i 0)
abbrev nrF : List Jvm.Cond := flatC (Jvm.Cond.and given_1 narrow_1)
theorem nr_ex : ∀ i, i < 6 → Jvm.Cond.exactly (tmR i) "java/lang/String" ∈ nrF := by decide +kernel
theorem nr_co : ∀ i, i < 6 → Jvm.Cond.eq (.field (tmR i) "java/lang/String" "coder" "B") (.int 0) ∈ nrF := by decide +kernel
theorem nr_ar : ∀ i, i < 6 → Jvm.Cond.arrayOf (.field (tmR i) "java/lang/String" "value" "[B") .byte ∈ nrF := by decide +kernel
theorem nr_le : ∀ i, i < 6 → Jvm.Cond.eq (.length (.field (tmR i) "java/lang/String" "value" "[B")) (.int (Int32.ofNat (strL.getD i 0))) ∈ nrF := by decide +kernel
theorem nr_el : ∀ i, i < 6 → ∀ j, j < strL.getD i 0 → Jvm.Cond.eq (.elem (.field (tmR i) "java/lang/String" "value" "[B") (.int (Int32.ofNat j))) (.int ((strY.getD i []).getD j 0)) ∈ nrF := by decide +kernel
theorem nr_ne : ∀ i, i < 6 → ∀ j, j < 6 → i ≠ j → Jvm.Cond.not (Jvm.Cond.eq (tmR i) (tmR j)) ∈ nrF ∨ Jvm.Cond.not (Jvm.Cond.eq (tmR j) (tmR i)) ∈ nrF := by decide +kernel
theorem nr_ln : ∀ i, i < 6 → strL.getD i 0 < 2 ^ 31 := by decide +kernel
theorem nr_cs : Jvm.Cond.eq (.static "java/lang/String" "COMPACT_STRINGS" "Z") (.int 1) ∈ nrF := by decide +kernel
theorem nr_fo : Jvm.Cond.isRef (.static "jdk/internal/util/Preconditions" "SIOOBE_FORMATTER" "Ljava/util/function/BiFunction;") ∈ nrF := by decide +kernel
theorem sr_in : ∀ i, i < 6 → lw_tbl[((nth strT 3 []).map (fun q => q.2.2)).getD i 0]? = some (Jvm.Cond.stringRef "StairSteps$Reader" (strP.getD i 0) (strX.getD i "")) := by decide +kernel
theorem sl_cs : lw_tbl[392]? = some (Jvm.Cond.laysStatic "java/lang/String" "COMPACT_STRINGS" "Z") := by decide +kernel
theorem sl_fo : lw_tbl[408]? = some (Jvm.Cond.laysStatic "jdk/internal/util/Preconditions" "SIOOBE_FORMATTER" "Ljava/util/function/BiFunction;") := by decide +kernel
theorem in_cs : lw_tbl[87]? = some (Jvm.Cond.initialized "java/lang/String") := by decide +kernel
theorem in_fo : lw_tbl[89]? = some (Jvm.Cond.initialized "jdk/internal/util/Preconditions") := by decide +kernel
def nestI : List Nat := [307, 342, 359, 478, 491, 517, 520, 526, 550, 560, 660, 665, 666, 720, 733]
theorem nest_in : ∀ k, k < 15 → ∀ q, nestL[k]? = some q → lw_tbl[nestI.getD k 0]? = some (Jvm.Cond.methodLinkNest (nth ownN q.1 "") q.2.1 (mN q.2.2) "StairSteps") := by
  intro k hk q hq
  match k, hk, hq with
  | 0, _, hq => cases hq; decide +kernel
  | 1, _, hq => cases hq; decide +kernel
  | 2, _, hq => cases hq; decide +kernel
  | 3, _, hq => cases hq; decide +kernel
  | 4, _, hq => cases hq; decide +kernel
  | 5, _, hq => cases hq; decide +kernel
  | 6, _, hq => cases hq; decide +kernel
  | 7, _, hq => cases hq; decide +kernel
  | 8, _, hq => cases hq; decide +kernel
  | 9, _, hq => cases hq; decide +kernel
  | 10, _, hq => cases hq; decide +kernel
  | 11, _, hq => cases hq; decide +kernel
  | 12, _, hq => cases hq; decide +kernel
  | 13, _, hq => cases hq; decide +kernel
  | 14, _, hq => cases hq; decide +kernel
  | k + 15, h, _ => exact absurd h (by omega)
theorem N_start {args : Array Value} {s : State} (hts : ∀ w ∈ lw_tbl, w.before args s = true) : Nok s := by
  intro q hq
  obtain ⟨k, hk⟩ := List.getElem?_of_mem hq
  exact va_tabs rfl rfl (hts _ (List.mem_of_getElem? (nest_in k (List.getElem?_eq_some_iff.mp hk).1 q hk)))
theorem nk_1 : lw_tbl[104]? = some (Jvm.Cond.methodLinkNest "StairSteps" 9 yX1_init "StairSteps") := by decide +kernel
theorem nk_2 : lw_tbl[176]? = some (Jvm.Cond.methodLinkNest "StairSteps" 27 yX0_init "StairSteps") := by decide +kernel
theorem nk_3 : lw_tbl[193]? = some (Jvm.Cond.methodLinkNest "StairSteps" 37 yX3_init "StairSteps") := by decide +kernel
theorem Nk_start {args : Array Value} {s : State} (hts : ∀ w ∈ lw_tbl, w.before args s = true) : Nk s :=
  ⟨va_tabs rfl rfl (hts _ (List.mem_of_getElem? nk_1)), va_tabs rfl rfl (hts _ (List.mem_of_getElem? nk_2)), va_tabs rfl rfl (hts _ (List.mem_of_getElem? nk_3))⟩
theorem S_start {args : Array Value} {s : State} (hts : ∀ w ∈ lw_tbl, w.before args s = true) (hgv : (Jvm.Cond.and given_1 narrow_1).before args s = true) : ∃ adK adV : Nat → Nat, ∀ ad : Nat → Nat, (∀ i, ad (500 + i) = adK i) → SokA (A0 s) ad adV s s.heap := by
  have hs := flat_of_before _ hgv
  have hA : ∀ a : Nat, a < s.heap.size → ¬ A0 s a := fun a h => Nat.not_le.mpr h
  obtain ⟨adK, adV, h1, h2⟩ := vk_Sof (N := 6) (tm := tmR) (len := strL) (byt := strY) (A := A0 s) nr_ln (fun i hi => hs _ (nr_ex i hi)) (fun i hi => hs _ (nr_co i hi)) (fun i hi => hs _ (nr_ar i hi)) (fun i hi => hs _ (nr_le i hi)) (fun i hi j hj => hs _ (nr_el i hi j hj)) (fun i j hi hj hij => (nr_ne i hi j hj hij).elim (fun h => Or.inl (hs _ h)) (fun h => Or.inr (hs _ h))) hA
  refine ⟨adK, adV, fun ad had => ⟨?_, fun i hi => ?_, ?_, ?_⟩⟩
  · rw [show (fun i => ad (500 + i)) = adK from funext had]
    exact h1
  · rw [had i]
    exact vk_R.of (hts _ (List.mem_of_getElem? (sr_in i hi))) (h2 i hi)
  · exact va_Zof (hts _ (List.mem_of_getElem? sl_cs)) (hts _ (List.mem_of_getElem? in_cs)) (va_eqi (hs _ nr_cs)) hA
  · exact va_Zqof (hts _ (List.mem_of_getElem? sl_fo)) (hts _ (List.mem_of_getElem? in_fo)) (hs _ nr_fo) hA
/-- the cells' addresses -/
def adrF (q0 : Nat) (g : Nat → Nat) (q1 : Nat) (g1 adK : Nat → Nat) (r : Nat) : Nat := if r = 0 then q0 else if r < 64 then g r else if r = 64 then q1 else if r < 73 then g1 (r - 64) else adK (r - 500)
theorem adrF_str (q0 : Nat) (g : Nat → Nat) (q1 : Nat) (g1 adK : Nat → Nat) (i : Nat) : adrF q0 g q1 g1 adK (500 + i) = adK i := by
  unfold adrF
  rw [if_neg (by omega), if_neg (by omega), if_neg (by omega), if_neg (by omega), Nat.add_sub_cancel_left]
theorem wd_arr {cI cZ : ClassId} {ad : Nat → Nat} {r n : Nat} {b : Bool} (hr : r < 73) (hs : shp r = .inl (n, b)) (h : ∀ j : Int, M0 r j = 0) : (wd cI cZ ad M0)[r]? = some (ad r, .inl (if b then cZ else cI, n, .inl (fun _ => 0))) := by
  rw [wd_get hr, hs]
  have e : (fun j : Nat => Int32.ofInt (M0 r j)) = fun _ => 0 := funext fun j => by rw [h]; rfl
  simp only [cellE]
  rw [e]
theorem wd_obj {cI cZ : ClassId} {ad : Nat → Nat} {r ci : Nat} {ks : List Nat} (hr : r < 73) (hs : shp r = .inr (ci, ks)) : (wd cI cZ ad M0)[r]? = some (ad r, .inr (ci, ks.mapIdx (fun f k => toV ad (gf M0 r f k)))) := by
  rw [wd_get hr, hs]
  rfl
set_option maxRecDepth 100000 in
theorem wd_M0 (cI cZ : ClassId) (q0 : Nat) (g : Nat → Nat) (q1 : Nat) (g1 adK : Nat → Nat) : ∀ k, k < 73 → (wd cI cZ (adrF q0 g q1 g1 adK) M0)[k]? = (([] ++ wSta cI q0 g) ++ wMod cI cZ q1 g1)[k]? := by
  intro k hk
  match k, hk with
  | 0, _ => exact (wd_obj (by decide) rfl).trans rfl
  | 1, _ => exact (wd_obj (by decide) rfl).trans rfl
  | 2, _ => exact (wd_arr (by decide) rfl (fun _ => rfl)).trans rfl
  | 3, _ => exact (wd_arr (by decide) rfl (fun _ => rfl)).trans rfl
  | 4, _ => exact (wd_arr (by decide) rfl (fun _ => rfl)).trans rfl
  | 5, _ => exact (wd_arr (by decide) rfl (fun _ => rfl)).trans rfl
  | 6, _ => exact (wd_arr (by decide) rfl (fun _ => rfl)).trans rfl
  | 7, _ => exact (wd_arr (by decide) rfl (fun _ => rfl)).trans rfl
  | 8, _ => exact (wd_obj (by decide) rfl).trans rfl
  | 9, _ => exact (wd_arr (by decide) rfl (fun _ => rfl)).trans rfl
  | 10, _ => exact (wd_obj (by decide) rfl).trans rfl
  | 11, _ => exact (wd_arr (by decide) rfl (fun _ => rfl)).trans rfl
  | 12, _ => exact (wd_obj (by decide) rfl).trans rfl
  | 13, _ => exact (wd_arr (by decide) rfl (fun _ => rfl)).trans rfl
  | 14, _ => exact (wd_obj (by decide) rfl).trans rfl
  | 15, _ => exact (wd_arr (by decide) rfl (fun _ => rfl)).trans rfl
  | 16, _ => exact (wd_arr (by decide) rfl (fun _ => rfl)).trans rfl
  | 17, _ => exact (wd_arr (by decide) rfl (fun _ => rfl)).trans rfl
  | 18, _ => exact (wd_arr (by decide) rfl (fun _ => rfl)).trans rfl
  | 19, _ => exact (wd_arr (by decide) rfl (fun _ => rfl)).trans rfl
  | 20, _ => exact (wd_arr (by decide) rfl (fun _ => rfl)).trans rfl
  | 21, _ => exact (wd_obj (by decide) rfl).trans rfl
  | 22, _ => exact (wd_arr (by decide) rfl (fun _ => rfl)).trans rfl
  | 23, _ => exact (wd_obj (by decide) rfl).trans rfl
  | 24, _ => exact (wd_arr (by decide) rfl (fun _ => rfl)).trans rfl
  | 25, _ => exact (wd_obj (by decide) rfl).trans rfl
  | 26, _ => exact (wd_arr (by decide) rfl (fun _ => rfl)).trans rfl
  | 27, _ => exact (wd_obj (by decide) rfl).trans rfl
  | 28, _ => exact (wd_arr (by decide) rfl (fun _ => rfl)).trans rfl
  | 29, _ => exact (wd_arr (by decide) rfl (fun _ => rfl)).trans rfl
  | 30, _ => exact (wd_arr (by decide) rfl (fun _ => rfl)).trans rfl
  | 31, _ => exact (wd_arr (by decide) rfl (fun _ => rfl)).trans rfl
  | 32, _ => exact (wd_arr (by decide) rfl (fun _ => rfl)).trans rfl
  | 33, _ => exact (wd_arr (by decide) rfl (fun _ => rfl)).trans rfl
  | 34, _ => exact (wd_obj (by decide) rfl).trans rfl
  | 35, _ => exact (wd_arr (by decide) rfl (fun _ => rfl)).trans rfl
  | 36, _ => exact (wd_obj (by decide) rfl).trans rfl
  | 37, _ => exact (wd_arr (by decide) rfl (fun _ => rfl)).trans rfl
  | 38, _ => exact (wd_obj (by decide) rfl).trans rfl
  | 39, _ => exact (wd_arr (by decide) rfl (fun _ => rfl)).trans rfl
  | 40, _ => exact (wd_obj (by decide) rfl).trans rfl
  | 41, _ => exact (wd_arr (by decide) rfl (fun _ => rfl)).trans rfl
  | 42, _ => exact (wd_arr (by decide) rfl (fun _ => rfl)).trans rfl
  | 43, _ => exact (wd_arr (by decide) rfl (fun _ => rfl)).trans rfl
  | 44, _ => exact (wd_arr (by decide) rfl (fun _ => rfl)).trans rfl
  | 45, _ => exact (wd_arr (by decide) rfl (fun _ => rfl)).trans rfl
  | 46, _ => exact (wd_arr (by decide) rfl (fun _ => rfl)).trans rfl
  | 47, _ => exact (wd_obj (by decide) rfl).trans rfl
  | 48, _ => exact (wd_arr (by decide) rfl (fun _ => rfl)).trans rfl
  | 49, _ => exact (wd_obj (by decide) rfl).trans rfl
  | 50, _ => exact (wd_arr (by decide) rfl (fun _ => rfl)).trans rfl
  | 51, _ => exact (wd_obj (by decide) rfl).trans rfl
  | 52, _ => exact (wd_arr (by decide) rfl (fun _ => rfl)).trans rfl
  | 53, _ => exact (wd_obj (by decide) rfl).trans rfl
  | 54, _ => exact (wd_arr (by decide) rfl (fun _ => rfl)).trans rfl
  | 55, _ => exact (wd_arr (by decide) rfl (fun _ => rfl)).trans rfl
  | 56, _ => exact (wd_obj (by decide) rfl).trans rfl
  | 57, _ => exact (wd_arr (by decide) rfl (fun _ => rfl)).trans rfl
  | 58, _ => exact (wd_arr (by decide) rfl (fun _ => rfl)).trans rfl
  | 59, _ => exact (wd_obj (by decide) rfl).trans rfl
  | 60, _ => exact (wd_arr (by decide) rfl (fun _ => rfl)).trans rfl
  | 61, _ => exact (wd_arr (by decide) rfl (fun _ => rfl)).trans rfl
  | 62, _ => exact (wd_arr (by decide) rfl (fun _ => rfl)).trans rfl
  | 63, _ => exact (wd_arr (by decide) rfl (fun _ => rfl)).trans rfl
  | 64, _ => exact (wd_obj (by decide) rfl).trans rfl
  | 65, _ => exact (wd_arr (by decide) rfl (fun _ => rfl)).trans rfl
  | 66, _ => exact (wd_arr (by decide) rfl (fun _ => rfl)).trans rfl
  | 67, _ => exact (wd_arr (by decide) rfl (fun _ => rfl)).trans rfl
  | 68, _ => exact (wd_arr (by decide) rfl (fun _ => rfl)).trans rfl
  | 69, _ => exact (wd_arr (by decide) rfl (fun _ => rfl)).trans rfl
  | 70, _ => exact (wd_arr (by decide) rfl (fun _ => rfl)).trans rfl
  | 71, _ => exact (wd_arr (by decide) rfl (fun _ => rfl)).trans rfl
  | 72, _ => exact (wd_arr (by decide) rfl (fun _ => rfl)).trans rfl
  | k + 73, h => exact absurd h (by omega)
