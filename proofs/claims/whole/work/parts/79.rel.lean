/-! class and reference side by side (written by wip/whole/gen79.py) -/
def LK (M : Mm) (h : Nat) : Prop := (M (h + 7) 0 = 4 ∧ M (h + 7) 1 = 5) ∧ (M (h + 9) 0 = 3 ∧ M (h + 9) 1 = 6) ∧ (M (h + 11) 0 = 5 ∧ M (h + 11) 1 = 6)
def Sta (M : Mm) (n : Nat) : Prop := (M 0 14 = M 68 0 ∧ 0 ≤ M 0 14 ∧ M 0 14 ≤ n) ∧ (M 0 15 = M 68 1 ∧ 0 ≤ M 0 15 ∧ M 0 15 ≤ n) ∧ (M 0 16 = M 68 2 ∧ 0 ≤ M 0 16 ∧ M 0 16 ≤ n)
def Fra (M : Mm) : Prop := M 0 12 = M 64 4 ∧ M 0 13 = M 64 5
def Img (M : Mm) (n : Nat) : Prop := (M 0 3 = M 66 0 ∧ (M 0 3 = 0 ∨ M 0 3 = 1)) ∧ (M 0 4 = M 66 1 ∧ (M 0 4 = 0 ∨ M 0 4 = 1)) ∧ (M 0 3 = 1 → HS M 14 (M 65) 248 (200 + n)) ∧ (M 0 4 = 1 → HS M 27 (M 65) 496 (200 + n))
def Txt (M : Mm) : Prop := (0 ≤ M 59 1 ∧ M 59 1 ≤ 150) ∧ M 59 1 = M 64 3 ∧ ∀ j, 0 ≤ j → j < M 59 1 → M 60 j = M 67 j ∧ 0 ≤ M 60 j ∧ M 60 j ≤ 127
/-- what holds between two calls, n of them done -/
def Rl (M : Mm) (n : Nat) : Prop := Sta M n ∧ Fra M ∧ Img M n ∧ Txt M ∧ (LK M 14 ∧ LK M 27 ∧ LK M 40) ∧ HS M 1 (M 65) 0 (200 + n)
/-- the class answers, then the reference: alike, and all holds again -/
def Same (yc yr : Nat) (as : List PV) (M : Mm) (n : Nat) : Prop := Ct yc (vr 0 :: as) M (fun r1 M1 => Ct yr (vr 64 :: as) M1 (fun r2 M2 => r1 = r2 ∧ Rl M2 (n + 1)))
theorem Rl_HI {M : Mm} {n : Nat} (h : Rl M n) (hn : n < 600) : HI M 1 := HS_HI (by omega) h.2.2.2.2.2
theorem Rl_RI {M : Mm} {n : Nat} (h : Rl M n) (hn : n < 600) : RI M 0 := HS_RI (by omega) h.2.2.2.2.2
theorem Rl_st {M : Mm} {n : Nat} (h : Rl M n) (hn : n < 600) : (0 ≤ M 0 14 ∧ M 0 14 ≤ 600) ∧ (0 ≤ M 0 15 ∧ M 0 15 ≤ 600) ∧ (0 ≤ M 0 16 ∧ M 0 16 ≤ 600) := by
  obtain ⟨⟨a, b, c⟩, -⟩ := h
  omega
theorem Rl_sr {M : Mm} {n : Nat} (h : Rl M n) (hn : n < 600) : (0 ≤ M 68 0 ∧ M 68 0 ≤ 600) ∧ (0 ≤ M 68 1 ∧ M 68 1 ≤ 600) ∧ (0 ≤ M 68 2 ∧ M 68 2 ≤ 600) := by
  obtain ⟨⟨a, b, c⟩, -⟩ := h
  omega
theorem RI_eq {M M1 : Mm} (e : M1 65 = M 65) (h : RI M 0) : RI M1 0 := by
  unfold RI at h ⊢
  rw [e]; exact h
/-- all but the house, the row 0 and the counts of refusals is as it was -/
theorem Rl_mk {M M2 : Mm} {n : Nat} (h : Rl M n) (c0 : ∀ j, j = 3 ∨ j = 4 ∨ j = 12 ∨ j = 13 → M2 0 j = M 0 j) (st : Sta M2 (n + 1)) (c14 : ∀ r, 14 ≤ r → r ≤ 39 → M2 r = M r) (lk : LK M2 40) (c59 : M2 59 1 = M 59 1) (c60 : M2 60 = M 60) (r64 : ∀ j, j = 3 ∨ j = 4 ∨ j = 5 → M2 64 j = M 64 j) (r65 : ∀ j, 248 ≤ j → j < 744 → M2 65 j = M 65 j) (r66 : M2 66 = M 66) (r67 : M2 67 = M 67) (hs : HS M2 1 (M2 65) 0 (200 + (n + 1 : Nat))) : Rl M2 (n + 1) := by
  obtain ⟨-, hF, hI, hT, hL, -⟩ := h
  refine ⟨st, ?_, ?_, ?_, ?_, hs⟩
  · unfold Fra
    rw [c0 12 (by omega), c0 13 (by omega), r64 4 (by omega), r64 5 (by omega)]
    exact hF
  · unfold Img
    rw [c0 3 (by omega), c0 4 (by omega), r66]
    refine ⟨hI.1, hI.2.1, fun z => ?_, fun z => ?_⟩
    · exact HS_eq (fun j hj => c14 _ (by omega) (by omega)) (fun j a1 a2 => r65 j (by omega) (by omega)) (by omega) (hI.2.2.1 z)
    · exact HS_eq (fun j hj => c14 _ (by omega) (by omega)) (fun j a1 a2 => r65 j (by omega) (by omega)) (by omega) (hI.2.2.2 z)
  · unfold Txt
    rw [c59, c60, r64 3 (by omega), r67]
    exact hT
  · refine ⟨?_, ?_, lk⟩
    · unfold LK
      rw [c14 _ (by omega) (by omega), c14 _ (by omega) (by omega), c14 _ (by omega) (by omega)]
      exact hL.1
    · unfold LK
      rw [c14 _ (by omega) (by omega), c14 _ (by omega) (by omega), c14 _ (by omega) (by omega)]
      exact hL.2.1
theorem LK_eq {M M2 : Mm} {h : Nat} (e7 : M2 (h + 7) = M (h + 7)) (e9 : M2 (h + 9) = M (h + 9)) (e11 : M2 (h + 11) = M (h + 11)) (q : LK M h) : LK M2 h := by
  unfold LK
  rw [e7, e9, e11]
  exact q
theorem Sta_keep {M M2 : Mm} {n : Nat} (h : Sta M n) (e : ∀ j, j = 14 ∨ j = 15 ∨ j = 16 → M2 0 j = M 0 j) (e2 : M2 68 = M 68) : Sta M2 (n + 1) := by
  unfold Sta at h ⊢
  rw [e 14 (by omega), e 15 (by omega), e 16 (by omega), e2]
  omega
/-- nothing that matters has changed -/
theorem Rl_same {M M2 : Mm} {n : Nat} (h : Rl M n) (c : ∀ r, r ≤ 39 → M2 r = M r) (lk : LK M2 40) (c59 : M2 59 1 = M 59 1) (c60 : M2 60 = M 60) (r64 : ∀ j, j = 3 ∨ j = 4 ∨ j = 5 → M2 64 j = M 64 j) (r65 : ∀ j, 0 ≤ j → j < 744 → M2 65 j = M 65 j) (r66 : M2 66 = M 66) (r67 : M2 67 = M 67) (r68 : M2 68 = M 68) : Rl M2 (n + 1) :=
  Rl_mk h (fun j _ => by rw [c 0 (by omega)]) (Sta_keep h.1 (fun j _ => by rw [c 0 (by omega)]) r68) (fun r _ h2 => c r h2) lk c59 c60 r64 (fun j h1 h2 => r65 j (by omega) h2) r66 r67 (HS_eq (fun j hj => c _ (by omega)) (fun j h1 h2 => r65 j h1 (by omega)) (by omega) h.2.2.2.2.2)
/-- a refusal: bad, no, full -/
theorem Rl_ref {M M2 : Mm} {n : Nat} (h : Rl M n) (k : Int) (hk : k = 0 ∨ k = 1 ∨ k = 2) (e : M2 = up (up M 0 (14 + k) (M 0 (14 + k) + 1)) 68 k (M 68 k + 1)) : Rl M2 (n + 1) := by
  obtain ⟨⟨a, b, c⟩, -⟩ := id h
  refine Rl_mk h (fun j hj => ?_) ?_ (fun r h1 h2 => ?_) ?_ ?_ ?_ (fun j hj => ?_) (fun j h1 h2 => ?_) ?_ ?_ ?_
  · rw [e, up_ne (by decide), up_off (by omega)]
  · have e14 : ∀ j, M2 0 j = if j = 14 + k then M 0 (14 + k) + 1 else M 0 j := fun j => by
      rw [e, up_ne (by decide)]
      by_cases z : j = 14 + k
      · rw [if_pos z, z, up_at]
      · rw [if_neg z, up_off z]
    have e68 : ∀ j, M2 68 j = if j = k then M 68 k + 1 else M 68 j := fun j => by
      rw [e]
      by_cases z : j = k
      · rw [if_pos z, z, up_at]
      · rw [if_neg z, up_off z, up_ne (by decide)]
    rcases hk with rfl | rfl | rfl
    · have a14 : M2 0 14 = M 0 14 + 1 := (e14 14).trans (if_pos (by decide))
      have a15 : M2 0 15 = M 0 15 := (e14 15).trans (if_neg (by decide))
      have a16 : M2 0 16 = M 0 16 := (e14 16).trans (if_neg (by decide))
      have b0 : M2 68 0 = M 68 0 + 1 := (e68 0).trans (if_pos (by decide))
      have b1 : M2 68 1 = M 68 1 := (e68 1).trans (if_neg (by decide))
      have b2 : M2 68 2 = M 68 2 := (e68 2).trans (if_neg (by decide))
      unfold Sta
      omega
    · have a14 : M2 0 14 = M 0 14 := (e14 14).trans (if_neg (by decide))
      have a15 : M2 0 15 = M 0 15 + 1 := (e14 15).trans (if_pos (by decide))
      have a16 : M2 0 16 = M 0 16 := (e14 16).trans (if_neg (by decide))
      have b0 : M2 68 0 = M 68 0 := (e68 0).trans (if_neg (by decide))
      have b1 : M2 68 1 = M 68 1 + 1 := (e68 1).trans (if_pos (by decide))
      have b2 : M2 68 2 = M 68 2 := (e68 2).trans (if_neg (by decide))
      unfold Sta
      omega
    · have a14 : M2 0 14 = M 0 14 := (e14 14).trans (if_neg (by decide))
      have a15 : M2 0 15 = M 0 15 := (e14 15).trans (if_neg (by decide))
      have a16 : M2 0 16 = M 0 16 + 1 := (e14 16).trans (if_pos (by decide))
      have b0 : M2 68 0 = M 68 0 := (e68 0).trans (if_neg (by decide))
      have b1 : M2 68 1 = M 68 1 := (e68 1).trans (if_neg (by decide))
      have b2 : M2 68 2 = M 68 2 + 1 := (e68 2).trans (if_pos (by decide))
      unfold Sta
      omega
  · rw [e, up_ne (by omega), up_ne (by omega)]
  · rw [e]; exact LK_eq (by rw [up_ne (by decide), up_ne (by decide)]) (by rw [up_ne (by decide), up_ne (by decide)]) (by rw [up_ne (by decide), up_ne (by decide)]) h.2.2.2.2.1.2.2
  · rw [e, up_ne (by decide), up_ne (by decide)]
  · rw [e, up_ne (by decide), up_ne (by decide)]
  · rw [e, up_ne (by decide), up_ne (by decide)]
  · rw [e, up_ne (by decide), up_ne (by decide)]
  · rw [e, up_ne (by decide), up_ne (by decide)]
  · rw [e, up_ne (by decide), up_ne (by decide)]
  · rw [e]
    exact HS_eq (fun j hj => by rw [up_ne (by omega), up_ne (by omega)]) (fun j a1 a2 => by rw [up_ne (by decide), up_ne (by decide)]) (by omega) h.2.2.2.2.2
/-- the house has changed, and row 0; the rest has not -/
theorem Rl_house {M M2 : Mm} {n : Nat} (h : Rl M n) (c0 : M2 0 = M 0) (c14 : ∀ r, 14 ≤ r → r ≤ 39 → M2 r = M r) (lk : LK M2 40) (c59 : M2 59 1 = M 59 1) (c60 : M2 60 = M 60) (r64 : ∀ j, j = 3 ∨ j = 4 ∨ j = 5 → M2 64 j = M 64 j) (r65 : ∀ j, 248 ≤ j → j < 744 → M2 65 j = M 65 j) (r66 : M2 66 = M 66) (r67 : M2 67 = M 67) (r68 : M2 68 = M 68) (hs : HS M2 1 (M2 65) 0 (200 + (n + 1 : Nat))) : Rl M2 (n + 1) :=
  Rl_mk h (fun j _ => by rw [c0]) (Sta_keep h.1 (fun j _ => by rw [c0]) r68) c14 lk c59 c60 r64 r65 r66 r67 hs

