/-! a house and a row stay the same: flights, goers, moments (written by wip/whole/gen70.py) -/
theorem HS_flight {M M' : Mm} {h : Nat} {W W' : Int → Int} {o b : Int} (q : HS M h W o b) {k s : Int} (hF : M h 0 < 3) (hk : 0 ≤ k ∧ k ≤ 5) (hs : 1 ≤ s ∧ s ≤ 10) (e0 : M' h 0 = M h 0 + 1) (e1 : M' h 1 = M h 1) (e2 : M' h 2 = 0) (eK : ∀ j, j ≠ M h 0 → M' (h + 1) j = M (h + 1) j) (eK0 : M' (h + 1) (M h 0) = k) (eN : ∀ j, j ≠ 12 + M h 0 → M' (h + 5) j = M (h + 5) j) (eN0 : M' (h + 5) (12 + M h 0) = s) (er : ∀ j, (2 ≤ j ∧ j ≤ 4) ∨ (7 ≤ j ∧ j ≤ 12) → M' (h + j) = M (h + j)) (w0 : W' o = M h 0 + 1) (w4 : W' (o + 4 + M h 0) = k) (w7 : W' (o + 7 + M h 0) = s) (wk : W' (o + 111) = 0) (wr : ∀ x, o < x → x < o + 111 → (x ≠ o + 4 + M h 0 ∧ x ≠ o + 7 + M h 0) → W' x = W x) : HS M' h W' o b := by
  obtain ⟨⟨c0, c1, c2, c3, c4, f0, f1, f2, f3, f4⟩, qf, qg, qs, qn, qm, qk⟩ := q
  unfold HS
  rw [er 2 (by omega), er 3 (by omega), er 4 (by omega), er 7 (by omega), er 8 (by omega), er 9 (by omega), er 10 (by omega), er 11 (by omega), er 12 (by omega), e0, e1, e2]
  have n16 := eN 16 (by omega)
  have n15 := eN 15 (by omega)
  refine ⟨⟨by omega, by omega, by omega, by omega, by omega, by omega, by rw [wr _ (by omega) (by omega) (by omega)]; omega, by omega, by rw [wr _ (by omega) (by omega) (by omega)]; omega, by rw [wr _ (by omega) (by omega) (by omega)]; omega⟩, fun f h1 h2 => ?_, fun i h1 h2 => ?_, ⟨qs.1, by rw [wr _ (by omega) (by omega) (by omega)]; exact qs.2.1, qs.2.2.1, fun j a1 a2 => by have := qs.1; rw [wr _ (by omega) (by omega) (by omega)]; exact qs.2.2.2 j a1 a2⟩, ⟨qn.1, by rw [wr _ (by omega) (by omega) (by omega)]; exact qn.2.1, qn.2.2.1, fun j a1 a2 => by have := qn.1; rw [wr _ (by omega) (by omega) (by omega)]; exact qn.2.2.2 j a1 a2⟩, ⟨qm.1, by rw [wr _ (by omega) (by omega) (by omega)]; exact qm.2.1, qm.2.2.1, fun j a1 a2 => by have := qm.1; rw [wr _ (by omega) (by omega) (by omega)]; exact qm.2.2.2 j a1 a2⟩, fun k h1 h2 => absurd h2 (by omega)⟩
  · by_cases z : f = M h 0
    · subst z
      rw [eK0, eN0, w4, w7]
      exact ⟨hk, hs, rfl, rfl⟩
    · rw [eK f z, eN (12 + f) (by omega), wr _ (by omega) (by omega) (by omega), wr _ (by omega) (by omega) (by omega)]
      exact qf f h1 (by omega)
  · rw [eN i (by omega), eN (6 + i) (by omega), wr _ (by omega) (by omega) (by omega), wr _ (by omega) (by omega) (by omega), wr _ (by omega) (by omega) (by omega), wr _ (by omega) (by omega) (by omega), wr _ (by omega) (by omega) (by omega)]
    have z := qg i h1 h2
    refine ⟨⟨z.1.1, z.1.2.1, ⟨z.1.2.2.1.1, by omega⟩, z.1.2.2.2.1, z.1.2.2.2.2⟩, z.2⟩
theorem HS_goer {M M' : Mm} {h : Nat} {W W' : Int → Int} {o b : Int} (q : HS M h W o b) {k l f : Int} (hG : M h 1 < 6) (hk : 0 ≤ k ∧ k ≤ 5) (hl : 1 ≤ l ∧ l ≤ 4) (hf : 0 ≤ f ∧ f < M h 0) (e0 : M' h 0 = M h 0) (e1 : M' h 1 = M h 1 + 1) (e2 : M' h 2 = 0) (eG : ∀ j, j ≠ M h 1 → M' (h + 2) j = M (h + 2) j) (eG0 : M' (h + 2) (M h 1) = k) (eL : ∀ j, j ≠ M h 1 → M' (h + 3) j = M (h + 3) j) (eL0 : M' (h + 3) (M h 1) = l) (eF : ∀ j, j ≠ M h 1 → M' (h + 4) j = M (h + 4) j) (eF0 : M' (h + 4) (M h 1) = f) (eN : ∀ j, j ≠ M h 1 → j ≠ 6 + M h 1 → M' (h + 5) j = M (h + 5) j) (eN0 : M' (h + 5) (M h 1) = 0) (eN6 : M' (h + 5) (6 + M h 1) = 0) (er : ∀ j, j = 1 ∨ (7 ≤ j ∧ j ≤ 12) → M' (h + j) = M (h + j)) (w1 : W' (o + 1) = M h 1 + 1) (w10 : W' (o + 10 + M h 1) = k) (w16 : W' (o + 16 + M h 1) = l) (w22 : W' (o + 22 + M h 1) = f) (w28 : W' (o + 28 + M h 1) = 0) (w34 : W' (o + 34 + M h 1) = 0) (wk : W' (o + 111) = 0) (wr : ∀ x, o ≤ x → x < o + 111 → (x ≠ o + 1 ∧ x ≠ o + 10 + M h 1 ∧ x ≠ o + 16 + M h 1 ∧ x ≠ o + 22 + M h 1 ∧ x ≠ o + 28 + M h 1 ∧ x ≠ o + 34 + M h 1) → W' x = W x) : HS M' h W' o b := by
  obtain ⟨⟨c0, c1, c2, c3, c4, f0, f1, f2, f3, f4⟩, qf, qg, qs, qn, qm, qk⟩ := q
  unfold HS
  rw [er 1 (by omega), er 7 (by omega), er 8 (by omega), er 9 (by omega), er 10 (by omega), er 11 (by omega), er 12 (by omega), e0, e1, e2]
  have n16 := eN 16 (by omega) (by omega)
  have n15 := eN 15 (by omega) (by omega)
  refine ⟨⟨by omega, by omega, by omega, by omega, by omega, by rw [wr _ (by omega) (by omega) (by omega)]; omega, by omega, by omega, by rw [wr _ (by omega) (by omega) (by omega)]; omega, by rw [wr _ (by omega) (by omega) (by omega)]; omega⟩, fun x h1 h2 => ?_, fun i h1 h2 => ?_, ⟨qs.1, by rw [wr _ (by omega) (by omega) (by omega)]; exact qs.2.1, qs.2.2.1, fun j a1 a2 => by have := qs.1; rw [wr _ (by omega) (by omega) (by omega)]; exact qs.2.2.2 j a1 a2⟩, ⟨qn.1, by rw [wr _ (by omega) (by omega) (by omega)]; exact qn.2.1, qn.2.2.1, fun j a1 a2 => by have := qn.1; rw [wr _ (by omega) (by omega) (by omega)]; exact qn.2.2.2 j a1 a2⟩, ⟨qm.1, by rw [wr _ (by omega) (by omega) (by omega)]; exact qm.2.1, qm.2.2.1, fun j a1 a2 => by have := qm.1; rw [wr _ (by omega) (by omega) (by omega)]; exact qm.2.2.2 j a1 a2⟩, fun k h1 h2 => absurd h2 (by omega)⟩
  · rw [eN (12 + x) (by omega) (by omega), wr _ (by omega) (by omega) (by omega), wr _ (by omega) (by omega) (by omega)]
    exact qf x h1 h2
  · by_cases z : i = M h 1
    · subst z
      rw [eG0, eL0, eF0, eN0, eN6, w10, w16, w22, w28, w34]
      exact ⟨⟨hk, hl, hf, by decide, by decide⟩, rfl, rfl, rfl, rfl, rfl⟩
    · rw [eG i z, eL i z, eF i z, eN i z (by omega), eN (6 + i) (by omega) (by omega), wr _ (by omega) (by omega) (by omega), wr _ (by omega) (by omega) (by omega), wr _ (by omega) (by omega) (by omega), wr _ (by omega) (by omega) (by omega), wr _ (by omega) (by omega) (by omega)]
      exact qg i h1 (by omega)
/-- only the moment now has changed -/
theorem HS_now {M M' : Mm} {h : Nat} {W W' : Int → Int} {o b : Int} (q : HS M h W o b) {b' : Int} (hb : b ≤ b') (e0 : M' h = M h) (er : ∀ j, 1 ≤ j ∧ j ≤ 12 ∧ j ≠ 5 → M' (h + j) = M (h + j)) (wr : ∀ x, o ≤ x → x < o + 248 → (x < o + 2 ∨ (o + 4 ≤ x ∧ x < o + 7) ∨ (o + 10 ≤ x ∧ x < o + 28) ∨ o + 40 ≤ x) → W' x = W x) (n16 : 0 ≤ M' (h + 5) 16 ∧ M' (h + 5) 16 ≤ 9999) (n15 : 0 ≤ M' (h + 5) 15 ∧ M' (h + 5) 15 ≤ b') (w2 : M' (h + 5) 16 = W' (o + 2)) (w3 : M' (h + 5) 15 = W' (o + 3)) (nf : ∀ f, 0 ≤ f → f < M h 0 → (1 ≤ M' (h + 5) (12 + f) ∧ M' (h + 5) (12 + f) ≤ 10) ∧ M' (h + 5) (12 + f) = W' (o + 7 + f)) (ng : ∀ i, 0 ≤ i → i < M h 1 → (0 ≤ M' (h + 5) i ∧ M' (h + 5) i ≤ 11) ∧ (0 ≤ M' (h + 5) (6 + i) ∧ M' (h + 5) (6 + i) ≤ 9) ∧ M' (h + 5) i = W' (o + 28 + i) ∧ M' (h + 5) (6 + i) = W' (o + 34 + i)) : HS M' h W' o b' := by
  obtain ⟨⟨c0, c1, c2, c3, c4, f0, f1, f2, f3, f4⟩, qf, qg, qs, qn, qm, qk⟩ := q
  unfold HS
  rw [e0, er 1 (by omega), er 2 (by omega), er 3 (by omega), er 4 (by omega), er 6 (by omega), er 7 (by omega), er 8 (by omega), er 9 (by omega), er 10 (by omega), er 11 (by omega), er 12 (by omega)]
  refine ⟨⟨c0, c1, c2, n16, n15, by rw [wr _ (by omega) (by omega) (by omega)]; exact f0, by rw [wr _ (by omega) (by omega) (by omega)]; exact f1, by rw [wr _ (by omega) (by omega) (by omega)]; exact f2, w2, w3⟩, fun f h1 h2 => ?_, fun i h1 h2 => ?_, ⟨qs.1, by rw [wr _ (by omega) (by omega) (by omega)]; exact qs.2.1, qs.2.2.1, fun j a1 a2 => by have := qs.1; rw [wr _ (by omega) (by omega) (by omega)]; exact qs.2.2.2 j a1 a2⟩, ⟨qn.1, by rw [wr _ (by omega) (by omega) (by omega)]; exact qn.2.1, qn.2.2.1, fun j a1 a2 => by have := qn.1; rw [wr _ (by omega) (by omega) (by omega)]; exact qn.2.2.2 j a1 a2⟩, ⟨qm.1, by rw [wr _ (by omega) (by omega) (by omega)]; exact qm.2.1, qm.2.2.1, fun j a1 a2 => by have := qm.1; rw [wr _ (by omega) (by omega) (by omega)]; exact qm.2.2.2 j a1 a2⟩, fun k h1 h2 => ?_⟩
  · have z := qf f h1 h2
    have y := nf f h1 h2
    exact ⟨z.1, y.1, by rw [wr _ (by omega) (by omega) (by omega)]; exact z.2.2.1, y.2⟩
  · have z := qg i h1 h2
    have y := ng i h1 h2
    exact ⟨⟨z.1.1, z.1.2.1, z.1.2.2.1, y.1, y.2.1⟩, by rw [wr _ (by omega) (by omega) (by omega)]; exact z.2.1, by rw [wr _ (by omega) (by omega) (by omega)]; exact z.2.2.1, by rw [wr _ (by omega) (by omega) (by omega)]; exact z.2.2.2.1, y.2.2.1, y.2.2.2⟩
  · obtain ⟨k1, k2, k3, k4, k5, k6⟩ := qk k h1 h2
    exact ⟨k1, ⟨k2.1, by omega⟩, by rw [wr _ (by omega) (by omega) (by omega)]; exact k3, by rw [wr _ (by omega) (by omega) (by omega)]; exact k4, fun x a1 a2 => by rw [wr _ (by omega) (by omega) (by omega)]; exact k5 x a1 a2, fun i a1 a2 => by rw [wr _ (by omega) (by omega) (by omega), wr _ (by omega) (by omega) (by omega)]; exact k6 i a1 a2⟩
/-- a moment is kept: u moments stay (from sh on), now is the last -/
theorem HS_keep {M M' : Mm} {h : Nat} {W W' : Int → Int} {o b : Int} (q : HS M h W o b) {u sh : Int} (hu : 0 ≤ u ∧ u ≤ 7) (hsh : u + sh = M h 2 ∧ 0 ≤ sh) (e0 : M' h 0 = M h 0) (e1 : M' h 1 = M h 1) (e2 : M' h 2 = u + 1) (er : ∀ j, 1 ≤ j ∧ j ≤ 12 ∧ j ≠ 6 → M' (h + j) = M (h + j)) (eP : ∀ k x, 0 ≤ k → k < u → 0 ≤ x → x < 17 → M' (h + 6) (k * 17 + x) = M (h + 6) ((k + sh) * 17 + x)) (eN : ∀ x, 0 ≤ x → x < 17 → M' (h + 6) (u * 17 + x) = M (h + 5) x) (wr : ∀ x, o ≤ x → x < o + 111 → W' x = W x) (wk : W' (o + 111) = u + 1) (wP : ∀ k x, 0 ≤ k → k < u → 0 ≤ x → x < 17 → W' (o + 112 + 17 * k + x) = W (o + 112 + 17 * (k + sh) + x)) (wN : W' (o + 112 + 17 * u) = W (o + 2) ∧ W' (o + 112 + 17 * u + 1) = W (o + 3) ∧ (∀ f, 0 ≤ f → f < 3 → W' (o + 112 + 17 * u + 2 + f) = W (o + 7 + f)) ∧ (∀ i, 0 ≤ i → i < 6 → W' (o + 112 + 17 * u + 5 + i) = W (o + 28 + i) ∧ W' (o + 112 + 17 * u + 11 + i) = W (o + 34 + i))) : HS M' h W' o b := by
  obtain ⟨⟨c0, c1, c2, c3, c4, f0, f1, f2, f3, f4⟩, qf, qg, qs, qn, qm, qk⟩ := q
  unfold HS
  rw [er 1 (by omega), er 2 (by omega), er 3 (by omega), er 4 (by omega), er 5 (by omega), er 7 (by omega), er 8 (by omega), er 9 (by omega), er 10 (by omega), er 11 (by omega), er 12 (by omega), e0, e1, e2]
  refine ⟨⟨by omega, by omega, by omega, c3, c4, by rw [e0, wr _ (by omega) (by omega)]; exact f0, by rw [e1, wr _ (by omega) (by omega)]; exact f1, by rw [e2, wk], by rw [wr _ (by omega) (by omega)]; exact f3, by rw [wr _ (by omega) (by omega)]; exact f4⟩, fun f h1 h2 => ?_, fun i h1 h2 => ?_, ⟨qs.1, by rw [wr _ (by omega) (by omega)]; exact qs.2.1, qs.2.2.1, fun j a1 a2 => by have := qs.1; rw [wr _ (by omega) (by omega)]; exact qs.2.2.2 j a1 a2⟩, ⟨qn.1, by rw [wr _ (by omega) (by omega)]; exact qn.2.1, qn.2.2.1, fun j a1 a2 => by have := qn.1; rw [wr _ (by omega) (by omega)]; exact qn.2.2.2 j a1 a2⟩, ⟨qm.1, by rw [wr _ (by omega) (by omega)]; exact qm.2.1, qm.2.2.1, fun j a1 a2 => by have := qm.1; rw [wr _ (by omega) (by omega)]; exact qm.2.2.2 j a1 a2⟩, fun k h1 h2 => ?_⟩
  · rw [wr _ (by omega) (by omega), wr _ (by omega) (by omega)]; exact qf f h1 h2
  · rw [wr _ (by omega) (by omega), wr _ (by omega) (by omega), wr _ (by omega) (by omega), wr _ (by omega) (by omega), wr _ (by omega) (by omega)]; exact qg i h1 h2
  · by_cases z : k = u
    · subst z
      unfold HSk1
      rw [eN 16 (by decide) (by decide), eN 15 (by decide) (by decide), wN.1, wN.2.1]
      refine ⟨c3, c4, f3, f4, fun x a1 a2 => ?_, fun i a1 a2 => ?_⟩
      · rw [eN (12 + x) (by omega) (by omega), wN.2.2.1 x a1 (by omega)]
        exact ⟨(qf x a1 a2).2.1, (qf x a1 a2).2.2.2⟩
      · rw [eN i (by omega) (by omega), eN (6 + i) (by omega) (by omega), (wN.2.2.2 i a1 (by omega)).1, (wN.2.2.2 i a1 (by omega)).2]
        have y := qg i a1 a2
        exact ⟨y.1.2.2.2.1, y.1.2.2.2.2, y.2.2.2.2.1, y.2.2.2.2.2⟩
    · obtain ⟨k1, k2, k3, k4, k5, k6⟩ := qk (k + sh) (by omega) (by omega)
      have w0 := wP k 0 h1 (by omega) (by decide) (by decide)
      rw [Int.add_zero, Int.add_zero] at w0
      unfold HSk1
      rw [eP k 16 h1 (by omega) (by decide) (by decide), eP k 15 h1 (by omega) (by decide) (by decide), w0, wP k 1 h1 (by omega) (by decide) (by decide)]
      refine ⟨k1, k2, k3, k4, fun x a1 a2 => ?_, fun i a1 a2 => ?_⟩
      · rw [eP k (12 + x) h1 (by omega) (by omega) (by omega), Int.add_assoc (o + 112 + 17 * k), wP k (2 + x) h1 (by omega) (by omega) (by omega), ← Int.add_assoc (o + 112 + 17 * (k + sh))]
        exact k5 x a1 a2
      · rw [eP k i h1 (by omega) (by omega) (by omega), eP k (6 + i) h1 (by omega) (by omega) (by omega), Int.add_assoc (o + 112 + 17 * k), Int.add_assoc (o + 112 + 17 * k), wP k (5 + i) h1 (by omega) (by omega) (by omega), wP k (11 + i) h1 (by omega) (by omega) (by omega), ← Int.add_assoc (o + 112 + 17 * (k + sh)), ← Int.add_assoc (o + 112 + 17 * (k + sh))]
        exact k6 i a1 a2
/-- the last moment comes back -/
theorem HS_undo {M M' : Mm} {h : Nat} {W W' : Int → Int} {o b : Int} (q : HS M h W o b) {u : Int} (hu : 0 ≤ u ∧ M h 2 = u + 1) (e0 : M' h 0 = M h 0) (e1 : M' h 1 = M h 1) (e2 : M' h 2 = u) (er : ∀ j, 1 ≤ j ∧ j ≤ 12 ∧ j ≠ 5 → M' (h + j) = M (h + j)) (eN : ∀ x, 0 ≤ x → x < 17 → M' (h + 5) x = M (h + 6) (u * 17 + x)) (wr : ∀ x, o ≤ x → x < o + 248 → (x < o + 2 ∨ (o + 4 ≤ x ∧ x < o + 7) ∨ (o + 10 ≤ x ∧ x < o + 28) ∨ (o + 40 ≤ x ∧ x ≠ o + 111)) → W' x = W x) (wk : W' (o + 111) = u) (w2 : W' (o + 2) = W (o + 112 + 17 * u)) (w3 : W' (o + 3) = W (o + 112 + 17 * u + 1)) (w7 : ∀ f, 0 ≤ f → f < 3 → W' (o + 7 + f) = W (o + 112 + 17 * u + 2 + f)) (w28 : ∀ i, 0 ≤ i → i < 6 → W' (o + 28 + i) = W (o + 112 + 17 * u + 5 + i) ∧ W' (o + 34 + i) = W (o + 112 + 17 * u + 11 + i)) : HS M' h W' o b := by
  obtain ⟨⟨c0, c1, c2, c3, c4, f0, f1, f2, f3, f4⟩, qf, qg, qs, qn, qm, qk⟩ := q
  obtain ⟨k1, k2, k3, k4, k5, k6⟩ := qk u hu.1 (by omega)
  unfold HS
  rw [er 1 (by omega), er 2 (by omega), er 3 (by omega), er 4 (by omega), er 6 (by omega), er 7 (by omega), er 8 (by omega), er 9 (by omega), er 10 (by omega), er 11 (by omega), er 12 (by omega), e0, e1, e2]
  refine ⟨⟨by omega, by omega, by omega, by rw [eN 16 (by decide) (by decide)]; exact k1, by rw [eN 15 (by decide) (by decide)]; exact k2, by rw [e0, wr _ (by omega) (by omega) (by omega)]; exact f0, by rw [e1, wr _ (by omega) (by omega) (by omega)]; exact f1, by rw [e2, wk], by rw [eN 16 (by decide) (by decide), w2]; exact k3, by rw [eN 15 (by decide) (by decide), w3]; exact k4⟩, fun f h1 h2 => ?_, fun i h1 h2 => ?_, ⟨qs.1, by rw [wr _ (by omega) (by omega) (by omega)]; exact qs.2.1, qs.2.2.1, fun j a1 a2 => by have := qs.1; rw [wr _ (by omega) (by omega) (by omega)]; exact qs.2.2.2 j a1 a2⟩, ⟨qn.1, by rw [wr _ (by omega) (by omega) (by omega)]; exact qn.2.1, qn.2.2.1, fun j a1 a2 => by have := qn.1; rw [wr _ (by omega) (by omega) (by omega)]; exact qn.2.2.2 j a1 a2⟩, ⟨qm.1, by rw [wr _ (by omega) (by omega) (by omega)]; exact qm.2.1, qm.2.2.1, fun j a1 a2 => by have := qm.1; rw [wr _ (by omega) (by omega) (by omega)]; exact qm.2.2.2 j a1 a2⟩, fun k h1 h2 => ?_⟩
  · have z := qf f h1 h2
    rw [eN (12 + f) (by omega) (by omega), wr _ (by omega) (by omega) (by omega), w7 f h1 (by omega)]
    exact ⟨z.1, (k5 f h1 h2).1, z.2.2.1, (k5 f h1 h2).2⟩
  · have z := qg i h1 h2
    have y := k6 i h1 h2
    rw [eN i (by omega) (by omega), eN (6 + i) (by omega) (by omega), wr (o + 10 + i) (by omega) (by omega) (by omega), wr (o + 16 + i) (by omega) (by omega) (by omega), wr (o + 22 + i) (by omega) (by omega) (by omega), (w28 i h1 (by omega)).1, (w28 i h1 (by omega)).2]
    exact ⟨⟨z.1.1, z.1.2.1, z.1.2.2.1, y.1, y.2.1⟩, z.2.1, z.2.2.1, z.2.2.2.1, y.2.2.1, y.2.2.2⟩
  · obtain ⟨k1, k2, k3, k4, k5, k6⟩ := qk k h1 (by omega)
    exact ⟨k1, k2, by rw [wr _ (by omega) (by omega) (by omega)]; exact k3, by rw [wr _ (by omega) (by omega) (by omega)]; exact k4, fun x a1 a2 => by rw [wr _ (by omega) (by omega) (by omega)]; exact k5 x a1 a2, fun i a1 a2 => by rw [wr _ (by omega) (by omega) (by omega), wr _ (by omega) (by omega) (by omega)]; exact k6 i a1 a2⟩
/-- an empty house and a row of naughts -/
theorem HS_none {M' : Mm} {h : Nat} {W' : Int → Int} {o b : Int} (hb : 0 ≤ b) (e0 : M' h 0 = 0) (e1 : M' h 1 = 0) (e2 : M' h 2 = 0) (n16 : M' (h + 5) 16 = 0) (n15 : M' (h + 5) 15 = 0) (l7 : M' (h + 7) 0 = 4 ∧ M' (h + 7) 1 = 5 ∧ M' (h + 7) 3 = 0) (l9 : M' (h + 9) 0 = 3 ∧ M' (h + 9) 1 = 6 ∧ M' (h + 9) 3 = 0) (l11 : M' (h + 11) 0 = 5 ∧ M' (h + 11) 1 = 6 ∧ M' (h + 11) 3 = 0) (wz : ∀ x, o ≤ x → x < o + 248 → W' x = 0) : HS M' h W' o b := by
  unfold HS
  rw [e0, e1, e2]
  refine ⟨⟨by omega, by omega, by omega, by omega, by omega, by rw [wz _ (by omega) (by omega)]; exact e0, by rw [wz _ (by omega) (by omega)]; exact e1, by rw [wz _ (by omega) (by omega)]; exact e2, by rw [wz _ (by omega) (by omega)]; exact n16, by rw [wz _ (by omega) (by omega)]; exact n15⟩, fun f h1 h2 => absurd h2 (by omega), fun f h1 h2 => absurd h2 (by omega), ⟨⟨l7.1, l7.2.1, by omega, by omega⟩, by rw [wz _ (by omega) (by omega)]; exact l7.2.2, fun n a1 a2 => absurd a2 (by omega), fun n a1 a2 => absurd a2 (by omega)⟩, ⟨⟨l9.1, l9.2.1, by omega, by omega⟩, by rw [wz _ (by omega) (by omega)]; exact l9.2.2, fun n a1 a2 => absurd a2 (by omega), fun n a1 a2 => absurd a2 (by omega)⟩, ⟨⟨l11.1, l11.2.1, by omega, by omega⟩, by rw [wz _ (by omega) (by omega)]; exact l11.2.2, fun n a1 a2 => absurd a2 (by omega), fun n a1 a2 => absurd a2 (by omega)⟩, fun k h1 h2 => absurd h2 (by omega)⟩

