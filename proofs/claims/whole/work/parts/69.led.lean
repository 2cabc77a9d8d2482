/-! a house and a row stay the same: ledgers (written by wip/whole/gen69.py) -/
theorem HS_sAdd {M M' : Mm} {h : Nat} {W W' : Int → Int} {o b : Int} (q : HS M h W o b) {v0 v1 v2 v3 : Int} (hlt : M (h + 7) 3 < 5) (hv : (0 ≤ v0 ∧ v0 ≤ 2) ∧ (1 ≤ v1 ∧ v1 ≤ 10) ∧ (0 ≤ v2 ∧ v2 ≤ 23) ∧ (0 ≤ v3 ∧ v3 ≤ 1)) (e0 : M' h = M h) (er : ∀ j, 1 ≤ j ∧ j ≤ 12 ∧ j ≠ 7 ∧ j ≠ 8 → M' (h + j) = M (h + j)) (l0 : M' (h + 7) 0 = 4 ∧ M' (h + 7) 1 = 5) (l3 : M' (h + 7) 3 = M (h + 7) 3 + 1) (cn : M' (h + 8) (M (h + 7) 3 * 4 + 0) = v0 ∧ M' (h + 8) (M (h + 7) 3 * 4 + 1) = v1 ∧ M' (h + 8) (M (h + 7) 3 * 4 + 2) = v2 ∧ M' (h + 8) (M (h + 7) 3 * 4 + 3) = v3) (co : ∀ x, 0 ≤ x → x < 4 * M (h + 7) 3 → M' (h + 8) x = M (h + 8) x) (w3 : W' (o + 40) = M (h + 7) 3 + 1) (wn : W' (o + 41 + (4 * M (h + 7) 3 + 0)) = v0 ∧ W' (o + 41 + (4 * M (h + 7) 3 + 1)) = v1 ∧ W' (o + 41 + (4 * M (h + 7) 3 + 2)) = v2 ∧ W' (o + 41 + (4 * M (h + 7) 3 + 3)) = v3) (wo : ∀ x, 0 ≤ x → x < 4 * M (h + 7) 3 → W' (o + 41 + x) = W (o + 41 + x)) (wr : ∀ x, o ≤ x → x < o + 248 → x ≠ o + 40 → (x < o + 41 ∨ o + 61 ≤ x) → W' x = W x) : HS M' h W' o b := by
  obtain ⟨⟨c0, c1, c2, c3, c4, f0, f1, f2, f3, f4⟩, qf, qg, qs, qn, qm, qk⟩ := q
  have lw := qs.1
  unfold HS
  rw [e0, er 1 (by omega), er 2 (by omega), er 3 (by omega), er 4 (by omega), er 5 (by omega), er 6 (by omega), er 9 (by omega), er 10 (by omega), er 11 (by omega), er 12 (by omega)]
  refine ⟨⟨c0, c1, c2, c3, c4, by rw [wr _ (by omega) (by omega) (by omega) (by omega)]; exact f0, by rw [wr _ (by omega) (by omega) (by omega) (by omega)]; exact f1, by rw [wr _ (by omega) (by omega) (by omega) (by omega)]; exact f2, by rw [wr _ (by omega) (by omega) (by omega) (by omega)]; exact f3, by rw [wr _ (by omega) (by omega) (by omega) (by omega)]; exact f4⟩, fun f h1 h2 => ?_, fun i h1 h2 => ?_, ?_, ⟨qn.1, by rw [wr _ (by omega) (by omega) (by omega) (by omega)]; exact qn.2.1, qn.2.2.1, fun j a1 a2 => by have := qn.1; rw [wr _ (by omega) (by omega) (by omega) (by omega)]; exact qn.2.2.2 j a1 a2⟩, ⟨qm.1, by rw [wr _ (by omega) (by omega) (by omega) (by omega)]; exact qm.2.1, qm.2.2.1, fun j a1 a2 => by have := qm.1; rw [wr _ (by omega) (by omega) (by omega) (by omega)]; exact qm.2.2.2 j a1 a2⟩, fun k h1 h2 => ?_⟩
  · rw [wr _ (by omega) (by omega) (by omega) (by omega), wr _ (by omega) (by omega) (by omega) (by omega)]; exact qf f h1 h2
  · rw [wr _ (by omega) (by omega) (by omega) (by omega), wr _ (by omega) (by omega) (by omega) (by omega), wr _ (by omega) (by omega) (by omega) (by omega), wr _ (by omega) (by omega) (by omega) (by omega), wr _ (by omega) (by omega) (by omega) (by omega)]; exact qg i h1 h2
  · obtain ⟨cv0, cv1, cv2, cv3⟩ := cn
    obtain ⟨wv0, wv1, wv2, wv3⟩ := wn
    refine ⟨⟨l0.1, l0.2, by omega, by omega⟩, by rw [l3, w3], fun n a1 a2 => ?_, fun x a1 a2 => ?_⟩
    · rw [l3] at a2
      by_cases z : n = M (h + 7) 3
      · subst z
        rw [cv0, cv1, cv2, cv3]
        exact hv
      · have := qs.2.2.1 n a1 (by omega)
        rw [co (n * 4 + 0) (by omega) (by omega), co (n * 4 + 1) (by omega) (by omega), co (n * 4 + 2) (by omega) (by omega), co (n * 4 + 3) (by omega) (by omega)]
        exact this
    · rw [l3] at a2
      rcases (show x < 4 * M (h + 7) 3 ∨ x = 4 * M (h + 7) 3 + 0 ∨ x = 4 * M (h + 7) 3 + 1 ∨ x = 4 * M (h + 7) 3 + 2 ∨ x = 4 * M (h + 7) 3 + 3 by omega) with z | z | z | z | z
      · rw [co x a1 z, wo x a1 z]; exact qs.2.2.2 x a1 z
      · have z : x = 4 * M (h + 7) 3 + 0 := by omega
        rw [z, show 4 * M (h + 7) 3 + 0 = M (h + 7) 3 * 4 + 0 by omega, cv0, show M (h + 7) 3 * 4 + 0 = 4 * M (h + 7) 3 + 0 by omega, wv0]
      · have z : x = 4 * M (h + 7) 3 + 1 := by omega
        rw [z, show 4 * M (h + 7) 3 + 1 = M (h + 7) 3 * 4 + 1 by omega, cv1, show M (h + 7) 3 * 4 + 1 = 4 * M (h + 7) 3 + 1 by omega, wv1]
      · have z : x = 4 * M (h + 7) 3 + 2 := by omega
        rw [z, show 4 * M (h + 7) 3 + 2 = M (h + 7) 3 * 4 + 2 by omega, cv2, show M (h + 7) 3 * 4 + 2 = 4 * M (h + 7) 3 + 2 by omega, wv2]
      · have z : x = 4 * M (h + 7) 3 + 3 := by omega
        rw [z, show 4 * M (h + 7) 3 + 3 = M (h + 7) 3 * 4 + 3 by omega, cv3, show M (h + 7) 3 * 4 + 3 = 4 * M (h + 7) 3 + 3 by omega, wv3]
  · obtain ⟨k1, k2, k3, k4, k5, k6⟩ := qk k h1 h2
    exact ⟨k1, k2, by rw [wr _ (by omega) (by omega) (by omega) (by omega)]; exact k3, by rw [wr _ (by omega) (by omega) (by omega) (by omega)]; exact k4, fun x a1 a2 => by rw [wr _ (by omega) (by omega) (by omega) (by omega)]; exact k5 x a1 a2, fun i a1 a2 => by rw [wr _ (by omega) (by omega) (by omega) (by omega), wr _ (by omega) (by omega) (by omega) (by omega)]; exact k6 i a1 a2⟩
theorem HS_sEmp {M M' : Mm} {h : Nat} {W W' : Int → Int} {o b : Int} (q : HS M h W o b) (e0 : M' h = M h) (er : ∀ j, 1 ≤ j ∧ j ≤ 12 ∧ j ≠ 7 ∧ j ≠ 8 → M' (h + j) = M (h + j)) (l0 : M' (h + 7) 0 = 4 ∧ M' (h + 7) 1 = 5) (l3 : M' (h + 7) 3 = 0) (w3 : W' (o + 40) = 0) (wr : ∀ x, o ≤ x → x < o + 248 → x ≠ o + 40 → (x < o + 41 ∨ o + 61 ≤ x) → W' x = W x) : HS M' h W' o b := by
  obtain ⟨⟨c0, c1, c2, c3, c4, f0, f1, f2, f3, f4⟩, qf, qg, qs, qn, qm, qk⟩ := q
  have lw := qs.1
  unfold HS
  rw [e0, er 1 (by omega), er 2 (by omega), er 3 (by omega), er 4 (by omega), er 5 (by omega), er 6 (by omega), er 9 (by omega), er 10 (by omega), er 11 (by omega), er 12 (by omega)]
  refine ⟨⟨c0, c1, c2, c3, c4, by rw [wr _ (by omega) (by omega) (by omega) (by omega)]; exact f0, by rw [wr _ (by omega) (by omega) (by omega) (by omega)]; exact f1, by rw [wr _ (by omega) (by omega) (by omega) (by omega)]; exact f2, by rw [wr _ (by omega) (by omega) (by omega) (by omega)]; exact f3, by rw [wr _ (by omega) (by omega) (by omega) (by omega)]; exact f4⟩, fun f h1 h2 => ?_, fun i h1 h2 => ?_, ?_, ⟨qn.1, by rw [wr _ (by omega) (by omega) (by omega) (by omega)]; exact qn.2.1, qn.2.2.1, fun j a1 a2 => by have := qn.1; rw [wr _ (by omega) (by omega) (by omega) (by omega)]; exact qn.2.2.2 j a1 a2⟩, ⟨qm.1, by rw [wr _ (by omega) (by omega) (by omega) (by omega)]; exact qm.2.1, qm.2.2.1, fun j a1 a2 => by have := qm.1; rw [wr _ (by omega) (by omega) (by omega) (by omega)]; exact qm.2.2.2 j a1 a2⟩, fun k h1 h2 => ?_⟩
  · rw [wr _ (by omega) (by omega) (by omega) (by omega), wr _ (by omega) (by omega) (by omega) (by omega)]; exact qf f h1 h2
  · rw [wr _ (by omega) (by omega) (by omega) (by omega), wr _ (by omega) (by omega) (by omega) (by omega), wr _ (by omega) (by omega) (by omega) (by omega), wr _ (by omega) (by omega) (by omega) (by omega), wr _ (by omega) (by omega) (by omega) (by omega)]; exact qg i h1 h2
  · exact ⟨⟨l0.1, l0.2, by omega, by omega⟩, by rw [l3, w3], fun n a1 a2 => absurd a2 (by rw [l3]; omega), fun x a1 a2 => absurd a2 (by rw [l3]; omega)⟩
  · obtain ⟨k1, k2, k3, k4, k5, k6⟩ := qk k h1 h2
    exact ⟨k1, k2, by rw [wr _ (by omega) (by omega) (by omega) (by omega)]; exact k3, by rw [wr _ (by omega) (by omega) (by omega) (by omega)]; exact k4, fun x a1 a2 => by rw [wr _ (by omega) (by omega) (by omega) (by omega)]; exact k5 x a1 a2, fun i a1 a2 => by rw [wr _ (by omega) (by omega) (by omega) (by omega), wr _ (by omega) (by omega) (by omega) (by omega)]; exact k6 i a1 a2⟩
theorem HS_nAdd {M M' : Mm} {h : Nat} {W W' : Int → Int} {o b : Int} (q : HS M h W o b) {v0 v1 v2 : Int} (hlt : M (h + 9) 3 < 6) (hv : (0 ≤ v0 ∧ v0 ≤ 2) ∧ (0 ≤ v1 ∧ v1 ≤ 23) ∧ (0 ≤ v2 ∧ v2 ≤ 9)) (e0 : M' h = M h) (er : ∀ j, 1 ≤ j ∧ j ≤ 12 ∧ j ≠ 9 ∧ j ≠ 10 → M' (h + j) = M (h + j)) (l0 : M' (h + 9) 0 = 3 ∧ M' (h + 9) 1 = 6) (l3 : M' (h + 9) 3 = M (h + 9) 3 + 1) (cn : M' (h + 10) (M (h + 9) 3 * 3 + 0) = v0 ∧ M' (h + 10) (M (h + 9) 3 * 3 + 1) = v1 ∧ M' (h + 10) (M (h + 9) 3 * 3 + 2) = v2) (co : ∀ x, 0 ≤ x → x < 3 * M (h + 9) 3 → M' (h + 10) x = M (h + 10) x) (w3 : W' (o + 61) = M (h + 9) 3 + 1) (wn : W' (o + 62 + (3 * M (h + 9) 3 + 0)) = v0 ∧ W' (o + 62 + (3 * M (h + 9) 3 + 1)) = v1 ∧ W' (o + 62 + (3 * M (h + 9) 3 + 2)) = v2) (wo : ∀ x, 0 ≤ x → x < 3 * M (h + 9) 3 → W' (o + 62 + x) = W (o + 62 + x)) (wr : ∀ x, o ≤ x → x < o + 248 → x ≠ o + 61 → (x < o + 62 ∨ o + 80 ≤ x) → W' x = W x) : HS M' h W' o b := by
  obtain ⟨⟨c0, c1, c2, c3, c4, f0, f1, f2, f3, f4⟩, qf, qg, qs, qn, qm, qk⟩ := q
  have lw := qn.1
  unfold HS
  rw [e0, er 1 (by omega), er 2 (by omega), er 3 (by omega), er 4 (by omega), er 5 (by omega), er 6 (by omega), er 7 (by omega), er 8 (by omega), er 11 (by omega), er 12 (by omega)]
  refine ⟨⟨c0, c1, c2, c3, c4, by rw [wr _ (by omega) (by omega) (by omega) (by omega)]; exact f0, by rw [wr _ (by omega) (by omega) (by omega) (by omega)]; exact f1, by rw [wr _ (by omega) (by omega) (by omega) (by omega)]; exact f2, by rw [wr _ (by omega) (by omega) (by omega) (by omega)]; exact f3, by rw [wr _ (by omega) (by omega) (by omega) (by omega)]; exact f4⟩, fun f h1 h2 => ?_, fun i h1 h2 => ?_, ⟨qs.1, by rw [wr _ (by omega) (by omega) (by omega) (by omega)]; exact qs.2.1, qs.2.2.1, fun j a1 a2 => by have := qs.1; rw [wr _ (by omega) (by omega) (by omega) (by omega)]; exact qs.2.2.2 j a1 a2⟩, ?_, ⟨qm.1, by rw [wr _ (by omega) (by omega) (by omega) (by omega)]; exact qm.2.1, qm.2.2.1, fun j a1 a2 => by have := qm.1; rw [wr _ (by omega) (by omega) (by omega) (by omega)]; exact qm.2.2.2 j a1 a2⟩, fun k h1 h2 => ?_⟩
  · rw [wr _ (by omega) (by omega) (by omega) (by omega), wr _ (by omega) (by omega) (by omega) (by omega)]; exact qf f h1 h2
  · rw [wr _ (by omega) (by omega) (by omega) (by omega), wr _ (by omega) (by omega) (by omega) (by omega), wr _ (by omega) (by omega) (by omega) (by omega), wr _ (by omega) (by omega) (by omega) (by omega), wr _ (by omega) (by omega) (by omega) (by omega)]; exact qg i h1 h2
  · obtain ⟨cv0, cv1, cv2⟩ := cn
    obtain ⟨wv0, wv1, wv2⟩ := wn
    refine ⟨⟨l0.1, l0.2, by omega, by omega⟩, by rw [l3, w3], fun n a1 a2 => ?_, fun x a1 a2 => ?_⟩
    · rw [l3] at a2
      by_cases z : n = M (h + 9) 3
      · subst z
        rw [cv0, cv1, cv2]
        exact hv
      · have := qn.2.2.1 n a1 (by omega)
        rw [co (n * 3 + 0) (by omega) (by omega), co (n * 3 + 1) (by omega) (by omega), co (n * 3 + 2) (by omega) (by omega)]
        exact this
    · rw [l3] at a2
      rcases (show x < 3 * M (h + 9) 3 ∨ x = 3 * M (h + 9) 3 + 0 ∨ x = 3 * M (h + 9) 3 + 1 ∨ x = 3 * M (h + 9) 3 + 2 by omega) with z | z | z | z
      · rw [co x a1 z, wo x a1 z]; exact qn.2.2.2 x a1 z
      · have z : x = 3 * M (h + 9) 3 + 0 := by omega
        rw [z, show 3 * M (h + 9) 3 + 0 = M (h + 9) 3 * 3 + 0 by omega, cv0, show M (h + 9) 3 * 3 + 0 = 3 * M (h + 9) 3 + 0 by omega, wv0]
      · have z : x = 3 * M (h + 9) 3 + 1 := by omega
        rw [z, show 3 * M (h + 9) 3 + 1 = M (h + 9) 3 * 3 + 1 by omega, cv1, show M (h + 9) 3 * 3 + 1 = 3 * M (h + 9) 3 + 1 by omega, wv1]
      · have z : x = 3 * M (h + 9) 3 + 2 := by omega
        rw [z, show 3 * M (h + 9) 3 + 2 = M (h + 9) 3 * 3 + 2 by omega, cv2, show M (h + 9) 3 * 3 + 2 = 3 * M (h + 9) 3 + 2 by omega, wv2]
  · obtain ⟨k1, k2, k3, k4, k5, k6⟩ := qk k h1 h2
    exact ⟨k1, k2, by rw [wr _ (by omega) (by omega) (by omega) (by omega)]; exact k3, by rw [wr _ (by omega) (by omega) (by omega) (by omega)]; exact k4, fun x a1 a2 => by rw [wr _ (by omega) (by omega) (by omega) (by omega)]; exact k5 x a1 a2, fun i a1 a2 => by rw [wr _ (by omega) (by omega) (by omega) (by omega), wr _ (by omega) (by omega) (by omega) (by omega)]; exact k6 i a1 a2⟩
theorem HS_nEmp {M M' : Mm} {h : Nat} {W W' : Int → Int} {o b : Int} (q : HS M h W o b) (e0 : M' h = M h) (er : ∀ j, 1 ≤ j ∧ j ≤ 12 ∧ j ≠ 9 ∧ j ≠ 10 → M' (h + j) = M (h + j)) (l0 : M' (h + 9) 0 = 3 ∧ M' (h + 9) 1 = 6) (l3 : M' (h + 9) 3 = 0) (w3 : W' (o + 61) = 0) (wr : ∀ x, o ≤ x → x < o + 248 → x ≠ o + 61 → (x < o + 62 ∨ o + 80 ≤ x) → W' x = W x) : HS M' h W' o b := by
  obtain ⟨⟨c0, c1, c2, c3, c4, f0, f1, f2, f3, f4⟩, qf, qg, qs, qn, qm, qk⟩ := q
  have lw := qn.1
  unfold HS
  rw [e0, er 1 (by omega), er 2 (by omega), er 3 (by omega), er 4 (by omega), er 5 (by omega), er 6 (by omega), er 7 (by omega), er 8 (by omega), er 11 (by omega), er 12 (by omega)]
  refine ⟨⟨c0, c1, c2, c3, c4, by rw [wr _ (by omega) (by omega) (by omega) (by omega)]; exact f0, by rw [wr _ (by omega) (by omega) (by omega) (by omega)]; exact f1, by rw [wr _ (by omega) (by omega) (by omega) (by omega)]; exact f2, by rw [wr _ (by omega) (by omega) (by omega) (by omega)]; exact f3, by rw [wr _ (by omega) (by omega) (by omega) (by omega)]; exact f4⟩, fun f h1 h2 => ?_, fun i h1 h2 => ?_, ⟨qs.1, by rw [wr _ (by omega) (by omega) (by omega) (by omega)]; exact qs.2.1, qs.2.2.1, fun j a1 a2 => by have := qs.1; rw [wr _ (by omega) (by omega) (by omega) (by omega)]; exact qs.2.2.2 j a1 a2⟩, ?_, ⟨qm.1, by rw [wr _ (by omega) (by omega) (by omega) (by omega)]; exact qm.2.1, qm.2.2.1, fun j a1 a2 => by have := qm.1; rw [wr _ (by omega) (by omega) (by omega) (by omega)]; exact qm.2.2.2 j a1 a2⟩, fun k h1 h2 => ?_⟩
  · rw [wr _ (by omega) (by omega) (by omega) (by omega), wr _ (by omega) (by omega) (by omega) (by omega)]; exact qf f h1 h2
  · rw [wr _ (by omega) (by omega) (by omega) (by omega), wr _ (by omega) (by omega) (by omega) (by omega), wr _ (by omega) (by omega) (by omega) (by omega), wr _ (by omega) (by omega) (by omega) (by omega), wr _ (by omega) (by omega) (by omega) (by omega)]; exact qg i h1 h2
  · exact ⟨⟨l0.1, l0.2, by omega, by omega⟩, by rw [l3, w3], fun n a1 a2 => absurd a2 (by rw [l3]; omega), fun x a1 a2 => absurd a2 (by rw [l3]; omega)⟩
  · obtain ⟨k1, k2, k3, k4, k5, k6⟩ := qk k h1 h2
    exact ⟨k1, k2, by rw [wr _ (by omega) (by omega) (by omega) (by omega)]; exact k3, by rw [wr _ (by omega) (by omega) (by omega) (by omega)]; exact k4, fun x a1 a2 => by rw [wr _ (by omega) (by omega) (by omega) (by omega)]; exact k5 x a1 a2, fun i a1 a2 => by rw [wr _ (by omega) (by omega) (by omega) (by omega), wr _ (by omega) (by omega) (by omega) (by omega)]; exact k6 i a1 a2⟩
theorem HS_mAdd {M M' : Mm} {h : Nat} {W W' : Int → Int} {o b : Int} (q : HS M h W o b) {v0 v1 v2 v3 v4 : Int} (hlt : M (h + 11) 3 < 6) (hv : (0 ≤ v0 ∧ v0 ≤ 5) ∧ (1 ≤ v1 ∧ v1 ≤ 4) ∧ (0 ≤ v2 ∧ v2 ≤ 9) ∧ (0 ≤ v3 ∧ v3 ≤ 23) ∧ (0 ≤ v4 ∧ v4 ≤ 9)) (e0 : M' h = M h) (er : ∀ j, 1 ≤ j ∧ j ≤ 12 ∧ j ≠ 11 ∧ j ≠ 12 → M' (h + j) = M (h + j)) (l0 : M' (h + 11) 0 = 5 ∧ M' (h + 11) 1 = 6) (l3 : M' (h + 11) 3 = M (h + 11) 3 + 1) (cn : M' (h + 12) (M (h + 11) 3 * 5 + 0) = v0 ∧ M' (h + 12) (M (h + 11) 3 * 5 + 1) = v1 ∧ M' (h + 12) (M (h + 11) 3 * 5 + 2) = v2 ∧ M' (h + 12) (M (h + 11) 3 * 5 + 3) = v3 ∧ M' (h + 12) (M (h + 11) 3 * 5 + 4) = v4) (co : ∀ x, 0 ≤ x → x < 5 * M (h + 11) 3 → M' (h + 12) x = M (h + 12) x) (w3 : W' (o + 80) = M (h + 11) 3 + 1) (wn : W' (o + 81 + (5 * M (h + 11) 3 + 0)) = v0 ∧ W' (o + 81 + (5 * M (h + 11) 3 + 1)) = v1 ∧ W' (o + 81 + (5 * M (h + 11) 3 + 2)) = v2 ∧ W' (o + 81 + (5 * M (h + 11) 3 + 3)) = v3 ∧ W' (o + 81 + (5 * M (h + 11) 3 + 4)) = v4) (wo : ∀ x, 0 ≤ x → x < 5 * M (h + 11) 3 → W' (o + 81 + x) = W (o + 81 + x)) (wr : ∀ x, o ≤ x → x < o + 248 → x ≠ o + 80 → (x < o + 81 ∨ o + 111 ≤ x) → W' x = W x) : HS M' h W' o b := by
  obtain ⟨⟨c0, c1, c2, c3, c4, f0, f1, f2, f3, f4⟩, qf, qg, qs, qn, qm, qk⟩ := q
  have lw := qm.1
  unfold HS
  rw [e0, er 1 (by omega), er 2 (by omega), er 3 (by omega), er 4 (by omega), er 5 (by omega), er 6 (by omega), er 7 (by omega), er 8 (by omega), er 9 (by omega), er 10 (by omega)]
  refine ⟨⟨c0, c1, c2, c3, c4, by rw [wr _ (by omega) (by omega) (by omega) (by omega)]; exact f0, by rw [wr _ (by omega) (by omega) (by omega) (by omega)]; exact f1, by rw [wr _ (by omega) (by omega) (by omega) (by omega)]; exact f2, by rw [wr _ (by omega) (by omega) (by omega) (by omega)]; exact f3, by rw [wr _ (by omega) (by omega) (by omega) (by omega)]; exact f4⟩, fun f h1 h2 => ?_, fun i h1 h2 => ?_, ⟨qs.1, by rw [wr _ (by omega) (by omega) (by omega) (by omega)]; exact qs.2.1, qs.2.2.1, fun j a1 a2 => by have := qs.1; rw [wr _ (by omega) (by omega) (by omega) (by omega)]; exact qs.2.2.2 j a1 a2⟩, ⟨qn.1, by rw [wr _ (by omega) (by omega) (by omega) (by omega)]; exact qn.2.1, qn.2.2.1, fun j a1 a2 => by have := qn.1; rw [wr _ (by omega) (by omega) (by omega) (by omega)]; exact qn.2.2.2 j a1 a2⟩, ?_, fun k h1 h2 => ?_⟩
  · rw [wr _ (by omega) (by omega) (by omega) (by omega), wr _ (by omega) (by omega) (by omega) (by omega)]; exact qf f h1 h2
  · rw [wr _ (by omega) (by omega) (by omega) (by omega), wr _ (by omega) (by omega) (by omega) (by omega), wr _ (by omega) (by omega) (by omega) (by omega), wr _ (by omega) (by omega) (by omega) (by omega), wr _ (by omega) (by omega) (by omega) (by omega)]; exact qg i h1 h2
  · obtain ⟨cv0, cv1, cv2, cv3, cv4⟩ := cn
    obtain ⟨wv0, wv1, wv2, wv3, wv4⟩ := wn
    refine ⟨⟨l0.1, l0.2, by omega, by omega⟩, by rw [l3, w3], fun n a1 a2 => ?_, fun x a1 a2 => ?_⟩
    · rw [l3] at a2
      by_cases z : n = M (h + 11) 3
      · subst z
        rw [cv0, cv1, cv2, cv3, cv4]
        exact hv
      · have := qm.2.2.1 n a1 (by omega)
        rw [co (n * 5 + 0) (by omega) (by omega), co (n * 5 + 1) (by omega) (by omega), co (n * 5 + 2) (by omega) (by omega), co (n * 5 + 3) (by omega) (by omega), co (n * 5 + 4) (by omega) (by omega)]
        exact this
    · rw [l3] at a2
      rcases (show x < 5 * M (h + 11) 3 ∨ x = 5 * M (h + 11) 3 + 0 ∨ x = 5 * M (h + 11) 3 + 1 ∨ x = 5 * M (h + 11) 3 + 2 ∨ x = 5 * M (h + 11) 3 + 3 ∨ x = 5 * M (h + 11) 3 + 4 by omega) with z | z | z | z | z | z
      · rw [co x a1 z, wo x a1 z]; exact qm.2.2.2 x a1 z
      · have z : x = 5 * M (h + 11) 3 + 0 := by omega
        rw [z, show 5 * M (h + 11) 3 + 0 = M (h + 11) 3 * 5 + 0 by omega, cv0, show M (h + 11) 3 * 5 + 0 = 5 * M (h + 11) 3 + 0 by omega, wv0]
      · have z : x = 5 * M (h + 11) 3 + 1 := by omega
        rw [z, show 5 * M (h + 11) 3 + 1 = M (h + 11) 3 * 5 + 1 by omega, cv1, show M (h + 11) 3 * 5 + 1 = 5 * M (h + 11) 3 + 1 by omega, wv1]
      · have z : x = 5 * M (h + 11) 3 + 2 := by omega
        rw [z, show 5 * M (h + 11) 3 + 2 = M (h + 11) 3 * 5 + 2 by omega, cv2, show M (h + 11) 3 * 5 + 2 = 5 * M (h + 11) 3 + 2 by omega, wv2]
      · have z : x = 5 * M (h + 11) 3 + 3 := by omega
        rw [z, show 5 * M (h + 11) 3 + 3 = M (h + 11) 3 * 5 + 3 by omega, cv3, show M (h + 11) 3 * 5 + 3 = 5 * M (h + 11) 3 + 3 by omega, wv3]
      · have z : x = 5 * M (h + 11) 3 + 4 := by omega
        rw [z, show 5 * M (h + 11) 3 + 4 = M (h + 11) 3 * 5 + 4 by omega, cv4, show M (h + 11) 3 * 5 + 4 = 5 * M (h + 11) 3 + 4 by omega, wv4]
  · obtain ⟨k1, k2, k3, k4, k5, k6⟩ := qk k h1 h2
    exact ⟨k1, k2, by rw [wr _ (by omega) (by omega) (by omega) (by omega)]; exact k3, by rw [wr _ (by omega) (by omega) (by omega) (by omega)]; exact k4, fun x a1 a2 => by rw [wr _ (by omega) (by omega) (by omega) (by omega)]; exact k5 x a1 a2, fun i a1 a2 => by rw [wr _ (by omega) (by omega) (by omega) (by omega), wr _ (by omega) (by omega) (by omega) (by omega)]; exact k6 i a1 a2⟩
theorem HS_mEmp {M M' : Mm} {h : Nat} {W W' : Int → Int} {o b : Int} (q : HS M h W o b) (e0 : M' h = M h) (er : ∀ j, 1 ≤ j ∧ j ≤ 12 ∧ j ≠ 11 ∧ j ≠ 12 → M' (h + j) = M (h + j)) (l0 : M' (h + 11) 0 = 5 ∧ M' (h + 11) 1 = 6) (l3 : M' (h + 11) 3 = 0) (w3 : W' (o + 80) = 0) (wr : ∀ x, o ≤ x → x < o + 248 → x ≠ o + 80 → (x < o + 81 ∨ o + 111 ≤ x) → W' x = W x) : HS M' h W' o b := by
  obtain ⟨⟨c0, c1, c2, c3, c4, f0, f1, f2, f3, f4⟩, qf, qg, qs, qn, qm, qk⟩ := q
  have lw := qm.1
  unfold HS
  rw [e0, er 1 (by omega), er 2 (by omega), er 3 (by omega), er 4 (by omega), er 5 (by omega), er 6 (by omega), er 7 (by omega), er 8 (by omega), er 9 (by omega), er 10 (by omega)]
  refine ⟨⟨c0, c1, c2, c3, c4, by rw [wr _ (by omega) (by omega) (by omega) (by omega)]; exact f0, by rw [wr _ (by omega) (by omega) (by omega) (by omega)]; exact f1, by rw [wr _ (by omega) (by omega) (by omega) (by omega)]; exact f2, by rw [wr _ (by omega) (by omega) (by omega) (by omega)]; exact f3, by rw [wr _ (by omega) (by omega) (by omega) (by omega)]; exact f4⟩, fun f h1 h2 => ?_, fun i h1 h2 => ?_, ⟨qs.1, by rw [wr _ (by omega) (by omega) (by omega) (by omega)]; exact qs.2.1, qs.2.2.1, fun j a1 a2 => by have := qs.1; rw [wr _ (by omega) (by omega) (by omega) (by omega)]; exact qs.2.2.2 j a1 a2⟩, ⟨qn.1, by rw [wr _ (by omega) (by omega) (by omega) (by omega)]; exact qn.2.1, qn.2.2.1, fun j a1 a2 => by have := qn.1; rw [wr _ (by omega) (by omega) (by omega) (by omega)]; exact qn.2.2.2 j a1 a2⟩, ?_, fun k h1 h2 => ?_⟩
  · rw [wr _ (by omega) (by omega) (by omega) (by omega), wr _ (by omega) (by omega) (by omega) (by omega)]; exact qf f h1 h2
  · rw [wr _ (by omega) (by omega) (by omega) (by omega), wr _ (by omega) (by omega) (by omega) (by omega), wr _ (by omega) (by omega) (by omega) (by omega), wr _ (by omega) (by omega) (by omega) (by omega), wr _ (by omega) (by omega) (by omega) (by omega)]; exact qg i h1 h2
  · exact ⟨⟨l0.1, l0.2, by omega, by omega⟩, by rw [l3, w3], fun n a1 a2 => absurd a2 (by rw [l3]; omega), fun x a1 a2 => absurd a2 (by rw [l3]; omega)⟩
  · obtain ⟨k1, k2, k3, k4, k5, k6⟩ := qk k h1 h2
    exact ⟨k1, k2, by rw [wr _ (by omega) (by omega) (by omega) (by omega)]; exact k3, by rw [wr _ (by omega) (by omega) (by omega) (by omega)]; exact k4, fun x a1 a2 => by rw [wr _ (by omega) (by omega) (by omega) (by omega)]; exact k5 x a1 a2, fun i a1 a2 => by rw [wr _ (by omega) (by omega) (by omega) (by omega), wr _ (by omega) (by omega) (by omega) (by omega)]; exact k6 i a1 a2⟩
