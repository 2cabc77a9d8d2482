/-! a house of the class and a row of the reference: the same (written by wip/whole/gen68.py) -/
def HSc (H N W : Int → Int) (o b : Int) : Prop := (0 ≤ H 0 ∧ H 0 ≤ 3) ∧ (0 ≤ H 1 ∧ H 1 ≤ 6) ∧ (0 ≤ H 2 ∧ H 2 ≤ 8) ∧ (0 ≤ N 16 ∧ N 16 ≤ 9999) ∧ (0 ≤ N 15 ∧ N 15 ≤ b) ∧ H 0 = W o ∧ H 1 = W (o + 1) ∧ H 2 = W (o + 111) ∧ N 16 = W (o + 2) ∧ N 15 = W (o + 3)
def HSf (n : Int) (K N W : Int → Int) (o : Int) : Prop := ∀ f : Int, 0 ≤ f → f < n → (0 ≤ K f ∧ K f ≤ 5) ∧ (1 ≤ N (12 + f) ∧ N (12 + f) ≤ 10) ∧ K f = W (o + 4 + f) ∧ N (12 + f) = W (o + 7 + f)
def HSg (n m : Int) (G L F N W : Int → Int) (o : Int) : Prop := ∀ i : Int, 0 ≤ i → i < n → ((0 ≤ G i ∧ G i ≤ 5) ∧ (1 ≤ L i ∧ L i ≤ 4) ∧ (0 ≤ F i ∧ F i < m) ∧ (0 ≤ N i ∧ N i ≤ 11) ∧ (0 ≤ N (6 + i) ∧ N (6 + i) ≤ 9)) ∧ G i = W (o + 10 + i) ∧ L i = W (o + 16 + i) ∧ F i = W (o + 22 + i) ∧ N i = W (o + 28 + i) ∧ N (6 + i) = W (o + 34 + i)
def HSs (S C W : Int → Int) (o : Int) : Prop := (S 0 = 4 ∧ S 1 = 5 ∧ 0 ≤ S 3 ∧ S 3 ≤ 5) ∧ S 3 = W (o + 40) ∧ (∀ n : Int, 0 ≤ n → n < S 3 → (0 ≤ C (n * 4 + 0) ∧ C (n * 4 + 0) ≤ 2) ∧ (1 ≤ C (n * 4 + 1) ∧ C (n * 4 + 1) ≤ 10) ∧ (0 ≤ C (n * 4 + 2) ∧ C (n * 4 + 2) ≤ 23) ∧ (0 ≤ C (n * 4 + 3) ∧ C (n * 4 + 3) ≤ 1)) ∧ (∀ j : Int, 0 ≤ j → j < 4 * S 3 → C j = W (o + 41 + j))
def HSn (S C W : Int → Int) (o : Int) : Prop := (S 0 = 3 ∧ S 1 = 6 ∧ 0 ≤ S 3 ∧ S 3 ≤ 6) ∧ S 3 = W (o + 61) ∧ (∀ n : Int, 0 ≤ n → n < S 3 → (0 ≤ C (n * 3 + 0) ∧ C (n * 3 + 0) ≤ 2) ∧ (0 ≤ C (n * 3 + 1) ∧ C (n * 3 + 1) ≤ 23) ∧ (0 ≤ C (n * 3 + 2) ∧ C (n * 3 + 2) ≤ 9)) ∧ (∀ j : Int, 0 ≤ j → j < 3 * S 3 → C j = W (o + 62 + j))
def HSm (S C W : Int → Int) (o : Int) : Prop := (S 0 = 5 ∧ S 1 = 6 ∧ 0 ≤ S 3 ∧ S 3 ≤ 6) ∧ S 3 = W (o + 80) ∧ (∀ n : Int, 0 ≤ n → n < S 3 → (0 ≤ C (n * 5 + 0) ∧ C (n * 5 + 0) ≤ 5) ∧ (1 ≤ C (n * 5 + 1) ∧ C (n * 5 + 1) ≤ 4) ∧ (0 ≤ C (n * 5 + 2) ∧ C (n * 5 + 2) ≤ 9) ∧ (0 ≤ C (n * 5 + 3) ∧ C (n * 5 + 3) ≤ 23) ∧ (0 ≤ C (n * 5 + 4) ∧ C (n * 5 + 4) ≤ 9)) ∧ (∀ j : Int, 0 ≤ j → j < 5 * S 3 → C j = W (o + 81 + j))
/-- moment k of a house: f flights, g goers -/
def HSk1 (f g : Int) (P W : Int → Int) (o b k : Int) : Prop := (0 ≤ P (k * 17 + 16) ∧ P (k * 17 + 16) ≤ 9999) ∧ (0 ≤ P (k * 17 + 15) ∧ P (k * 17 + 15) ≤ b) ∧ P (k * 17 + 16) = W (o + 112 + 17 * k) ∧ P (k * 17 + 15) = W (o + 112 + 17 * k + 1) ∧ (∀ x : Int, 0 ≤ x → x < f → (1 ≤ P (k * 17 + (12 + x)) ∧ P (k * 17 + (12 + x)) ≤ 10) ∧ P (k * 17 + (12 + x)) = W (o + 112 + 17 * k + 2 + x)) ∧ (∀ i : Int, 0 ≤ i → i < g → (0 ≤ P (k * 17 + i) ∧ P (k * 17 + i) ≤ 11) ∧ (0 ≤ P (k * 17 + (6 + i)) ∧ P (k * 17 + (6 + i)) ≤ 9) ∧ P (k * 17 + i) = W (o + 112 + 17 * k + 5 + i) ∧ P (k * 17 + (6 + i)) = W (o + 112 + 17 * k + 11 + i))
def HSk (n f g : Int) (P W : Int → Int) (o b : Int) : Prop := ∀ k : Int, 0 ≤ k → k < n → HSk1 f g P W o b k
def HS (M : Mm) (h : Nat) (W : Int → Int) (o b : Int) : Prop := HSc (M h) (M (h + 5)) W o b ∧ HSf (M h 0) (M (h + 1)) (M (h + 5)) W o ∧ HSg (M h 1) (M h 0) (M (h + 2)) (M (h + 3)) (M (h + 4)) (M (h + 5)) W o ∧ HSs (M (h + 7)) (M (h + 8)) W o ∧ HSn (M (h + 9)) (M (h + 10)) W o ∧ HSm (M (h + 11)) (M (h + 12)) W o ∧ HSk (M h 2) (M h 0) (M h 1) (M (h + 6)) W o b
theorem HS_HI {M : Mm} {h : Nat} {W : Int → Int} {o b : Int} (hb : b ≤ 9000) (q : HS M h W o b) : HI M h := by
  obtain ⟨⟨c0, c1, c2, c3, c4, -⟩, qf, qg, qs, qn, qm, qk⟩ := q
  refine ⟨c0, c1, c2, c3, ⟨c4.1, by omega⟩, fun f h1 h2 => ⟨(qf f h1 h2).1, (qf f h1 h2).2.1⟩, fun i h1 h2 => (qg i h1 h2).1, qs.1, qn.1, qm.1, qs.2.2.1, qn.2.2.1, qm.2.2.1, fun k h1 h2 => ?_⟩
  obtain ⟨k1, k2, -, -, k5, k6⟩ := qk k h1 h2
  exact ⟨k1, ⟨k2.1, by omega⟩, fun f a1 a2 => (k5 f a1 a2).1, fun i a1 a2 => ⟨(k6 i a1 a2).1, (k6 i a1 a2).2.1⟩⟩
theorem HS_RI {M N : Mm} {h : Nat} {o b : Int} (hb : b ≤ 9000) (q : HS M h (N 65) o b) : RI N o := by
  obtain ⟨⟨c0, c1, c2, c3, c4, e0, e1, e2, e3, e4⟩, qf, qg, qs, qn, qm, qk⟩ := q
  refine ⟨by rw [Int.add_zero]; omega, by omega, by omega, by omega, by have := qs.2.1; have := qs.1; omega, by have := qn.2.1; have := qn.1; omega, by have := qm.2.1; have := qm.1; omega, by omega, fun f h1 h2 => ?_, fun i h1 h2 => ?_⟩
  · rw [Int.add_zero] at h2
    have := qf f h1 (by omega)
    omega
  · have z := qg i h1 (by omega)
    rw [Int.add_zero]
    omega
/-- the text and the rest are not of the house: other memories, the same rows -/
theorem HS_eq {M M' : Mm} {h : Nat} {W W' : Int → Int} {o b b' : Int} (hM : ∀ j, j ≤ 12 → M' (h + j) = M (h + j)) (hW : ∀ j, o ≤ j → j < o + 248 → W' j = W j) (hb : b ≤ b') (q : HS M h W o b) : HS M' h W' o b' := by
  have z0 := hM 0 (by omega)
  rw [Nat.add_zero] at z0
  unfold HS at q ⊢
  rw [z0, hM 1 (by omega), hM 2 (by omega), hM 3 (by omega), hM 4 (by omega), hM 5 (by omega), hM 6 (by omega), hM 7 (by omega), hM 8 (by omega), hM 9 (by omega), hM 10 (by omega), hM 11 (by omega), hM 12 (by omega)]
  obtain ⟨⟨c0, c1, c2, c3, c4, e0, e1, e2, e3, e4⟩, qf, qg, qs, qn, qm, qk⟩ := q
  refine ⟨⟨c0, c1, c2, c3, ⟨c4.1, by omega⟩, by rw [hW _ (by omega) (by omega)]; exact e0, by rw [hW _ (by omega) (by omega)]; exact e1, by rw [hW _ (by omega) (by omega)]; exact e2, by rw [hW _ (by omega) (by omega)]; exact e3, by rw [hW _ (by omega) (by omega)]; exact e4⟩, fun f h1 h2 => ?_, fun i h1 h2 => ?_, ?_, ?_, ?_, fun k h1 h2 => ?_⟩
  · rw [hW _ (by omega) (by omega), hW _ (by omega) (by omega)]; exact qf f h1 h2
  · rw [hW _ (by omega) (by omega), hW _ (by omega) (by omega), hW _ (by omega) (by omega), hW _ (by omega) (by omega), hW _ (by omega) (by omega)]; exact qg i h1 h2
  · have w := qs.1
    exact ⟨qs.1, by rw [hW _ (by omega) (by omega)]; exact qs.2.1, qs.2.2.1, fun j a1 a2 => by rw [hW _ (by omega) (by omega)]; exact qs.2.2.2 j a1 a2⟩
  · have w := qn.1
    exact ⟨qn.1, by rw [hW _ (by omega) (by omega)]; exact qn.2.1, qn.2.2.1, fun j a1 a2 => by rw [hW _ (by omega) (by omega)]; exact qn.2.2.2 j a1 a2⟩
  · have w := qm.1
    exact ⟨qm.1, by rw [hW _ (by omega) (by omega)]; exact qm.2.1, qm.2.2.1, fun j a1 a2 => by rw [hW _ (by omega) (by omega)]; exact qm.2.2.2 j a1 a2⟩
  · obtain ⟨k1, k2, k3, k4, k5, k6⟩ := qk k h1 h2
    exact ⟨k1, ⟨k2.1, by omega⟩, by rw [hW _ (by omega) (by omega)]; exact k3, by rw [hW _ (by omega) (by omega)]; exact k4, fun x a1 a2 => by rw [hW _ (by omega) (by omega)]; exact k5 x a1 a2, fun i a1 a2 => by rw [hW _ (by omega) (by omega), hW _ (by omega) (by omega)]; exact k6 i a1 a2⟩
/-- one house is as another one of the class, row against row -/
theorem HS_copy {M M' : Mm} {h h' : Nat} {W W' : Int → Int} {o o' b : Int} (e0 : ∀ j, 0 ≤ j → j < 3 → M' h' j = M h j) (e1 : ∀ j, 0 ≤ j → j < 3 → M' (h' + 1) j = M (h + 1) j) (e2 : ∀ j, 0 ≤ j → j < 6 → M' (h' + 2) j = M (h + 2) j) (e3 : ∀ j, 0 ≤ j → j < 6 → M' (h' + 3) j = M (h + 3) j) (e4 : ∀ j, 0 ≤ j → j < 6 → M' (h' + 4) j = M (h + 4) j) (e5 : ∀ j, 0 ≤ j → j < 17 → M' (h' + 5) j = M (h + 5) j) (e6 : ∀ j, 0 ≤ j → j < 136 → M' (h' + 6) j = M (h + 6) j) (e7 : M' (h' + 7) 0 = 4 ∧ M' (h' + 7) 1 = 5 ∧ M' (h' + 7) 3 = M (h + 7) 3) (e8 : ∀ j, 0 ≤ j → j < 20 → M' (h' + 8) j = M (h + 8) j) (e9 : M' (h' + 9) 0 = 3 ∧ M' (h' + 9) 1 = 6 ∧ M' (h' + 9) 3 = M (h + 9) 3) (e10 : ∀ j, 0 ≤ j → j < 18 → M' (h' + 10) j = M (h + 10) j) (e11 : M' (h' + 11) 0 = 5 ∧ M' (h' + 11) 1 = 6 ∧ M' (h' + 11) 3 = M (h + 11) 3) (e12 : ∀ j, 0 ≤ j → j < 30 → M' (h' + 12) j = M (h + 12) j) (hW : ∀ j, 0 ≤ j → j < 248 → W' (o' + j) = W (o + j)) (q : HS M h W o b) : HS M' h' W' o' b := by
  have hW2 : ∀ x y, o ≤ y → y < o + 248 → x - o' = y - o → W' x = W y := fun x y a1 a2 a3 => by
    have z := hW (y - o) (by omega) (by omega)
    rw [show o' + (y - o) = x by omega, show o + (y - o) = y by omega] at z
    exact z
  obtain ⟨⟨c0, c1, c2, c3, c4, f0, f1, f2, f3, f4⟩, qf, qg, qs, qn, qm, qk⟩ := q
  have g0 := e0 0 (by decide) (by decide)
  have g1 := e0 1 (by decide) (by decide)
  have g2 := e0 2 (by decide) (by decide)
  refine ⟨?_, ?_, ?_, ?_, ?_, ?_, ?_⟩
  · unfold HSc
    rw [g0, g1, g2, e5 16 (by decide) (by decide), e5 15 (by decide) (by decide), hW2 o' o (by omega) (by omega) (by omega), hW2 (o' + 1) (o + 1) (by omega) (by omega) (by omega), hW2 (o' + 111) (o + 111) (by omega) (by omega) (by omega), hW2 (o' + 2) (o + 2) (by omega) (by omega) (by omega), hW2 (o' + 3) (o + 3) (by omega) (by omega) (by omega)]
    exact ⟨c0, c1, c2, c3, c4, f0, f1, f2, f3, f4⟩
  · rw [g0]
    intro f a1 a2
    rw [e1 f a1 (by omega), e5 (12 + f) (by omega) (by omega), hW2 (o' + 4 + f) (o + 4 + f) (by omega) (by omega) (by omega), hW2 (o' + 7 + f) (o + 7 + f) (by omega) (by omega) (by omega)]
    exact qf f a1 a2
  · rw [g0, g1]
    intro i a1 a2
    rw [e2 i a1 (by omega), e3 i a1 (by omega), e4 i a1 (by omega), e5 i a1 (by omega), e5 (6 + i) (by omega) (by omega), hW2 (o' + 10 + i) (o + 10 + i) (by omega) (by omega) (by omega), hW2 (o' + 16 + i) (o + 16 + i) (by omega) (by omega) (by omega), hW2 (o' + 22 + i) (o + 22 + i) (by omega) (by omega) (by omega), hW2 (o' + 28 + i) (o + 28 + i) (by omega) (by omega) (by omega), hW2 (o' + 34 + i) (o + 34 + i) (by omega) (by omega) (by omega)]
    exact qg i a1 a2
  · have w := qs.1
    refine ⟨⟨e7.1, e7.2.1, by rw [e7.2.2]; omega⟩, by rw [e7.2.2, hW2 (o' + 40) (o + 40) (by omega) (by omega) (by omega)]; exact qs.2.1, fun n a1 a2 => ?_, fun j a1 a2 => ?_⟩
    · rw [e7.2.2] at a2
      rw [e8 _ (by omega) (by omega), e8 _ (by omega) (by omega), e8 _ (by omega) (by omega), e8 _ (by omega) (by omega)]
      exact qs.2.2.1 n a1 a2
    · rw [e7.2.2] at a2
      rw [e8 _ (by omega) (by omega), hW2 (o' + 41 + j) (o + 41 + j) (by omega) (by omega) (by omega)]
      exact qs.2.2.2 j a1 a2
  · have w := qn.1
    refine ⟨⟨e9.1, e9.2.1, by rw [e9.2.2]; omega⟩, by rw [e9.2.2, hW2 (o' + 61) (o + 61) (by omega) (by omega) (by omega)]; exact qn.2.1, fun n a1 a2 => ?_, fun j a1 a2 => ?_⟩
    · rw [e9.2.2] at a2
      rw [e10 _ (by omega) (by omega), e10 _ (by omega) (by omega), e10 _ (by omega) (by omega)]
      exact qn.2.2.1 n a1 a2
    · rw [e9.2.2] at a2
      rw [e10 _ (by omega) (by omega), hW2 (o' + 62 + j) (o + 62 + j) (by omega) (by omega) (by omega)]
      exact qn.2.2.2 j a1 a2
  · have w := qm.1
    refine ⟨⟨e11.1, e11.2.1, by rw [e11.2.2]; omega⟩, by rw [e11.2.2, hW2 (o' + 80) (o + 80) (by omega) (by omega) (by omega)]; exact qm.2.1, fun n a1 a2 => ?_, fun j a1 a2 => ?_⟩
    · rw [e11.2.2] at a2
      rw [e12 _ (by omega) (by omega), e12 _ (by omega) (by omega), e12 _ (by omega) (by omega), e12 _ (by omega) (by omega), e12 _ (by omega) (by omega)]
      exact qm.2.2.1 n a1 a2
    · rw [e11.2.2] at a2
      rw [e12 _ (by omega) (by omega), hW2 (o' + 81 + j) (o + 81 + j) (by omega) (by omega) (by omega)]
      exact qm.2.2.2 j a1 a2
  · rw [g0, g1, g2]
    intro k a1 a2
    obtain ⟨k1, k2, k3, k4, k5, k6⟩ := qk k a1 a2
    unfold HSk1
    rw [e6 (k * 17 + 16) (by omega) (by omega), e6 (k * 17 + 15) (by omega) (by omega), hW2 (o' + 112 + 17 * k) (o + 112 + 17 * k) (by omega) (by omega) (by omega), hW2 (o' + 112 + 17 * k + 1) (o + 112 + 17 * k + 1) (by omega) (by omega) (by omega)]
    refine ⟨k1, k2, k3, k4, fun x b1 b2 => ?_, fun i b1 b2 => ?_⟩
    · rw [e6 _ (by omega) (by omega), hW2 (o' + 112 + 17 * k + 2 + x) (o + 112 + 17 * k + 2 + x) (by omega) (by omega) (by omega)]
      exact k5 x b1 b2
    · rw [e6 _ (by omega) (by omega), e6 _ (by omega) (by omega), hW2 (o' + 112 + 17 * k + 5 + i) (o + 112 + 17 * k + 5 + i) (by omega) (by omega) (by omega), hW2 (o' + 112 + 17 * k + 11 + i) (o + 112 + 17 * k + 11 + i) (by omega) (by omega) (by omega)]
      exact k6 i b1 b2

