/-! members side by side: moves (written by wip/whole/gen87.py) -/
theorem cp_in {M : Mm} {rs rd : Nat} {sp dp n x : Int} (h : dp ≤ x ∧ x < dp + n) : cp M rs sp rd dp n rd x = M rs (sp + (x - dp)) := if_pos ⟨rfl, h⟩
theorem cp_out {M : Mm} {rs rd : Nat} {sp dp n x : Int} (h : ¬ (dp ≤ x ∧ x < dp + n)) : cp M rs sp rd dp n rd x = M rd x := if_neg (fun z => h z.2)
theorem HS_km {M Mr M3 : Mm} {b : Int} (q : HS M 1 (M 65) 0 b) (e : Mr 65 = M 65) (hMo : MoP Mr M3) : HS (kmM M) 1 (M3 65) 0 b := by
  have c2 : 0 ≤ M 1 2 ∧ M 1 2 ≤ 8 := q.1.2.2.1
  have f2 : M 1 2 = M 65 111 := q.1.2.2.2.2.2.2.2.1
  obtain ⟨-, hlo, B, u, hB, -, md2, md3, md4, md5, md6, md7, md8⟩ := hMo
  rw [e] at hB hlo
  rcases hB with ⟨h8, hu, hB⟩ | ⟨h8, hu, hB⟩
  · have b1 : ∀ x, x < 111 → B 65 x = M 65 x := fun x hx => by rw [hB, up_off (by omega), shM_lo (by omega), e]
    have b2 : ∀ k c, 0 ≤ k → k < 7 → 0 ≤ c → c < 17 → B 65 (112 + 17 * k + c) = M 65 (112 + 17 * (k + 1) + c) := fun k c z1 z2 z3 z4 => by rw [hB, up_off (by omega), shM_in (by omega), e, show 112 + 17 * k + c + 17 = 112 + 17 * (k + 1) + c by omega]
    have hk : kmM M = up (cp (up (cp M 7 17 7 0 119) 1 2 7) 6 0 7 119 17) 1 2 8 := if_pos (by omega)
    refine HS_keep (u := 7) (sh := 1) q (by omega) (by omega) (kmM_1 (by decide)) (kmM_1 (by decide)) (by rw [hk]; rfl) (fun j hj => kmM_ne (by omega) (by omega)) (fun k x z1 z2 z3 z4 => ?_) (fun x z1 z2 => ?_) (fun x z1 z2 => ?_) ?_ (fun k x z1 z2 z3 z4 => ?_) ⟨?_, ?_, fun f z1 z2 => ?_, fun i z1 z2 => ⟨?_, ?_⟩⟩
    · show kmM M 7 (k * 17 + x) = M 7 ((k + 1) * 17 + x)
      rw [hk, up_ne (by decide), cp_out (by omega), up_ne (by decide), cp_in (by omega), show 17 + (k * 17 + x - 0) = (k + 1) * 17 + x by omega]
    · show kmM M 7 (7 * 17 + x) = M 6 x
      rw [hk, up_ne (by decide), cp_in (by omega), up_ne (by decide), cp_ne (by decide), show 0 + (7 * 17 + x - 119) = x by omega]
    · rw [hlo x (by omega)]
    · show M3 65 111 = 7 + 1
      rw [md3]; omega
    · have z := md8 k x z1 (by omega) z3 z4
      rw [b2 k x z1 z2 z3 z4] at z
      rw [show 0 + 112 + 17 * k + x = 112 + 17 * k + x by omega, show 0 + 112 + 17 * (k + 1) + x = 112 + 17 * (k + 1) + x by omega]
      exact z
    · have z := md4
      rw [hu, b1 2 (by decide)] at z
      exact z
    · have z := md5
      rw [hu, b1 3 (by decide)] at z
      exact z
    · have z := md6 f z1 z2
      rw [hu, b1 _ (by omega)] at z
      rw [show 0 + 112 + 17 * 7 + 2 + f = 112 + 17 * 7 + 2 + f by omega, show 0 + 7 + f = 7 + f by omega]
      exact z
    · have z := (md7 i z1 z2).1
      rw [hu, b1 _ (by omega)] at z
      rw [show 0 + 112 + 17 * 7 + 5 + i = 112 + 17 * 7 + 5 + i by omega, show 0 + 28 + i = 28 + i by omega]
      exact z
    · have z := (md7 i z1 z2).2
      rw [hu, b1 _ (by omega)] at z
      rw [show 0 + 112 + 17 * 7 + 11 + i = 112 + 17 * 7 + 11 + i by omega, show 0 + 34 + i = 34 + i by omega]
      exact z
  · have b1 : ∀ x, B 65 x = M 65 x := fun x => by rw [hB, e]
    have hk : kmM M = up (cp M 6 0 7 (M 1 2 * 17) 17) 1 2 (M 1 2 + 1) := if_neg (by omega)
    have hu2 : u = M 1 2 := by omega
    refine HS_keep (u := u) (sh := 0) q (by omega) (by omega) (kmM_1 (by decide)) (kmM_1 (by decide)) (by rw [hk, hu2]; rfl) (fun j hj => kmM_ne (by omega) (by omega)) (fun k x z1 z2 z3 z4 => ?_) (fun x z1 z2 => ?_) (fun x z1 z2 => ?_) ?_ (fun k x z1 z2 z3 z4 => ?_) ⟨?_, ?_, fun f z1 z2 => ?_, fun i z1 z2 => ⟨?_, ?_⟩⟩
    · show kmM M 7 (k * 17 + x) = M 7 ((k + 0) * 17 + x)
      rw [hk, up_ne (by decide), cp_out (by omega), Int.add_zero]
    · show kmM M 7 (u * 17 + x) = M 6 x
      rw [hk, up_ne (by decide), hu2, cp_in (by omega), show 0 + (M 1 2 * 17 + x - M 1 2 * 17) = x by omega]
    · rw [hlo x (by omega)]
    · show M3 65 111 = u + 1
      exact md3
    · have z := md8 k x z1 (by omega) z3 z4
      rw [b1] at z
      rw [show 0 + 112 + 17 * k + x = 112 + 17 * k + x by omega, show 0 + 112 + 17 * (k + 0) + x = 112 + 17 * k + x by omega]
      exact z
    · have z := md4
      rw [b1] at z
      rw [show 0 + 112 + 17 * u = 112 + 17 * u by omega]
      exact z
    · have z := md5
      rw [b1] at z
      rw [show 0 + 112 + 17 * u + 1 = 112 + 17 * u + 1 by omega]
      exact z
    · have z := md6 f z1 z2
      rw [b1] at z
      rw [show 0 + 112 + 17 * u + 2 + f = 112 + 17 * u + 2 + f by omega, show 0 + 7 + f = 7 + f by omega]
      exact z
    · have z := (md7 i z1 z2).1
      rw [b1] at z
      rw [show 0 + 112 + 17 * u + 5 + i = 112 + 17 * u + 5 + i by omega, show 0 + 28 + i = 28 + i by omega]
      exact z
    · have z := (md7 i z1 z2).2
      rw [b1] at z
      rw [show 0 + 112 + 17 * u + 11 + i = 112 + 17 * u + 11 + i by omega, show 0 + 34 + i = 34 + i by omega]
      exact z
/-- the moment now: steps, loads, owners, falls and hour may change, one of each at the most -/
theorem HS_set {K M2 : Mm} {W W2 : Int → Int} {b b' : Int} (q : HS K 1 W 0 b) (hb : b ≤ b') (e0 : M2 1 = K 1) (er : ∀ r, 2 ≤ r → r ≤ 13 → r ≠ 6 → M2 r = K r) (wr : ∀ x, 0 ≤ x → x < 248 → (x < 2 ∨ (4 ≤ x ∧ x < 7) ∨ (10 ≤ x ∧ x < 28) ∨ 40 ≤ x) → W2 x = W x) (n16 : (M2 6 16 = K 6 16 ∧ W2 2 = W 2) ∨ ((0 ≤ M2 6 16 ∧ M2 6 16 ≤ 9999) ∧ M2 6 16 = W2 2)) (n15 : (M2 6 15 = K 6 15 ∧ W2 3 = W 3) ∨ ((0 ≤ M2 6 15 ∧ M2 6 15 ≤ b') ∧ M2 6 15 = W2 3)) (nf : ∀ f, 0 ≤ f → f < K 1 0 → (M2 6 (12 + f) = K 6 (12 + f) ∧ W2 (7 + f) = W (7 + f)) ∨ ((1 ≤ M2 6 (12 + f) ∧ M2 6 (12 + f) ≤ 10) ∧ M2 6 (12 + f) = W2 (7 + f))) (ns : ∀ i, 0 ≤ i → i < K 1 1 → (M2 6 i = K 6 i ∧ W2 (28 + i) = W (28 + i)) ∨ ((0 ≤ M2 6 i ∧ M2 6 i ≤ 11) ∧ M2 6 i = W2 (28 + i))) (nl : ∀ i, 0 ≤ i → i < K 1 1 → (M2 6 (6 + i) = K 6 (6 + i) ∧ W2 (34 + i) = W (34 + i)) ∨ ((0 ≤ M2 6 (6 + i) ∧ M2 6 (6 + i) ≤ 9) ∧ M2 6 (6 + i) = W2 (34 + i))) : HS M2 1 W2 0 b' := by
  obtain ⟨⟨c0, c1, c2, c3, c4, f0, f1, f2, f3, f4⟩, qf, qg, -⟩ := id q
  have c3' : 0 ≤ K 6 16 ∧ K 6 16 ≤ 9999 := c3
  have c4' : 0 ≤ K 6 15 ∧ K 6 15 ≤ b := c4
  have f3' : K 6 16 = W 2 := f3
  have f4' : K 6 15 = W 3 := f4
  refine HS_now q hb e0 (fun j hj => er _ (by omega) (by omega) (by omega)) (fun x z1 z2 z3 => wr x z1 (by omega) (by omega)) ?_ ?_ ?_ ?_ (fun f z1 z2 => ?_) (fun i z1 z2 => ?_)
  · show 0 ≤ M2 6 16 ∧ M2 6 16 ≤ 9999; omega
  · show 0 ≤ M2 6 15 ∧ M2 6 15 ≤ b'; omega
  · show M2 6 16 = W2 2; omega
  · show M2 6 15 = W2 3; omega
  · have y := qf f z1 z2
    have y2 : 1 ≤ K 6 (12 + f) ∧ K 6 (12 + f) ≤ 10 := y.2.1
    have y4 : K 6 (12 + f) = W (7 + f) := y.2.2.2
    have n := nf f z1 z2
    show (1 ≤ M2 6 (12 + f) ∧ M2 6 (12 + f) ≤ 10) ∧ M2 6 (12 + f) = W2 (7 + f)
    omega
  · have y := qg i z1 z2
    have y1 : 0 ≤ K 6 i ∧ K 6 i ≤ 11 := y.1.2.2.2.1
    have y2 : 0 ≤ K 6 (6 + i) ∧ K 6 (6 + i) ≤ 9 := y.1.2.2.2.2
    have y3 : K 6 i = W (28 + i) := y.2.2.2.2.1
    have y4 : K 6 (6 + i) = W (34 + i) := y.2.2.2.2.2
    have n := ns i z1 z2
    have l := nl i z1 z2
    show (0 ≤ M2 6 i ∧ M2 6 i ≤ 11) ∧ (0 ≤ M2 6 (6 + i) ∧ M2 6 (6 + i) ≤ 9) ∧ M2 6 i = W2 (28 + i) ∧ M2 6 (6 + i) = W2 (34 + i)
    omega
/-- a move: the class keeps the moment and changes now; so does the reference -/
theorem Rl_move {M M1 M2 M3 : Mm} {n : Nat} (h : Rl M n) (e1 : ∀ r, r ≠ 6 → M1 r = kmM M r) (hMo : MoP M1 M3) (e2 : ∀ r, r ≠ 65 → M2 r = M1 r) (wo : ∀ x, 40 ≤ x → M2 65 x = M3 65 x) (hs : HS (kmM M) 1 (M3 65) 0 (200 + n) → HS M2 1 (M2 65) 0 (200 + (n + 1 : Nat))) : Rl M2 (n + 1) := by
  have z : ∀ r, r ≠ 1 → r ≠ 6 → r ≠ 7 → r ≠ 65 → M2 r = M r := fun r z1 z6 z7 z65 => by rw [e2 r z65, e1 r z6, kmM_ne z1 z7]
  have e65 : M1 65 = M 65 := by rw [e1 65 (by decide), kmM_ne (by decide) (by decide)]
  refine Rl_house h (z 0 (by decide) (by decide) (by decide) (by decide)) (fun r z1 z2 => z r (by omega) (by omega) (by omega) (by omega)) (LK_eq (z _ (by decide) (by decide) (by decide) (by decide)) (z _ (by decide) (by decide) (by decide) (by decide)) (z _ (by decide) (by decide) (by decide) (by decide)) h.2.2.2.2.1.2.2) (by rw [z 59 (by decide) (by decide) (by decide) (by decide)]) (z _ (by decide) (by decide) (by decide) (by decide)) (fun j hj => by rw [z 64 (by decide) (by decide) (by decide) (by decide)]) (fun j z1 z2 => by rw [wo j (by omega), hMo.2.1 j (by omega), e65]) (z _ (by decide) (by decide) (by decide) (by decide)) (z _ (by decide) (by decide) (by decide) (by decide)) (z _ (by decide) (by decide) (by decide) (by decide)) (hs (HS_km h.2.2.2.2.2 e65 hMo))

