/-! members side by side: up, dark, years, digest (written by wip/whole/gen83.py) -/
theorem HS_tk_40_1 {M : Mm} {W W' : Int → Int} {o o' c : Int} (lk : LK M 40) (hW : ∀ j, 0 ≤ j → j < 248 → W' (o' + j) = W (o + j)) (q : HS M 1 W o c) : HS (tkM M 40 1) 40 W' o' c := by
  refine HS_copy (M := M) (M' := tkM M 40 1) (h := 1) (h' := 40) (fun j h0 h1 => ?_) (fun j h0 h1 => ?_) (fun j h0 h1 => ?_) (fun j h0 h1 => ?_) (fun j h0 h1 => ?_) (fun j h0 h1 => ?_) (fun j h0 h1 => ?_) ⟨lk.1.1, lk.1.2, rfl⟩ (fun j h0 h1 => ?_) ⟨lk.2.1.1, lk.2.1.2, rfl⟩ (fun j h0 h1 => ?_) ⟨lk.2.2.1, lk.2.2.2, rfl⟩ (fun j h0 h1 => ?_) hW q
  · rcases (show j = 0 ∨ j = 1 ∨ j = 2 by omega) with rfl | rfl | rfl <;> rfl
  · show (if 41 = 41 ∧ 0 ≤ j ∧ j < 0 + 3 then M 2 (0 + (j - 0)) else M 41 j) = M 2 j
    rw [if_pos ⟨rfl, h0, by omega⟩, show 0 + (j - 0) = j by omega]
  · show (if 42 = 42 ∧ 0 ≤ j ∧ j < 0 + 6 then M 3 (0 + (j - 0)) else M 42 j) = M 3 j
    rw [if_pos ⟨rfl, h0, by omega⟩, show 0 + (j - 0) = j by omega]
  · show (if 43 = 43 ∧ 0 ≤ j ∧ j < 0 + 6 then M 4 (0 + (j - 0)) else M 43 j) = M 4 j
    rw [if_pos ⟨rfl, h0, by omega⟩, show 0 + (j - 0) = j by omega]
  · show (if 44 = 44 ∧ 0 ≤ j ∧ j < 0 + 6 then M 5 (0 + (j - 0)) else M 44 j) = M 5 j
    rw [if_pos ⟨rfl, h0, by omega⟩, show 0 + (j - 0) = j by omega]
  · show (if 45 = 45 ∧ 0 ≤ j ∧ j < 0 + 17 then M 6 (0 + (j - 0)) else M 45 j) = M 6 j
    rw [if_pos ⟨rfl, h0, by omega⟩, show 0 + (j - 0) = j by omega]
  · show (if 46 = 46 ∧ 0 ≤ j ∧ j < 0 + 136 then M 7 (0 + (j - 0)) else M 46 j) = M 7 j
    rw [if_pos ⟨rfl, h0, by omega⟩, show 0 + (j - 0) = j by omega]
  · show (if 48 = 48 ∧ 0 ≤ j ∧ j < 0 + 20 then M 9 (0 + (j - 0)) else M 48 j) = M 9 j
    rw [if_pos ⟨rfl, h0, by omega⟩, show 0 + (j - 0) = j by omega]
  · show (if 50 = 50 ∧ 0 ≤ j ∧ j < 0 + 18 then M 11 (0 + (j - 0)) else M 50 j) = M 11 j
    rw [if_pos ⟨rfl, h0, by omega⟩, show 0 + (j - 0) = j by omega]
  · show (if 52 = 52 ∧ 0 ≤ j ∧ j < 0 + 30 then M 13 (0 + (j - 0)) else M 52 j) = M 13 j
    rw [if_pos ⟨rfl, h0, by omega⟩, show 0 + (j - 0) = j by omega]
theorem HS_tk_14_1 {M : Mm} {W W' : Int → Int} {o o' c : Int} (lk : LK M 14) (hW : ∀ j, 0 ≤ j → j < 248 → W' (o' + j) = W (o + j)) (q : HS M 1 W o c) : HS (tkM M 14 1) 14 W' o' c := by
  refine HS_copy (M := M) (M' := tkM M 14 1) (h := 1) (h' := 14) (fun j h0 h1 => ?_) (fun j h0 h1 => ?_) (fun j h0 h1 => ?_) (fun j h0 h1 => ?_) (fun j h0 h1 => ?_) (fun j h0 h1 => ?_) (fun j h0 h1 => ?_) ⟨lk.1.1, lk.1.2, rfl⟩ (fun j h0 h1 => ?_) ⟨lk.2.1.1, lk.2.1.2, rfl⟩ (fun j h0 h1 => ?_) ⟨lk.2.2.1, lk.2.2.2, rfl⟩ (fun j h0 h1 => ?_) hW q
  · rcases (show j = 0 ∨ j = 1 ∨ j = 2 by omega) with rfl | rfl | rfl <;> rfl
  · show (if 15 = 15 ∧ 0 ≤ j ∧ j < 0 + 3 then M 2 (0 + (j - 0)) else M 15 j) = M 2 j
    rw [if_pos ⟨rfl, h0, by omega⟩, show 0 + (j - 0) = j by omega]
  · show (if 16 = 16 ∧ 0 ≤ j ∧ j < 0 + 6 then M 3 (0 + (j - 0)) else M 16 j) = M 3 j
    rw [if_pos ⟨rfl, h0, by omega⟩, show 0 + (j - 0) = j by omega]
  · show (if 17 = 17 ∧ 0 ≤ j ∧ j < 0 + 6 then M 4 (0 + (j - 0)) else M 17 j) = M 4 j
    rw [if_pos ⟨rfl, h0, by omega⟩, show 0 + (j - 0) = j by omega]
  · show (if 18 = 18 ∧ 0 ≤ j ∧ j < 0 + 6 then M 5 (0 + (j - 0)) else M 18 j) = M 5 j
    rw [if_pos ⟨rfl, h0, by omega⟩, show 0 + (j - 0) = j by omega]
  · show (if 19 = 19 ∧ 0 ≤ j ∧ j < 0 + 17 then M 6 (0 + (j - 0)) else M 19 j) = M 6 j
    rw [if_pos ⟨rfl, h0, by omega⟩, show 0 + (j - 0) = j by omega]
  · show (if 20 = 20 ∧ 0 ≤ j ∧ j < 0 + 136 then M 7 (0 + (j - 0)) else M 20 j) = M 7 j
    rw [if_pos ⟨rfl, h0, by omega⟩, show 0 + (j - 0) = j by omega]
  · show (if 22 = 22 ∧ 0 ≤ j ∧ j < 0 + 20 then M 9 (0 + (j - 0)) else M 22 j) = M 9 j
    rw [if_pos ⟨rfl, h0, by omega⟩, show 0 + (j - 0) = j by omega]
  · show (if 24 = 24 ∧ 0 ≤ j ∧ j < 0 + 18 then M 11 (0 + (j - 0)) else M 24 j) = M 11 j
    rw [if_pos ⟨rfl, h0, by omega⟩, show 0 + (j - 0) = j by omega]
  · show (if 26 = 26 ∧ 0 ≤ j ∧ j < 0 + 30 then M 13 (0 + (j - 0)) else M 26 j) = M 13 j
    rw [if_pos ⟨rfl, h0, by omega⟩, show 0 + (j - 0) = j by omega]
theorem HS_tk_27_1 {M : Mm} {W W' : Int → Int} {o o' c : Int} (lk : LK M 27) (hW : ∀ j, 0 ≤ j → j < 248 → W' (o' + j) = W (o + j)) (q : HS M 1 W o c) : HS (tkM M 27 1) 27 W' o' c := by
  refine HS_copy (M := M) (M' := tkM M 27 1) (h := 1) (h' := 27) (fun j h0 h1 => ?_) (fun j h0 h1 => ?_) (fun j h0 h1 => ?_) (fun j h0 h1 => ?_) (fun j h0 h1 => ?_) (fun j h0 h1 => ?_) (fun j h0 h1 => ?_) ⟨lk.1.1, lk.1.2, rfl⟩ (fun j h0 h1 => ?_) ⟨lk.2.1.1, lk.2.1.2, rfl⟩ (fun j h0 h1 => ?_) ⟨lk.2.2.1, lk.2.2.2, rfl⟩ (fun j h0 h1 => ?_) hW q
  · rcases (show j = 0 ∨ j = 1 ∨ j = 2 by omega) with rfl | rfl | rfl <;> rfl
  · show (if 28 = 28 ∧ 0 ≤ j ∧ j < 0 + 3 then M 2 (0 + (j - 0)) else M 28 j) = M 2 j
    rw [if_pos ⟨rfl, h0, by omega⟩, show 0 + (j - 0) = j by omega]
  · show (if 29 = 29 ∧ 0 ≤ j ∧ j < 0 + 6 then M 3 (0 + (j - 0)) else M 29 j) = M 3 j
    rw [if_pos ⟨rfl, h0, by omega⟩, show 0 + (j - 0) = j by omega]
  · show (if 30 = 30 ∧ 0 ≤ j ∧ j < 0 + 6 then M 4 (0 + (j - 0)) else M 30 j) = M 4 j
    rw [if_pos ⟨rfl, h0, by omega⟩, show 0 + (j - 0) = j by omega]
  · show (if 31 = 31 ∧ 0 ≤ j ∧ j < 0 + 6 then M 5 (0 + (j - 0)) else M 31 j) = M 5 j
    rw [if_pos ⟨rfl, h0, by omega⟩, show 0 + (j - 0) = j by omega]
  · show (if 32 = 32 ∧ 0 ≤ j ∧ j < 0 + 17 then M 6 (0 + (j - 0)) else M 32 j) = M 6 j
    rw [if_pos ⟨rfl, h0, by omega⟩, show 0 + (j - 0) = j by omega]
  · show (if 33 = 33 ∧ 0 ≤ j ∧ j < 0 + 136 then M 7 (0 + (j - 0)) else M 33 j) = M 7 j
    rw [if_pos ⟨rfl, h0, by omega⟩, show 0 + (j - 0) = j by omega]
  · show (if 35 = 35 ∧ 0 ≤ j ∧ j < 0 + 20 then M 9 (0 + (j - 0)) else M 35 j) = M 9 j
    rw [if_pos ⟨rfl, h0, by omega⟩, show 0 + (j - 0) = j by omega]
  · show (if 37 = 37 ∧ 0 ≤ j ∧ j < 0 + 18 then M 11 (0 + (j - 0)) else M 37 j) = M 11 j
    rw [if_pos ⟨rfl, h0, by omega⟩, show 0 + (j - 0) = j by omega]
  · show (if 39 = 39 ∧ 0 ≤ j ∧ j < 0 + 30 then M 13 (0 + (j - 0)) else M 39 j) = M 13 j
    rw [if_pos ⟨rfl, h0, by omega⟩, show 0 + (j - 0) = j by omega]
theorem HS_tk_1_40 {M : Mm} {W W' : Int → Int} {o o' c : Int} (lk : LK M 1) (hW : ∀ j, 0 ≤ j → j < 248 → W' (o' + j) = W (o + j)) (q : HS M 40 W o c) : HS (tkM M 1 40) 1 W' o' c := by
  refine HS_copy (M := M) (M' := tkM M 1 40) (h := 40) (h' := 1) (fun j h0 h1 => ?_) (fun j h0 h1 => ?_) (fun j h0 h1 => ?_) (fun j h0 h1 => ?_) (fun j h0 h1 => ?_) (fun j h0 h1 => ?_) (fun j h0 h1 => ?_) ⟨lk.1.1, lk.1.2, rfl⟩ (fun j h0 h1 => ?_) ⟨lk.2.1.1, lk.2.1.2, rfl⟩ (fun j h0 h1 => ?_) ⟨lk.2.2.1, lk.2.2.2, rfl⟩ (fun j h0 h1 => ?_) hW q
  · rcases (show j = 0 ∨ j = 1 ∨ j = 2 by omega) with rfl | rfl | rfl <;> rfl
  · show (if 2 = 2 ∧ 0 ≤ j ∧ j < 0 + 3 then M 41 (0 + (j - 0)) else M 2 j) = M 41 j
    rw [if_pos ⟨rfl, h0, by omega⟩, show 0 + (j - 0) = j by omega]
  · show (if 3 = 3 ∧ 0 ≤ j ∧ j < 0 + 6 then M 42 (0 + (j - 0)) else M 3 j) = M 42 j
    rw [if_pos ⟨rfl, h0, by omega⟩, show 0 + (j - 0) = j by omega]
  · show (if 4 = 4 ∧ 0 ≤ j ∧ j < 0 + 6 then M 43 (0 + (j - 0)) else M 4 j) = M 43 j
    rw [if_pos ⟨rfl, h0, by omega⟩, show 0 + (j - 0) = j by omega]
  · show (if 5 = 5 ∧ 0 ≤ j ∧ j < 0 + 6 then M 44 (0 + (j - 0)) else M 5 j) = M 44 j
    rw [if_pos ⟨rfl, h0, by omega⟩, show 0 + (j - 0) = j by omega]
  · show (if 6 = 6 ∧ 0 ≤ j ∧ j < 0 + 17 then M 45 (0 + (j - 0)) else M 6 j) = M 45 j
    rw [if_pos ⟨rfl, h0, by omega⟩, show 0 + (j - 0) = j by omega]
  · show (if 7 = 7 ∧ 0 ≤ j ∧ j < 0 + 136 then M 46 (0 + (j - 0)) else M 7 j) = M 46 j
    rw [if_pos ⟨rfl, h0, by omega⟩, show 0 + (j - 0) = j by omega]
  · show (if 9 = 9 ∧ 0 ≤ j ∧ j < 0 + 20 then M 48 (0 + (j - 0)) else M 9 j) = M 48 j
    rw [if_pos ⟨rfl, h0, by omega⟩, show 0 + (j - 0) = j by omega]
  · show (if 11 = 11 ∧ 0 ≤ j ∧ j < 0 + 18 then M 50 (0 + (j - 0)) else M 11 j) = M 50 j
    rw [if_pos ⟨rfl, h0, by omega⟩, show 0 + (j - 0) = j by omega]
  · show (if 13 = 13 ∧ 0 ≤ j ∧ j < 0 + 30 then M 52 (0 + (j - 0)) else M 13 j) = M 52 j
    rw [if_pos ⟨rfl, h0, by omega⟩, show 0 + (j - 0) = j by omega]
theorem HS_tk_1_14 {M : Mm} {W W' : Int → Int} {o o' c : Int} (lk : LK M 1) (hW : ∀ j, 0 ≤ j → j < 248 → W' (o' + j) = W (o + j)) (q : HS M 14 W o c) : HS (tkM M 1 14) 1 W' o' c := by
  refine HS_copy (M := M) (M' := tkM M 1 14) (h := 14) (h' := 1) (fun j h0 h1 => ?_) (fun j h0 h1 => ?_) (fun j h0 h1 => ?_) (fun j h0 h1 => ?_) (fun j h0 h1 => ?_) (fun j h0 h1 => ?_) (fun j h0 h1 => ?_) ⟨lk.1.1, lk.1.2, rfl⟩ (fun j h0 h1 => ?_) ⟨lk.2.1.1, lk.2.1.2, rfl⟩ (fun j h0 h1 => ?_) ⟨lk.2.2.1, lk.2.2.2, rfl⟩ (fun j h0 h1 => ?_) hW q
  · rcases (show j = 0 ∨ j = 1 ∨ j = 2 by omega) with rfl | rfl | rfl <;> rfl
  · show (if 2 = 2 ∧ 0 ≤ j ∧ j < 0 + 3 then M 15 (0 + (j - 0)) else M 2 j) = M 15 j
    rw [if_pos ⟨rfl, h0, by omega⟩, show 0 + (j - 0) = j by omega]
  · show (if 3 = 3 ∧ 0 ≤ j ∧ j < 0 + 6 then M 16 (0 + (j - 0)) else M 3 j) = M 16 j
    rw [if_pos ⟨rfl, h0, by omega⟩, show 0 + (j - 0) = j by omega]
  · show (if 4 = 4 ∧ 0 ≤ j ∧ j < 0 + 6 then M 17 (0 + (j - 0)) else M 4 j) = M 17 j
    rw [if_pos ⟨rfl, h0, by omega⟩, show 0 + (j - 0) = j by omega]
  · show (if 5 = 5 ∧ 0 ≤ j ∧ j < 0 + 6 then M 18 (0 + (j - 0)) else M 5 j) = M 18 j
    rw [if_pos ⟨rfl, h0, by omega⟩, show 0 + (j - 0) = j by omega]
  · show (if 6 = 6 ∧ 0 ≤ j ∧ j < 0 + 17 then M 19 (0 + (j - 0)) else M 6 j) = M 19 j
    rw [if_pos ⟨rfl, h0, by omega⟩, show 0 + (j - 0) = j by omega]
  · show (if 7 = 7 ∧ 0 ≤ j ∧ j < 0 + 136 then M 20 (0 + (j - 0)) else M 7 j) = M 20 j
    rw [if_pos ⟨rfl, h0, by omega⟩, show 0 + (j - 0) = j by omega]
  · show (if 9 = 9 ∧ 0 ≤ j ∧ j < 0 + 20 then M 22 (0 + (j - 0)) else M 9 j) = M 22 j
    rw [if_pos ⟨rfl, h0, by omega⟩, show 0 + (j - 0) = j by omega]
  · show (if 11 = 11 ∧ 0 ≤ j ∧ j < 0 + 18 then M 24 (0 + (j - 0)) else M 11 j) = M 24 j
    rw [if_pos ⟨rfl, h0, by omega⟩, show 0 + (j - 0) = j by omega]
  · show (if 13 = 13 ∧ 0 ≤ j ∧ j < 0 + 30 then M 26 (0 + (j - 0)) else M 13 j) = M 26 j
    rw [if_pos ⟨rfl, h0, by omega⟩, show 0 + (j - 0) = j by omega]
theorem HS_tk_1_27 {M : Mm} {W W' : Int → Int} {o o' c : Int} (lk : LK M 1) (hW : ∀ j, 0 ≤ j → j < 248 → W' (o' + j) = W (o + j)) (q : HS M 27 W o c) : HS (tkM M 1 27) 1 W' o' c := by
  refine HS_copy (M := M) (M' := tkM M 1 27) (h := 27) (h' := 1) (fun j h0 h1 => ?_) (fun j h0 h1 => ?_) (fun j h0 h1 => ?_) (fun j h0 h1 => ?_) (fun j h0 h1 => ?_) (fun j h0 h1 => ?_) (fun j h0 h1 => ?_) ⟨lk.1.1, lk.1.2, rfl⟩ (fun j h0 h1 => ?_) ⟨lk.2.1.1, lk.2.1.2, rfl⟩ (fun j h0 h1 => ?_) ⟨lk.2.2.1, lk.2.2.2, rfl⟩ (fun j h0 h1 => ?_) hW q
  · rcases (show j = 0 ∨ j = 1 ∨ j = 2 by omega) with rfl | rfl | rfl <;> rfl
  · show (if 2 = 2 ∧ 0 ≤ j ∧ j < 0 + 3 then M 28 (0 + (j - 0)) else M 2 j) = M 28 j
    rw [if_pos ⟨rfl, h0, by omega⟩, show 0 + (j - 0) = j by omega]
  · show (if 3 = 3 ∧ 0 ≤ j ∧ j < 0 + 6 then M 29 (0 + (j - 0)) else M 3 j) = M 29 j
    rw [if_pos ⟨rfl, h0, by omega⟩, show 0 + (j - 0) = j by omega]
  · show (if 4 = 4 ∧ 0 ≤ j ∧ j < 0 + 6 then M 30 (0 + (j - 0)) else M 4 j) = M 30 j
    rw [if_pos ⟨rfl, h0, by omega⟩, show 0 + (j - 0) = j by omega]
  · show (if 5 = 5 ∧ 0 ≤ j ∧ j < 0 + 6 then M 31 (0 + (j - 0)) else M 5 j) = M 31 j
    rw [if_pos ⟨rfl, h0, by omega⟩, show 0 + (j - 0) = j by omega]
  · show (if 6 = 6 ∧ 0 ≤ j ∧ j < 0 + 17 then M 32 (0 + (j - 0)) else M 6 j) = M 32 j
    rw [if_pos ⟨rfl, h0, by omega⟩, show 0 + (j - 0) = j by omega]
  · show (if 7 = 7 ∧ 0 ≤ j ∧ j < 0 + 136 then M 33 (0 + (j - 0)) else M 7 j) = M 33 j
    rw [if_pos ⟨rfl, h0, by omega⟩, show 0 + (j - 0) = j by omega]
  · show (if 9 = 9 ∧ 0 ≤ j ∧ j < 0 + 20 then M 35 (0 + (j - 0)) else M 9 j) = M 35 j
    rw [if_pos ⟨rfl, h0, by omega⟩, show 0 + (j - 0) = j by omega]
  · show (if 11 = 11 ∧ 0 ≤ j ∧ j < 0 + 18 then M 37 (0 + (j - 0)) else M 11 j) = M 37 j
    rw [if_pos ⟨rfl, h0, by omega⟩, show 0 + (j - 0) = j by omega]
  · show (if 13 = 13 ∧ 0 ≤ j ∧ j < 0 + 30 then M 39 (0 + (j - 0)) else M 13 j) = M 39 j
    rw [if_pos ⟨rfl, h0, by omega⟩, show 0 + (j - 0) = j by omega]
theorem S_up (i k : Int) (M : Mm) (n : Nat) (h : Rl M n) (hn : n < 512) : Same 72 186 [vi i, vi k] M n := by
  obtain ⟨k0, k1, k2, k3, k4, k5, k6, k7, l0, l1, l2, l3, l4⟩ := Rl_c h
  refine Ct.imp (C_up i k M (Rl_HI h (by omega)) (Rl_st h (by omega))) ?_
  rintro r1 M1 (⟨a0, a1, ha, hm⟩ | ⟨a0, a1, F, A, hRow, a2, ha, hm⟩ | ⟨a0, a1, F, A, hRow, a2, a3, ha, hm⟩ | ⟨a0, a1, F, A, hRow, a2, a3, a4, a5, ha, hm⟩ | ⟨a0, a1, F, A, hRow, a2, a3, a4, a5, ha, hm⟩ | ⟨a0, a1, F, A, hRow, a2, a3, a4, ha, hm⟩ | ⟨a0, ha, hm⟩)
  · have e65 : M1 65 = M 65 := by subst hm; rfl
    have e68 : M1 68 = M 68 := by subst hm; rfl
    refine Ct.imp (R_up i k M1 (RI_eq e65 (Rl_RI h (by omega))) (by rw [e68]; exact Rl_sr h (by omega))) ?_
    rintro r2 M2 (⟨b1, hb1, hm2⟩ | ⟨b1, T, hm2, hb1⟩)
    · exact ⟨by rw [ha, hb1], Rl_ref h 0 (Or.inl rfl) (by rw [← hm2, ← hm]; rfl)⟩
    · rw [e65] at b1; exfalso; omega
  · have e65 : M1 65 = M 65 := by subst hm; rfl
    have e68 : M1 68 = M 68 := by subst hm; rfl
    refine Ct.imp (R_up i k M1 (RI_eq e65 (Rl_RI h (by omega))) (by rw [e68]; exact Rl_sr h (by omega))) ?_
    rintro r2 M2 (⟨b1, hb1, hm2⟩ | ⟨b1, T, hm2, hb1⟩)
    · rw [e65] at b1; exfalso; omega
    · have gi := Rl_g h a0.1 a0.2
      have bi := e_bar h a0
      rw [e65, ← gi.1.1, ← gi.1.2.1, ← gi.1.2.2.2.1, ← gi.1.2.2.2.2, ← bi.1, ← bi.2, ← k3] at hb1
      have td := dc_cases (TV (sfF (M 3 i) (M 4 i) (M 6 (6 + i)) (M 6 16 % 24)) (bb (M 6 (12 + (M 5 i))) (bcF (M 2 (M 5 i)) (M 6 16 % 24))) (M 6 i))
      have tf := TV_fin (far := (sfF (M 3 i) (M 4 i) (M 6 (6 + i)) (M 6 16 % 24))) (b := (bb (M 6 (12 + (M 5 i))) (bcF (M 2 (M 5 i)) (M 6 16 % 24)))) (x := M 6 i) (by omega) (by omega)
      have z2 :  dc (TV (sfF (M 3 i) (M 4 i) (M 6 (6 + i)) (M 6 16 % 24)) (bb (M 6 (12 + (M 5 i))) (bcF (M 2 (M 5 i)) (M 6 16 % 24))) (M 6 i)) = -1 := a2
      refine ⟨?_, Rl_q h (fun r hr => by rw [← hm2, sr_ne (by omega), ← hm, sr_ne (by omega), up_ne (by omega), sr_ne (by omega)])⟩
      rcases hb1 with ⟨d1, d2⟩ | ⟨d1, d2, d3⟩ | ⟨d1, d2, d3, d4⟩ | ⟨d1, d2, d3, B, d4, d5⟩
      · rw [ha, d2]
      · exfalso; omega
      · exfalso; omega
      · exfalso; omega
  · have e65 : M1 65 = M 65 := by subst hm; rfl
    have e68 : M1 68 = M 68 := by subst hm; rfl
    refine Ct.imp (R_up i k M1 (RI_eq e65 (Rl_RI h (by omega))) (by rw [e68]; exact Rl_sr h (by omega))) ?_
    rintro r2 M2 (⟨b1, hb1, hm2⟩ | ⟨b1, T, hm2, hb1⟩)
    · rw [e65] at b1; exfalso; omega
    · have gi := Rl_g h a0.1 a0.2
      have bi := e_bar h a0
      rw [e65, ← gi.1.1, ← gi.1.2.1, ← gi.1.2.2.2.1, ← gi.1.2.2.2.2, ← bi.1, ← bi.2, ← k3] at hb1
      have td := dc_cases (TV (sfF (M 3 i) (M 4 i) (M 6 (6 + i)) (M 6 16 % 24)) (bb (M 6 (12 + (M 5 i))) (bcF (M 2 (M 5 i)) (M 6 16 % 24))) (M 6 i))
      have tf := TV_fin (far := (sfF (M 3 i) (M 4 i) (M 6 (6 + i)) (M 6 16 % 24))) (b := (bb (M 6 (12 + (M 5 i))) (bcF (M 2 (M 5 i)) (M 6 16 % 24)))) (x := M 6 i) (by omega) (by omega)
      have z2 : ¬ ( dc (TV (sfF (M 3 i) (M 4 i) (M 6 (6 + i)) (M 6 16 % 24)) (bb (M 6 (12 + (M 5 i))) (bcF (M 2 (M 5 i)) (M 6 16 % 24))) (M 6 i)) = -1) := a2
      refine ⟨?_, Rl_q h (fun r hr => by rw [← hm2, sr_ne (by omega), ← hm, sr_ne (by omega), up_ne (by omega), sr_ne (by omega)])⟩
      rcases hb1 with ⟨d1, d2⟩ | ⟨d1, d2, d3⟩ | ⟨d1, d2, d3, d4⟩ | ⟨d1, d2, d3, B, d4, d5⟩
      · exfalso; omega
      · rw [ha, d3]; exact some_vi (show dc (TV (sfF (M 3 i) (M 4 i) (M 6 (6 + i)) (M 6 16 % 24)) (bb (M 6 (12 + (M 5 i))) (bcF (M 2 (M 5 i)) (M 6 16 % 24))) (M 6 i)) = (TV (sfF (M 3 i) (M 4 i) (M 6 (6 + i)) (M 6 16 % 24)) (bb (M 6 (12 + (M 5 i))) (bcF (M 2 (M 5 i)) (M 6 16 % 24))) (M 6 i)) by omega)
      · exfalso; omega
      · exfalso; omega
  · have e65 : M1 65 = M 65 := by subst hm; rfl
    have e68 : M1 68 = M 68 := by subst hm; rfl
    refine Ct.imp (R_up i k M1 (RI_eq e65 (Rl_RI h (by omega))) (by rw [e68]; exact Rl_sr h (by omega))) ?_
    rintro r2 M2 (⟨b1, hb1, hm2⟩ | ⟨b1, T, hm2, hb1⟩)
    · rw [e65] at b1; exfalso; omega
    · have gi := Rl_g h a0.1 a0.2
      have bi := e_bar h a0
      rw [e65, ← gi.1.1, ← gi.1.2.1, ← gi.1.2.2.2.1, ← gi.1.2.2.2.2, ← bi.1, ← bi.2, ← k3] at hb1
      have td := dc_cases (TV (sfF (M 3 i) (M 4 i) (M 6 (6 + i)) (M 6 16 % 24)) (bb (M 6 (12 + (M 5 i))) (bcF (M 2 (M 5 i)) (M 6 16 % 24))) (M 6 i))
      have tf := TV_fin (far := (sfF (M 3 i) (M 4 i) (M 6 (6 + i)) (M 6 16 % 24))) (b := (bb (M 6 (12 + (M 5 i))) (bcF (M 2 (M 5 i)) (M 6 16 % 24)))) (x := M 6 i) (by omega) (by omega)
      have z2 : ¬ ( dc (TV (sfF (M 3 i) (M 4 i) (M 6 (6 + i)) (M 6 16 % 24)) (bb (M 6 (12 + (M 5 i))) (bcF (M 2 (M 5 i)) (M 6 16 % 24))) (M 6 i)) = -1) := a2
      have z4 : k < dc (TV (sfF (M 3 i) (M 4 i) (M 6 (6 + i)) (M 6 16 % 24)) (bb (M 6 (12 + (M 5 i))) (bcF (M 2 (M 5 i)) (M 6 16 % 24))) (M 6 i)) := a4
      refine ⟨?_, Rl_q h (fun r hr => by rw [← hm2, sr_ne (by omega), ← hm, sr_ne (by omega), up_ne (by omega), sr_ne (by omega)])⟩
      rcases hb1 with ⟨d1, d2⟩ | ⟨d1, d2, d3⟩ | ⟨d1, d2, d3, d4⟩ | ⟨d1, d2, d3, B, d4, d5⟩
      · exfalso; omega
      · exfalso; omega
      · exfalso; omega
      · rw [ha, d5]
        have y := (RowP_one (k.toNat + 1) (fun m hm => hRow (by omega) m (by omega)) d4).2 k.toNat (by omega)
        rw [show ((k.toNat : Nat) : Int) = k by omega] at y
        exact some_vi (show A k = B k from y)
  · have e65 : M1 65 = M 65 := by subst hm; rfl
    have e68 : M1 68 = M 68 := by subst hm; rfl
    refine Ct.imp (R_up i k M1 (RI_eq e65 (Rl_RI h (by omega))) (by rw [e68]; exact Rl_sr h (by omega))) ?_
    rintro r2 M2 (⟨b1, hb1, hm2⟩ | ⟨b1, T, hm2, hb1⟩)
    · rw [e65] at b1; exfalso; omega
    · have gi := Rl_g h a0.1 a0.2
      have bi := e_bar h a0
      rw [e65, ← gi.1.1, ← gi.1.2.1, ← gi.1.2.2.2.1, ← gi.1.2.2.2.2, ← bi.1, ← bi.2, ← k3] at hb1
      have td := dc_cases (TV (sfF (M 3 i) (M 4 i) (M 6 (6 + i)) (M 6 16 % 24)) (bb (M 6 (12 + (M 5 i))) (bcF (M 2 (M 5 i)) (M 6 16 % 24))) (M 6 i))
      have tf := TV_fin (far := (sfF (M 3 i) (M 4 i) (M 6 (6 + i)) (M 6 16 % 24))) (b := (bb (M 6 (12 + (M 5 i))) (bcF (M 2 (M 5 i)) (M 6 16 % 24)))) (x := M 6 i) (by omega) (by omega)
      have z2 : ¬ ( dc (TV (sfF (M 3 i) (M 4 i) (M 6 (6 + i)) (M 6 16 % 24)) (bb (M 6 (12 + (M 5 i))) (bcF (M 2 (M 5 i)) (M 6 16 % 24))) (M 6 i)) = -1) := a2
      have z4 : k < dc (TV (sfF (M 3 i) (M 4 i) (M 6 (6 + i)) (M 6 16 % 24)) (bb (M 6 (12 + (M 5 i))) (bcF (M 2 (M 5 i)) (M 6 16 % 24))) (M 6 i)) := a4
      have z5 : ¬ k < dc (TV (sfF (M 3 i) (M 4 i) (M 6 (6 + i)) (M 6 16 % 24)) (bb (M 6 (12 + (M 5 i))) (bcF (M 2 (M 5 i)) (M 6 16 % 24))) (M 6 i)) := a5
      refine ⟨?_, Rl_q h (fun r hr => by rw [← hm2, sr_ne (by omega), ← hm, sr_ne (by omega), up_ne (by omega), sr_ne (by omega)])⟩
      rcases hb1 with ⟨d1, d2⟩ | ⟨d1, d2, d3⟩ | ⟨d1, d2, d3, d4⟩ | ⟨d1, d2, d3, B, d4, d5⟩
      · exfalso; omega
      · exfalso; omega
      · exfalso; omega
      · exfalso; omega
  · have e65 : M1 65 = M 65 := by subst hm; rfl
    have e68 : M1 68 = M 68 := by subst hm; rfl
    refine Ct.imp (R_up i k M1 (RI_eq e65 (Rl_RI h (by omega))) (by rw [e68]; exact Rl_sr h (by omega))) ?_
    rintro r2 M2 (⟨b1, hb1, hm2⟩ | ⟨b1, T, hm2, hb1⟩)
    · rw [e65] at b1; exfalso; omega
    · have gi := Rl_g h a0.1 a0.2
      have bi := e_bar h a0
      rw [e65, ← gi.1.1, ← gi.1.2.1, ← gi.1.2.2.2.1, ← gi.1.2.2.2.2, ← bi.1, ← bi.2, ← k3] at hb1
      have td := dc_cases (TV (sfF (M 3 i) (M 4 i) (M 6 (6 + i)) (M 6 16 % 24)) (bb (M 6 (12 + (M 5 i))) (bcF (M 2 (M 5 i)) (M 6 16 % 24))) (M 6 i))
      have tf := TV_fin (far := (sfF (M 3 i) (M 4 i) (M 6 (6 + i)) (M 6 16 % 24))) (b := (bb (M 6 (12 + (M 5 i))) (bcF (M 2 (M 5 i)) (M 6 16 % 24)))) (x := M 6 i) (by omega) (by omega)
      have z2 : ¬ ( dc (TV (sfF (M 3 i) (M 4 i) (M 6 (6 + i)) (M 6 16 % 24)) (bb (M 6 (12 + (M 5 i))) (bcF (M 2 (M 5 i)) (M 6 16 % 24))) (M 6 i)) = -1) := a2
      have z4 : ¬ k < dc (TV (sfF (M 3 i) (M 4 i) (M 6 (6 + i)) (M 6 16 % 24)) (bb (M 6 (12 + (M 5 i))) (bcF (M 2 (M 5 i)) (M 6 16 % 24))) (M 6 i)) := a4
      refine ⟨?_, Rl_q h (fun r hr => by rw [← hm2, sr_ne (by omega), ← hm, sr_ne (by omega), up_ne (by omega), sr_ne (by omega)])⟩
      rcases hb1 with ⟨d1, d2⟩ | ⟨d1, d2, d3⟩ | ⟨d1, d2, d3, d4⟩ | ⟨d1, d2, d3, B, d4, d5⟩
      · exfalso; omega
      · exfalso; omega
      · rw [ha, d4]
      · exfalso; omega
  · have e65 : M1 65 = M 65 := by subst hm; rfl
    have e68 : M1 68 = M 68 := by subst hm; rfl
    refine Ct.imp (R_up i k M1 (RI_eq e65 (Rl_RI h (by omega))) (by rw [e68]; exact Rl_sr h (by omega))) ?_
    rintro r2 M2 (⟨b1, hb1, hm2⟩ | ⟨b1, T, hm2, hb1⟩)
    · exact ⟨by rw [ha, hb1], Rl_ref h 0 (Or.inl rfl) (by rw [← hm2, ← hm]; rfl)⟩
    · rw [e65] at b1; exfalso; omega
theorem Rl_frac {M M2 : Mm} {n : Nat} {x y : Int} (h : Rl M n) (c0 : M2 0 = st1 (st1 (M 0) 12 x) 13 y) (r64 : M2 64 = st1 (st1 (M 64) 4 x) 5 y) (hf : ∀ r, ((1 ≤ r ∧ r < 53) ∨ r = 59 ∨ r = 60 ∨ (65 ≤ r ∧ r ≤ 68)) → M2 r = M r) : Rl M2 (n + 1) := by
  obtain ⟨hS, hF, hI, hT, hL, hH⟩ := h
  have z : ∀ j, j ≠ 12 → j ≠ 13 → M2 0 j = M 0 j := fun j h1 h2 => by rw [c0, st1_ne h2, st1_ne h1]
  have z3 : M2 64 3 = M 64 3 := by rw [r64, st1_ne (by decide), st1_ne (by decide)]
  refine ⟨Sta_keep hS (fun j hj => z j (by omega) (by omega)) (hf 68 (by omega)), ?_, ?_, ?_, ?_, ?_⟩
  · unfold Fra
    rw [c0, r64, st1_at, st1_at, st1_ne (by decide), st1_at, st1_ne (by decide), st1_at]
    exact ⟨rfl, rfl⟩
  · unfold Img
    rw [z 3 (by decide) (by decide), z 4 (by decide) (by decide), hf 66 (by omega), hf 65 (by omega)]
    exact ⟨hI.1, hI.2.1, fun q => HS_eq (fun j hj => hf _ (by omega)) (fun _ _ _ => rfl) (by omega) (hI.2.2.1 q), fun q => HS_eq (fun j hj => hf _ (by omega)) (fun _ _ _ => rfl) (by omega) (hI.2.2.2 q)⟩
  · unfold Txt
    rw [hf 59 (by omega), hf 60 (by omega), hf 67 (by omega), z3]
    exact hT
  · exact ⟨LK_eq (hf _ (by omega)) (hf _ (by omega)) (hf _ (by omega)) hL.1, LK_eq (hf _ (by omega)) (hf _ (by omega)) (hf _ (by omega)) hL.2.1, LK_eq (hf _ (by omega)) (hf _ (by omega)) (hf _ (by omega)) hL.2.2⟩
  · rw [hf 65 (by omega)]
    exact HS_eq (fun j hj => hf _ (by omega)) (fun _ _ _ => rfl) (by omega) hH
theorem S_dark (i w c : Int) (M : Mm) (n : Nat) (h : Rl M n) (hn : n < 512) : Same 99 211 [vi i, vi w, vi c] M n := by
  obtain ⟨k0, k1, k2, k3, k4, k5, k6, k7, l0, l1, l2, l3, l4⟩ := Rl_c h
  refine Ct.imp (C_dark i w c M (Rl_HI h (by omega)) (Rl_st h (by omega))) ?_
  rintro r1 M1 (⟨a1, ha, hm⟩ | ⟨a1, ha, X, Y, hD, hm, hf⟩)
  · have e65 : M1 65 = M 65 := by subst hm; rfl
    have e68 : M1 68 = M 68 := by subst hm; rfl
    refine Ct.imp (R_dark i w c M1 (RI_eq e65 (Rl_RI h (by omega))) (by rw [e68]; exact Rl_sr h (by omega))) ?_
    rintro r2 M2 (⟨b1, hb1, hm2⟩ | ⟨b1, -⟩)
    · exact ⟨by rw [ha, hb1], Rl_ref h 0 (Or.inl rfl) (by rw [← hm2, ← hm]; rfl)⟩
    · rw [e65] at b1; exfalso; omega
  · have e65 : M1 65 = M 65 := (hf 65 (by decide) (by decide) (by decide) (by decide) (by decide) (by decide)).symm
    have e68 : M1 68 = M 68 := (hf 68 (by decide) (by decide) (by decide) (by decide) (by decide) (by decide)).symm
    have e64 : M1 64 = M 64 := (hf 64 (by decide) (by decide) (by decide) (by decide) (by decide) (by decide)).symm
    refine Ct.imp (R_dark i w c M1 (RI_eq e65 (Rl_RI h (by omega))) (by rw [e68]; exact Rl_sr h (by omega))) ?_
    rintro r2 M2 (⟨b1, -⟩ | ⟨b1, hb1, X2, Y2, hD2, hm2, hf2⟩)
    · rw [e65] at b1; exfalso; omega
    · have gi := Rl_g h a1.1.1 a1.1.2
      have bi := e_bar h a1.1
      rw [e65, ← gi.1.1, ← gi.1.2.1, ← gi.1.2.2.2.1, ← gi.1.2.2.2.2, ← bi.1, ← bi.2, ← k3] at hD2
      obtain ⟨rfl, rfl⟩ := DkR_one hD hD2
      rw [e64] at hm2
      refine ⟨by rw [ha, hb1], Rl_frac h (x := frA X Y) (y := frB X Y) (by rw [← hf2 0 (by decide) (by decide) (by decide)]; exact hm) hm2 (fun r hr => ?_)⟩
      rw [← hf2 r (by omega) (by omega) (by omega), hf r (by omega) (by omega) (by omega) (by omega) (by omega) (by omega)]
theorem S_years (sd w : Int) (M : Mm) (n : Nat) (h : Rl M n) (hn : n < 512) : Same 105 212 [vi sd, vi w] M n := by
  obtain ⟨k0, k1, k2, k3, k4, k5, k6, k7, l0, l1, l2, l3, l4⟩ := Rl_c h
  have hT := HS_tk_40_1 (W' := M 65) (o' := 0) h.2.2.2.2.1.2.2 (fun _ _ _ => rfl) h.2.2.2.2.2
  refine Ct.imp (C_years sd w M (Rl_HI h (by omega)) (Rl_st h (by omega)) (HS_HI (by omega) hT)) ?_
  rintro r1 M1 (⟨a1, ha, hm⟩ | ⟨a1, ha, N, hm⟩)
  · have e65 : M1 65 = M 65 := by subst hm; rfl
    have e68 : M1 68 = M 68 := by subst hm; rfl
    refine Ct.imp (R_years sd w M1 (RI_eq e65 (Rl_RI h (by omega))) (by rw [e68]; exact Rl_sr h (by omega))) ?_
    rintro r2 M2 (⟨b1, hb1, hm2⟩ | ⟨b1, -⟩)
    · exact ⟨by rw [ha, hb1], Rl_ref h 0 (Or.inl rfl) (by rw [← hm2, ← hm]; rfl)⟩
    · exfalso; omega
  · have e65 : M1 65 = M 65 := by subst hm; rfl
    have e68 : M1 68 = M 68 := by subst hm; rfl
    refine Ct.imp (R_years sd w M1 (RI_eq e65 (Rl_RI h (by omega))) (by rw [e68]; exact Rl_sr h (by omega))) ?_
    rintro r2 M2 (⟨b1, -⟩ | ⟨b1, hb1, W, hW, hm2⟩)
    · exfalso; omega
    · rw [e65] at hW hb1
      have eK : yKd M1 = yKd M := by unfold yKd; rw [e65]
      have eL : yLg M1 = yLg M := by unfold yLg; rw [e65]
      have eF : yFg M1 = yFg M := by unfold yFg; rw [e65]
      have eO : yOk M1 = yOk M := by unfold yOk; rw [e65]
      have eN : yN0 M1 = yN0 M := by unfold yN0; rw [e65]
      rw [eK, eL, eF, eO, eN] at hb1
      have hP := HI_YP (HS_HI (by omega) hT)
      obtain ⟨⟨c0, c1, c2, c3, c4, f0, f1, f2, f3, f4⟩, qf, qg, -⟩ := hT
      have t0 : tkM M 40 1 40 0 = M 1 0 := rfl
      have t1 : tkM M 40 1 40 1 = M 1 1 := rfl
      have q := yQ_all (x0 := sd) (c := M 6 15) (kd' := yKd M) (lg' := yLg M) (fg' := yFg M) (ok' := yOk M) (N0' := yN0 M) (by omega) hP.1 hP.2 (fun j h0 h1 => ?_) (fun f h0 h1 => ?_) (by omega) ?_ w.toNat (by omega)
      · refine ⟨?_, Rl_same h (fun r hr => ?_) ?_ ?_ ?_ (fun j hj => ?_) (fun j h0 h1 => ?_) ?_ ?_ ?_⟩
        · rw [ha, hb1, ← k1]
          have z := q.2.2.1
          rw [t1] at z
          apply congrArg; apply congrArg
          rw [t1]
          omega
        · rw [← hm2, sr_ne (by omega), ← hm, sr_ne (by omega)]
          unfold tkM tkL
          rw [cp_ne (by omega), up_ne (by omega), cp_ne (by omega), up_ne (by omega), cp_ne (by omega), up_ne (by omega), cp_ne (by omega), cp_ne (by omega), cp_ne (by omega), cp_ne (by omega), cp_ne (by omega), cp_ne (by omega), up_ne (by omega), up_ne (by omega), up_ne (by omega)]
        · rw [← hm2, ← hm]
          exact h.2.2.2.2.1.2.2
        · rw [← hm2, ← hm]; rfl
        · rw [← hm2, ← hm]; rfl
        · rw [← hm2, ← hm]; rfl
        · rw [← hm2, sr_at]; exact hW j (by omega)
        · rw [← hm2, ← hm]; rfl
        · rw [← hm2, ← hm]; rfl
        · rw [← hm2, ← hm]; rfl
      · have z := qg j h0 h1
        exact ⟨by rw [show yKd M j = M 65 (0 + 10 + j) by unfold yKd; congr 1]; exact z.2.1, by rw [show yLg M j = M 65 (0 + 16 + j) by unfold yLg; congr 1]; exact z.2.2.1, by rw [show yFg M j = M 65 (0 + 22 + j) by unfold yFg; congr 1]; exact z.2.2.2.1⟩
      · have z := qf f h0 h1
        rw [show yOk M f = M 65 (0 + 4 + f) by unfold yOk; congr 1]; exact z.2.2.1
      · refine ⟨?_, ?_, fun j h0 h1 => ⟨?_, ?_⟩, fun f h0 h1 => ?_⟩
        · exact f3
        · show tkM M 40 1 45 15 = 0 + M 6 15
          rw [Int.zero_add]; rfl
        · have z := qg j h0 h1
          unfold yN0
          rw [if_pos (by omega), show 28 + j = 0 + 28 + j by omega]
          exact z.2.2.2.2.1
        · have z := qg j h0 h1
          unfold yN0
          rw [if_pos (by omega), show 28 + (6 + j) = 0 + 34 + j by omega]
          exact z.2.2.2.2.2
        · have z := qf f h0 h1
          unfold yN0
          rw [if_neg (by omega), if_pos (by omega), show 7 + (12 + f - 12) = 0 + 7 + f by omega]
          exact z.2.2.2
theorem S_digest (M : Mm) (n : Nat) (h : Rl M n) (hn : n < 512) : Same 113 222 [] M n := by
  obtain ⟨k0, k1, k2, k3, k4, k5, k6, k7, l0, l1, l2, l3, l4⟩ := Rl_c h
  refine Ct.imp (C_digest M (Rl_HI h (by omega))) ?_
  rintro r1 M1 ⟨ha, hm⟩
  subst hm
  refine Ct.imp (R_digest M (Rl_RI h (by omega))) ?_
  rintro r2 M2 ⟨hb1, hm2⟩
  refine ⟨?_, Rl_same h (fun r hr => by rw [← hm2, up_ne (by omega)]) (by rw [← hm2]; exact h.2.2.2.2.1.2.2) (by rw [← hm2]; rfl) (by rw [← hm2]; rfl) (fun j hj => by rw [← hm2, up_off (by omega)]) (fun j _ _ => by rw [← hm2]; rfl) (by rw [← hm2]; rfl) (by rw [← hm2]; rfl) (by rw [← hm2]; rfl)⟩
  rw [ha, hb1]
  apply congrArg; apply congrArg
  unfold dgF
  rw [← k0, ← k1, ← k5, ← k6, ← k7, h.2.1.1, h.2.1.2, show (fun j : Nat => hmF M (j : Int)) = (fun j : Nat => hmR M (j : Int)) from funext (fun j => e_hm h j)]
  obtain ⟨-, -, -, qs, qn, qm, -⟩ := h.2.2.2.2.2
  have w1 : 0 ≤ M 8 3 := qs.1.2.2.1
  have w2 : 0 ≤ M 10 3 := qn.1.2.2.1
  have w3 : 0 ≤ M 12 3 := qm.1.2.2.1
  have d1 : ∀ H, mxl (fsC M) (2 * (M 1 0).toNat) H = mxl (fsR M) (2 * (M 1 0).toNat) H := fun H => mxl_congr _ (fun m hm => by
    have z := Rl_f h (f := ((m / 2 : Nat) : Int)) (by omega) (by omega)
    unfold fsC fsR
    rw [z.1, z.2.1])
  have d2 : ∀ H, mxl (gsC M) (5 * (M 1 1).toNat) H = mxl (gsR M) (5 * (M 1 1).toNat) H := fun H => mxl_congr _ (fun m hm => by
    have z := Rl_g h (i := ((m / 5 : Nat) : Int)) (by omega) (by omega)
    unfold gsC gsR ogC ogR
    rw [z.1.1, z.1.2.1, z.1.2.2.1, z.1.2.2.2.1, z.1.2.2.2.2])
  have d3 : ∀ H, mxl (fun j => M 9 (j : Int)) ((M 8 3).toNat * 4) H = mxl (fun j => M 65 (41 + (j : Int))) ((M 8 3).toNat * 4) H := fun H => mxl_congr _ (fun m hm => qs.2.2.2 m (by omega) (show (m : Int) < 4 * M 8 3 by omega))
  have d4 : ∀ H, mxl (fun j => M 11 (j : Int)) ((M 10 3).toNat * 3) H = mxl (fun j => M 65 (62 + (j : Int))) ((M 10 3).toNat * 3) H := fun H => mxl_congr _ (fun m hm => qn.2.2.2 m (by omega) (show (m : Int) < 3 * M 10 3 by omega))
  have d5 : ∀ H, mxl (fun j => M 13 (j : Int)) ((M 12 3).toNat * 5) H = mxl (fun j => M 65 (81 + (j : Int))) ((M 12 3).toNat * 5) H := fun H => mxl_congr _ (fun m hm => qm.2.2.2 m (by omega) (show (m : Int) < 5 * M 12 3 by omega))
  rw [d1, d2, d3, d4, d5]
