/-! meets, the class's loop (written by wip/whole/gen42.py) -/
/-- the place after n strides of the row A of length T from p -/
def plc (p : Int) (A : Int → Int) (T : Int) : Nat → Int
  | 0 => p
  | n + 1 => plc p A T n + (if (n : Int) < T then A n else 0)
theorem plc_succ (p : Int) (A : Int → Int) (T : Int) (n : Nat) : plc p A T (n + 1) = plc p A T n + (if (n : Int) < T then A n else 0) := rfl
/-- the first of k numbers from n on at which f and g are equal (-1: none) -/
def mt (f g : Nat → Int) : Nat → Nat → Int
  | 0, _ => -1
  | k + 1, n => if f n = g n then n else mt f g k (n + 1)
theorem mt_succ (f g : Nat → Int) (k n : Nat) : mt f g (k + 1) n = if f n = g n then (n : Int) else mt f g k (n + 1) := rfl
theorem mt_congr {f g f' g' : Nat → Int} : ∀ k n, (∀ m, n ≤ m → m < n + k → f m = f' m ∧ g m = g' m) → mt f g k n = mt f' g' k n
  | 0, _, _ => rfl
  | k + 1, n, h => by
    rw [mt_succ, mt_succ, (h n (by omega) (by omega)).1, (h n (by omega) (by omega)).2, mt_congr k (n + 1) (fun m h1 h2 => h m (by omega) (by omega))]
set_option maxRecDepth 100000 in
theorem cl_meets (i j b p1 p2 : Int) (M : Mm) (hl1 : M 53 2 ≤ 11) (hl2 : M 56 2 ≤ 11) (h1 : ∀ m, 0 ≤ (plc p1 (M 55) (M 53 2) m) ∧ (plc p1 (M 55) (M 53 2) m) ≤ 11) (h2 : ∀ m, 0 ≤ (plc p2 (M 58) (M 56 2) m) ∧ (plc p2 (M 58) (M 56 2) m) ≤ 11) : ∀ (kk : Nat) (n : Nat), n ≤ 12 → 12 - (n : Int) < (kk : Int) → Hx 77 160 [some (vr 0), some (vi i), some (vi j), some (vi b), some (vi (plc p1 (M 55) (M 53 2) n)), some (vi (plc p2 (M 58) (M 56 2) n)), some (vi (n : Int))] [] M (fun q0 M' => q0 = some (vi (mt (plc p1 (M 55) (M 53 2)) (plc p2 (M 58) (M 56 2)) (12 - n) n)) ∧ M = M') := by
  intro kk
  induction kk with
  | zero => intro n _ hkk; exact absurd hkk (by omega)
  | succ kk ih =>
    intro n hn hkk
    have a1 := h1 n
    have a2 := h2 n
    have b1 := h1 (n + 1)
    have b2 := h2 (n + 1)
    have c1 : (n : Int) < M 53 2 → (plc p1 (M 55) (M 53 2) (n + 1)) = (plc p1 (M 55) (M 53 2) n) + M 55 (n : Int) := fun q => by rw [plc_succ, if_pos q]
    have c2 : (n : Int) < M 56 2 → (plc p2 (M 58) (M 56 2) (n + 1)) = (plc p2 (M 58) (M 56 2) n) + M 58 (n : Int) := fun q => by rw [plc_succ, if_pos q]
    refine Hx.run 2 (pc' := 164) (L' := [some (vr 0), some (vi i), some (vi j), some (vi b), some (vi (plc p1 (M 55) (M 53 2) n)), some (vi (plc p2 (M 58) (M 56 2) n)), some (vi (n : Int))]) (st' := [vi 11, vi (n : Int)]) (M' := M) rfl ?_
    refine Hx.br (c := 11 < (n : Int)) (t := 211) (f := 167) rfl (fun h1 => ?_) (fun h1 => ?_)
    · skip
      refine Hx.run 1 (pc' := 212) (L' := [some (vr 0), some (vi i), some (vi j), some (vi b), some (vi (plc p1 (M 55) (M 53 2) n)), some (vi (plc p2 (M 58) (M 56 2) n)), some (vi (n : Int))]) (st' := [vi (-1)]) (M' := M) rfl ?_
      refine Hx.ret rfl ?_
      first
        | exact ⟨by rw [show 12 - n = (12 - (n + 1)) + 1 by omega, mt_succ, if_pos (by omega)], rfl⟩
        | exact ⟨by rw [show 12 - n = 0 by omega]; rfl, rfl⟩
    · skip
      refine Hx.run 2 (pc' := 171) (L' := [some (vr 0), some (vi i), some (vi j), some (vi b), some (vi (plc p1 (M 55) (M 53 2) n)), some (vi (plc p2 (M 58) (M 56 2) n)), some (vi (n : Int))]) (st' := [vi (plc p2 (M 58) (M 56 2) n), vi (plc p1 (M 55) (M 53 2) n)]) (M' := M) rfl ?_
      refine Hx.br (c := (plc p1 (M 55) (M 53 2) n) = (plc p2 (M 58) (M 56 2) n)) (t := 174) (f := 177) rfl (fun h2 => ?_) (fun h2 => ?_)
      · skip
        refine Hx.run 1 (pc' := 176) (L' := [some (vr 0), some (vi i), some (vi j), some (vi b), some (vi (plc p1 (M 55) (M 53 2) n)), some (vi (plc p2 (M 58) (M 56 2) n)), some (vi (n : Int))]) (st' := [vi (n : Int)]) (M' := M) rfl ?_
        refine Hx.ret rfl ?_
        first
          | exact ⟨by rw [show 12 - n = (12 - (n + 1)) + 1 by omega, mt_succ, if_pos (by omega)], rfl⟩
          | exact ⟨by rw [show 12 - n = 0 by omega]; rfl, rfl⟩
      · skip
        refine Hx.run 4 (pc' := 185) (L' := [some (vr 0), some (vi i), some (vi j), some (vi b), some (vi (plc p1 (M 55) (M 53 2) n)), some (vi (plc p2 (M 58) (M 56 2) n)), some (vi (n : Int))]) (st' := [vi (n : Int), vr 53, vi (plc p1 (M 55) (M 53 2) n)]) (M' := M) rfl ?_
        refine Hx.call (t := 4) (as := [vr 53, vi (n : Int)]) (pc' := 188) (rest := [vi (plc p1 (M 55) (M 53 2) n)]) rfl (c_strideAt_53 (n : Int) M (by omega) (by show (M 53 2) ≤ 11; omega)) ?_
        rintro _ _ (⟨q99, rfl, rfl⟩ | ⟨q99, rfl, rfl⟩)
        · skip
          refine Hx.add rfl (by omega) ?_
          refine Hx.run 5 (pc' := 199) (L' := [some (vr 0), some (vi i), some (vi j), some (vi b), some (vi ((plc p1 (M 55) (M 53 2) n) + (M 55 (n : Int)))), some (vi (plc p2 (M 58) (M 56 2) n)), some (vi (n : Int))]) (st' := [vi (n : Int), vr 56, vi (plc p2 (M 58) (M 56 2) n)]) (M' := M) rfl ?_
          refine Hx.call (t := 4) (as := [vr 56, vi (n : Int)]) (pc' := 202) (rest := [vi (plc p2 (M 58) (M 56 2) n)]) rfl (c_strideAt_56 (n : Int) M (by omega) (by show (M 56 2) ≤ 11; omega)) ?_
          rintro _ _ (⟨q100, rfl, rfl⟩ | ⟨q100, rfl, rfl⟩)
          · skip
            refine Hx.add rfl (by omega) ?_
            refine Hx.run 1 (pc' := 205) (L' := [some (vr 0), some (vi i), some (vi j), some (vi b), some (vi ((plc p1 (M 55) (M 53 2) n) + (M 55 (n : Int)))), some (vi ((plc p2 (M 58) (M 56 2) n) + (M 58 (n : Int)))), some (vi (n : Int))]) (st' := []) (M' := M) rfl ?_
            refine Hx.inc rfl rfl (by omega) ?_
            refine Hx.run 0 (pc' := 208) (L' := [some (vr 0), some (vi i), some (vi j), some (vi b), some (vi ((plc p1 (M 55) (M 53 2) n) + (M 55 (n : Int)))), some (vi ((plc p2 (M 58) (M 56 2) n) + (M 58 (n : Int)))), some (vi ((n : Int) + 1))]) (st' := []) (M' := M) rfl ?_
            refine Hx.run 1 (pc' := 160) (L' := [some (vr 0), some (vi i), some (vi j), some (vi b), some (vi ((plc p1 (M 55) (M 53 2) n) + (M 55 (n : Int)))), some (vi ((plc p2 (M 58) (M 56 2) n) + (M 58 (n : Int)))), some (vi ((n : Int) + 1))]) (st' := []) (M' := M) rfl ?_
            have e1 : (plc p1 (M 55) (M 53 2) (n + 1)) = ((plc p1 (M 55) (M 53 2) n) + (M 55 (n : Int))) := by rw [plc_succ]; split <;> omega
            have e2 : (plc p2 (M 58) (M 56 2) (n + 1)) = ((plc p2 (M 58) (M 56 2) n) + (M 58 (n : Int))) := by rw [plc_succ]; split <;> omega
            have h9 := ih (n + 1) (by omega) (by omega)
            rw [e1, e2] at h9
            rw [show 12 - n = (12 - (n + 1)) + 1 by omega, mt_succ, if_neg (by omega)]
            exact h9
          · skip
            refine Hx.add rfl (by omega) ?_
            refine Hx.run 1 (pc' := 205) (L' := [some (vr 0), some (vi i), some (vi j), some (vi b), some (vi ((plc p1 (M 55) (M 53 2) n) + (M 55 (n : Int)))), some (vi ((plc p2 (M 58) (M 56 2) n) + 0)), some (vi (n : Int))]) (st' := []) (M' := M) rfl ?_
            refine Hx.inc rfl rfl (by omega) ?_
            refine Hx.run 0 (pc' := 208) (L' := [some (vr 0), some (vi i), some (vi j), some (vi b), some (vi ((plc p1 (M 55) (M 53 2) n) + (M 55 (n : Int)))), some (vi ((plc p2 (M 58) (M 56 2) n) + 0)), some (vi ((n : Int) + 1))]) (st' := []) (M' := M) rfl ?_
            refine Hx.run 1 (pc' := 160) (L' := [some (vr 0), some (vi i), some (vi j), some (vi b), some (vi ((plc p1 (M 55) (M 53 2) n) + (M 55 (n : Int)))), some (vi ((plc p2 (M 58) (M 56 2) n) + 0)), some (vi ((n : Int) + 1))]) (st' := []) (M' := M) rfl ?_
            have e1 : (plc p1 (M 55) (M 53 2) (n + 1)) = ((plc p1 (M 55) (M 53 2) n) + (M 55 (n : Int))) := by rw [plc_succ]; split <;> omega
            have e2 : (plc p2 (M 58) (M 56 2) (n + 1)) = ((plc p2 (M 58) (M 56 2) n) + 0) := by rw [plc_succ]; split <;> omega
            have h9 := ih (n + 1) (by omega) (by omega)
            rw [e1, e2] at h9
            rw [show 12 - n = (12 - (n + 1)) + 1 by omega, mt_succ, if_neg (by omega)]
            exact h9
        · skip
          refine Hx.add rfl (by omega) ?_
          refine Hx.run 5 (pc' := 199) (L' := [some (vr 0), some (vi i), some (vi j), some (vi b), some (vi ((plc p1 (M 55) (M 53 2) n) + 0)), some (vi (plc p2 (M 58) (M 56 2) n)), some (vi (n : Int))]) (st' := [vi (n : Int), vr 56, vi (plc p2 (M 58) (M 56 2) n)]) (M' := M) rfl ?_
          refine Hx.call (t := 4) (as := [vr 56, vi (n : Int)]) (pc' := 202) (rest := [vi (plc p2 (M 58) (M 56 2) n)]) rfl (c_strideAt_56 (n : Int) M (by omega) (by show (M 56 2) ≤ 11; omega)) ?_
          rintro _ _ (⟨q101, rfl, rfl⟩ | ⟨q101, rfl, rfl⟩)
          · skip
            refine Hx.add rfl (by omega) ?_
            refine Hx.run 1 (pc' := 205) (L' := [some (vr 0), some (vi i), some (vi j), some (vi b), some (vi ((plc p1 (M 55) (M 53 2) n) + 0)), some (vi ((plc p2 (M 58) (M 56 2) n) + (M 58 (n : Int)))), some (vi (n : Int))]) (st' := []) (M' := M) rfl ?_
            refine Hx.inc rfl rfl (by omega) ?_
            refine Hx.run 0 (pc' := 208) (L' := [some (vr 0), some (vi i), some (vi j), some (vi b), some (vi ((plc p1 (M 55) (M 53 2) n) + 0)), some (vi ((plc p2 (M 58) (M 56 2) n) + (M 58 (n : Int)))), some (vi ((n : Int) + 1))]) (st' := []) (M' := M) rfl ?_
            refine Hx.run 1 (pc' := 160) (L' := [some (vr 0), some (vi i), some (vi j), some (vi b), some (vi ((plc p1 (M 55) (M 53 2) n) + 0)), some (vi ((plc p2 (M 58) (M 56 2) n) + (M 58 (n : Int)))), some (vi ((n : Int) + 1))]) (st' := []) (M' := M) rfl ?_
            have e1 : (plc p1 (M 55) (M 53 2) (n + 1)) = ((plc p1 (M 55) (M 53 2) n) + 0) := by rw [plc_succ]; split <;> omega
            have e2 : (plc p2 (M 58) (M 56 2) (n + 1)) = ((plc p2 (M 58) (M 56 2) n) + (M 58 (n : Int))) := by rw [plc_succ]; split <;> omega
            have h9 := ih (n + 1) (by omega) (by omega)
            rw [e1, e2] at h9
            rw [show 12 - n = (12 - (n + 1)) + 1 by omega, mt_succ, if_neg (by omega)]
            exact h9
          · skip
            refine Hx.add rfl (by omega) ?_
            refine Hx.run 1 (pc' := 205) (L' := [some (vr 0), some (vi i), some (vi j), some (vi b), some (vi ((plc p1 (M 55) (M 53 2) n) + 0)), some (vi ((plc p2 (M 58) (M 56 2) n) + 0)), some (vi (n : Int))]) (st' := []) (M' := M) rfl ?_
            refine Hx.inc rfl rfl (by omega) ?_
            refine Hx.run 0 (pc' := 208) (L' := [some (vr 0), some (vi i), some (vi j), some (vi b), some (vi ((plc p1 (M 55) (M 53 2) n) + 0)), some (vi ((plc p2 (M 58) (M 56 2) n) + 0)), some (vi ((n : Int) + 1))]) (st' := []) (M' := M) rfl ?_
            refine Hx.run 1 (pc' := 160) (L' := [some (vr 0), some (vi i), some (vi j), some (vi b), some (vi ((plc p1 (M 55) (M 53 2) n) + 0)), some (vi ((plc p2 (M 58) (M 56 2) n) + 0)), some (vi ((n : Int) + 1))]) (st' := []) (M' := M) rfl ?_
            have e1 : (plc p1 (M 55) (M 53 2) (n + 1)) = ((plc p1 (M 55) (M 53 2) n) + 0) := by rw [plc_succ]; split <;> omega
            have e2 : (plc p2 (M 58) (M 56 2) (n + 1)) = ((plc p2 (M 58) (M 56 2) n) + 0) := by rw [plc_succ]; split <;> omega
            have h9 := ih (n + 1) (by omega) (by omega)
            rw [e1, e2] at h9
            rw [show 12 - n = (12 - (n + 1)) + 1 by omega, mt_succ, if_neg (by omega)]
            exact h9
