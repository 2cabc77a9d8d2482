/-! digest of the reference (written by wip/whole/gen65.py) -/
theorem up_up {M : Mm} {r : Nat} {i a b : Int} : up (up M r i a) r i b = up M r i b := by
  funext x y
  simp only [up]
  split <;> rfl
def fsR (M : Mm) (j : Nat) : Int := if j % 2 = 0 then M 65 (4 + ((j / 2 : Nat) : Int)) else M 65 (7 + ((j / 2 : Nat) : Int))
def ogR (M : Mm) (i : Int) (w : Nat) : Int := if w = 0 then M 65 (10 + i) else if w = 1 then M 65 (16 + i) else if w = 2 then M 65 (22 + i) else if w = 3 then M 65 (28 + i) else M 65 (34 + i)
def gsR (M : Mm) (j : Nat) : Int := ogR M ((j / 5 : Nat) : Int) (j % 5)
theorem fsR_2 (M : Mm) (n : Nat) (h : Int) : mxl (fsR M) (2 * (n + 1)) h = mx (mx (mxl (fsR M) (2 * n) h) (M 65 (4 + (n : Int)))) (M 65 (7 + (n : Int))) := by
  rw [show 2 * (n + 1) = 2 * n + 1 + 1 from rfl, mxl_succ, mxl_succ]
  have e1 : fsR M (2 * n) = M 65 (4 + (n : Int)) := by unfold fsR; rw [if_pos (by omega), show 2 * n / 2 = n by omega]
  have e2 : fsR M (2 * n + 1) = M 65 (7 + (n : Int)) := by unfold fsR; rw [if_neg (by omega), show (2 * n + 1) / 2 = n by omega]
  rw [e1, e2]
theorem gsR_5 (M : Mm) (n : Nat) (h : Int) : mxl (gsR M) (5 * (n + 1)) h = mx (mx (mx (mx (mx (mxl (gsR M) (5 * n) h) (M 65 (10 + (n : Int)))) (M 65 (16 + (n : Int)))) (M 65 (22 + (n : Int)))) (M 65 (28 + (n : Int)))) (M 65 (34 + (n : Int))) := by
  rw [show 5 * (n + 1) = 5 * n + 1 + 1 + 1 + 1 + 1 from rfl, mxl_succ, mxl_succ, mxl_succ, mxl_succ, mxl_succ]
  have e0 : gsR M (5 * n) = M 65 (10 + (n : Int)) := by unfold gsR; rw [show 5 * n / 5 = n by omega, show 5 * n % 5 = 0 by omega]; rfl
  have e1 : gsR M (5 * n + 1) = M 65 (16 + (n : Int)) := by unfold gsR; rw [show (5 * n + 1) / 5 = n by omega, show (5 * n + 1) % 5 = 1 by omega]; rfl
  have e2 : gsR M (5 * n + 1 + 1) = M 65 (22 + (n : Int)) := by unfold gsR; rw [show (5 * n + 1 + 1) / 5 = n by omega, show (5 * n + 1 + 1) % 5 = 2 by omega]; rfl
  have e3 : gsR M (5 * n + 1 + 1 + 1) = M 65 (28 + (n : Int)) := by unfold gsR; rw [show (5 * n + 1 + 1 + 1) / 5 = n by omega, show (5 * n + 1 + 1 + 1) % 5 = 3 by omega]; rfl
  have e4 : gsR M (5 * n + 1 + 1 + 1 + 1) = M 65 (34 + (n : Int)) := by unfold gsR; rw [show (5 * n + 1 + 1 + 1 + 1) / 5 = n by omega, show (5 * n + 1 + 1 + 1 + 1) % 5 = 4 by omega]; rfl
  rw [e0, e1, e2, e3, e4]
set_option maxRecDepth 100000 in
theorem r_mix (v : Int) (M : Mm) : Ct 220 [vr 64, vl v] M (fun q0 M' => q0 = none ∧ up M 64 14 (mx (M 64 14) v) = M') := by
  refine Hx.run 8 (pc' := 14) (L' := [some (vr 64), some (vl v), none]) (st' := []) (M' := (up M 64 14 (l2 gadd (l2 gmul 31 (M 64 14)) v))) rfl ?_
  refine Hx.ret rfl ?_
  exact ⟨rfl, rfl⟩
theorem r_countU (w h : Int) (M : Mm) (hg : 0 ≤ M 65 1 ∧ M 65 1 ≤ 6) (hw : 0 ≤ w ∧ w ≤ 9) : Ct 218 [vr 64, vi w] (up M 64 14 h) (fun q0 M' => q0 = some (vi (hmR M w)) ∧ up M 64 14 h = M') := by
  have e : hmR (up M 64 14 h) w = hmR M w := by unfold hmR; rfl
  have h1 := r_countOf w (up M 64 14 h) hg hw
  rw [e] at h1
  exact h1
theorem r_ofU (i w h : Int) (M : Mm) (hg : (0 ≤ i ∧ i < 6) ∧ (0 ≤ M 65 (10 + i) ∧ M 65 (10 + i) ≤ 5) ∧ (1 ≤ M 65 (16 + i) ∧ M 65 (16 + i) ≤ 4) ∧ (0 ≤ M 65 (22 + i) ∧ M 65 (22 + i) ≤ 2) ∧ (0 ≤ M 65 (28 + i) ∧ M 65 (28 + i) ≤ 11) ∧ (0 ≤ M 65 (34 + i) ∧ M 65 (34 + i) ≤ 9)) (hh : (0 ≤ M 65 2 ∧ M 65 2 ≤ 9999)) : Ct 180 [vr 64, vi i, vi w] (up M 64 14 h) (fun q0 M' => q0 = some (vi (if w = 0 then (M 65 (10 + i)) else if w = 1 then (M 65 (16 + i)) else if w = 2 then (M 65 (22 + i)) else if w = 3 then (M 65 (28 + i)) else if w = 4 then (M 65 (34 + i)) else sfF (M 65 (10 + i)) (M 65 (16 + i)) (M 65 (34 + i)) ((M 65 2) % 24))) ∧ up M 64 14 h = M') := r_ofGoer i w (up M 64 14 h) hg hh
set_option maxRecDepth 100000 in
theorem rl_mixes (lo h : Int) (m : Nat) (M : Mm) (hlo : 0 ≤ lo ∧ lo + (m : Int) ≤ 1000) : ∀ (kk : Nat) (n : Nat), n ≤ m → (m : Int) - (n : Int) < (kk : Int) → Hx 221 2 [some (vr 64), some (vi lo), some (vi (m : Int)), some (vi (n : Int))] [] (up M 64 14 (mxl (fun j => M 65 (lo + (j : Int))) n h)) (fun q0 M' => q0 = none ∧ up M 64 14 (mxl (fun j => M 65 (lo + (j : Int))) m h) = M') := by
  intro kk
  induction kk with
  | zero => intro n _ hkk; exact absurd hkk (by omega)
  | succ kk ih =>
    intro n hn hkk
    refine Hx.run 2 (pc' := 4) (L' := [some (vr 64), some (vi lo), some (vi (m : Int)), some (vi (n : Int))]) (st' := [vi (m : Int), vi (n : Int)]) (M' := (up M 64 14 (mxl (fun j => M 65 (lo + (j : Int))) n h))) rfl ?_
    refine Hx.br (c := (n : Int) < (m : Int)) (t := 7) (f := 26) rfl (fun h1 => ?_) (fun h1 => ?_)
    · skip
      refine Hx.run 5 (pc' := 14) (L' := [some (vr 64), some (vi lo), some (vi (m : Int)), some (vi (n : Int))]) (st' := [vi (n : Int), vi lo, vr 65, vr 64]) (M' := (up M 64 14 (mxl (fun j => M 65 (lo + (j : Int))) n h))) rfl ?_
      refine Hx.add rfl (by omega) ?_
      refine Hx.aldI (n := 1032) rfl rfl (by omega) ?_
      refine Hx.run 0 (pc' := 16) (L' := [some (vr 64), some (vi lo), some (vi (m : Int)), some (vi (n : Int))]) (st' := [vi (M 65 (lo + (n : Int))), vr 64]) (M' := (up M 64 14 (mxl (fun j => M 65 (lo + (j : Int))) n h))) rfl ?_
      refine Hx.run 1 (pc' := 17) (L' := [some (vr 64), some (vi lo), some (vi (m : Int)), some (vi (n : Int))]) (st' := [vl (M 65 (lo + (n : Int))), vr 64]) (M' := (up M 64 14 (mxl (fun j => M 65 (lo + (j : Int))) n h))) rfl ?_
      refine Hx.call (t := 220) (as := [vr 64, vl (M 65 (lo + (n : Int)))]) (pc' := 20) (rest := []) rfl (r_mix (M 65 (lo + (n : Int))) (up M 64 14 (mxl (fun j => M 65 (lo + (j : Int))) n h))) ?_
      rintro _ _ ⟨rfl, rfl⟩
      rw [up_up]
      refine Hx.run 0 (pc' := 20) (L' := [some (vr 64), some (vi lo), some (vi (m : Int)), some (vi (n : Int))]) (st' := []) (M' := (up M 64 14 (mx (mxl (fun j => M 65 (lo + (j : Int))) n h) (M 65 (lo + (n : Int)))))) rfl ?_
      refine Hx.inc rfl rfl (by omega) ?_
      refine Hx.run 0 (pc' := 23) (L' := [some (vr 64), some (vi lo), some (vi (m : Int)), some (vi ((n : Int) + 1))]) (st' := []) (M' := (up M 64 14 (mx (mxl (fun j => M 65 (lo + (j : Int))) n h) (M 65 (lo + (n : Int)))))) rfl ?_
      refine Hx.run 1 (pc' := 2) (L' := [some (vr 64), some (vi lo), some (vi (m : Int)), some (vi ((n : Int) + 1))]) (st' := []) (M' := (up M 64 14 (mx (mxl (fun j => M 65 (lo + (j : Int))) n h) (M 65 (lo + (n : Int)))))) rfl ?_
      exact ih (n + 1) (by omega) (by omega)
    · skip
      refine Hx.ret rfl ?_
      exact ⟨rfl, by rw [show n = m by omega]⟩
set_option maxRecDepth 100000 in
theorem r_mixes (lo h : Int) (m : Nat) (M : Mm) (hlo : 0 ≤ lo ∧ lo + (m : Int) ≤ 1000) : Ct 221 [vr 64, vi lo, vi (m : Int)] (up M 64 14 h) (fun q0 M' => q0 = none ∧ up M 64 14 (mxl (fun j => M 65 (lo + (j : Int))) m h) = M') := by
  refine Hx.run 2 (pc' := 2) (L' := [some (vr 64), some (vi lo), some (vi (m : Int)), some (vi 0)]) (st' := []) (M' := (up M 64 14 h)) rfl ?_
  exact rl_mixes lo h m M hlo (m + 1) 0 (by omega) (by omega)
set_option maxRecDepth 100000 in
set_option maxHeartbeats 4000000 in
theorem rl_digG (M : Mm) (hI : RI M 0) : ∀ (kk : Nat) (n : Nat) (j2 : Option PV), (n : Int) ≤ M 65 1 → M 65 1 - (n : Int) < (kk : Int) → Hx 222 78 [some (vr 64), some (vi (n : Int)), j2] [] (up M 64 14 (mxl (gsR M) (5 * n) (mxl (fsR M) (2 * (M 65 0).toNat) (mxl (fun j => hmR M (j : Int)) 10 1777)))) (fun q0 M' => q0 = some (vl (dgF (fun j => hmR M (j : Int)) (M 65 0).toNat (fsR M) (M 65 1).toNat (gsR M) (M 65 40).toNat (fun j => M 65 (41 + (j : Int))) (M 65 61).toNat (fun j => M 65 (62 + (j : Int))) (M 65 80).toNat (fun j => M 65 (81 + (j : Int))) (M 64 4) (M 64 5))) ∧ up M 64 14 (dgF (fun j => hmR M (j : Int)) (M 65 0).toNat (fsR M) (M 65 1).toNat (gsR M) (M 65 40).toNat (fun j => M 65 (41 + (j : Int))) (M 65 61).toNat (fun j => M 65 (62 + (j : Int))) (M 65 80).toNat (fun j => M 65 (81 + (j : Int))) (M 64 4) (M 64 5)) = M') := by
  intro kk
  induction kk with
  | zero => intro n j2 _ hkk; exact absurd hkk (by omega)
  | succ kk ih =>
    intro n j2 hn hkk
    obtain ⟨r0, r1, r2, r3, r40, r61, r80, r111, rF, rG⟩ := (show (0 ≤ M 65 0 ∧ M 65 0 ≤ 3) ∧ (0 ≤ M 65 1 ∧ M 65 1 ≤ 6) ∧ (0 ≤ M 65 2 ∧ M 65 2 ≤ 9999) ∧ (0 ≤ M 65 3 ∧ M 65 3 ≤ 9000) ∧ (0 ≤ M 65 40 ∧ M 65 40 ≤ 5) ∧ (0 ≤ M 65 61 ∧ M 65 61 ≤ 6) ∧ (0 ≤ M 65 80 ∧ M 65 80 ≤ 6) ∧ (0 ≤ M 65 111 ∧ M 65 111 ≤ 8) ∧ (∀ f : Int, 0 ≤ f → f < M 65 0 → (0 ≤ M 65 (4 + f) ∧ M 65 (4 + f) ≤ 5) ∧ (1 ≤ M 65 (7 + f) ∧ M 65 (7 + f) ≤ 10)) ∧ (∀ i : Int, 0 ≤ i → i < M 65 1 → (0 ≤ M 65 (10 + i) ∧ M 65 (10 + i) ≤ 5) ∧ (1 ≤ M 65 (16 + i) ∧ M 65 (16 + i) ≤ 4) ∧ (0 ≤ M 65 (22 + i) ∧ M 65 (22 + i) < M 65 0) ∧ (0 ≤ M 65 (28 + i) ∧ M 65 (28 + i) ≤ 11) ∧ (0 ≤ M 65 (34 + i) ∧ M 65 (34 + i) ≤ 9)) from hI)
    refine Hx.run 5 (pc' := 85) (L' := [some (vr 64), some (vi (n : Int)), j2]) (st' := [vi (M 65 1), vi (n : Int)]) (M' := (up M 64 14 (mxl (gsR M) (5 * n) (mxl (fsR M) (2 * (M 65 0).toNat) (mxl (fun j => hmR M (j : Int)) 10 1777))))) rfl ?_
    refine Hx.br (c := (n : Int) < (M 65 1)) (t := 88) (f := 118) rfl (fun h1 => ?_) (fun h1 => ?_)
    · skip
      have gQ := rG (n : Int) (by omega) (by omega)
      refine Hx.run 9 (pc' := 99) (L' := [some (vr 64), some (vi (n : Int)), some (vi 0)]) (st' := [vi 0, vi (n : Int), vr 64, vr 64]) (M' := (up M 64 14 (mxl (gsR M) (5 * n) (mxl (fsR M) (2 * (M 65 0).toNat) (mxl (fun j => hmR M (j : Int)) 10 1777))))) rfl ?_
      refine Hx.call (t := 180) (as := [vr 64, vi (n : Int), vi 0]) (pc' := 102) (rest := [vr 64]) rfl (r_ofU (n : Int) 0 (mxl (gsR M) (5 * n) (mxl (fsR M) (2 * (M 65 0).toNat) (mxl (fun j => hmR M (j : Int)) 10 1777))) M (by omega) (by omega)) ?_
      rintro _ _ ⟨rfl, rfl⟩
      refine Hx.run 0 (pc' := 102) (L' := [some (vr 64), some (vi (n : Int)), some (vi 0)]) (st' := [vi (M 65 (10 + (n : Int))), vr 64]) (M' := (up M 64 14 (mxl (gsR M) (5 * n) (mxl (fsR M) (2 * (M 65 0).toNat) (mxl (fun j => hmR M (j : Int)) 10 1777))))) rfl ?_
      refine Hx.run 1 (pc' := 103) (L' := [some (vr 64), some (vi (n : Int)), some (vi 0)]) (st' := [vl (M 65 (10 + (n : Int))), vr 64]) (M' := (up M 64 14 (mxl (gsR M) (5 * n) (mxl (fsR M) (2 * (M 65 0).toNat) (mxl (fun j => hmR M (j : Int)) 10 1777))))) rfl ?_
      refine Hx.call (t := 220) (as := [vr 64, vl (M 65 (10 + (n : Int)))]) (pc' := 106) (rest := []) rfl (r_mix (M 65 (10 + (n : Int))) (up M 64 14 (mxl (gsR M) (5 * n) (mxl (fsR M) (2 * (M 65 0).toNat) (mxl (fun j => hmR M (j : Int)) 10 1777))))) ?_
      rintro _ _ ⟨rfl, rfl⟩
      rw [up_up]
      refine Hx.run 0 (pc' := 106) (L' := [some (vr 64), some (vi (n : Int)), some (vi 0)]) (st' := []) (M' := (up M 64 14 (mx (mxl (gsR M) (5 * n) (mxl (fsR M) (2 * (M 65 0).toNat) (mxl (fun j => hmR M (j : Int)) 10 1777))) (M 65 (10 + (n : Int)))))) rfl ?_
      refine Hx.inc rfl rfl (by omega) ?_
      refine Hx.run 0 (pc' := 109) (L' := [some (vr 64), some (vi (n : Int)), some (vi 1)]) (st' := []) (M' := (up M 64 14 (mx (mxl (gsR M) (5 * n) (mxl (fsR M) (2 * (M 65 0).toNat) (mxl (fun j => hmR M (j : Int)) 10 1777))) (M 65 (10 + (n : Int)))))) rfl ?_
      refine Hx.run 8 (pc' := 99) (L' := [some (vr 64), some (vi (n : Int)), some (vi 1)]) (st' := [vi 1, vi (n : Int), vr 64, vr 64]) (M' := (up M 64 14 (mx (mxl (gsR M) (5 * n) (mxl (fsR M) (2 * (M 65 0).toNat) (mxl (fun j => hmR M (j : Int)) 10 1777))) (M 65 (10 + (n : Int)))))) rfl ?_
      refine Hx.call (t := 180) (as := [vr 64, vi (n : Int), vi 1]) (pc' := 102) (rest := [vr 64]) rfl (r_ofU (n : Int) 1 (mx (mxl (gsR M) (5 * n) (mxl (fsR M) (2 * (M 65 0).toNat) (mxl (fun j => hmR M (j : Int)) 10 1777))) (M 65 (10 + (n : Int)))) M (by omega) (by omega)) ?_
      rintro _ _ ⟨rfl, rfl⟩
      refine Hx.run 0 (pc' := 102) (L' := [some (vr 64), some (vi (n : Int)), some (vi 1)]) (st' := [vi (M 65 (16 + (n : Int))), vr 64]) (M' := (up M 64 14 (mx (mxl (gsR M) (5 * n) (mxl (fsR M) (2 * (M 65 0).toNat) (mxl (fun j => hmR M (j : Int)) 10 1777))) (M 65 (10 + (n : Int)))))) rfl ?_
      refine Hx.run 1 (pc' := 103) (L' := [some (vr 64), some (vi (n : Int)), some (vi 1)]) (st' := [vl (M 65 (16 + (n : Int))), vr 64]) (M' := (up M 64 14 (mx (mxl (gsR M) (5 * n) (mxl (fsR M) (2 * (M 65 0).toNat) (mxl (fun j => hmR M (j : Int)) 10 1777))) (M 65 (10 + (n : Int)))))) rfl ?_
      refine Hx.call (t := 220) (as := [vr 64, vl (M 65 (16 + (n : Int)))]) (pc' := 106) (rest := []) rfl (r_mix (M 65 (16 + (n : Int))) (up M 64 14 (mx (mxl (gsR M) (5 * n) (mxl (fsR M) (2 * (M 65 0).toNat) (mxl (fun j => hmR M (j : Int)) 10 1777))) (M 65 (10 + (n : Int)))))) ?_
      rintro _ _ ⟨rfl, rfl⟩
      rw [up_up]
      refine Hx.run 0 (pc' := 106) (L' := [some (vr 64), some (vi (n : Int)), some (vi 1)]) (st' := []) (M' := (up M 64 14 (mx (mx (mxl (gsR M) (5 * n) (mxl (fsR M) (2 * (M 65 0).toNat) (mxl (fun j => hmR M (j : Int)) 10 1777))) (M 65 (10 + (n : Int)))) (M 65 (16 + (n : Int)))))) rfl ?_
      refine Hx.inc rfl rfl (by omega) ?_
      refine Hx.run 0 (pc' := 109) (L' := [some (vr 64), some (vi (n : Int)), some (vi 2)]) (st' := []) (M' := (up M 64 14 (mx (mx (mxl (gsR M) (5 * n) (mxl (fsR M) (2 * (M 65 0).toNat) (mxl (fun j => hmR M (j : Int)) 10 1777))) (M 65 (10 + (n : Int)))) (M 65 (16 + (n : Int)))))) rfl ?_
      refine Hx.run 8 (pc' := 99) (L' := [some (vr 64), some (vi (n : Int)), some (vi 2)]) (st' := [vi 2, vi (n : Int), vr 64, vr 64]) (M' := (up M 64 14 (mx (mx (mxl (gsR M) (5 * n) (mxl (fsR M) (2 * (M 65 0).toNat) (mxl (fun j => hmR M (j : Int)) 10 1777))) (M 65 (10 + (n : Int)))) (M 65 (16 + (n : Int)))))) rfl ?_
      refine Hx.call (t := 180) (as := [vr 64, vi (n : Int), vi 2]) (pc' := 102) (rest := [vr 64]) rfl (r_ofU (n : Int) 2 (mx (mx (mxl (gsR M) (5 * n) (mxl (fsR M) (2 * (M 65 0).toNat) (mxl (fun j => hmR M (j : Int)) 10 1777))) (M 65 (10 + (n : Int)))) (M 65 (16 + (n : Int)))) M (by omega) (by omega)) ?_
      rintro _ _ ⟨rfl, rfl⟩
      refine Hx.run 0 (pc' := 102) (L' := [some (vr 64), some (vi (n : Int)), some (vi 2)]) (st' := [vi (M 65 (22 + (n : Int))), vr 64]) (M' := (up M 64 14 (mx (mx (mxl (gsR M) (5 * n) (mxl (fsR M) (2 * (M 65 0).toNat) (mxl (fun j => hmR M (j : Int)) 10 1777))) (M 65 (10 + (n : Int)))) (M 65 (16 + (n : Int)))))) rfl ?_
      refine Hx.run 1 (pc' := 103) (L' := [some (vr 64), some (vi (n : Int)), some (vi 2)]) (st' := [vl (M 65 (22 + (n : Int))), vr 64]) (M' := (up M 64 14 (mx (mx (mxl (gsR M) (5 * n) (mxl (fsR M) (2 * (M 65 0).toNat) (mxl (fun j => hmR M (j : Int)) 10 1777))) (M 65 (10 + (n : Int)))) (M 65 (16 + (n : Int)))))) rfl ?_
      refine Hx.call (t := 220) (as := [vr 64, vl (M 65 (22 + (n : Int)))]) (pc' := 106) (rest := []) rfl (r_mix (M 65 (22 + (n : Int))) (up M 64 14 (mx (mx (mxl (gsR M) (5 * n) (mxl (fsR M) (2 * (M 65 0).toNat) (mxl (fun j => hmR M (j : Int)) 10 1777))) (M 65 (10 + (n : Int)))) (M 65 (16 + (n : Int)))))) ?_
      rintro _ _ ⟨rfl, rfl⟩
      rw [up_up]
      refine Hx.run 0 (pc' := 106) (L' := [some (vr 64), some (vi (n : Int)), some (vi 2)]) (st' := []) (M' := (up M 64 14 (mx (mx (mx (mxl (gsR M) (5 * n) (mxl (fsR M) (2 * (M 65 0).toNat) (mxl (fun j => hmR M (j : Int)) 10 1777))) (M 65 (10 + (n : Int)))) (M 65 (16 + (n : Int)))) (M 65 (22 + (n : Int)))))) rfl ?_
      refine Hx.inc rfl rfl (by omega) ?_
      refine Hx.run 0 (pc' := 109) (L' := [some (vr 64), some (vi (n : Int)), some (vi 3)]) (st' := []) (M' := (up M 64 14 (mx (mx (mx (mxl (gsR M) (5 * n) (mxl (fsR M) (2 * (M 65 0).toNat) (mxl (fun j => hmR M (j : Int)) 10 1777))) (M 65 (10 + (n : Int)))) (M 65 (16 + (n : Int)))) (M 65 (22 + (n : Int)))))) rfl ?_
      refine Hx.run 8 (pc' := 99) (L' := [some (vr 64), some (vi (n : Int)), some (vi 3)]) (st' := [vi 3, vi (n : Int), vr 64, vr 64]) (M' := (up M 64 14 (mx (mx (mx (mxl (gsR M) (5 * n) (mxl (fsR M) (2 * (M 65 0).toNat) (mxl (fun j => hmR M (j : Int)) 10 1777))) (M 65 (10 + (n : Int)))) (M 65 (16 + (n : Int)))) (M 65 (22 + (n : Int)))))) rfl ?_
      refine Hx.call (t := 180) (as := [vr 64, vi (n : Int), vi 3]) (pc' := 102) (rest := [vr 64]) rfl (r_ofU (n : Int) 3 (mx (mx (mx (mxl (gsR M) (5 * n) (mxl (fsR M) (2 * (M 65 0).toNat) (mxl (fun j => hmR M (j : Int)) 10 1777))) (M 65 (10 + (n : Int)))) (M 65 (16 + (n : Int)))) (M 65 (22 + (n : Int)))) M (by omega) (by omega)) ?_
      rintro _ _ ⟨rfl, rfl⟩
      refine Hx.run 0 (pc' := 102) (L' := [some (vr 64), some (vi (n : Int)), some (vi 3)]) (st' := [vi (M 65 (28 + (n : Int))), vr 64]) (M' := (up M 64 14 (mx (mx (mx (mxl (gsR M) (5 * n) (mxl (fsR M) (2 * (M 65 0).toNat) (mxl (fun j => hmR M (j : Int)) 10 1777))) (M 65 (10 + (n : Int)))) (M 65 (16 + (n : Int)))) (M 65 (22 + (n : Int)))))) rfl ?_
      refine Hx.run 1 (pc' := 103) (L' := [some (vr 64), some (vi (n : Int)), some (vi 3)]) (st' := [vl (M 65 (28 + (n : Int))), vr 64]) (M' := (up M 64 14 (mx (mx (mx (mxl (gsR M) (5 * n) (mxl (fsR M) (2 * (M 65 0).toNat) (mxl (fun j => hmR M (j : Int)) 10 1777))) (M 65 (10 + (n : Int)))) (M 65 (16 + (n : Int)))) (M 65 (22 + (n : Int)))))) rfl ?_
      refine Hx.call (t := 220) (as := [vr 64, vl (M 65 (28 + (n : Int)))]) (pc' := 106) (rest := []) rfl (r_mix (M 65 (28 + (n : Int))) (up M 64 14 (mx (mx (mx (mxl (gsR M) (5 * n) (mxl (fsR M) (2 * (M 65 0).toNat) (mxl (fun j => hmR M (j : Int)) 10 1777))) (M 65 (10 + (n : Int)))) (M 65 (16 + (n : Int)))) (M 65 (22 + (n : Int)))))) ?_
      rintro _ _ ⟨rfl, rfl⟩
      rw [up_up]
      refine Hx.run 0 (pc' := 106) (L' := [some (vr 64), some (vi (n : Int)), some (vi 3)]) (st' := []) (M' := (up M 64 14 (mx (mx (mx (mx (mxl (gsR M) (5 * n) (mxl (fsR M) (2 * (M 65 0).toNat) (mxl (fun j => hmR M (j : Int)) 10 1777))) (M 65 (10 + (n : Int)))) (M 65 (16 + (n : Int)))) (M 65 (22 + (n : Int)))) (M 65 (28 + (n : Int)))))) rfl ?_
      refine Hx.inc rfl rfl (by omega) ?_
      refine Hx.run 0 (pc' := 109) (L' := [some (vr 64), some (vi (n : Int)), some (vi 4)]) (st' := []) (M' := (up M 64 14 (mx (mx (mx (mx (mxl (gsR M) (5 * n) (mxl (fsR M) (2 * (M 65 0).toNat) (mxl (fun j => hmR M (j : Int)) 10 1777))) (M 65 (10 + (n : Int)))) (M 65 (16 + (n : Int)))) (M 65 (22 + (n : Int)))) (M 65 (28 + (n : Int)))))) rfl ?_
      refine Hx.run 8 (pc' := 99) (L' := [some (vr 64), some (vi (n : Int)), some (vi 4)]) (st' := [vi 4, vi (n : Int), vr 64, vr 64]) (M' := (up M 64 14 (mx (mx (mx (mx (mxl (gsR M) (5 * n) (mxl (fsR M) (2 * (M 65 0).toNat) (mxl (fun j => hmR M (j : Int)) 10 1777))) (M 65 (10 + (n : Int)))) (M 65 (16 + (n : Int)))) (M 65 (22 + (n : Int)))) (M 65 (28 + (n : Int)))))) rfl ?_
      refine Hx.call (t := 180) (as := [vr 64, vi (n : Int), vi 4]) (pc' := 102) (rest := [vr 64]) rfl (r_ofU (n : Int) 4 (mx (mx (mx (mx (mxl (gsR M) (5 * n) (mxl (fsR M) (2 * (M 65 0).toNat) (mxl (fun j => hmR M (j : Int)) 10 1777))) (M 65 (10 + (n : Int)))) (M 65 (16 + (n : Int)))) (M 65 (22 + (n : Int)))) (M 65 (28 + (n : Int)))) M (by omega) (by omega)) ?_
      rintro _ _ ⟨rfl, rfl⟩
      refine Hx.run 0 (pc' := 102) (L' := [some (vr 64), some (vi (n : Int)), some (vi 4)]) (st' := [vi (M 65 (34 + (n : Int))), vr 64]) (M' := (up M 64 14 (mx (mx (mx (mx (mxl (gsR M) (5 * n) (mxl (fsR M) (2 * (M 65 0).toNat) (mxl (fun j => hmR M (j : Int)) 10 1777))) (M 65 (10 + (n : Int)))) (M 65 (16 + (n : Int)))) (M 65 (22 + (n : Int)))) (M 65 (28 + (n : Int)))))) rfl ?_
      refine Hx.run 1 (pc' := 103) (L' := [some (vr 64), some (vi (n : Int)), some (vi 4)]) (st' := [vl (M 65 (34 + (n : Int))), vr 64]) (M' := (up M 64 14 (mx (mx (mx (mx (mxl (gsR M) (5 * n) (mxl (fsR M) (2 * (M 65 0).toNat) (mxl (fun j => hmR M (j : Int)) 10 1777))) (M 65 (10 + (n : Int)))) (M 65 (16 + (n : Int)))) (M 65 (22 + (n : Int)))) (M 65 (28 + (n : Int)))))) rfl ?_
      refine Hx.call (t := 220) (as := [vr 64, vl (M 65 (34 + (n : Int)))]) (pc' := 106) (rest := []) rfl (r_mix (M 65 (34 + (n : Int))) (up M 64 14 (mx (mx (mx (mx (mxl (gsR M) (5 * n) (mxl (fsR M) (2 * (M 65 0).toNat) (mxl (fun j => hmR M (j : Int)) 10 1777))) (M 65 (10 + (n : Int)))) (M 65 (16 + (n : Int)))) (M 65 (22 + (n : Int)))) (M 65 (28 + (n : Int)))))) ?_
      rintro _ _ ⟨rfl, rfl⟩
      rw [up_up]
      refine Hx.run 0 (pc' := 106) (L' := [some (vr 64), some (vi (n : Int)), some (vi 4)]) (st' := []) (M' := (up M 64 14 (mx (mx (mx (mx (mx (mxl (gsR M) (5 * n) (mxl (fsR M) (2 * (M 65 0).toNat) (mxl (fun j => hmR M (j : Int)) 10 1777))) (M 65 (10 + (n : Int)))) (M 65 (16 + (n : Int)))) (M 65 (22 + (n : Int)))) (M 65 (28 + (n : Int)))) (M 65 (34 + (n : Int)))))) rfl ?_
      refine Hx.inc rfl rfl (by omega) ?_
      refine Hx.run 0 (pc' := 109) (L' := [some (vr 64), some (vi (n : Int)), some (vi 5)]) (st' := []) (M' := (up M 64 14 (mx (mx (mx (mx (mx (mxl (gsR M) (5 * n) (mxl (fsR M) (2 * (M 65 0).toNat) (mxl (fun j => hmR M (j : Int)) 10 1777))) (M 65 (10 + (n : Int)))) (M 65 (16 + (n : Int)))) (M 65 (22 + (n : Int)))) (M 65 (28 + (n : Int)))) (M 65 (34 + (n : Int)))))) rfl ?_
      refine Hx.run 4 (pc' := 112) (L' := [some (vr 64), some (vi (n : Int)), some (vi 5)]) (st' := []) (M' := (up M 64 14 (mx (mx (mx (mx (mx (mxl (gsR M) (5 * n) (mxl (fsR M) (2 * (M 65 0).toNat) (mxl (fun j => hmR M (j : Int)) 10 1777))) (M 65 (10 + (n : Int)))) (M 65 (16 + (n : Int)))) (M 65 (22 + (n : Int)))) (M 65 (28 + (n : Int)))) (M 65 (34 + (n : Int)))))) rfl ?_
      refine Hx.inc rfl rfl (by omega) ?_
      refine Hx.run 0 (pc' := 115) (L' := [some (vr 64), some (vi ((n : Int) + 1)), some (vi 5)]) (st' := []) (M' := (up M 64 14 (mx (mx (mx (mx (mx (mxl (gsR M) (5 * n) (mxl (fsR M) (2 * (M 65 0).toNat) (mxl (fun j => hmR M (j : Int)) 10 1777))) (M 65 (10 + (n : Int)))) (M 65 (16 + (n : Int)))) (M 65 (22 + (n : Int)))) (M 65 (28 + (n : Int)))) (M 65 (34 + (n : Int)))))) rfl ?_
      refine Hx.run 1 (pc' := 78) (L' := [some (vr 64), some (vi ((n : Int) + 1)), some (vi 5)]) (st' := []) (M' := (up M 64 14 (mx (mx (mx (mx (mx (mxl (gsR M) (5 * n) (mxl (fsR M) (2 * (M 65 0).toNat) (mxl (fun j => hmR M (j : Int)) 10 1777))) (M 65 (10 + (n : Int)))) (M 65 (16 + (n : Int)))) (M 65 (22 + (n : Int)))) (M 65 (28 + (n : Int)))) (M 65 (34 + (n : Int)))))) rfl ?_
      have h9 := ih (n + 1) (some (vi 5)) (by omega) (by omega)
      rw [gsR_5] at h9
      exact h9
    · skip
      refine Hx.run 7 (pc' := 129) (L' := [some (vr 64), some (vi (n : Int)), j2]) (st' := [vi (M 65 40), vi 4, vi 41, vr 64]) (M' := (up M 64 14 (mxl (gsR M) (5 * n) (mxl (fsR M) (2 * (M 65 0).toNat) (mxl (fun j => hmR M (j : Int)) 10 1777))))) rfl ?_
      refine Hx.mul rfl (by omega) ?_
      refine Hx.call (t := 221) (as := [vr 64, vi 41, vi (4 * (M 65 40))]) (pc' := 133) (rest := []) rfl ((show Ct 221 [vr 64, vi 41, vi (4 * (M 65 40))] (up M 64 14 (mxl (gsR M) (5 * n) (mxl (fsR M) (2 * (M 65 0).toNat) (mxl (fun j => hmR M (j : Int)) 10 1777)))) _ from by rw [show (4 * (M 65 40)) = ((((M 65 40).toNat * 4) : Nat) : Int) by omega]; exact r_mixes 41 (mxl (gsR M) (5 * n) (mxl (fsR M) (2 * (M 65 0).toNat) (mxl (fun j => hmR M (j : Int)) 10 1777))) ((M 65 40).toNat * 4) M (by omega))) ?_
      rintro _ _ ⟨rfl, rfl⟩
      refine Hx.run 0 (pc' := 133) (L' := [some (vr 64), some (vi (n : Int)), j2]) (st' := []) (M' := (up M 64 14 (mxl (fun j => M 65 (41 + (j : Int))) ((M 65 40).toNat * 4) (mxl (gsR M) (5 * n) (mxl (fsR M) (2 * (M 65 0).toNat) (mxl (fun j => hmR M (j : Int)) 10 1777)))))) rfl ?_
      refine Hx.run 7 (pc' := 144) (L' := [some (vr 64), some (vi (n : Int)), j2]) (st' := [vi (M 65 61), vi 3, vi 62, vr 64]) (M' := (up M 64 14 (mxl (fun j => M 65 (41 + (j : Int))) ((M 65 40).toNat * 4) (mxl (gsR M) (5 * n) (mxl (fsR M) (2 * (M 65 0).toNat) (mxl (fun j => hmR M (j : Int)) 10 1777)))))) rfl ?_
      refine Hx.mul rfl (by omega) ?_
      refine Hx.call (t := 221) (as := [vr 64, vi 62, vi (3 * (M 65 61))]) (pc' := 148) (rest := []) rfl ((show Ct 221 [vr 64, vi 62, vi (3 * (M 65 61))] (up M 64 14 (mxl (fun j => M 65 (41 + (j : Int))) ((M 65 40).toNat * 4) (mxl (gsR M) (5 * n) (mxl (fsR M) (2 * (M 65 0).toNat) (mxl (fun j => hmR M (j : Int)) 10 1777))))) _ from by rw [show (3 * (M 65 61)) = ((((M 65 61).toNat * 3) : Nat) : Int) by omega]; exact r_mixes 62 (mxl (fun j => M 65 (41 + (j : Int))) ((M 65 40).toNat * 4) (mxl (gsR M) (5 * n) (mxl (fsR M) (2 * (M 65 0).toNat) (mxl (fun j => hmR M (j : Int)) 10 1777)))) ((M 65 61).toNat * 3) M (by omega))) ?_
      rintro _ _ ⟨rfl, rfl⟩
      refine Hx.run 0 (pc' := 148) (L' := [some (vr 64), some (vi (n : Int)), j2]) (st' := []) (M' := (up M 64 14 (mxl (fun j => M 65 (62 + (j : Int))) ((M 65 61).toNat * 3) (mxl (fun j => M 65 (41 + (j : Int))) ((M 65 40).toNat * 4) (mxl (gsR M) (5 * n) (mxl (fsR M) (2 * (M 65 0).toNat) (mxl (fun j => hmR M (j : Int)) 10 1777))))))) rfl ?_
      refine Hx.run 7 (pc' := 159) (L' := [some (vr 64), some (vi (n : Int)), j2]) (st' := [vi (M 65 80), vi 5, vi 81, vr 64]) (M' := (up M 64 14 (mxl (fun j => M 65 (62 + (j : Int))) ((M 65 61).toNat * 3) (mxl (fun j => M 65 (41 + (j : Int))) ((M 65 40).toNat * 4) (mxl (gsR M) (5 * n) (mxl (fsR M) (2 * (M 65 0).toNat) (mxl (fun j => hmR M (j : Int)) 10 1777))))))) rfl ?_
      refine Hx.mul rfl (by omega) ?_
      refine Hx.call (t := 221) (as := [vr 64, vi 81, vi (5 * (M 65 80))]) (pc' := 163) (rest := []) rfl ((show Ct 221 [vr 64, vi 81, vi (5 * (M 65 80))] (up M 64 14 (mxl (fun j => M 65 (62 + (j : Int))) ((M 65 61).toNat * 3) (mxl (fun j => M 65 (41 + (j : Int))) ((M 65 40).toNat * 4) (mxl (gsR M) (5 * n) (mxl (fsR M) (2 * (M 65 0).toNat) (mxl (fun j => hmR M (j : Int)) 10 1777)))))) _ from by rw [show (5 * (M 65 80)) = ((((M 65 80).toNat * 5) : Nat) : Int) by omega]; exact r_mixes 81 (mxl (fun j => M 65 (62 + (j : Int))) ((M 65 61).toNat * 3) (mxl (fun j => M 65 (41 + (j : Int))) ((M 65 40).toNat * 4) (mxl (gsR M) (5 * n) (mxl (fsR M) (2 * (M 65 0).toNat) (mxl (fun j => hmR M (j : Int)) 10 1777))))) ((M 65 80).toNat * 5) M (by omega))) ?_
      rintro _ _ ⟨rfl, rfl⟩
      refine Hx.run 0 (pc' := 163) (L' := [some (vr 64), some (vi (n : Int)), j2]) (st' := []) (M' := (up M 64 14 (mxl (fun j => M 65 (81 + (j : Int))) ((M 65 80).toNat * 5) (mxl (fun j => M 65 (62 + (j : Int))) ((M 65 61).toNat * 3) (mxl (fun j => M 65 (41 + (j : Int))) ((M 65 40).toNat * 4) (mxl (gsR M) (5 * n) (mxl (fsR M) (2 * (M 65 0).toNat) (mxl (fun j => hmR M (j : Int)) 10 1777)))))))) rfl ?_
      refine Hx.run 3 (pc' := 168) (L' := [some (vr 64), some (vi (n : Int)), j2]) (st' := [vl (M 64 4), vr 64]) (M' := (up M 64 14 (mxl (fun j => M 65 (81 + (j : Int))) ((M 65 80).toNat * 5) (mxl (fun j => M 65 (62 + (j : Int))) ((M 65 61).toNat * 3) (mxl (fun j => M 65 (41 + (j : Int))) ((M 65 40).toNat * 4) (mxl (gsR M) (5 * n) (mxl (fsR M) (2 * (M 65 0).toNat) (mxl (fun j => hmR M (j : Int)) 10 1777)))))))) rfl ?_
      refine Hx.call (t := 220) (as := [vr 64, vl (M 64 4)]) (pc' := 171) (rest := []) rfl (r_mix (M 64 4) (up M 64 14 (mxl (fun j => M 65 (81 + (j : Int))) ((M 65 80).toNat * 5) (mxl (fun j => M 65 (62 + (j : Int))) ((M 65 61).toNat * 3) (mxl (fun j => M 65 (41 + (j : Int))) ((M 65 40).toNat * 4) (mxl (gsR M) (5 * n) (mxl (fsR M) (2 * (M 65 0).toNat) (mxl (fun j => hmR M (j : Int)) 10 1777)))))))) ?_
      rintro _ _ ⟨rfl, rfl⟩
      rw [up_up]
      refine Hx.run 0 (pc' := 171) (L' := [some (vr 64), some (vi (n : Int)), j2]) (st' := []) (M' := (up M 64 14 (mx (mxl (fun j => M 65 (81 + (j : Int))) ((M 65 80).toNat * 5) (mxl (fun j => M 65 (62 + (j : Int))) ((M 65 61).toNat * 3) (mxl (fun j => M 65 (41 + (j : Int))) ((M 65 40).toNat * 4) (mxl (gsR M) (5 * n) (mxl (fsR M) (2 * (M 65 0).toNat) (mxl (fun j => hmR M (j : Int)) 10 1777)))))) (M 64 4)))) rfl ?_
      refine Hx.run 3 (pc' := 176) (L' := [some (vr 64), some (vi (n : Int)), j2]) (st' := [vl (M 64 5), vr 64]) (M' := (up M 64 14 (mx (mxl (fun j => M 65 (81 + (j : Int))) ((M 65 80).toNat * 5) (mxl (fun j => M 65 (62 + (j : Int))) ((M 65 61).toNat * 3) (mxl (fun j => M 65 (41 + (j : Int))) ((M 65 40).toNat * 4) (mxl (gsR M) (5 * n) (mxl (fsR M) (2 * (M 65 0).toNat) (mxl (fun j => hmR M (j : Int)) 10 1777)))))) (M 64 4)))) rfl ?_
      refine Hx.call (t := 220) (as := [vr 64, vl (M 64 5)]) (pc' := 179) (rest := []) rfl (r_mix (M 64 5) (up M 64 14 (mx (mxl (fun j => M 65 (81 + (j : Int))) ((M 65 80).toNat * 5) (mxl (fun j => M 65 (62 + (j : Int))) ((M 65 61).toNat * 3) (mxl (fun j => M 65 (41 + (j : Int))) ((M 65 40).toNat * 4) (mxl (gsR M) (5 * n) (mxl (fsR M) (2 * (M 65 0).toNat) (mxl (fun j => hmR M (j : Int)) 10 1777)))))) (M 64 4)))) ?_
      rintro _ _ ⟨rfl, rfl⟩
      rw [up_up]
      refine Hx.run 0 (pc' := 179) (L' := [some (vr 64), some (vi (n : Int)), j2]) (st' := []) (M' := (up M 64 14 (mx (mx (mxl (fun j => M 65 (81 + (j : Int))) ((M 65 80).toNat * 5) (mxl (fun j => M 65 (62 + (j : Int))) ((M 65 61).toNat * 3) (mxl (fun j => M 65 (41 + (j : Int))) ((M 65 40).toNat * 4) (mxl (gsR M) (5 * n) (mxl (fsR M) (2 * (M 65 0).toNat) (mxl (fun j => hmR M (j : Int)) 10 1777)))))) (M 64 4)) (M 64 5)))) rfl ?_
      refine Hx.run 2 (pc' := 183) (L' := [some (vr 64), some (vi (n : Int)), j2]) (st' := [vl (mx (mx (mxl (fun j => M 65 (81 + (j : Int))) ((M 65 80).toNat * 5) (mxl (fun j => M 65 (62 + (j : Int))) ((M 65 61).toNat * 3) (mxl (fun j => M 65 (41 + (j : Int))) ((M 65 40).toNat * 4) (mxl (gsR M) (5 * n) (mxl (fsR M) (2 * (M 65 0).toNat) (mxl (fun j => hmR M (j : Int)) 10 1777)))))) (M 64 4)) (M 64 5))]) (M' := (up M 64 14 (mx (mx (mxl (fun j => M 65 (81 + (j : Int))) ((M 65 80).toNat * 5) (mxl (fun j => M 65 (62 + (j : Int))) ((M 65 61).toNat * 3) (mxl (fun j => M 65 (41 + (j : Int))) ((M 65 40).toNat * 4) (mxl (gsR M) (5 * n) (mxl (fsR M) (2 * (M 65 0).toNat) (mxl (fun j => hmR M (j : Int)) 10 1777)))))) (M 64 4)) (M 64 5)))) rfl ?_
      refine Hx.ret rfl ?_
      have e : n = (M 65 1).toNat := by omega
      subst e
      exact ⟨rfl, rfl⟩
set_option maxRecDepth 100000 in
set_option maxHeartbeats 4000000 in
theorem rl_digF (M : Mm) (hI : RI M 0) : ∀ (kk : Nat) (n : Nat) (j2 : Option PV), (n : Int) ≤ M 65 0 → M 65 0 - (n : Int) < (kk : Int) → Hx 222 33 [some (vr 64), some (vi (n : Int)), j2] [] (up M 64 14 (mxl (fsR M) (2 * n) (mxl (fun j => hmR M (j : Int)) 10 1777))) (fun q0 M' => q0 = some (vl (dgF (fun j => hmR M (j : Int)) (M 65 0).toNat (fsR M) (M 65 1).toNat (gsR M) (M 65 40).toNat (fun j => M 65 (41 + (j : Int))) (M 65 61).toNat (fun j => M 65 (62 + (j : Int))) (M 65 80).toNat (fun j => M 65 (81 + (j : Int))) (M 64 4) (M 64 5))) ∧ up M 64 14 (dgF (fun j => hmR M (j : Int)) (M 65 0).toNat (fsR M) (M 65 1).toNat (gsR M) (M 65 40).toNat (fun j => M 65 (41 + (j : Int))) (M 65 61).toNat (fun j => M 65 (62 + (j : Int))) (M 65 80).toNat (fun j => M 65 (81 + (j : Int))) (M 64 4) (M 64 5)) = M') := by
  intro kk
  induction kk with
  | zero => intro n j2 _ hkk; exact absurd hkk (by omega)
  | succ kk ih =>
    intro n j2 hn hkk
    obtain ⟨r0, r1, r2, r3, r40, r61, r80, r111, rF, rG⟩ := (show (0 ≤ M 65 0 ∧ M 65 0 ≤ 3) ∧ (0 ≤ M 65 1 ∧ M 65 1 ≤ 6) ∧ (0 ≤ M 65 2 ∧ M 65 2 ≤ 9999) ∧ (0 ≤ M 65 3 ∧ M 65 3 ≤ 9000) ∧ (0 ≤ M 65 40 ∧ M 65 40 ≤ 5) ∧ (0 ≤ M 65 61 ∧ M 65 61 ≤ 6) ∧ (0 ≤ M 65 80 ∧ M 65 80 ≤ 6) ∧ (0 ≤ M 65 111 ∧ M 65 111 ≤ 8) ∧ (∀ f : Int, 0 ≤ f → f < M 65 0 → (0 ≤ M 65 (4 + f) ∧ M 65 (4 + f) ≤ 5) ∧ (1 ≤ M 65 (7 + f) ∧ M 65 (7 + f) ≤ 10)) ∧ (∀ i : Int, 0 ≤ i → i < M 65 1 → (0 ≤ M 65 (10 + i) ∧ M 65 (10 + i) ≤ 5) ∧ (1 ≤ M 65 (16 + i) ∧ M 65 (16 + i) ≤ 4) ∧ (0 ≤ M 65 (22 + i) ∧ M 65 (22 + i) < M 65 0) ∧ (0 ≤ M 65 (28 + i) ∧ M 65 (28 + i) ≤ 11) ∧ (0 ≤ M 65 (34 + i) ∧ M 65 (34 + i) ≤ 9)) from hI)
    refine Hx.run 5 (pc' := 40) (L' := [some (vr 64), some (vi (n : Int)), j2]) (st' := [vi (M 65 0), vi (n : Int)]) (M' := (up M 64 14 (mxl (fsR M) (2 * n) (mxl (fun j => hmR M (j : Int)) 10 1777)))) rfl ?_
    refine Hx.br (c := (n : Int) < (M 65 0)) (t := 43) (f := 76) rfl (fun h1 => ?_) (fun h1 => ?_)
    · skip
      refine Hx.run 5 (pc' := 50) (L' := [some (vr 64), some (vi (n : Int)), j2]) (st' := [vi (n : Int), vi 4, vr 65, vr 64]) (M' := (up M 64 14 (mxl (fsR M) (2 * n) (mxl (fun j => hmR M (j : Int)) 10 1777)))) rfl ?_
      refine Hx.add rfl (by omega) ?_
      refine Hx.aldI (n := 1032) rfl rfl (by omega) ?_
      refine Hx.run 0 (pc' := 52) (L' := [some (vr 64), some (vi (n : Int)), j2]) (st' := [vi (M 65 (4 + (n : Int))), vr 64]) (M' := (up M 64 14 (mxl (fsR M) (2 * n) (mxl (fun j => hmR M (j : Int)) 10 1777)))) rfl ?_
      refine Hx.run 1 (pc' := 53) (L' := [some (vr 64), some (vi (n : Int)), j2]) (st' := [vl (M 65 (4 + (n : Int))), vr 64]) (M' := (up M 64 14 (mxl (fsR M) (2 * n) (mxl (fun j => hmR M (j : Int)) 10 1777)))) rfl ?_
      refine Hx.call (t := 220) (as := [vr 64, vl (M 65 (4 + (n : Int)))]) (pc' := 56) (rest := []) rfl (r_mix (M 65 (4 + (n : Int))) (up M 64 14 (mxl (fsR M) (2 * n) (mxl (fun j => hmR M (j : Int)) 10 1777)))) ?_
      rintro _ _ ⟨rfl, rfl⟩
      rw [up_up]
      refine Hx.run 0 (pc' := 56) (L' := [some (vr 64), some (vi (n : Int)), j2]) (st' := []) (M' := (up M 64 14 (mx (mxl (fsR M) (2 * n) (mxl (fun j => hmR M (j : Int)) 10 1777)) (M 65 (4 + (n : Int)))))) rfl ?_
      refine Hx.run 5 (pc' := 64) (L' := [some (vr 64), some (vi (n : Int)), j2]) (st' := [vi (n : Int), vi 7, vr 65, vr 64]) (M' := (up M 64 14 (mx (mxl (fsR M) (2 * n) (mxl (fun j => hmR M (j : Int)) 10 1777)) (M 65 (4 + (n : Int)))))) rfl ?_
      refine Hx.add rfl (by omega) ?_
      refine Hx.aldI (n := 1032) rfl rfl (by omega) ?_
      refine Hx.run 0 (pc' := 66) (L' := [some (vr 64), some (vi (n : Int)), j2]) (st' := [vi (M 65 (7 + (n : Int))), vr 64]) (M' := (up M 64 14 (mx (mxl (fsR M) (2 * n) (mxl (fun j => hmR M (j : Int)) 10 1777)) (M 65 (4 + (n : Int)))))) rfl ?_
      refine Hx.run 1 (pc' := 67) (L' := [some (vr 64), some (vi (n : Int)), j2]) (st' := [vl (M 65 (7 + (n : Int))), vr 64]) (M' := (up M 64 14 (mx (mxl (fsR M) (2 * n) (mxl (fun j => hmR M (j : Int)) 10 1777)) (M 65 (4 + (n : Int)))))) rfl ?_
      refine Hx.call (t := 220) (as := [vr 64, vl (M 65 (7 + (n : Int)))]) (pc' := 70) (rest := []) rfl (r_mix (M 65 (7 + (n : Int))) (up M 64 14 (mx (mxl (fsR M) (2 * n) (mxl (fun j => hmR M (j : Int)) 10 1777)) (M 65 (4 + (n : Int)))))) ?_
      rintro _ _ ⟨rfl, rfl⟩
      rw [up_up]
      refine Hx.run 0 (pc' := 70) (L' := [some (vr 64), some (vi (n : Int)), j2]) (st' := []) (M' := (up M 64 14 (mx (mx (mxl (fsR M) (2 * n) (mxl (fun j => hmR M (j : Int)) 10 1777)) (M 65 (4 + (n : Int)))) (M 65 (7 + (n : Int)))))) rfl ?_
      refine Hx.inc rfl rfl (by omega) ?_
      refine Hx.run 0 (pc' := 73) (L' := [some (vr 64), some (vi ((n : Int) + 1)), j2]) (st' := []) (M' := (up M 64 14 (mx (mx (mxl (fsR M) (2 * n) (mxl (fun j => hmR M (j : Int)) 10 1777)) (M 65 (4 + (n : Int)))) (M 65 (7 + (n : Int)))))) rfl ?_
      refine Hx.run 1 (pc' := 33) (L' := [some (vr 64), some (vi ((n : Int) + 1)), j2]) (st' := []) (M' := (up M 64 14 (mx (mx (mxl (fsR M) (2 * n) (mxl (fun j => hmR M (j : Int)) 10 1777)) (M 65 (4 + (n : Int)))) (M 65 (7 + (n : Int)))))) rfl ?_
      have h9 := ih (n + 1) j2 (by omega) (by omega)
      rw [fsR_2] at h9
      exact h9
    · skip
      refine Hx.run 2 (pc' := 78) (L' := [some (vr 64), some (vi 0), j2]) (st' := []) (M' := (up M 64 14 (mxl (fsR M) (2 * n) (mxl (fun j => hmR M (j : Int)) 10 1777)))) rfl ?_
      have e : n = (M 65 0).toNat := by omega
      subst e
      exact rl_digG M hI 10 0 j2 (by omega) (by omega)
set_option maxRecDepth 100000 in
set_option maxHeartbeats 2000000 in
theorem R_digest (M : Mm) (hI : RI M 0) : Ct 222 [vr 64] M (fun q0 M' => q0 = some (vl (dgF (fun j => hmR M (j : Int)) (M 65 0).toNat (fsR M) (M 65 1).toNat (gsR M) (M 65 40).toNat (fun j => M 65 (41 + (j : Int))) (M 65 61).toNat (fun j => M 65 (62 + (j : Int))) (M 65 80).toNat (fun j => M 65 (81 + (j : Int))) (M 64 4) (M 64 5))) ∧ up M 64 14 (dgF (fun j => hmR M (j : Int)) (M 65 0).toNat (fsR M) (M 65 1).toNat (gsR M) (M 65 40).toNat (fun j => M 65 (41 + (j : Int))) (M 65 61).toNat (fun j => M 65 (62 + (j : Int))) (M 65 80).toNat (fun j => M 65 (81 + (j : Int))) (M 64 4) (M 64 5)) = M') := by
  obtain ⟨r0, r1, r2, r3, r40, r61, r80, r111, rF, rG⟩ := (show (0 ≤ M 65 0 ∧ M 65 0 ≤ 3) ∧ (0 ≤ M 65 1 ∧ M 65 1 ≤ 6) ∧ (0 ≤ M 65 2 ∧ M 65 2 ≤ 9999) ∧ (0 ≤ M 65 3 ∧ M 65 3 ≤ 9000) ∧ (0 ≤ M 65 40 ∧ M 65 40 ≤ 5) ∧ (0 ≤ M 65 61 ∧ M 65 61 ≤ 6) ∧ (0 ≤ M 65 80 ∧ M 65 80 ≤ 6) ∧ (0 ≤ M 65 111 ∧ M 65 111 ≤ 8) ∧ (∀ f : Int, 0 ≤ f → f < M 65 0 → (0 ≤ M 65 (4 + f) ∧ M 65 (4 + f) ≤ 5) ∧ (1 ≤ M 65 (7 + f) ∧ M 65 (7 + f) ≤ 10)) ∧ (∀ i : Int, 0 ≤ i → i < M 65 1 → (0 ≤ M 65 (10 + i) ∧ M 65 (10 + i) ≤ 5) ∧ (1 ≤ M 65 (16 + i) ∧ M 65 (16 + i) ≤ 4) ∧ (0 ≤ M 65 (22 + i) ∧ M 65 (22 + i) < M 65 0) ∧ (0 ≤ M 65 (28 + i) ∧ M 65 (28 + i) ≤ 11) ∧ (0 ≤ M 65 (34 + i) ∧ M 65 (34 + i) ≤ 9)) from hI)
  refine Hx.run 11 (pc' := 18) (L' := [some (vr 64), some (vi 0), none]) (st' := [vi 0, vr 64, vr 64]) (M' := (up M 64 14 1777)) rfl ?_
  refine Hx.call (t := 218) (as := [vr 64, vi 0]) (pc' := 21) (rest := [vr 64]) rfl (r_countU 0 1777 M (by omega) (by omega)) ?_
  rintro _ _ ⟨rfl, rfl⟩
  refine Hx.run 0 (pc' := 21) (L' := [some (vr 64), some (vi 0), none]) (st' := [vi (hmR M 0), vr 64]) (M' := (up M 64 14 1777)) rfl ?_
  refine Hx.run 1 (pc' := 22) (L' := [some (vr 64), some (vi 0), none]) (st' := [vl (hmR M 0), vr 64]) (M' := (up M 64 14 1777)) rfl ?_
  refine Hx.call (t := 220) (as := [vr 64, vl (hmR M 0)]) (pc' := 25) (rest := []) rfl (r_mix (hmR M 0) (up M 64 14 1777)) ?_
  rintro _ _ ⟨rfl, rfl⟩
  rw [up_up]
  refine Hx.run 0 (pc' := 25) (L' := [some (vr 64), some (vi 0), none]) (st' := []) (M' := (up M 64 14 (mx 1777 (hmR M 0)))) rfl ?_
  refine Hx.inc rfl rfl (by omega) ?_
  refine Hx.run 0 (pc' := 28) (L' := [some (vr 64), some (vi 1), none]) (st' := []) (M' := (up M 64 14 (mx 1777 (hmR M 0)))) rfl ?_
  refine Hx.run 7 (pc' := 18) (L' := [some (vr 64), some (vi 1), none]) (st' := [vi 1, vr 64, vr 64]) (M' := (up M 64 14 (mx 1777 (hmR M 0)))) rfl ?_
  refine Hx.call (t := 218) (as := [vr 64, vi 1]) (pc' := 21) (rest := [vr 64]) rfl (r_countU 1 (mx 1777 (hmR M 0)) M (by omega) (by omega)) ?_
  rintro _ _ ⟨rfl, rfl⟩
  refine Hx.run 0 (pc' := 21) (L' := [some (vr 64), some (vi 1), none]) (st' := [vi (hmR M 1), vr 64]) (M' := (up M 64 14 (mx 1777 (hmR M 0)))) rfl ?_
  refine Hx.run 1 (pc' := 22) (L' := [some (vr 64), some (vi 1), none]) (st' := [vl (hmR M 1), vr 64]) (M' := (up M 64 14 (mx 1777 (hmR M 0)))) rfl ?_
  refine Hx.call (t := 220) (as := [vr 64, vl (hmR M 1)]) (pc' := 25) (rest := []) rfl (r_mix (hmR M 1) (up M 64 14 (mx 1777 (hmR M 0)))) ?_
  rintro _ _ ⟨rfl, rfl⟩
  rw [up_up]
  refine Hx.run 0 (pc' := 25) (L' := [some (vr 64), some (vi 1), none]) (st' := []) (M' := (up M 64 14 (mx (mx 1777 (hmR M 0)) (hmR M 1)))) rfl ?_
  refine Hx.inc rfl rfl (by omega) ?_
  refine Hx.run 0 (pc' := 28) (L' := [some (vr 64), some (vi 2), none]) (st' := []) (M' := (up M 64 14 (mx (mx 1777 (hmR M 0)) (hmR M 1)))) rfl ?_
  refine Hx.run 7 (pc' := 18) (L' := [some (vr 64), some (vi 2), none]) (st' := [vi 2, vr 64, vr 64]) (M' := (up M 64 14 (mx (mx 1777 (hmR M 0)) (hmR M 1)))) rfl ?_
  refine Hx.call (t := 218) (as := [vr 64, vi 2]) (pc' := 21) (rest := [vr 64]) rfl (r_countU 2 (mx (mx 1777 (hmR M 0)) (hmR M 1)) M (by omega) (by omega)) ?_
  rintro _ _ ⟨rfl, rfl⟩
  refine Hx.run 0 (pc' := 21) (L' := [some (vr 64), some (vi 2), none]) (st' := [vi (hmR M 2), vr 64]) (M' := (up M 64 14 (mx (mx 1777 (hmR M 0)) (hmR M 1)))) rfl ?_
  refine Hx.run 1 (pc' := 22) (L' := [some (vr 64), some (vi 2), none]) (st' := [vl (hmR M 2), vr 64]) (M' := (up M 64 14 (mx (mx 1777 (hmR M 0)) (hmR M 1)))) rfl ?_
  refine Hx.call (t := 220) (as := [vr 64, vl (hmR M 2)]) (pc' := 25) (rest := []) rfl (r_mix (hmR M 2) (up M 64 14 (mx (mx 1777 (hmR M 0)) (hmR M 1)))) ?_
  rintro _ _ ⟨rfl, rfl⟩
  rw [up_up]
  refine Hx.run 0 (pc' := 25) (L' := [some (vr 64), some (vi 2), none]) (st' := []) (M' := (up M 64 14 (mx (mx (mx 1777 (hmR M 0)) (hmR M 1)) (hmR M 2)))) rfl ?_
  refine Hx.inc rfl rfl (by omega) ?_
  refine Hx.run 0 (pc' := 28) (L' := [some (vr 64), some (vi 3), none]) (st' := []) (M' := (up M 64 14 (mx (mx (mx 1777 (hmR M 0)) (hmR M 1)) (hmR M 2)))) rfl ?_
  refine Hx.run 7 (pc' := 18) (L' := [some (vr 64), some (vi 3), none]) (st' := [vi 3, vr 64, vr 64]) (M' := (up M 64 14 (mx (mx (mx 1777 (hmR M 0)) (hmR M 1)) (hmR M 2)))) rfl ?_
  refine Hx.call (t := 218) (as := [vr 64, vi 3]) (pc' := 21) (rest := [vr 64]) rfl (r_countU 3 (mx (mx (mx 1777 (hmR M 0)) (hmR M 1)) (hmR M 2)) M (by omega) (by omega)) ?_
  rintro _ _ ⟨rfl, rfl⟩
  refine Hx.run 0 (pc' := 21) (L' := [some (vr 64), some (vi 3), none]) (st' := [vi (hmR M 3), vr 64]) (M' := (up M 64 14 (mx (mx (mx 1777 (hmR M 0)) (hmR M 1)) (hmR M 2)))) rfl ?_
  refine Hx.run 1 (pc' := 22) (L' := [some (vr 64), some (vi 3), none]) (st' := [vl (hmR M 3), vr 64]) (M' := (up M 64 14 (mx (mx (mx 1777 (hmR M 0)) (hmR M 1)) (hmR M 2)))) rfl ?_
  refine Hx.call (t := 220) (as := [vr 64, vl (hmR M 3)]) (pc' := 25) (rest := []) rfl (r_mix (hmR M 3) (up M 64 14 (mx (mx (mx 1777 (hmR M 0)) (hmR M 1)) (hmR M 2)))) ?_
  rintro _ _ ⟨rfl, rfl⟩
  rw [up_up]
  refine Hx.run 0 (pc' := 25) (L' := [some (vr 64), some (vi 3), none]) (st' := []) (M' := (up M 64 14 (mx (mx (mx (mx 1777 (hmR M 0)) (hmR M 1)) (hmR M 2)) (hmR M 3)))) rfl ?_
  refine Hx.inc rfl rfl (by omega) ?_
  refine Hx.run 0 (pc' := 28) (L' := [some (vr 64), some (vi 4), none]) (st' := []) (M' := (up M 64 14 (mx (mx (mx (mx 1777 (hmR M 0)) (hmR M 1)) (hmR M 2)) (hmR M 3)))) rfl ?_
  refine Hx.run 7 (pc' := 18) (L' := [some (vr 64), some (vi 4), none]) (st' := [vi 4, vr 64, vr 64]) (M' := (up M 64 14 (mx (mx (mx (mx 1777 (hmR M 0)) (hmR M 1)) (hmR M 2)) (hmR M 3)))) rfl ?_
  refine Hx.call (t := 218) (as := [vr 64, vi 4]) (pc' := 21) (rest := [vr 64]) rfl (r_countU 4 (mx (mx (mx (mx 1777 (hmR M 0)) (hmR M 1)) (hmR M 2)) (hmR M 3)) M (by omega) (by omega)) ?_
  rintro _ _ ⟨rfl, rfl⟩
  refine Hx.run 0 (pc' := 21) (L' := [some (vr 64), some (vi 4), none]) (st' := [vi (hmR M 4), vr 64]) (M' := (up M 64 14 (mx (mx (mx (mx 1777 (hmR M 0)) (hmR M 1)) (hmR M 2)) (hmR M 3)))) rfl ?_
  refine Hx.run 1 (pc' := 22) (L' := [some (vr 64), some (vi 4), none]) (st' := [vl (hmR M 4), vr 64]) (M' := (up M 64 14 (mx (mx (mx (mx 1777 (hmR M 0)) (hmR M 1)) (hmR M 2)) (hmR M 3)))) rfl ?_
  refine Hx.call (t := 220) (as := [vr 64, vl (hmR M 4)]) (pc' := 25) (rest := []) rfl (r_mix (hmR M 4) (up M 64 14 (mx (mx (mx (mx 1777 (hmR M 0)) (hmR M 1)) (hmR M 2)) (hmR M 3)))) ?_
  rintro _ _ ⟨rfl, rfl⟩
  rw [up_up]
  refine Hx.run 0 (pc' := 25) (L' := [some (vr 64), some (vi 4), none]) (st' := []) (M' := (up M 64 14 (mx (mx (mx (mx (mx 1777 (hmR M 0)) (hmR M 1)) (hmR M 2)) (hmR M 3)) (hmR M 4)))) rfl ?_
  refine Hx.inc rfl rfl (by omega) ?_
  refine Hx.run 0 (pc' := 28) (L' := [some (vr 64), some (vi 5), none]) (st' := []) (M' := (up M 64 14 (mx (mx (mx (mx (mx 1777 (hmR M 0)) (hmR M 1)) (hmR M 2)) (hmR M 3)) (hmR M 4)))) rfl ?_
  refine Hx.run 7 (pc' := 18) (L' := [some (vr 64), some (vi 5), none]) (st' := [vi 5, vr 64, vr 64]) (M' := (up M 64 14 (mx (mx (mx (mx (mx 1777 (hmR M 0)) (hmR M 1)) (hmR M 2)) (hmR M 3)) (hmR M 4)))) rfl ?_
  refine Hx.call (t := 218) (as := [vr 64, vi 5]) (pc' := 21) (rest := [vr 64]) rfl (r_countU 5 (mx (mx (mx (mx (mx 1777 (hmR M 0)) (hmR M 1)) (hmR M 2)) (hmR M 3)) (hmR M 4)) M (by omega) (by omega)) ?_
  rintro _ _ ⟨rfl, rfl⟩
  refine Hx.run 0 (pc' := 21) (L' := [some (vr 64), some (vi 5), none]) (st' := [vi (hmR M 5), vr 64]) (M' := (up M 64 14 (mx (mx (mx (mx (mx 1777 (hmR M 0)) (hmR M 1)) (hmR M 2)) (hmR M 3)) (hmR M 4)))) rfl ?_
  refine Hx.run 1 (pc' := 22) (L' := [some (vr 64), some (vi 5), none]) (st' := [vl (hmR M 5), vr 64]) (M' := (up M 64 14 (mx (mx (mx (mx (mx 1777 (hmR M 0)) (hmR M 1)) (hmR M 2)) (hmR M 3)) (hmR M 4)))) rfl ?_
  refine Hx.call (t := 220) (as := [vr 64, vl (hmR M 5)]) (pc' := 25) (rest := []) rfl (r_mix (hmR M 5) (up M 64 14 (mx (mx (mx (mx (mx 1777 (hmR M 0)) (hmR M 1)) (hmR M 2)) (hmR M 3)) (hmR M 4)))) ?_
  rintro _ _ ⟨rfl, rfl⟩
  rw [up_up]
  refine Hx.run 0 (pc' := 25) (L' := [some (vr 64), some (vi 5), none]) (st' := []) (M' := (up M 64 14 (mx (mx (mx (mx (mx (mx 1777 (hmR M 0)) (hmR M 1)) (hmR M 2)) (hmR M 3)) (hmR M 4)) (hmR M 5)))) rfl ?_
  refine Hx.inc rfl rfl (by omega) ?_
  refine Hx.run 0 (pc' := 28) (L' := [some (vr 64), some (vi 6), none]) (st' := []) (M' := (up M 64 14 (mx (mx (mx (mx (mx (mx 1777 (hmR M 0)) (hmR M 1)) (hmR M 2)) (hmR M 3)) (hmR M 4)) (hmR M 5)))) rfl ?_
  refine Hx.run 7 (pc' := 18) (L' := [some (vr 64), some (vi 6), none]) (st' := [vi 6, vr 64, vr 64]) (M' := (up M 64 14 (mx (mx (mx (mx (mx (mx 1777 (hmR M 0)) (hmR M 1)) (hmR M 2)) (hmR M 3)) (hmR M 4)) (hmR M 5)))) rfl ?_
  refine Hx.call (t := 218) (as := [vr 64, vi 6]) (pc' := 21) (rest := [vr 64]) rfl (r_countU 6 (mx (mx (mx (mx (mx (mx 1777 (hmR M 0)) (hmR M 1)) (hmR M 2)) (hmR M 3)) (hmR M 4)) (hmR M 5)) M (by omega) (by omega)) ?_
  rintro _ _ ⟨rfl, rfl⟩
  refine Hx.run 0 (pc' := 21) (L' := [some (vr 64), some (vi 6), none]) (st' := [vi (hmR M 6), vr 64]) (M' := (up M 64 14 (mx (mx (mx (mx (mx (mx 1777 (hmR M 0)) (hmR M 1)) (hmR M 2)) (hmR M 3)) (hmR M 4)) (hmR M 5)))) rfl ?_
  refine Hx.run 1 (pc' := 22) (L' := [some (vr 64), some (vi 6), none]) (st' := [vl (hmR M 6), vr 64]) (M' := (up M 64 14 (mx (mx (mx (mx (mx (mx 1777 (hmR M 0)) (hmR M 1)) (hmR M 2)) (hmR M 3)) (hmR M 4)) (hmR M 5)))) rfl ?_
  refine Hx.call (t := 220) (as := [vr 64, vl (hmR M 6)]) (pc' := 25) (rest := []) rfl (r_mix (hmR M 6) (up M 64 14 (mx (mx (mx (mx (mx (mx 1777 (hmR M 0)) (hmR M 1)) (hmR M 2)) (hmR M 3)) (hmR M 4)) (hmR M 5)))) ?_
  rintro _ _ ⟨rfl, rfl⟩
  rw [up_up]
  refine Hx.run 0 (pc' := 25) (L' := [some (vr 64), some (vi 6), none]) (st' := []) (M' := (up M 64 14 (mx (mx (mx (mx (mx (mx (mx 1777 (hmR M 0)) (hmR M 1)) (hmR M 2)) (hmR M 3)) (hmR M 4)) (hmR M 5)) (hmR M 6)))) rfl ?_
  refine Hx.inc rfl rfl (by omega) ?_
  refine Hx.run 0 (pc' := 28) (L' := [some (vr 64), some (vi 7), none]) (st' := []) (M' := (up M 64 14 (mx (mx (mx (mx (mx (mx (mx 1777 (hmR M 0)) (hmR M 1)) (hmR M 2)) (hmR M 3)) (hmR M 4)) (hmR M 5)) (hmR M 6)))) rfl ?_
  refine Hx.run 7 (pc' := 18) (L' := [some (vr 64), some (vi 7), none]) (st' := [vi 7, vr 64, vr 64]) (M' := (up M 64 14 (mx (mx (mx (mx (mx (mx (mx 1777 (hmR M 0)) (hmR M 1)) (hmR M 2)) (hmR M 3)) (hmR M 4)) (hmR M 5)) (hmR M 6)))) rfl ?_
  refine Hx.call (t := 218) (as := [vr 64, vi 7]) (pc' := 21) (rest := [vr 64]) rfl (r_countU 7 (mx (mx (mx (mx (mx (mx (mx 1777 (hmR M 0)) (hmR M 1)) (hmR M 2)) (hmR M 3)) (hmR M 4)) (hmR M 5)) (hmR M 6)) M (by omega) (by omega)) ?_
  rintro _ _ ⟨rfl, rfl⟩
  refine Hx.run 0 (pc' := 21) (L' := [some (vr 64), some (vi 7), none]) (st' := [vi (hmR M 7), vr 64]) (M' := (up M 64 14 (mx (mx (mx (mx (mx (mx (mx 1777 (hmR M 0)) (hmR M 1)) (hmR M 2)) (hmR M 3)) (hmR M 4)) (hmR M 5)) (hmR M 6)))) rfl ?_
  refine Hx.run 1 (pc' := 22) (L' := [some (vr 64), some (vi 7), none]) (st' := [vl (hmR M 7), vr 64]) (M' := (up M 64 14 (mx (mx (mx (mx (mx (mx (mx 1777 (hmR M 0)) (hmR M 1)) (hmR M 2)) (hmR M 3)) (hmR M 4)) (hmR M 5)) (hmR M 6)))) rfl ?_
  refine Hx.call (t := 220) (as := [vr 64, vl (hmR M 7)]) (pc' := 25) (rest := []) rfl (r_mix (hmR M 7) (up M 64 14 (mx (mx (mx (mx (mx (mx (mx 1777 (hmR M 0)) (hmR M 1)) (hmR M 2)) (hmR M 3)) (hmR M 4)) (hmR M 5)) (hmR M 6)))) ?_
  rintro _ _ ⟨rfl, rfl⟩
  rw [up_up]
  refine Hx.run 0 (pc' := 25) (L' := [some (vr 64), some (vi 7), none]) (st' := []) (M' := (up M 64 14 (mx (mx (mx (mx (mx (mx (mx (mx 1777 (hmR M 0)) (hmR M 1)) (hmR M 2)) (hmR M 3)) (hmR M 4)) (hmR M 5)) (hmR M 6)) (hmR M 7)))) rfl ?_
  refine Hx.inc rfl rfl (by omega) ?_
  refine Hx.run 0 (pc' := 28) (L' := [some (vr 64), some (vi 8), none]) (st' := []) (M' := (up M 64 14 (mx (mx (mx (mx (mx (mx (mx (mx 1777 (hmR M 0)) (hmR M 1)) (hmR M 2)) (hmR M 3)) (hmR M 4)) (hmR M 5)) (hmR M 6)) (hmR M 7)))) rfl ?_
  refine Hx.run 7 (pc' := 18) (L' := [some (vr 64), some (vi 8), none]) (st' := [vi 8, vr 64, vr 64]) (M' := (up M 64 14 (mx (mx (mx (mx (mx (mx (mx (mx 1777 (hmR M 0)) (hmR M 1)) (hmR M 2)) (hmR M 3)) (hmR M 4)) (hmR M 5)) (hmR M 6)) (hmR M 7)))) rfl ?_
  refine Hx.call (t := 218) (as := [vr 64, vi 8]) (pc' := 21) (rest := [vr 64]) rfl (r_countU 8 (mx (mx (mx (mx (mx (mx (mx (mx 1777 (hmR M 0)) (hmR M 1)) (hmR M 2)) (hmR M 3)) (hmR M 4)) (hmR M 5)) (hmR M 6)) (hmR M 7)) M (by omega) (by omega)) ?_
  rintro _ _ ⟨rfl, rfl⟩
  refine Hx.run 0 (pc' := 21) (L' := [some (vr 64), some (vi 8), none]) (st' := [vi (hmR M 8), vr 64]) (M' := (up M 64 14 (mx (mx (mx (mx (mx (mx (mx (mx 1777 (hmR M 0)) (hmR M 1)) (hmR M 2)) (hmR M 3)) (hmR M 4)) (hmR M 5)) (hmR M 6)) (hmR M 7)))) rfl ?_
  refine Hx.run 1 (pc' := 22) (L' := [some (vr 64), some (vi 8), none]) (st' := [vl (hmR M 8), vr 64]) (M' := (up M 64 14 (mx (mx (mx (mx (mx (mx (mx (mx 1777 (hmR M 0)) (hmR M 1)) (hmR M 2)) (hmR M 3)) (hmR M 4)) (hmR M 5)) (hmR M 6)) (hmR M 7)))) rfl ?_
  refine Hx.call (t := 220) (as := [vr 64, vl (hmR M 8)]) (pc' := 25) (rest := []) rfl (r_mix (hmR M 8) (up M 64 14 (mx (mx (mx (mx (mx (mx (mx (mx 1777 (hmR M 0)) (hmR M 1)) (hmR M 2)) (hmR M 3)) (hmR M 4)) (hmR M 5)) (hmR M 6)) (hmR M 7)))) ?_
  rintro _ _ ⟨rfl, rfl⟩
  rw [up_up]
  refine Hx.run 0 (pc' := 25) (L' := [some (vr 64), some (vi 8), none]) (st' := []) (M' := (up M 64 14 (mx (mx (mx (mx (mx (mx (mx (mx (mx 1777 (hmR M 0)) (hmR M 1)) (hmR M 2)) (hmR M 3)) (hmR M 4)) (hmR M 5)) (hmR M 6)) (hmR M 7)) (hmR M 8)))) rfl ?_
  refine Hx.inc rfl rfl (by omega) ?_
  refine Hx.run 0 (pc' := 28) (L' := [some (vr 64), some (vi 9), none]) (st' := []) (M' := (up M 64 14 (mx (mx (mx (mx (mx (mx (mx (mx (mx 1777 (hmR M 0)) (hmR M 1)) (hmR M 2)) (hmR M 3)) (hmR M 4)) (hmR M 5)) (hmR M 6)) (hmR M 7)) (hmR M 8)))) rfl ?_
  refine Hx.run 7 (pc' := 18) (L' := [some (vr 64), some (vi 9), none]) (st' := [vi 9, vr 64, vr 64]) (M' := (up M 64 14 (mx (mx (mx (mx (mx (mx (mx (mx (mx 1777 (hmR M 0)) (hmR M 1)) (hmR M 2)) (hmR M 3)) (hmR M 4)) (hmR M 5)) (hmR M 6)) (hmR M 7)) (hmR M 8)))) rfl ?_
  refine Hx.call (t := 218) (as := [vr 64, vi 9]) (pc' := 21) (rest := [vr 64]) rfl (r_countU 9 (mx (mx (mx (mx (mx (mx (mx (mx (mx 1777 (hmR M 0)) (hmR M 1)) (hmR M 2)) (hmR M 3)) (hmR M 4)) (hmR M 5)) (hmR M 6)) (hmR M 7)) (hmR M 8)) M (by omega) (by omega)) ?_
  rintro _ _ ⟨rfl, rfl⟩
  refine Hx.run 0 (pc' := 21) (L' := [some (vr 64), some (vi 9), none]) (st' := [vi (hmR M 9), vr 64]) (M' := (up M 64 14 (mx (mx (mx (mx (mx (mx (mx (mx (mx 1777 (hmR M 0)) (hmR M 1)) (hmR M 2)) (hmR M 3)) (hmR M 4)) (hmR M 5)) (hmR M 6)) (hmR M 7)) (hmR M 8)))) rfl ?_
  refine Hx.run 1 (pc' := 22) (L' := [some (vr 64), some (vi 9), none]) (st' := [vl (hmR M 9), vr 64]) (M' := (up M 64 14 (mx (mx (mx (mx (mx (mx (mx (mx (mx 1777 (hmR M 0)) (hmR M 1)) (hmR M 2)) (hmR M 3)) (hmR M 4)) (hmR M 5)) (hmR M 6)) (hmR M 7)) (hmR M 8)))) rfl ?_
  refine Hx.call (t := 220) (as := [vr 64, vl (hmR M 9)]) (pc' := 25) (rest := []) rfl (r_mix (hmR M 9) (up M 64 14 (mx (mx (mx (mx (mx (mx (mx (mx (mx 1777 (hmR M 0)) (hmR M 1)) (hmR M 2)) (hmR M 3)) (hmR M 4)) (hmR M 5)) (hmR M 6)) (hmR M 7)) (hmR M 8)))) ?_
  rintro _ _ ⟨rfl, rfl⟩
  rw [up_up]
  refine Hx.run 0 (pc' := 25) (L' := [some (vr 64), some (vi 9), none]) (st' := []) (M' := (up M 64 14 (mx (mx (mx (mx (mx (mx (mx (mx (mx (mx 1777 (hmR M 0)) (hmR M 1)) (hmR M 2)) (hmR M 3)) (hmR M 4)) (hmR M 5)) (hmR M 6)) (hmR M 7)) (hmR M 8)) (hmR M 9)))) rfl ?_
  refine Hx.inc rfl rfl (by omega) ?_
  refine Hx.run 0 (pc' := 28) (L' := [some (vr 64), some (vi 10), none]) (st' := []) (M' := (up M 64 14 (mx (mx (mx (mx (mx (mx (mx (mx (mx (mx 1777 (hmR M 0)) (hmR M 1)) (hmR M 2)) (hmR M 3)) (hmR M 4)) (hmR M 5)) (hmR M 6)) (hmR M 7)) (hmR M 8)) (hmR M 9)))) rfl ?_
  refine Hx.run 6 (pc' := 33) (L' := [some (vr 64), some (vi 0), none]) (st' := []) (M' := (up M 64 14 (mx (mx (mx (mx (mx (mx (mx (mx (mx (mx 1777 (hmR M 0)) (hmR M 1)) (hmR M 2)) (hmR M 3)) (hmR M 4)) (hmR M 5)) (hmR M 6)) (hmR M 7)) (hmR M 8)) (hmR M 9)))) rfl ?_
  exact rl_digF M hI 10 0 none (by omega) (by omega)
