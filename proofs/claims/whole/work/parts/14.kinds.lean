/-! kinds, bits; more members of a house (written by wip/whole/gen14.py) -/
def bcF (kind t : Int) : Int := if kind = 1 then (if 18 ≤ t then 2 else 1) else if kind = 2 then (if 18 ≤ t then 2 else 1) + (if t % 6 = 0 then 1 else 0) else if kind = 3 then (if 9 ≤ t ∧ t ≤ 16 then 3 else 1) else if kind = 4 then (if 9 ≤ t ∧ t ≤ 16 then 2 else 1) else if kind = 5 then (if t < 5 then 0 else 1) else 1
def sfF (kind l x t : Int) : Int := if kind = 1 then (l + 1) / 2 else if kind = 2 then (if 1 < l - x / 3 then l - x / 3 else 1) else if kind = 3 then (if 1 < l - x / 3 then (if 2 < l - x / 3 then 2 else l - x / 3) else 1) else if kind = 4 then (if 18 ≤ t then l + 1 else l) else if kind = 5 then (if t < 8 then 1 else (l + 1) / 2) else l
theorem some_vi {a b : Int} (h : a = b) : (some (vi a) : Option PV) = some (vi b) := by rw [h]
set_option maxRecDepth 100000 in
theorem c_max (a b : Int) (M : Mm) : Ct 225 [vi a, vi b] M (fun q0 M' => q0 = some (vi (max a b)) ∧ M = M') := by
  refine Hx.run 2 (pc' := 2) (L' := [some (vi a), some (vi b)]) (st' := [vi b, vi a]) (M' := M) rfl ?_
  refine Hx.br (c := a < b) (t := 9) (f := 5) rfl (fun h1 => ?_) (fun h1 => ?_)
  · skip
    refine Hx.run 1 (pc' := 10) (L' := [some (vi a), some (vi b)]) (st' := [vi b]) (M' := M) rfl ?_
    refine Hx.ret rfl ?_
    exact ⟨some_vi (by omega), rfl⟩
  · skip
    refine Hx.run 2 (pc' := 10) (L' := [some (vi a), some (vi b)]) (st' := [vi a]) (M' := M) rfl ?_
    refine Hx.ret rfl ?_
    exact ⟨some_vi (by omega), rfl⟩
set_option maxRecDepth 100000 in
theorem c_min (a b : Int) (M : Mm) : Ct 226 [vi a, vi b] M (fun q0 M' => q0 = some (vi (min a b)) ∧ M = M') := by
  refine Hx.run 2 (pc' := 2) (L' := [some (vi a), some (vi b)]) (st' := [vi b, vi a]) (M' := M) rfl ?_
  refine Hx.br (c := b < a) (t := 9) (f := 5) rfl (fun h1 => ?_) (fun h1 => ?_)
  · skip
    refine Hx.run 1 (pc' := 10) (L' := [some (vi a), some (vi b)]) (st' := [vi b]) (M' := M) rfl ?_
    refine Hx.ret rfl ?_
    exact ⟨some_vi (by omega), rfl⟩
  · skip
    refine Hx.run 2 (pc' := 10) (L' := [some (vi a), some (vi b)]) (st' := [vi a]) (M' := M) rfl ?_
    refine Hx.ret rfl ?_
    exact ⟨some_vi (by omega), rfl⟩
set_option maxRecDepth 100000 in
set_option maxHeartbeats 4000000 in
theorem c_barCount (k t : Int) (M : Mm) (hk : 0 ≤ k ∧ k ≤ 5) (ht : 0 ≤ t ∧ t < 24) : Ct 124 [vi k, vi t] M (fun q0 M' => q0 = some (vi (bcF k t)) ∧ M = M') := by
  refine Hx.run 5 (pc' := 6) (L' := [some (vi k), some (vi t), some (vi 1), none, none]) (st' := [vi 18, vi t, vi 1]) (M' := M) rfl ?_
  refine Hx.br (c := t < 18) (t := 13) (f := 9) rfl (fun h1 => ?_) (fun h1 => ?_)
  · skip
    refine Hx.run 1 (pc' := 14) (L' := [some (vi k), some (vi t), some (vi 1), none, none]) (st' := [vi 0, vi 1]) (M' := M) rfl ?_
    refine Hx.add rfl (by omega) ?_
    refine Hx.run 0 (pc' := 15) (L' := [some (vi k), some (vi t), some (vi 1), none, none]) (st' := [vi 1]) (M' := M) rfl ?_
    refine Hx.run 4 (pc' := 20) (L' := [some (vi k), some (vi t), some (vi 1), some (vi 1), none]) (st' := [vi 9, vi t, vi 1]) (M' := M) rfl ?_
    refine Hx.br (c := t < 9) (t := 33) (f := 23) rfl (fun h2 => ?_) (fun h2 => ?_)
    · skip
      refine Hx.run 1 (pc' := 34) (L' := [some (vi k), some (vi t), some (vi 1), some (vi 1), none]) (st' := [vi 0, vi 1]) (M' := M) rfl ?_
      refine Hx.add rfl (by omega) ?_
      refine Hx.run 0 (pc' := 35) (L' := [some (vi k), some (vi t), some (vi 1), some (vi 1), none]) (st' := [vi 1]) (M' := M) rfl ?_
      refine Hx.run 2 (pc' := 38) (L' := [some (vi k), some (vi t), some (vi 1), some (vi 1), some (vi 1)]) (st' := [vi k]) (M' := M) rfl ?_
      rcases (show k = 1 ∨ k = 2 ∨ k = 3 ∨ k = 4 ∨ k = 5 ∨ (k < 1 ∨ 5 < k) by omega) with h3 | h3 | h3 | h3 | h3 | h3
      · refine Hx.tab (tgt := 72) 1 rfl h3 rfl ?_
        refine Hx.run 1 (pc' := 73) (L' := [some (vi k), some (vi t), some (vi 1), some (vi 1), some (vi 1)]) (st' := [vi 1]) (M' := M) rfl ?_
        refine Hx.ret rfl ?_
        exact ⟨some_vi (by unfold bcF; repeat (first | rw [if_pos (by omega)] | rw [if_neg (by omega)]); first | done | rfl | omega), rfl⟩
      · refine Hx.tab (tgt := 74) 2 rfl h3 rfl ?_
        refine Hx.run 3 (pc' := 78) (L' := [some (vi k), some (vi t), some (vi 1), some (vi 1), some (vi 1)]) (st' := [vi 6, vi t, vi 1]) (M' := M) rfl ?_
        refine Hx.rem rfl (by omega) ?_
        refine Hx.br (c := (t % 6) = 0) (t := 82) (f := 86) rfl (fun h4 => ?_) (fun h4 => ?_)
        · skip
          refine Hx.run 2 (pc' := 87) (L' := [some (vi k), some (vi t), some (vi 1), some (vi 1), some (vi 1)]) (st' := [vi 1, vi 1]) (M' := M) rfl ?_
          refine Hx.add rfl (by omega) ?_
          refine Hx.run 0 (pc' := 88) (L' := [some (vi k), some (vi t), some (vi 1), some (vi 1), some (vi 1)]) (st' := [vi 2]) (M' := M) rfl ?_
          refine Hx.ret rfl ?_
          exact ⟨some_vi (by unfold bcF; repeat (first | rw [if_pos (by omega)] | rw [if_neg (by omega)]); first | done | rfl | omega), rfl⟩
        · skip
          refine Hx.run 1 (pc' := 87) (L' := [some (vi k), some (vi t), some (vi 1), some (vi 1), some (vi 1)]) (st' := [vi 0, vi 1]) (M' := M) rfl ?_
          refine Hx.add rfl (by omega) ?_
          refine Hx.run 0 (pc' := 88) (L' := [some (vi k), some (vi t), some (vi 1), some (vi 1), some (vi 1)]) (st' := [vi 1]) (M' := M) rfl ?_
          refine Hx.ret rfl ?_
          exact ⟨some_vi (by unfold bcF; repeat (first | rw [if_pos (by omega)] | rw [if_neg (by omega)]); first | done | rfl | omega), rfl⟩
      · refine Hx.tab (tgt := 89) 3 rfl h3 rfl ?_
        refine Hx.run 1 (pc' := 91) (L' := [some (vi k), some (vi t), some (vi 1), some (vi 1), some (vi 1)]) (st' := [vi 1]) (M' := M) rfl ?_
        refine Hx.ret rfl ?_
        exact ⟨some_vi (by unfold bcF; repeat (first | rw [if_pos (by omega)] | rw [if_neg (by omega)]); first | done | rfl | omega), rfl⟩
      · refine Hx.tab (tgt := 92) 4 rfl h3 rfl ?_
        refine Hx.run 3 (pc' := 96) (L' := [some (vi k), some (vi t), some (vi 1), some (vi 1), some (vi 1)]) (st' := [vi 1, vi 1, vi 1]) (M' := M) rfl ?_
        refine Hx.sub rfl (by omega) ?_
        refine Hx.run 0 (pc' := 97) (L' := [some (vi k), some (vi t), some (vi 1), some (vi 1), some (vi 1)]) (st' := [vi 0, vi 1]) (M' := M) rfl ?_
        refine Hx.call (t := 225) (as := [vi 1, vi 0]) (pc' := 100) (rest := []) rfl (c_max 1 0 M) ?_
        rintro _ _ ⟨rfl, rfl⟩
        refine Hx.run 0 (pc' := 100) (L' := [some (vi k), some (vi t), some (vi 1), some (vi 1), some (vi 1)]) (st' := [vi (max 1 0)]) (M' := M) rfl ?_
        refine Hx.ret rfl ?_
        exact ⟨some_vi (by unfold bcF; repeat (first | rw [if_pos (by omega)] | rw [if_neg (by omega)]); first | done | rfl | omega), rfl⟩
      · refine Hx.tab (tgt := 101) 5 rfl h3 rfl ?_
        refine Hx.run 2 (pc' := 103) (L' := [some (vi k), some (vi t), some (vi 1), some (vi 1), some (vi 1)]) (st' := [vi 5, vi t]) (M' := M) rfl ?_
        refine Hx.br (c := t < 5) (t := 106) (f := 110) rfl (fun h5 => ?_) (fun h5 => ?_)
        · skip
          refine Hx.run 2 (pc' := 111) (L' := [some (vi k), some (vi t), some (vi 1), some (vi 1), some (vi 1)]) (st' := [vi 0]) (M' := M) rfl ?_
          refine Hx.ret rfl ?_
          exact ⟨some_vi (by unfold bcF; repeat (first | rw [if_pos (by omega)] | rw [if_neg (by omega)]); first | done | rfl | omega), rfl⟩
        · skip
          refine Hx.run 1 (pc' := 111) (L' := [some (vi k), some (vi t), some (vi 1), some (vi 1), some (vi 1)]) (st' := [vi 1]) (M' := M) rfl ?_
          refine Hx.ret rfl ?_
          exact ⟨some_vi (by unfold bcF; repeat (first | rw [if_pos (by omega)] | rw [if_neg (by omega)]); first | done | rfl | omega), rfl⟩
      · refine Hx.tabD (tgt := 112) rfl h3 rfl ?_
        refine Hx.run 1 (pc' := 113) (L' := [some (vi k), some (vi t), some (vi 1), some (vi 1), some (vi 1)]) (st' := [vi 1]) (M' := M) rfl ?_
        refine Hx.ret rfl ?_
        exact ⟨some_vi (by unfold bcF; repeat (first | rw [if_pos (by omega)] | rw [if_neg (by omega)]); first | done | rfl | omega), rfl⟩
    · skip
      refine Hx.run 2 (pc' := 26) (L' := [some (vi k), some (vi t), some (vi 1), some (vi 1), none]) (st' := [vi 16, vi t, vi 1]) (M' := M) rfl ?_
      refine Hx.br (c := 16 < t) (t := 33) (f := 29) rfl (fun h6 => ?_) (fun h6 => ?_)
      · skip
        refine Hx.run 1 (pc' := 34) (L' := [some (vi k), some (vi t), some (vi 1), some (vi 1), none]) (st' := [vi 0, vi 1]) (M' := M) rfl ?_
        refine Hx.add rfl (by omega) ?_
        refine Hx.run 0 (pc' := 35) (L' := [some (vi k), some (vi t), some (vi 1), some (vi 1), none]) (st' := [vi 1]) (M' := M) rfl ?_
        refine Hx.run 2 (pc' := 38) (L' := [some (vi k), some (vi t), some (vi 1), some (vi 1), some (vi 1)]) (st' := [vi k]) (M' := M) rfl ?_
        rcases (show k = 1 ∨ k = 2 ∨ k = 3 ∨ k = 4 ∨ k = 5 ∨ (k < 1 ∨ 5 < k) by omega) with h7 | h7 | h7 | h7 | h7 | h7
        · refine Hx.tab (tgt := 72) 1 rfl h7 rfl ?_
          refine Hx.run 1 (pc' := 73) (L' := [some (vi k), some (vi t), some (vi 1), some (vi 1), some (vi 1)]) (st' := [vi 1]) (M' := M) rfl ?_
          refine Hx.ret rfl ?_
          exact ⟨some_vi (by unfold bcF; repeat (first | rw [if_pos (by omega)] | rw [if_neg (by omega)]); first | done | rfl | omega), rfl⟩
        · refine Hx.tab (tgt := 74) 2 rfl h7 rfl ?_
          refine Hx.run 3 (pc' := 78) (L' := [some (vi k), some (vi t), some (vi 1), some (vi 1), some (vi 1)]) (st' := [vi 6, vi t, vi 1]) (M' := M) rfl ?_
          refine Hx.rem rfl (by omega) ?_
          refine Hx.br (c := (t % 6) = 0) (t := 82) (f := 86) rfl (fun h8 => ?_) (fun h8 => ?_)
          · skip
            refine Hx.run 2 (pc' := 87) (L' := [some (vi k), some (vi t), some (vi 1), some (vi 1), some (vi 1)]) (st' := [vi 1, vi 1]) (M' := M) rfl ?_
            refine Hx.add rfl (by omega) ?_
            refine Hx.run 0 (pc' := 88) (L' := [some (vi k), some (vi t), some (vi 1), some (vi 1), some (vi 1)]) (st' := [vi 2]) (M' := M) rfl ?_
            refine Hx.ret rfl ?_
            exact ⟨some_vi (by unfold bcF; repeat (first | rw [if_pos (by omega)] | rw [if_neg (by omega)]); first | done | rfl | omega), rfl⟩
          · skip
            refine Hx.run 1 (pc' := 87) (L' := [some (vi k), some (vi t), some (vi 1), some (vi 1), some (vi 1)]) (st' := [vi 0, vi 1]) (M' := M) rfl ?_
            refine Hx.add rfl (by omega) ?_
            refine Hx.run 0 (pc' := 88) (L' := [some (vi k), some (vi t), some (vi 1), some (vi 1), some (vi 1)]) (st' := [vi 1]) (M' := M) rfl ?_
            refine Hx.ret rfl ?_
            exact ⟨some_vi (by unfold bcF; repeat (first | rw [if_pos (by omega)] | rw [if_neg (by omega)]); first | done | rfl | omega), rfl⟩
        · refine Hx.tab (tgt := 89) 3 rfl h7 rfl ?_
          refine Hx.run 1 (pc' := 91) (L' := [some (vi k), some (vi t), some (vi 1), some (vi 1), some (vi 1)]) (st' := [vi 1]) (M' := M) rfl ?_
          refine Hx.ret rfl ?_
          exact ⟨some_vi (by unfold bcF; repeat (first | rw [if_pos (by omega)] | rw [if_neg (by omega)]); first | done | rfl | omega), rfl⟩
        · refine Hx.tab (tgt := 92) 4 rfl h7 rfl ?_
          refine Hx.run 3 (pc' := 96) (L' := [some (vi k), some (vi t), some (vi 1), some (vi 1), some (vi 1)]) (st' := [vi 1, vi 1, vi 1]) (M' := M) rfl ?_
          refine Hx.sub rfl (by omega) ?_
          refine Hx.run 0 (pc' := 97) (L' := [some (vi k), some (vi t), some (vi 1), some (vi 1), some (vi 1)]) (st' := [vi 0, vi 1]) (M' := M) rfl ?_
          refine Hx.call (t := 225) (as := [vi 1, vi 0]) (pc' := 100) (rest := []) rfl (c_max 1 0 M) ?_
          rintro _ _ ⟨rfl, rfl⟩
          refine Hx.run 0 (pc' := 100) (L' := [some (vi k), some (vi t), some (vi 1), some (vi 1), some (vi 1)]) (st' := [vi (max 1 0)]) (M' := M) rfl ?_
          refine Hx.ret rfl ?_
          exact ⟨some_vi (by unfold bcF; repeat (first | rw [if_pos (by omega)] | rw [if_neg (by omega)]); first | done | rfl | omega), rfl⟩
        · refine Hx.tab (tgt := 101) 5 rfl h7 rfl ?_
          refine Hx.run 2 (pc' := 103) (L' := [some (vi k), some (vi t), some (vi 1), some (vi 1), some (vi 1)]) (st' := [vi 5, vi t]) (M' := M) rfl ?_
          refine Hx.br (c := t < 5) (t := 106) (f := 110) rfl (fun h9 => ?_) (fun h9 => ?_)
          · skip
            refine Hx.run 2 (pc' := 111) (L' := [some (vi k), some (vi t), some (vi 1), some (vi 1), some (vi 1)]) (st' := [vi 0]) (M' := M) rfl ?_
            refine Hx.ret rfl ?_
            exact ⟨some_vi (by unfold bcF; repeat (first | rw [if_pos (by omega)] | rw [if_neg (by omega)]); first | done | rfl | omega), rfl⟩
          · skip
            refine Hx.run 1 (pc' := 111) (L' := [some (vi k), some (vi t), some (vi 1), some (vi 1), some (vi 1)]) (st' := [vi 1]) (M' := M) rfl ?_
            refine Hx.ret rfl ?_
            exact ⟨some_vi (by unfold bcF; repeat (first | rw [if_pos (by omega)] | rw [if_neg (by omega)]); first | done | rfl | omega), rfl⟩
        · refine Hx.tabD (tgt := 112) rfl h7 rfl ?_
          refine Hx.run 1 (pc' := 113) (L' := [some (vi k), some (vi t), some (vi 1), some (vi 1), some (vi 1)]) (st' := [vi 1]) (M' := M) rfl ?_
          refine Hx.ret rfl ?_
          exact ⟨some_vi (by unfold bcF; repeat (first | rw [if_pos (by omega)] | rw [if_neg (by omega)]); first | done | rfl | omega), rfl⟩
      · skip
        refine Hx.run 2 (pc' := 34) (L' := [some (vi k), some (vi t), some (vi 1), some (vi 1), none]) (st' := [vi 2, vi 1]) (M' := M) rfl ?_
        refine Hx.add rfl (by omega) ?_
        refine Hx.run 0 (pc' := 35) (L' := [some (vi k), some (vi t), some (vi 1), some (vi 1), none]) (st' := [vi 3]) (M' := M) rfl ?_
        refine Hx.run 2 (pc' := 38) (L' := [some (vi k), some (vi t), some (vi 1), some (vi 1), some (vi 3)]) (st' := [vi k]) (M' := M) rfl ?_
        rcases (show k = 1 ∨ k = 2 ∨ k = 3 ∨ k = 4 ∨ k = 5 ∨ (k < 1 ∨ 5 < k) by omega) with h10 | h10 | h10 | h10 | h10 | h10
        · refine Hx.tab (tgt := 72) 1 rfl h10 rfl ?_
          refine Hx.run 1 (pc' := 73) (L' := [some (vi k), some (vi t), some (vi 1), some (vi 1), some (vi 3)]) (st' := [vi 1]) (M' := M) rfl ?_
          refine Hx.ret rfl ?_
          exact ⟨some_vi (by unfold bcF; repeat (first | rw [if_pos (by omega)] | rw [if_neg (by omega)]); first | done | rfl | omega), rfl⟩
        · refine Hx.tab (tgt := 74) 2 rfl h10 rfl ?_
          refine Hx.run 3 (pc' := 78) (L' := [some (vi k), some (vi t), some (vi 1), some (vi 1), some (vi 3)]) (st' := [vi 6, vi t, vi 1]) (M' := M) rfl ?_
          refine Hx.rem rfl (by omega) ?_
          refine Hx.br (c := (t % 6) = 0) (t := 82) (f := 86) rfl (fun h11 => ?_) (fun h11 => ?_)
          · skip
            refine Hx.run 2 (pc' := 87) (L' := [some (vi k), some (vi t), some (vi 1), some (vi 1), some (vi 3)]) (st' := [vi 1, vi 1]) (M' := M) rfl ?_
            refine Hx.add rfl (by omega) ?_
            refine Hx.run 0 (pc' := 88) (L' := [some (vi k), some (vi t), some (vi 1), some (vi 1), some (vi 3)]) (st' := [vi 2]) (M' := M) rfl ?_
            refine Hx.ret rfl ?_
            exact ⟨some_vi (by unfold bcF; repeat (first | rw [if_pos (by omega)] | rw [if_neg (by omega)]); first | done | rfl | omega), rfl⟩
          · skip
            refine Hx.run 1 (pc' := 87) (L' := [some (vi k), some (vi t), some (vi 1), some (vi 1), some (vi 3)]) (st' := [vi 0, vi 1]) (M' := M) rfl ?_
            refine Hx.add rfl (by omega) ?_
            refine Hx.run 0 (pc' := 88) (L' := [some (vi k), some (vi t), some (vi 1), some (vi 1), some (vi 3)]) (st' := [vi 1]) (M' := M) rfl ?_
            refine Hx.ret rfl ?_
            exact ⟨some_vi (by unfold bcF; repeat (first | rw [if_pos (by omega)] | rw [if_neg (by omega)]); first | done | rfl | omega), rfl⟩
        · refine Hx.tab (tgt := 89) 3 rfl h10 rfl ?_
          refine Hx.run 1 (pc' := 91) (L' := [some (vi k), some (vi t), some (vi 1), some (vi 1), some (vi 3)]) (st' := [vi 3]) (M' := M) rfl ?_
          refine Hx.ret rfl ?_
          exact ⟨some_vi (by unfold bcF; repeat (first | rw [if_pos (by omega)] | rw [if_neg (by omega)]); first | done | rfl | omega), rfl⟩
        · refine Hx.tab (tgt := 92) 4 rfl h10 rfl ?_
          refine Hx.run 3 (pc' := 96) (L' := [some (vi k), some (vi t), some (vi 1), some (vi 1), some (vi 3)]) (st' := [vi 1, vi 3, vi 1]) (M' := M) rfl ?_
          refine Hx.sub rfl (by omega) ?_
          refine Hx.run 0 (pc' := 97) (L' := [some (vi k), some (vi t), some (vi 1), some (vi 1), some (vi 3)]) (st' := [vi 2, vi 1]) (M' := M) rfl ?_
          refine Hx.call (t := 225) (as := [vi 1, vi 2]) (pc' := 100) (rest := []) rfl (c_max 1 2 M) ?_
          rintro _ _ ⟨rfl, rfl⟩
          refine Hx.run 0 (pc' := 100) (L' := [some (vi k), some (vi t), some (vi 1), some (vi 1), some (vi 3)]) (st' := [vi (max 1 2)]) (M' := M) rfl ?_
          refine Hx.ret rfl ?_
          exact ⟨some_vi (by unfold bcF; repeat (first | rw [if_pos (by omega)] | rw [if_neg (by omega)]); first | done | rfl | omega), rfl⟩
        · refine Hx.tab (tgt := 101) 5 rfl h10 rfl ?_
          refine Hx.run 2 (pc' := 103) (L' := [some (vi k), some (vi t), some (vi 1), some (vi 1), some (vi 3)]) (st' := [vi 5, vi t]) (M' := M) rfl ?_
          refine Hx.br (c := t < 5) (t := 106) (f := 110) rfl (fun h12 => ?_) (fun h12 => ?_)
          · skip
            refine Hx.run 2 (pc' := 111) (L' := [some (vi k), some (vi t), some (vi 1), some (vi 1), some (vi 3)]) (st' := [vi 0]) (M' := M) rfl ?_
            refine Hx.ret rfl ?_
            exact ⟨some_vi (by unfold bcF; repeat (first | rw [if_pos (by omega)] | rw [if_neg (by omega)]); first | done | rfl | omega), rfl⟩
          · skip
            refine Hx.run 1 (pc' := 111) (L' := [some (vi k), some (vi t), some (vi 1), some (vi 1), some (vi 3)]) (st' := [vi 1]) (M' := M) rfl ?_
            refine Hx.ret rfl ?_
            exact ⟨some_vi (by unfold bcF; repeat (first | rw [if_pos (by omega)] | rw [if_neg (by omega)]); first | done | rfl | omega), rfl⟩
        · refine Hx.tabD (tgt := 112) rfl h10 rfl ?_
          refine Hx.run 1 (pc' := 113) (L' := [some (vi k), some (vi t), some (vi 1), some (vi 1), some (vi 3)]) (st' := [vi 1]) (M' := M) rfl ?_
          refine Hx.ret rfl ?_
          exact ⟨some_vi (by unfold bcF; repeat (first | rw [if_pos (by omega)] | rw [if_neg (by omega)]); first | done | rfl | omega), rfl⟩
  · skip
    refine Hx.run 2 (pc' := 14) (L' := [some (vi k), some (vi t), some (vi 1), none, none]) (st' := [vi 1, vi 1]) (M' := M) rfl ?_
    refine Hx.add rfl (by omega) ?_
    refine Hx.run 0 (pc' := 15) (L' := [some (vi k), some (vi t), some (vi 1), none, none]) (st' := [vi 2]) (M' := M) rfl ?_
    refine Hx.run 4 (pc' := 20) (L' := [some (vi k), some (vi t), some (vi 1), some (vi 2), none]) (st' := [vi 9, vi t, vi 1]) (M' := M) rfl ?_
    refine Hx.br (c := t < 9) (t := 33) (f := 23) rfl (fun h13 => ?_) (fun h13 => ?_)
    · skip
      refine Hx.run 1 (pc' := 34) (L' := [some (vi k), some (vi t), some (vi 1), some (vi 2), none]) (st' := [vi 0, vi 1]) (M' := M) rfl ?_
      refine Hx.add rfl (by omega) ?_
      refine Hx.run 0 (pc' := 35) (L' := [some (vi k), some (vi t), some (vi 1), some (vi 2), none]) (st' := [vi 1]) (M' := M) rfl ?_
      refine Hx.run 2 (pc' := 38) (L' := [some (vi k), some (vi t), some (vi 1), some (vi 2), some (vi 1)]) (st' := [vi k]) (M' := M) rfl ?_
      rcases (show k = 1 ∨ k = 2 ∨ k = 3 ∨ k = 4 ∨ k = 5 ∨ (k < 1 ∨ 5 < k) by omega) with h14 | h14 | h14 | h14 | h14 | h14
      · refine Hx.tab (tgt := 72) 1 rfl h14 rfl ?_
        refine Hx.run 1 (pc' := 73) (L' := [some (vi k), some (vi t), some (vi 1), some (vi 2), some (vi 1)]) (st' := [vi 2]) (M' := M) rfl ?_
        refine Hx.ret rfl ?_
        exact ⟨some_vi (by unfold bcF; repeat (first | rw [if_pos (by omega)] | rw [if_neg (by omega)]); first | done | rfl | omega), rfl⟩
      · refine Hx.tab (tgt := 74) 2 rfl h14 rfl ?_
        refine Hx.run 3 (pc' := 78) (L' := [some (vi k), some (vi t), some (vi 1), some (vi 2), some (vi 1)]) (st' := [vi 6, vi t, vi 2]) (M' := M) rfl ?_
        refine Hx.rem rfl (by omega) ?_
        refine Hx.br (c := (t % 6) = 0) (t := 82) (f := 86) rfl (fun h15 => ?_) (fun h15 => ?_)
        · skip
          refine Hx.run 2 (pc' := 87) (L' := [some (vi k), some (vi t), some (vi 1), some (vi 2), some (vi 1)]) (st' := [vi 1, vi 2]) (M' := M) rfl ?_
          refine Hx.add rfl (by omega) ?_
          refine Hx.run 0 (pc' := 88) (L' := [some (vi k), some (vi t), some (vi 1), some (vi 2), some (vi 1)]) (st' := [vi 3]) (M' := M) rfl ?_
          refine Hx.ret rfl ?_
          exact ⟨some_vi (by unfold bcF; repeat (first | rw [if_pos (by omega)] | rw [if_neg (by omega)]); first | done | rfl | omega), rfl⟩
        · skip
          refine Hx.run 1 (pc' := 87) (L' := [some (vi k), some (vi t), some (vi 1), some (vi 2), some (vi 1)]) (st' := [vi 0, vi 2]) (M' := M) rfl ?_
          refine Hx.add rfl (by omega) ?_
          refine Hx.run 0 (pc' := 88) (L' := [some (vi k), some (vi t), some (vi 1), some (vi 2), some (vi 1)]) (st' := [vi 2]) (M' := M) rfl ?_
          refine Hx.ret rfl ?_
          exact ⟨some_vi (by unfold bcF; repeat (first | rw [if_pos (by omega)] | rw [if_neg (by omega)]); first | done | rfl | omega), rfl⟩
      · refine Hx.tab (tgt := 89) 3 rfl h14 rfl ?_
        refine Hx.run 1 (pc' := 91) (L' := [some (vi k), some (vi t), some (vi 1), some (vi 2), some (vi 1)]) (st' := [vi 1]) (M' := M) rfl ?_
        refine Hx.ret rfl ?_
        exact ⟨some_vi (by unfold bcF; repeat (first | rw [if_pos (by omega)] | rw [if_neg (by omega)]); first | done | rfl | omega), rfl⟩
      · refine Hx.tab (tgt := 92) 4 rfl h14 rfl ?_
        refine Hx.run 3 (pc' := 96) (L' := [some (vi k), some (vi t), some (vi 1), some (vi 2), some (vi 1)]) (st' := [vi 1, vi 1, vi 1]) (M' := M) rfl ?_
        refine Hx.sub rfl (by omega) ?_
        refine Hx.run 0 (pc' := 97) (L' := [some (vi k), some (vi t), some (vi 1), some (vi 2), some (vi 1)]) (st' := [vi 0, vi 1]) (M' := M) rfl ?_
        refine Hx.call (t := 225) (as := [vi 1, vi 0]) (pc' := 100) (rest := []) rfl (c_max 1 0 M) ?_
        rintro _ _ ⟨rfl, rfl⟩
        refine Hx.run 0 (pc' := 100) (L' := [some (vi k), some (vi t), some (vi 1), some (vi 2), some (vi 1)]) (st' := [vi (max 1 0)]) (M' := M) rfl ?_
        refine Hx.ret rfl ?_
        exact ⟨some_vi (by unfold bcF; repeat (first | rw [if_pos (by omega)] | rw [if_neg (by omega)]); first | done | rfl | omega), rfl⟩
      · refine Hx.tab (tgt := 101) 5 rfl h14 rfl ?_
        refine Hx.run 2 (pc' := 103) (L' := [some (vi k), some (vi t), some (vi 1), some (vi 2), some (vi 1)]) (st' := [vi 5, vi t]) (M' := M) rfl ?_
        refine Hx.br (c := t < 5) (t := 106) (f := 110) rfl (fun h16 => ?_) (fun h16 => ?_)
        · skip
          refine Hx.run 2 (pc' := 111) (L' := [some (vi k), some (vi t), some (vi 1), some (vi 2), some (vi 1)]) (st' := [vi 0]) (M' := M) rfl ?_
          refine Hx.ret rfl ?_
          exact ⟨some_vi (by unfold bcF; repeat (first | rw [if_pos (by omega)] | rw [if_neg (by omega)]); first | done | rfl | omega), rfl⟩
        · skip
          refine Hx.run 1 (pc' := 111) (L' := [some (vi k), some (vi t), some (vi 1), some (vi 2), some (vi 1)]) (st' := [vi 1]) (M' := M) rfl ?_
          refine Hx.ret rfl ?_
          exact ⟨some_vi (by unfold bcF; repeat (first | rw [if_pos (by omega)] | rw [if_neg (by omega)]); first | done | rfl | omega), rfl⟩
      · refine Hx.tabD (tgt := 112) rfl h14 rfl ?_
        refine Hx.run 1 (pc' := 113) (L' := [some (vi k), some (vi t), some (vi 1), some (vi 2), some (vi 1)]) (st' := [vi 1]) (M' := M) rfl ?_
        refine Hx.ret rfl ?_
        exact ⟨some_vi (by unfold bcF; repeat (first | rw [if_pos (by omega)] | rw [if_neg (by omega)]); first | done | rfl | omega), rfl⟩
    · skip
      refine Hx.run 2 (pc' := 26) (L' := [some (vi k), some (vi t), some (vi 1), some (vi 2), none]) (st' := [vi 16, vi t, vi 1]) (M' := M) rfl ?_
      refine Hx.br (c := 16 < t) (t := 33) (f := 29) rfl (fun h17 => ?_) (fun h17 => ?_)
      · skip
        refine Hx.run 1 (pc' := 34) (L' := [some (vi k), some (vi t), some (vi 1), some (vi 2), none]) (st' := [vi 0, vi 1]) (M' := M) rfl ?_
        refine Hx.add rfl (by omega) ?_
        refine Hx.run 0 (pc' := 35) (L' := [some (vi k), some (vi t), some (vi 1), some (vi 2), none]) (st' := [vi 1]) (M' := M) rfl ?_
        refine Hx.run 2 (pc' := 38) (L' := [some (vi k), some (vi t), some (vi 1), some (vi 2), some (vi 1)]) (st' := [vi k]) (M' := M) rfl ?_
        rcases (show k = 1 ∨ k = 2 ∨ k = 3 ∨ k = 4 ∨ k = 5 ∨ (k < 1 ∨ 5 < k) by omega) with h18 | h18 | h18 | h18 | h18 | h18
        · refine Hx.tab (tgt := 72) 1 rfl h18 rfl ?_
          refine Hx.run 1 (pc' := 73) (L' := [some (vi k), some (vi t), some (vi 1), some (vi 2), some (vi 1)]) (st' := [vi 2]) (M' := M) rfl ?_
          refine Hx.ret rfl ?_
          exact ⟨some_vi (by unfold bcF; repeat (first | rw [if_pos (by omega)] | rw [if_neg (by omega)]); first | done | rfl | omega), rfl⟩
        · refine Hx.tab (tgt := 74) 2 rfl h18 rfl ?_
          refine Hx.run 3 (pc' := 78) (L' := [some (vi k), some (vi t), some (vi 1), some (vi 2), some (vi 1)]) (st' := [vi 6, vi t, vi 2]) (M' := M) rfl ?_
          refine Hx.rem rfl (by omega) ?_
          refine Hx.br (c := (t % 6) = 0) (t := 82) (f := 86) rfl (fun h19 => ?_) (fun h19 => ?_)
          · skip
            refine Hx.run 2 (pc' := 87) (L' := [some (vi k), some (vi t), some (vi 1), some (vi 2), some (vi 1)]) (st' := [vi 1, vi 2]) (M' := M) rfl ?_
            refine Hx.add rfl (by omega) ?_
            refine Hx.run 0 (pc' := 88) (L' := [some (vi k), some (vi t), some (vi 1), some (vi 2), some (vi 1)]) (st' := [vi 3]) (M' := M) rfl ?_
            refine Hx.ret rfl ?_
            exact ⟨some_vi (by unfold bcF; repeat (first | rw [if_pos (by omega)] | rw [if_neg (by omega)]); first | done | rfl | omega), rfl⟩
          · skip
            refine Hx.run 1 (pc' := 87) (L' := [some (vi k), some (vi t), some (vi 1), some (vi 2), some (vi 1)]) (st' := [vi 0, vi 2]) (M' := M) rfl ?_
            refine Hx.add rfl (by omega) ?_
            refine Hx.run 0 (pc' := 88) (L' := [some (vi k), some (vi t), some (vi 1), some (vi 2), some (vi 1)]) (st' := [vi 2]) (M' := M) rfl ?_
            refine Hx.ret rfl ?_
            exact ⟨some_vi (by unfold bcF; repeat (first | rw [if_pos (by omega)] | rw [if_neg (by omega)]); first | done | rfl | omega), rfl⟩
        · refine Hx.tab (tgt := 89) 3 rfl h18 rfl ?_
          refine Hx.run 1 (pc' := 91) (L' := [some (vi k), some (vi t), some (vi 1), some (vi 2), some (vi 1)]) (st' := [vi 1]) (M' := M) rfl ?_
          refine Hx.ret rfl ?_
          exact ⟨some_vi (by unfold bcF; repeat (first | rw [if_pos (by omega)] | rw [if_neg (by omega)]); first | done | rfl | omega), rfl⟩
        · refine Hx.tab (tgt := 92) 4 rfl h18 rfl ?_
          refine Hx.run 3 (pc' := 96) (L' := [some (vi k), some (vi t), some (vi 1), some (vi 2), some (vi 1)]) (st' := [vi 1, vi 1, vi 1]) (M' := M) rfl ?_
          refine Hx.sub rfl (by omega) ?_
          refine Hx.run 0 (pc' := 97) (L' := [some (vi k), some (vi t), some (vi 1), some (vi 2), some (vi 1)]) (st' := [vi 0, vi 1]) (M' := M) rfl ?_
          refine Hx.call (t := 225) (as := [vi 1, vi 0]) (pc' := 100) (rest := []) rfl (c_max 1 0 M) ?_
          rintro _ _ ⟨rfl, rfl⟩
          refine Hx.run 0 (pc' := 100) (L' := [some (vi k), some (vi t), some (vi 1), some (vi 2), some (vi 1)]) (st' := [vi (max 1 0)]) (M' := M) rfl ?_
          refine Hx.ret rfl ?_
          exact ⟨some_vi (by unfold bcF; repeat (first | rw [if_pos (by omega)] | rw [if_neg (by omega)]); first | done | rfl | omega), rfl⟩
        · refine Hx.tab (tgt := 101) 5 rfl h18 rfl ?_
          refine Hx.run 2 (pc' := 103) (L' := [some (vi k), some (vi t), some (vi 1), some (vi 2), some (vi 1)]) (st' := [vi 5, vi t]) (M' := M) rfl ?_
          refine Hx.br (c := t < 5) (t := 106) (f := 110) rfl (fun h20 => ?_) (fun h20 => ?_)
          · skip
            refine Hx.run 2 (pc' := 111) (L' := [some (vi k), some (vi t), some (vi 1), some (vi 2), some (vi 1)]) (st' := [vi 0]) (M' := M) rfl ?_
            refine Hx.ret rfl ?_
            exact ⟨some_vi (by unfold bcF; repeat (first | rw [if_pos (by omega)] | rw [if_neg (by omega)]); first | done | rfl | omega), rfl⟩
          · skip
            refine Hx.run 1 (pc' := 111) (L' := [some (vi k), some (vi t), some (vi 1), some (vi 2), some (vi 1)]) (st' := [vi 1]) (M' := M) rfl ?_
            refine Hx.ret rfl ?_
            exact ⟨some_vi (by unfold bcF; repeat (first | rw [if_pos (by omega)] | rw [if_neg (by omega)]); first | done | rfl | omega), rfl⟩
        · refine Hx.tabD (tgt := 112) rfl h18 rfl ?_
          refine Hx.run 1 (pc' := 113) (L' := [some (vi k), some (vi t), some (vi 1), some (vi 2), some (vi 1)]) (st' := [vi 1]) (M' := M) rfl ?_
          refine Hx.ret rfl ?_
          exact ⟨some_vi (by unfold bcF; repeat (first | rw [if_pos (by omega)] | rw [if_neg (by omega)]); first | done | rfl | omega), rfl⟩
      · skip
        refine Hx.run 2 (pc' := 34) (L' := [some (vi k), some (vi t), some (vi 1), some (vi 2), none]) (st' := [vi 2, vi 1]) (M' := M) rfl ?_
        refine Hx.add rfl (by omega) ?_
        refine Hx.run 0 (pc' := 35) (L' := [some (vi k), some (vi t), some (vi 1), some (vi 2), none]) (st' := [vi 3]) (M' := M) rfl ?_
        refine Hx.run 2 (pc' := 38) (L' := [some (vi k), some (vi t), some (vi 1), some (vi 2), some (vi 3)]) (st' := [vi k]) (M' := M) rfl ?_
        rcases (show k = 1 ∨ k = 2 ∨ k = 3 ∨ k = 4 ∨ k = 5 ∨ (k < 1 ∨ 5 < k) by omega) with h21 | h21 | h21 | h21 | h21 | h21
        · refine Hx.tab (tgt := 72) 1 rfl h21 rfl ?_
          refine Hx.run 1 (pc' := 73) (L' := [some (vi k), some (vi t), some (vi 1), some (vi 2), some (vi 3)]) (st' := [vi 2]) (M' := M) rfl ?_
          refine Hx.ret rfl ?_
          exact ⟨some_vi (by unfold bcF; repeat (first | rw [if_pos (by omega)] | rw [if_neg (by omega)]); first | done | rfl | omega), rfl⟩
        · refine Hx.tab (tgt := 74) 2 rfl h21 rfl ?_
          refine Hx.run 3 (pc' := 78) (L' := [some (vi k), some (vi t), some (vi 1), some (vi 2), some (vi 3)]) (st' := [vi 6, vi t, vi 2]) (M' := M) rfl ?_
          refine Hx.rem rfl (by omega) ?_
          refine Hx.br (c := (t % 6) = 0) (t := 82) (f := 86) rfl (fun h22 => ?_) (fun h22 => ?_)
          · skip
            refine Hx.run 2 (pc' := 87) (L' := [some (vi k), some (vi t), some (vi 1), some (vi 2), some (vi 3)]) (st' := [vi 1, vi 2]) (M' := M) rfl ?_
            refine Hx.add rfl (by omega) ?_
            refine Hx.run 0 (pc' := 88) (L' := [some (vi k), some (vi t), some (vi 1), some (vi 2), some (vi 3)]) (st' := [vi 3]) (M' := M) rfl ?_
            refine Hx.ret rfl ?_
            exact ⟨some_vi (by unfold bcF; repeat (first | rw [if_pos (by omega)] | rw [if_neg (by omega)]); first | done | rfl | omega), rfl⟩
          · skip
            refine Hx.run 1 (pc' := 87) (L' := [some (vi k), some (vi t), some (vi 1), some (vi 2), some (vi 3)]) (st' := [vi 0, vi 2]) (M' := M) rfl ?_
            refine Hx.add rfl (by omega) ?_
            refine Hx.run 0 (pc' := 88) (L' := [some (vi k), some (vi t), some (vi 1), some (vi 2), some (vi 3)]) (st' := [vi 2]) (M' := M) rfl ?_
            refine Hx.ret rfl ?_
            exact ⟨some_vi (by unfold bcF; repeat (first | rw [if_pos (by omega)] | rw [if_neg (by omega)]); first | done | rfl | omega), rfl⟩
        · refine Hx.tab (tgt := 89) 3 rfl h21 rfl ?_
          refine Hx.run 1 (pc' := 91) (L' := [some (vi k), some (vi t), some (vi 1), some (vi 2), some (vi 3)]) (st' := [vi 3]) (M' := M) rfl ?_
          refine Hx.ret rfl ?_
          exact ⟨some_vi (by unfold bcF; repeat (first | rw [if_pos (by omega)] | rw [if_neg (by omega)]); first | done | rfl | omega), rfl⟩
        · refine Hx.tab (tgt := 92) 4 rfl h21 rfl ?_
          refine Hx.run 3 (pc' := 96) (L' := [some (vi k), some (vi t), some (vi 1), some (vi 2), some (vi 3)]) (st' := [vi 1, vi 3, vi 1]) (M' := M) rfl ?_
          refine Hx.sub rfl (by omega) ?_
          refine Hx.run 0 (pc' := 97) (L' := [some (vi k), some (vi t), some (vi 1), some (vi 2), some (vi 3)]) (st' := [vi 2, vi 1]) (M' := M) rfl ?_
          refine Hx.call (t := 225) (as := [vi 1, vi 2]) (pc' := 100) (rest := []) rfl (c_max 1 2 M) ?_
          rintro _ _ ⟨rfl, rfl⟩
          refine Hx.run 0 (pc' := 100) (L' := [some (vi k), some (vi t), some (vi 1), some (vi 2), some (vi 3)]) (st' := [vi (max 1 2)]) (M' := M) rfl ?_
          refine Hx.ret rfl ?_
          exact ⟨some_vi (by unfold bcF; repeat (first | rw [if_pos (by omega)] | rw [if_neg (by omega)]); first | done | rfl | omega), rfl⟩
        · refine Hx.tab (tgt := 101) 5 rfl h21 rfl ?_
          refine Hx.run 2 (pc' := 103) (L' := [some (vi k), some (vi t), some (vi 1), some (vi 2), some (vi 3)]) (st' := [vi 5, vi t]) (M' := M) rfl ?_
          refine Hx.br (c := t < 5) (t := 106) (f := 110) rfl (fun h23 => ?_) (fun h23 => ?_)
          · skip
            refine Hx.run 2 (pc' := 111) (L' := [some (vi k), some (vi t), some (vi 1), some (vi 2), some (vi 3)]) (st' := [vi 0]) (M' := M) rfl ?_
            refine Hx.ret rfl ?_
            exact ⟨some_vi (by unfold bcF; repeat (first | rw [if_pos (by omega)] | rw [if_neg (by omega)]); first | done | rfl | omega), rfl⟩
          · skip
            refine Hx.run 1 (pc' := 111) (L' := [some (vi k), some (vi t), some (vi 1), some (vi 2), some (vi 3)]) (st' := [vi 1]) (M' := M) rfl ?_
            refine Hx.ret rfl ?_
            exact ⟨some_vi (by unfold bcF; repeat (first | rw [if_pos (by omega)] | rw [if_neg (by omega)]); first | done | rfl | omega), rfl⟩
        · refine Hx.tabD (tgt := 112) rfl h21 rfl ?_
          refine Hx.run 1 (pc' := 113) (L' := [some (vi k), some (vi t), some (vi 1), some (vi 2), some (vi 3)]) (st' := [vi 1]) (M' := M) rfl ?_
          refine Hx.ret rfl ?_
          exact ⟨some_vi (by unfold bcF; repeat (first | rw [if_pos (by omega)] | rw [if_neg (by omega)]); first | done | rfl | omega), rfl⟩
set_option maxRecDepth 100000 in
set_option maxHeartbeats 4000000 in
theorem c_strideOf (k l x t : Int) (M : Mm) (hk : 0 ≤ k ∧ k ≤ 5) (hl : 1 ≤ l ∧ l ≤ 4) (hx : 0 ≤ x ∧ x ≤ 9) (ht : 0 ≤ t ∧ t < 24) : Ct 129 [vi k, vi l, vi x, vi t] M (fun q0 M' => q0 = some (vi (sfF k l x t)) ∧ M = M') := by
  refine Hx.run 4 (pc' := 6) (L' := [some (vi k), some (vi l), some (vi x), some (vi t), some (vi l), none, none]) (st' := [vi 1, vi l]) (M' := M) rfl ?_
  refine Hx.add rfl (by omega) ?_
  refine Hx.run 1 (pc' := 8) (L' := [some (vi k), some (vi l), some (vi x), some (vi t), some (vi l), none, none]) (st' := [vi 2, vi (l + 1)]) (M' := M) rfl ?_
  refine Hx.div rfl (by omega) ?_
  refine Hx.run 5 (pc' := 16) (L' := [some (vi k), some (vi l), some (vi x), some (vi t), some (vi l), some (vi ((l + 1) / 2)), none]) (st' := [vi 3, vi x, vi l, vi 1]) (M' := M) rfl ?_
  refine Hx.div rfl (by omega) ?_
  refine Hx.sub rfl (by omega) ?_
  refine Hx.call (t := 225) (as := [vi 1, vi (l - (x / 3))]) (pc' := 21) (rest := []) rfl (c_max 1 (l - (x / 3)) M) ?_
  rintro _ _ ⟨rfl, rfl⟩
  refine Hx.run 0 (pc' := 21) (L' := [some (vi k), some (vi l), some (vi x), some (vi t), some (vi l), some (vi ((l + 1) / 2)), none]) (st' := [vi (max 1 (l - (x / 3)))]) (M' := M) rfl ?_
  refine Hx.run 2 (pc' := 24) (L' := [some (vi k), some (vi l), some (vi x), some (vi t), some (vi l), some (vi ((l + 1) / 2)), some (vi (max 1 (l - (x / 3))))]) (st' := [vi k]) (M' := M) rfl ?_
  rcases (show k = 1 ∨ k = 2 ∨ k = 3 ∨ k = 4 ∨ k = 5 ∨ (k < 1 ∨ 5 < k) by omega) with h1 | h1 | h1 | h1 | h1 | h1
  · refine Hx.tab (tgt := 60) 1 rfl h1 rfl ?_
    refine Hx.run 1 (pc' := 62) (L' := [some (vi k), some (vi l), some (vi x), some (vi t), some (vi l), some (vi ((l + 1) / 2)), some (vi (max 1 (l - (x / 3))))]) (st' := [vi ((l + 1) / 2)]) (M' := M) rfl ?_
    refine Hx.ret rfl ?_
    exact ⟨some_vi (by unfold sfF; repeat (first | rw [if_pos (by omega)] | rw [if_neg (by omega)]); first | done | rfl | omega), rfl⟩
  · refine Hx.tab (tgt := 63) 2 rfl h1 rfl ?_
    refine Hx.run 1 (pc' := 65) (L' := [some (vi k), some (vi l), some (vi x), some (vi t), some (vi l), some (vi ((l + 1) / 2)), some (vi (max 1 (l - (x / 3))))]) (st' := [vi (max 1 (l - (x / 3)))]) (M' := M) rfl ?_
    refine Hx.ret rfl ?_
    exact ⟨some_vi (by unfold sfF; repeat (first | rw [if_pos (by omega)] | rw [if_neg (by omega)]); first | done | rfl | omega), rfl⟩
  · refine Hx.tab (tgt := 66) 3 rfl h1 rfl ?_
    refine Hx.run 2 (pc' := 69) (L' := [some (vi k), some (vi l), some (vi x), some (vi t), some (vi l), some (vi ((l + 1) / 2)), some (vi (max 1 (l - (x / 3))))]) (st' := [vi (max 1 (l - (x / 3))), vi 2]) (M' := M) rfl ?_
    refine Hx.call (t := 226) (as := [vi 2, vi (max 1 (l - (x / 3)))]) (pc' := 72) (rest := []) rfl (c_min 2 (max 1 (l - (x / 3))) M) ?_
    rintro _ _ ⟨rfl, rfl⟩
    refine Hx.run 0 (pc' := 72) (L' := [some (vi k), some (vi l), some (vi x), some (vi t), some (vi l), some (vi ((l + 1) / 2)), some (vi (max 1 (l - (x / 3))))]) (st' := [vi (min 2 (max 1 (l - (x / 3))))]) (M' := M) rfl ?_
    refine Hx.ret rfl ?_
    exact ⟨some_vi (by unfold sfF; repeat (first | rw [if_pos (by omega)] | rw [if_neg (by omega)]); first | done | rfl | omega), rfl⟩
  · refine Hx.tab (tgt := 73) 4 rfl h1 rfl ?_
    refine Hx.run 3 (pc' := 78) (L' := [some (vi k), some (vi l), some (vi x), some (vi t), some (vi l), some (vi ((l + 1) / 2)), some (vi (max 1 (l - (x / 3))))]) (st' := [vi 18, vi t, vi l]) (M' := M) rfl ?_
    refine Hx.br (c := t < 18) (t := 85) (f := 81) rfl (fun h2 => ?_) (fun h2 => ?_)
    · skip
      refine Hx.run 1 (pc' := 86) (L' := [some (vi k), some (vi l), some (vi x), some (vi t), some (vi l), some (vi ((l + 1) / 2)), some (vi (max 1 (l - (x / 3))))]) (st' := [vi 0, vi l]) (M' := M) rfl ?_
      refine Hx.add rfl (by omega) ?_
      refine Hx.ret rfl ?_
      exact ⟨some_vi (by unfold sfF; repeat (first | rw [if_pos (by omega)] | rw [if_neg (by omega)]); first | done | rfl | omega), rfl⟩
    · skip
      refine Hx.run 2 (pc' := 86) (L' := [some (vi k), some (vi l), some (vi x), some (vi t), some (vi l), some (vi ((l + 1) / 2)), some (vi (max 1 (l - (x / 3))))]) (st' := [vi 1, vi l]) (M' := M) rfl ?_
      refine Hx.add rfl (by omega) ?_
      refine Hx.ret rfl ?_
      exact ⟨some_vi (by unfold sfF; repeat (first | rw [if_pos (by omega)] | rw [if_neg (by omega)]); first | done | rfl | omega), rfl⟩
  · refine Hx.tab (tgt := 88) 5 rfl h1 rfl ?_
    refine Hx.run 2 (pc' := 91) (L' := [some (vi k), some (vi l), some (vi x), some (vi t), some (vi l), some (vi ((l + 1) / 2)), some (vi (max 1 (l - (x / 3))))]) (st' := [vi 8, vi t]) (M' := M) rfl ?_
    refine Hx.br (c := t < 8) (t := 94) (f := 98) rfl (fun h3 => ?_) (fun h3 => ?_)
    · skip
      refine Hx.run 2 (pc' := 100) (L' := [some (vi k), some (vi l), some (vi x), some (vi t), some (vi l), some (vi ((l + 1) / 2)), some (vi (max 1 (l - (x / 3))))]) (st' := [vi 1]) (M' := M) rfl ?_
      refine Hx.ret rfl ?_
      exact ⟨some_vi (by unfold sfF; repeat (first | rw [if_pos (by omega)] | rw [if_neg (by omega)]); first | done | rfl | omega), rfl⟩
    · skip
      refine Hx.run 1 (pc' := 100) (L' := [some (vi k), some (vi l), some (vi x), some (vi t), some (vi l), some (vi ((l + 1) / 2)), some (vi (max 1 (l - (x / 3))))]) (st' := [vi ((l + 1) / 2)]) (M' := M) rfl ?_
      refine Hx.ret rfl ?_
      exact ⟨some_vi (by unfold sfF; repeat (first | rw [if_pos (by omega)] | rw [if_neg (by omega)]); first | done | rfl | omega), rfl⟩
  · refine Hx.tabD (tgt := 101) rfl h1 rfl ?_
    refine Hx.run 1 (pc' := 103) (L' := [some (vi k), some (vi l), some (vi x), some (vi t), some (vi l), some (vi ((l + 1) / 2)), some (vi (max 1 (l - (x / 3))))]) (st' := [vi l]) (M' := M) rfl ?_
    refine Hx.ret rfl ?_
    exact ⟨some_vi (by unfold sfF; repeat (first | rw [if_pos (by omega)] | rw [if_neg (by omega)]); first | done | rfl | omega), rfl⟩
set_option maxRecDepth 100000 in
theorem c_hasFlight_1 (x : Int) (M : Mm) : Ct 7 [vr 1, vi x] M (fun q0 M' => ((0 ≤ x ∧ x < M 1 0) ∧ q0 = some (vi 1) ∧ M = M') ∨ (¬ (0 ≤ x ∧ x < M 1 0) ∧ q0 = some (vi 0) ∧ M = M')) := by
  refine Hx.run 1 (pc' := 1) (L' := [some (vr 1), some (vi x)]) (st' := [vi x]) (M' := M) rfl ?_
  refine Hx.br (c := x < 0) (t := 16) (f := 4) rfl (fun h1 => ?_) (fun h1 => ?_)
  · skip
    refine Hx.run 1 (pc' := 17) (L' := [some (vr 1), some (vi x)]) (st' := [vi 0]) (M' := M) rfl ?_
    refine Hx.ret rfl ?_
    first | exact Or.inl ⟨by omega, rfl, rfl⟩ | exact Or.inr ⟨by omega, rfl, rfl⟩
  · skip
    refine Hx.run 3 (pc' := 9) (L' := [some (vr 1), some (vi x)]) (st' := [vi (M 1 0), vi x]) (M' := M) rfl ?_
    refine Hx.br (c := x < (M 1 0)) (t := 12) (f := 16) rfl (fun h2 => ?_) (fun h2 => ?_)
    · skip
      refine Hx.run 2 (pc' := 17) (L' := [some (vr 1), some (vi x)]) (st' := [vi 1]) (M' := M) rfl ?_
      refine Hx.ret rfl ?_
      first | exact Or.inl ⟨by omega, rfl, rfl⟩ | exact Or.inr ⟨by omega, rfl, rfl⟩
    · skip
      refine Hx.run 1 (pc' := 17) (L' := [some (vr 1), some (vi x)]) (st' := [vi 0]) (M' := M) rfl ?_
      refine Hx.ret rfl ?_
      first | exact Or.inl ⟨by omega, rfl, rfl⟩ | exact Or.inr ⟨by omega, rfl, rfl⟩
set_option maxRecDepth 100000 in
theorem c_hasGoer_1 (x : Int) (M : Mm) : Ct 8 [vr 1, vi x] M (fun q0 M' => ((0 ≤ x ∧ x < M 1 1) ∧ q0 = some (vi 1) ∧ M = M') ∨ (¬ (0 ≤ x ∧ x < M 1 1) ∧ q0 = some (vi 0) ∧ M = M')) := by
  refine Hx.run 1 (pc' := 1) (L' := [some (vr 1), some (vi x)]) (st' := [vi x]) (M' := M) rfl ?_
  refine Hx.br (c := x < 0) (t := 16) (f := 4) rfl (fun h1 => ?_) (fun h1 => ?_)
  · skip
    refine Hx.run 1 (pc' := 17) (L' := [some (vr 1), some (vi x)]) (st' := [vi 0]) (M' := M) rfl ?_
    refine Hx.ret rfl ?_
    first | exact Or.inl ⟨by omega, rfl, rfl⟩ | exact Or.inr ⟨by omega, rfl, rfl⟩
  · skip
    refine Hx.run 3 (pc' := 9) (L' := [some (vr 1), some (vi x)]) (st' := [vi (M 1 1), vi x]) (M' := M) rfl ?_
    refine Hx.br (c := x < (M 1 1)) (t := 12) (f := 16) rfl (fun h2 => ?_) (fun h2 => ?_)
    · skip
      refine Hx.run 2 (pc' := 17) (L' := [some (vr 1), some (vi x)]) (st' := [vi 1]) (M' := M) rfl ?_
      refine Hx.ret rfl ?_
      first | exact Or.inl ⟨by omega, rfl, rfl⟩ | exact Or.inr ⟨by omega, rfl, rfl⟩
    · skip
      refine Hx.run 1 (pc' := 17) (L' := [some (vr 1), some (vi x)]) (st' := [vi 0]) (M' := M) rfl ?_
      refine Hx.ret rfl ?_
      first | exact Or.inl ⟨by omega, rfl, rfl⟩ | exact Or.inr ⟨by omega, rfl, rfl⟩
set_option maxRecDepth 100000 in
theorem c_setOwnerStep_1 (x v : Int) (M : Mm) (hx : 0 ≤ x ∧ x < 3) : Ct 15 [vr 1, vi x, vi v] M (fun q0 M' => q0 = none ∧ up M 6 (12 + x) v = M') := by
  refine Hx.run 4 (pc' := 7) (L' := [some (vr 1), some (vi x), some (vi v)]) (st' := [vi x, vi 12, vr 6]) (M' := M) rfl ?_
  refine Hx.add rfl (by omega) ?_
  refine Hx.run 1 (pc' := 9) (L' := [some (vr 1), some (vi x), some (vi v)]) (st' := [vi v, vi (12 + x), vr 6]) (M' := M) rfl ?_
  refine Hx.call (t := 122) (as := [vr 6, vi (12 + x), vi v]) (pc' := 12) (rest := []) rfl (c_put (r := 6) (n := 17) rfl (by decide) (i := (12 + x)) (by omega) v M) ?_
  rintro _ _ ⟨rfl, rfl⟩
  refine Hx.run 0 (pc' := 12) (L' := [some (vr 1), some (vi x), some (vi v)]) (st' := []) (M' := (up M 6 (12 + x) v)) rfl ?_
  refine Hx.ret rfl ?_
  exact ⟨rfl, rfl⟩
set_option maxRecDepth 100000 in
theorem c_setStep_1 (x v : Int) (M : Mm) (hx : 0 ≤ x ∧ x < 6) : Ct 19 [vr 1, vi x, vi v] M (fun q0 M' => q0 = none ∧ up M 6 x v = M') := by
  refine Hx.run 4 (pc' := 6) (L' := [some (vr 1), some (vi x), some (vi v)]) (st' := [vi x, vi 0, vr 6]) (M' := M) rfl ?_
  refine Hx.add0 rfl (by omega) ?_
  refine Hx.run 1 (pc' := 8) (L' := [some (vr 1), some (vi x), some (vi v)]) (st' := [vi v, vi x, vr 6]) (M' := M) rfl ?_
  refine Hx.call (t := 122) (as := [vr 6, vi x, vi v]) (pc' := 11) (rest := []) rfl (c_put (r := 6) (n := 17) rfl (by decide) (i := x) (by omega) v M) ?_
  rintro _ _ ⟨rfl, rfl⟩
  refine Hx.run 0 (pc' := 11) (L' := [some (vr 1), some (vi x), some (vi v)]) (st' := []) (M' := (up M 6 x v)) rfl ?_
  refine Hx.ret rfl ?_
  exact ⟨rfl, rfl⟩
set_option maxRecDepth 100000 in
theorem c_setLoad_1 (x v : Int) (M : Mm) (hx : 0 ≤ x ∧ x < 6) : Ct 21 [vr 1, vi x, vi v] M (fun q0 M' => q0 = none ∧ up M 6 (6 + x) v = M') := by
  refine Hx.run 4 (pc' := 7) (L' := [some (vr 1), some (vi x), some (vi v)]) (st' := [vi x, vi 6, vr 6]) (M' := M) rfl ?_
  refine Hx.add rfl (by omega) ?_
  refine Hx.run 1 (pc' := 9) (L' := [some (vr 1), some (vi x), some (vi v)]) (st' := [vi v, vi (6 + x), vr 6]) (M' := M) rfl ?_
  refine Hx.call (t := 122) (as := [vr 6, vi (6 + x), vi v]) (pc' := 12) (rest := []) rfl (c_put (r := 6) (n := 17) rfl (by decide) (i := (6 + x)) (by omega) v M) ?_
  rintro _ _ ⟨rfl, rfl⟩
  refine Hx.run 0 (pc' := 12) (L' := [some (vr 1), some (vi x), some (vi v)]) (st' := []) (M' := (up M 6 (6 + x) v)) rfl ?_
  refine Hx.ret rfl ?_
  exact ⟨rfl, rfl⟩
set_option maxRecDepth 100000 in
theorem c_hourOfDay_1 (M : Mm) (hx : 0 ≤ M 6 16 ∧ M 6 16 ≤ 9999) : Ct 24 [vr 1] M (fun q0 M' => q0 = some (vi (M 6 16 % 24)) ∧ M = M') := by
  refine Hx.run 3 (pc' := 6) (L' := [some (vr 1)]) (st' := [vi 16, vr 6]) (M' := M) rfl ?_
  refine Hx.call (t := 121) (as := [vr 6, vi 16]) (pc' := 9) (rest := []) rfl (c_at (r := 6) (n := 17) rfl (by decide) (i := 16) (by omega) M) ?_
  rintro _ _ ⟨rfl, rfl⟩
  refine Hx.run 0 (pc' := 9) (L' := [some (vr 1)]) (st' := [vi (M 6 16)]) (M' := M) rfl ?_
  refine Hx.run 1 (pc' := 11) (L' := [some (vr 1)]) (st' := [vi 24, vi (M 6 16)]) (M' := M) rfl ?_
  refine Hx.rem rfl (by omega) ?_
  refine Hx.ret rfl ?_
  exact ⟨rfl, rfl⟩
set_option maxRecDepth 100000 in
theorem c_isOver_1 (x : Int) (M : Mm) (hx : 0 ≤ x ∧ x < 6) : Ct 26 [vr 1, vi x] M (fun q0 M' => ((11 ≤ M 6 x) ∧ q0 = some (vi 1) ∧ M = M') ∨ (¬ (11 ≤ M 6 x) ∧ q0 = some (vi 0) ∧ M = M')) := by
  refine Hx.run 2 (pc' := 2) (L' := [some (vr 1), some (vi x)]) (st' := [vi x, vr 1]) (M' := M) rfl ?_
  refine Hx.call (t := 18) (as := [vr 1, vi x]) (pc' := 5) (rest := []) rfl (c_stepOf_1 x (by omega) M) ?_
  rintro _ _ ⟨rfl, rfl⟩
  refine Hx.run 0 (pc' := 5) (L' := [some (vr 1), some (vi x)]) (st' := [vi (M 6 x)]) (M' := M) rfl ?_
  refine Hx.run 1 (pc' := 7) (L' := [some (vr 1), some (vi x)]) (st' := [vi 11, vi (M 6 x)]) (M' := M) rfl ?_
  refine Hx.br (c := (M 6 x) < 11) (t := 14) (f := 10) rfl (fun h1 => ?_) (fun h1 => ?_)
  · skip
    refine Hx.run 1 (pc' := 15) (L' := [some (vr 1), some (vi x)]) (st' := [vi 0]) (M' := M) rfl ?_
    refine Hx.ret rfl ?_
    first | exact Or.inl ⟨by omega, rfl, rfl⟩ | exact Or.inr ⟨by omega, rfl, rfl⟩
  · skip
    refine Hx.run 2 (pc' := 15) (L' := [some (vr 1), some (vi x)]) (st' := [vi 1]) (M' := M) rfl ?_
    refine Hx.ret rfl ?_
    first | exact Or.inl ⟨by omega, rfl, rfl⟩ | exact Or.inr ⟨by omega, rfl, rfl⟩
set_option maxRecDepth 100000 in
theorem c_hasFlight_40 (x : Int) (M : Mm) : Ct 7 [vr 40, vi x] M (fun q0 M' => ((0 ≤ x ∧ x < M 40 0) ∧ q0 = some (vi 1) ∧ M = M') ∨ (¬ (0 ≤ x ∧ x < M 40 0) ∧ q0 = some (vi 0) ∧ M = M')) := by
  refine Hx.run 1 (pc' := 1) (L' := [some (vr 40), some (vi x)]) (st' := [vi x]) (M' := M) rfl ?_
  refine Hx.br (c := x < 0) (t := 16) (f := 4) rfl (fun h1 => ?_) (fun h1 => ?_)
  · skip
    refine Hx.run 1 (pc' := 17) (L' := [some (vr 40), some (vi x)]) (st' := [vi 0]) (M' := M) rfl ?_
    refine Hx.ret rfl ?_
    first | exact Or.inl ⟨by omega, rfl, rfl⟩ | exact Or.inr ⟨by omega, rfl, rfl⟩
  · skip
    refine Hx.run 3 (pc' := 9) (L' := [some (vr 40), some (vi x)]) (st' := [vi (M 40 0), vi x]) (M' := M) rfl ?_
    refine Hx.br (c := x < (M 40 0)) (t := 12) (f := 16) rfl (fun h2 => ?_) (fun h2 => ?_)
    · skip
      refine Hx.run 2 (pc' := 17) (L' := [some (vr 40), some (vi x)]) (st' := [vi 1]) (M' := M) rfl ?_
      refine Hx.ret rfl ?_
      first | exact Or.inl ⟨by omega, rfl, rfl⟩ | exact Or.inr ⟨by omega, rfl, rfl⟩
    · skip
      refine Hx.run 1 (pc' := 17) (L' := [some (vr 40), some (vi x)]) (st' := [vi 0]) (M' := M) rfl ?_
      refine Hx.ret rfl ?_
      first | exact Or.inl ⟨by omega, rfl, rfl⟩ | exact Or.inr ⟨by omega, rfl, rfl⟩
set_option maxRecDepth 100000 in
theorem c_hasGoer_40 (x : Int) (M : Mm) : Ct 8 [vr 40, vi x] M (fun q0 M' => ((0 ≤ x ∧ x < M 40 1) ∧ q0 = some (vi 1) ∧ M = M') ∨ (¬ (0 ≤ x ∧ x < M 40 1) ∧ q0 = some (vi 0) ∧ M = M')) := by
  refine Hx.run 1 (pc' := 1) (L' := [some (vr 40), some (vi x)]) (st' := [vi x]) (M' := M) rfl ?_
  refine Hx.br (c := x < 0) (t := 16) (f := 4) rfl (fun h1 => ?_) (fun h1 => ?_)
  · skip
    refine Hx.run 1 (pc' := 17) (L' := [some (vr 40), some (vi x)]) (st' := [vi 0]) (M' := M) rfl ?_
    refine Hx.ret rfl ?_
    first | exact Or.inl ⟨by omega, rfl, rfl⟩ | exact Or.inr ⟨by omega, rfl, rfl⟩
  · skip
    refine Hx.run 3 (pc' := 9) (L' := [some (vr 40), some (vi x)]) (st' := [vi (M 40 1), vi x]) (M' := M) rfl ?_
    refine Hx.br (c := x < (M 40 1)) (t := 12) (f := 16) rfl (fun h2 => ?_) (fun h2 => ?_)
    · skip
      refine Hx.run 2 (pc' := 17) (L' := [some (vr 40), some (vi x)]) (st' := [vi 1]) (M' := M) rfl ?_
      refine Hx.ret rfl ?_
      first | exact Or.inl ⟨by omega, rfl, rfl⟩ | exact Or.inr ⟨by omega, rfl, rfl⟩
    · skip
      refine Hx.run 1 (pc' := 17) (L' := [some (vr 40), some (vi x)]) (st' := [vi 0]) (M' := M) rfl ?_
      refine Hx.ret rfl ?_
      first | exact Or.inl ⟨by omega, rfl, rfl⟩ | exact Or.inr ⟨by omega, rfl, rfl⟩
set_option maxRecDepth 100000 in
theorem c_setOwnerStep_40 (x v : Int) (M : Mm) (hx : 0 ≤ x ∧ x < 3) : Ct 15 [vr 40, vi x, vi v] M (fun q0 M' => q0 = none ∧ up M 45 (12 + x) v = M') := by
  refine Hx.run 4 (pc' := 7) (L' := [some (vr 40), some (vi x), some (vi v)]) (st' := [vi x, vi 12, vr 45]) (M' := M) rfl ?_
  refine Hx.add rfl (by omega) ?_
  refine Hx.run 1 (pc' := 9) (L' := [some (vr 40), some (vi x), some (vi v)]) (st' := [vi v, vi (12 + x), vr 45]) (M' := M) rfl ?_
  refine Hx.call (t := 122) (as := [vr 45, vi (12 + x), vi v]) (pc' := 12) (rest := []) rfl (c_put (r := 45) (n := 17) rfl (by decide) (i := (12 + x)) (by omega) v M) ?_
  rintro _ _ ⟨rfl, rfl⟩
  refine Hx.run 0 (pc' := 12) (L' := [some (vr 40), some (vi x), some (vi v)]) (st' := []) (M' := (up M 45 (12 + x) v)) rfl ?_
  refine Hx.ret rfl ?_
  exact ⟨rfl, rfl⟩
set_option maxRecDepth 100000 in
theorem c_setStep_40 (x v : Int) (M : Mm) (hx : 0 ≤ x ∧ x < 6) : Ct 19 [vr 40, vi x, vi v] M (fun q0 M' => q0 = none ∧ up M 45 x v = M') := by
  refine Hx.run 4 (pc' := 6) (L' := [some (vr 40), some (vi x), some (vi v)]) (st' := [vi x, vi 0, vr 45]) (M' := M) rfl ?_
  refine Hx.add0 rfl (by omega) ?_
  refine Hx.run 1 (pc' := 8) (L' := [some (vr 40), some (vi x), some (vi v)]) (st' := [vi v, vi x, vr 45]) (M' := M) rfl ?_
  refine Hx.call (t := 122) (as := [vr 45, vi x, vi v]) (pc' := 11) (rest := []) rfl (c_put (r := 45) (n := 17) rfl (by decide) (i := x) (by omega) v M) ?_
  rintro _ _ ⟨rfl, rfl⟩
  refine Hx.run 0 (pc' := 11) (L' := [some (vr 40), some (vi x), some (vi v)]) (st' := []) (M' := (up M 45 x v)) rfl ?_
  refine Hx.ret rfl ?_
  exact ⟨rfl, rfl⟩
set_option maxRecDepth 100000 in
theorem c_setLoad_40 (x v : Int) (M : Mm) (hx : 0 ≤ x ∧ x < 6) : Ct 21 [vr 40, vi x, vi v] M (fun q0 M' => q0 = none ∧ up M 45 (6 + x) v = M') := by
  refine Hx.run 4 (pc' := 7) (L' := [some (vr 40), some (vi x), some (vi v)]) (st' := [vi x, vi 6, vr 45]) (M' := M) rfl ?_
  refine Hx.add rfl (by omega) ?_
  refine Hx.run 1 (pc' := 9) (L' := [some (vr 40), some (vi x), some (vi v)]) (st' := [vi v, vi (6 + x), vr 45]) (M' := M) rfl ?_
  refine Hx.call (t := 122) (as := [vr 45, vi (6 + x), vi v]) (pc' := 12) (rest := []) rfl (c_put (r := 45) (n := 17) rfl (by decide) (i := (6 + x)) (by omega) v M) ?_
  rintro _ _ ⟨rfl, rfl⟩
  refine Hx.run 0 (pc' := 12) (L' := [some (vr 40), some (vi x), some (vi v)]) (st' := []) (M' := (up M 45 (6 + x) v)) rfl ?_
  refine Hx.ret rfl ?_
  exact ⟨rfl, rfl⟩
set_option maxRecDepth 100000 in
theorem c_hourOfDay_40 (M : Mm) (hx : 0 ≤ M 45 16 ∧ M 45 16 ≤ 9999) : Ct 24 [vr 40] M (fun q0 M' => q0 = some (vi (M 45 16 % 24)) ∧ M = M') := by
  refine Hx.run 3 (pc' := 6) (L' := [some (vr 40)]) (st' := [vi 16, vr 45]) (M' := M) rfl ?_
  refine Hx.call (t := 121) (as := [vr 45, vi 16]) (pc' := 9) (rest := []) rfl (c_at (r := 45) (n := 17) rfl (by decide) (i := 16) (by omega) M) ?_
  rintro _ _ ⟨rfl, rfl⟩
  refine Hx.run 0 (pc' := 9) (L' := [some (vr 40)]) (st' := [vi (M 45 16)]) (M' := M) rfl ?_
  refine Hx.run 1 (pc' := 11) (L' := [some (vr 40)]) (st' := [vi 24, vi (M 45 16)]) (M' := M) rfl ?_
  refine Hx.rem rfl (by omega) ?_
  refine Hx.ret rfl ?_
  exact ⟨rfl, rfl⟩
set_option maxRecDepth 100000 in
theorem c_isOver_40 (x : Int) (M : Mm) (hx : 0 ≤ x ∧ x < 6) : Ct 26 [vr 40, vi x] M (fun q0 M' => ((11 ≤ M 45 x) ∧ q0 = some (vi 1) ∧ M = M') ∨ (¬ (11 ≤ M 45 x) ∧ q0 = some (vi 0) ∧ M = M')) := by
  refine Hx.run 2 (pc' := 2) (L' := [some (vr 40), some (vi x)]) (st' := [vi x, vr 40]) (M' := M) rfl ?_
  refine Hx.call (t := 18) (as := [vr 40, vi x]) (pc' := 5) (rest := []) rfl (c_stepOf_40 x (by omega) M) ?_
  rintro _ _ ⟨rfl, rfl⟩
  refine Hx.run 0 (pc' := 5) (L' := [some (vr 40), some (vi x)]) (st' := [vi (M 45 x)]) (M' := M) rfl ?_
  refine Hx.run 1 (pc' := 7) (L' := [some (vr 40), some (vi x)]) (st' := [vi 11, vi (M 45 x)]) (M' := M) rfl ?_
  refine Hx.br (c := (M 45 x) < 11) (t := 14) (f := 10) rfl (fun h1 => ?_) (fun h1 => ?_)
  · skip
    refine Hx.run 1 (pc' := 15) (L' := [some (vr 40), some (vi x)]) (st' := [vi 0]) (M' := M) rfl ?_
    refine Hx.ret rfl ?_
    first | exact Or.inl ⟨by omega, rfl, rfl⟩ | exact Or.inr ⟨by omega, rfl, rfl⟩
  · skip
    refine Hx.run 2 (pc' := 15) (L' := [some (vr 40), some (vi x)]) (st' := [vi 1]) (M' := M) rfl ?_
    refine Hx.ret rfl ?_
    first | exact Or.inl ⟨by omega, rfl, rfl⟩ | exact Or.inr ⟨by omega, rfl, rfl⟩
