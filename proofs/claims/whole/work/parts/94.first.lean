/-! THE FIRST MEMORY: what the two constructors leave -/
def M0 : Mm := fun r i =>
  if (r = 8 ∨ r = 21 ∨ r = 34 ∨ r = 47) ∧ i = 0 then 4
  else if (r = 8 ∨ r = 21 ∨ r = 34 ∨ r = 47) ∧ i = 1 then 5
  else if (r = 10 ∨ r = 23 ∨ r = 36 ∨ r = 49) ∧ i = 0 then 3
  else if (r = 10 ∨ r = 23 ∨ r = 36 ∨ r = 49) ∧ i = 1 then 6
  else if (r = 12 ∨ r = 25 ∨ r = 38 ∨ r = 51) ∧ i = 0 then 5
  else if (r = 12 ∨ r = 25 ∨ r = 38 ∨ r = 51) ∧ i = 1 then 6
  else if (r = 53 ∨ r = 56) ∧ i = 2 then -1
  else if r = 0 ∧ i = 13 then 1
  else if r = 64 ∧ i = 5 then 1
  else 0
theorem M0_range (r : Nat) (i : Int) : -1 ≤ M0 r i ∧ M0 r i ≤ 6 := by
  unfold M0
  repeat' split
  all_goals omega
theorem okM_M0 : okM M0 := by
  intro r i
  have h := M0_range r i
  split
  · exact ⟨by omega, by omega⟩
  · exact ⟨by omega, by omega⟩
theorem LK_M0 {h : Nat} (hh : h = 14 ∨ h = 27 ∨ h = 40) : LK M0 h := by
  rcases hh with rfl | rfl | rfl
  · exact ⟨⟨rfl, rfl⟩, ⟨rfl, rfl⟩, ⟨rfl, rfl⟩⟩
  · exact ⟨⟨rfl, rfl⟩, ⟨rfl, rfl⟩, ⟨rfl, rfl⟩⟩
  · exact ⟨⟨rfl, rfl⟩, ⟨rfl, rfl⟩, ⟨rfl, rfl⟩⟩
theorem Rl_M0 : Rl M0 0 := by
  refine ⟨⟨⟨rfl, by decide, by decide⟩, ⟨rfl, by decide, by decide⟩, ⟨rfl, by decide, by decide⟩⟩, ⟨rfl, rfl⟩, ⟨⟨rfl, Or.inl rfl⟩, ⟨rfl, Or.inl rfl⟩, fun h => absurd h (by decide), fun h => absurd h (by decide)⟩, ⟨⟨by decide, by decide⟩, rfl, fun j h1 h2 => absurd (Int.lt_of_le_of_lt h1 h2) (by decide)⟩, ⟨LK_M0 (Or.inl rfl), LK_M0 (Or.inr (Or.inl rfl)), LK_M0 (Or.inr (Or.inr rfl))⟩, ?_⟩
  exact HS_none (by decide) rfl rfl rfl rfl rfl ⟨rfl, rfl, rfl⟩ ⟨rfl, rfl, rfl⟩ ⟨rfl, rfl, rfl⟩ (fun _ _ _ => rfl)
