/-! ===== cells that are set ===== -/
theorem hset_ne {h : zH} {i j i' j' : Nat} {x y : va_E} (hne : ¬ (i' = i ∧ j' = j)) (hy : h i' j' = y) : hset h i j x i' j' = y := by
  unfold hset
  rw [if_neg hne]
  exact hy
theorem hset_same {h : zH} {i j : Nat} {x : va_E} : hset h i j x i j = x := if_pos ⟨rfl, rfl⟩
theorem hset_hset {h : zH} {i j : Nat} {x y : va_E} (i' j' : Nat) : hset (hset h i j x) i j y i' j' = hset h i j y i' j' := by
  unfold hset
  by_cases hc : i' = i ∧ j' = j
  · rw [if_pos hc, if_pos hc]
  · rw [if_neg hc, if_neg hc, if_neg hc]
theorem hset_self {h : zH} {i j : Nat} {x : va_E} (hx : h i j = x) (i' j' : Nat) : hset h i j x i' j' = h i' j' := by
  unfold hset
  by_cases hc : i' = i ∧ j' = j
  · rw [if_pos hc, hc.1, hc.2, hx]
  · rw [if_neg hc]
