/-! ===== the start ===== -/
def S0 : zS := fun i j k => if i = 7 then (if j = 1 then (if k < 4 then nI (k + 3) else 0) else 0) else 0
theorem S0_ne {i : Nat} (h : i ≠ 7) : S0 i = Z0 := by
  funext j k
  unfold S0
  rw [if_neg h]
theorem rc_S0 : ∀ k, k < 4 → rc S0 k = k + 3 := by decide
theorem hsz_S0 : hsz S0 = 0 := by decide
theorem Z0_WF : zWF Z0 := ⟨by decide, by decide, by decide, fun t ht => absurd ht (by show ¬ t < 0; omega)⟩
theorem S0_hWF : hWF S0 := by
  refine ⟨by rw [hsz_S0]; decide, fun k hk => ?_, fun k hk q hq e => ?_⟩
  · rw [rc_S0 k hk]
    refine ⟨?_, by omega, by omega⟩
    unfold S0
    rw [if_pos rfl, if_pos rfl, if_pos hk]
  · rw [rc_S0 k hk, rc_S0 q hq] at e
    omega
theorem S0_kWF : kWF S0 := by
  refine ⟨by rw [S0_ne (by decide)]; exact Z0_WF, S0_hWF, fun k hk => ?_, ⟨0, by decide, by decide⟩, Or.inl (by decide), fun z => absurd z (by decide)⟩
  rw [hsz_S0] at hk
  omega
theorem S0_XOK : XOK (S0 0) := by
  rw [S0_ne (by decide)]
  exact ⟨Z0_WF, fun t ht => absurd ht (by show ¬ t < 0; omega), fun k hk => absurd hk (by show ¬ k < 0; omega)⟩
section ST0
variable {G : zG}
theorem F0_fresh {i : Nat} (hi : i < 7) : fresh G (pic G S0) i := fun j _ => by rw [pic_c hi, S0_ne (by omega)]
theorem F0_2 : pic G S0 7 2 = .inl (G.2.1 3, 4, .inr (.inr (.inr (.inr (fun k => if k < 4 then some (zad G (k + 3) 0) else none))))) := by
  have : (fun k => if k < 4 then some (zad G (rc S0 k) 0) else none) = (fun k => if k < 4 then some (zad G (k + 3) 0) else none) := by
    funext k
    by_cases hk : k < 4
    · rw [if_pos hk, if_pos hk, rc_S0 k hk]
    · rw [if_neg hk, if_neg hk]
  have h0 : pic G S0 7 2 = .inl (G.2.1 3, 4, .inr (.inr (.inr (.inr (fun k => if k < 4 then some (zad G (rc S0 k) 0) else none))))) := rfl
  rw [h0, this]
theorem F0_4 : pic G S0 7 4 = .inl (G.2.1 1, 80, .inl (fun _ => 0)) := by rw [← tr0 80]; rfl
end ST0
