/-! ===== the start ===== -/
def S0 : zS := fun i j k => if i = 7 then (if j = 1 then (if k < 4 then nI (k + 3) else 0) else 0) else 0
theorem S0_ne {i : Nat} (h : i ≠ 7) : S0 i = Z0 := by
  funext j k
  unfold S0
  rw [if_neg h]
theorem rc_S0 : ∀ k, k < 4 → rc S0 k = k + 3 := by decide
theorem hsz_S0 : hsz S0 = 0 := by decide
theorem Z0_WF : zWF Z0 := ⟨by decide, by decide, by decide, fun t ht => absurd ht (by show ¬ t < 0; omega)⟩
theorem S0_hWF : hWF S0 := by
  refine ⟨by rw [hsz_S0]; decide, fun k hk => ?_, fun k hk q hq e => ?_⟩
  · rw [rc_S0 k hk]
    refine ⟨?_, by omega, by omega⟩
    unfold S0
    rw [if_pos rfl, if_pos rfl, if_pos hk]
  · rw [rc_S0 k hk, rc_S0 q hq] at e
    omega
theorem S0_Sim : Sim S0 := by
  refine ⟨⟨by rw [S0_ne (by decide)]; exact Z0_WF, S0_hWF, fun k hk => ?_, ⟨0, by decide, by decide⟩, Or.inl (by decide), fun z => absurd z (by decide)⟩, by rw [S0_ne (i := 0) (by decide), S0_ne (i := 8) (by decide)]; exact Qrf _, by decide, fun k hk => ?_, by decide, fun z => absurd z (by decide), by decide, fun L hL h80 k hk => ?_⟩
  · rw [hsz_S0] at hk; omega
  · rw [hsz_S0] at hk; omega
  · have : L = 0 := (nI_eq (b := 0) (by omega) (by decide)).mp (hL.symm.trans (by decide))
    omega
theorem fl0 : fl Z0 = fun _ => 0 := by
  funext t
  unfold fl
  repeat' split
  all_goals rfl
theorem pf0 : pf S0 = fun _ => 0 := by
  funext t
  unfold pf
  rw [S0_ne (show 11 + t / 66 ≠ 7 by omega), fl0]
section ST0
variable {G : zG}
theorem F0_fresh {i : Nat} (hi : i < 7) : fresh G (pic G S0) i := fun j _ => by rw [pic_c hi, S0_ne (by omega)]
theorem F0_2 : pic G S0 7 2 = .inl (G.2.1 3, 4, .inr (.inr (.inr (.inr (fun k => if k < 4 then some (zad G (k + 3) 0) else none))))) := by
  have : (fun k => if k < 4 then some (zad G (rc S0 k) 0) else none) = (fun k => if k < 4 then some (zad G (k + 3) 0) else none) := by
    funext k
    by_cases hk : k < 4
    · rw [if_pos hk, if_pos hk, rc_S0 k hk]
    · rw [if_neg hk, if_neg hk]
  have h0 : pic G S0 7 2 = .inl (G.2.1 3, 4, .inr (.inr (.inr (.inr (fun k => if k < 4 then some (zad G (rc S0 k) 0) else none))))) := rfl
  rw [h0, this]
theorem F0_4 : pic G S0 7 4 = .inl (G.2.1 1, 80, .inl (fun _ => 0)) := by rw [← tr0 80]; rfl
theorem F0_z (f : Nat → Int32) (N : Nat) (h : f = fun _ => 0) : tr N f = fun _ => 0 := by rw [h]; exact tr0 N
theorem F0_81 : pic G S0 8 1 = .inl (G.2.1 0, 66, .inl (fun _ => 0)) := by rw [p_zg, S0_ne (by decide), F0_z _ _ fl0]
theorem F0_82 : pic G S0 8 2 = .inl (G.2.1 0, 66, .inl (fun _ => 0)) := by rw [p_spare, S0_ne (by decide), F0_z _ _ fl0]
theorem F0_83 : pic G S0 8 3 = .inl (G.2.1 0, 264, .inl (fun _ => 0)) := by rw [p_past, F0_z _ _ pf0]
theorem F0_84 : pic G S0 8 4 = .inl (G.2.1 0, 66, .inl (fun _ => 0)) := by rw [p_kept, S0_ne (by decide), F0_z _ _ fl0]
theorem F0_85 : pic G S0 8 5 = .inl (G.2.1 0, 80, .inl (fun _ => 0)) := by rw [p_text, F0_z (S0 15 1) 80 (by rw [S0_ne (by decide)])]
theorem F0_86 : pic G S0 8 6 = .inl (G.2.1 0, 16, .inl (fun _ => 0)) := by rw [p_far, F0_z (S0 15 2) 16 (by rw [S0_ne (by decide)])]
end ST0
