/-! ===== the law's own invariant ===== -/
theorem x_lend {p : Program} {l : Launch} {e : Env} {s : State} {m : MethodId} {below : List Frame} {meth : Method} {c : Code} {G : zG} {cells slots n : Nat} {h : zH} {pc : Nat} {ls : List (Option Value)} {b : Nat} (cx : Cx p s m #[.ref b] meth c cL_law 16 RL G) (hG : G.2.2 = s.heap.size) (hr : meth.sig.returnType = ret) (hc : cells ≤ 600000) (hs : slots ≤ 7302250) (d : decode cL_law pc = .ok (.ireturn, 1)) : Xh p l e room_1 s m #[.ref b] below meth c 16 G (lw_Z below #[.ref b] s) cells slots n h pc ls [.int 1] := by
  intro H locs lsA hW hS hl h1
  refine va_forget (fun q hq => by have := hS.2.2 q hq; rw [← hG]; exact this) ?_
  refine W.widen hc hs ?_
  exact lw_ret (d0 := s.drawn) (Drawn.sameBut.refl s.drawn lw_cs) cx.1.1 cx.1.2.1 hr cx.2.2.2 d
def J (S : zS) : Prop := kWF S ∧ XOK (S 0) ∧ S 7 0 2 = 0 ∧ S 7 0 1 = 1 ∧ XOK (S 2)
section JJ
variable {S T : zS} {X Z : zCV}
/-- a recorded step, and its undoing -/
theorem J_rec (h : J S) (hX : XOK X) (hT : T = up (zRec (up S 1 Z)) 0 X) : J T ∧ T 0 = X ∧ T 2 = S 2 ∧ hsz T = (if hsz S < 4 then hsz S + 1 else 4) ∧ hsz T ≠ 0 ∧ J (zBack T) ∧ zBack T 2 = S 2 ∧ hsz (zBack T) = hsz T - 1 ∧ Qv (zBack T 0) (S 0) := by
  obtain ⟨hk, hX0, h2, h1, hX2⟩ := h
  have u0 : up S 1 Z 0 = S 0 := up_ne _ _ (by decide)
  have u2 : up S 1 Z 2 = S 2 := up_ne _ _ (by decide)
  have u7 : up S 1 Z 7 = S 7 := up_ne _ _ (by decide)
  have uz : hsz (up S 1 Z) = hsz S := by unfold hsz; rw [u7]
  have hr := kWF_rec (kWF_1 hk Z) hX.1
  rw [← hT, u0, u2, u7, uz] at hr
  obtain ⟨k1, k2, k3, k4, k5, Z', k6⟩ := hr
  have t0 : T 0 = X := by rw [hT]; exact up_same _ _ _
  have hne : hsz T ≠ 0 := by rw [k2]; split <;> omega
  obtain ⟨b1, b2, b3, b4, b5, b6⟩ := kWF_back k1 hne
  rw [k6] at b6
  refine ⟨⟨k1, by rw [t0]; exact hX, by rw [k4]; exact h2, by rw [k3]; exact h1, by rw [k5]; exact hX2⟩, t0, k5, k2, hne, ⟨b1, by rw [b6]; exact XOK_copy _ (XOK_copy _ hX0), by rw [b4, k4]; exact h2, by rw [b3, k3]; exact h1, by rw [b5, k5]; exact hX2⟩, by rw [b5, k5], b2, by rw [b6]; exact Qcopy (Qcopy (Qrf _))⟩
/-- a snapshot is taken -/
theorem J_save {U Y : zS} (hk : kWF U) (hX : XOK (U 0)) (h2 : U 7 0 2 = 0) (hY : Y = up (up U 2 (zCopy (U 2) (U 0))) 7 (uj (U 7) 0 (upd (U 7 0) 1 1))) : J Y ∧ zSeen (Y 2) = zSeen (U 0) ∧ Y 2 0 0 = U 0 0 0 ∧ Y 0 = U 0 := by
  obtain ⟨s1, s2, s3, s4, s5, s6⟩ := kWF_save hk
  rw [← hY] at s1 s2 s3 s4 s5 s6
  refine ⟨⟨s1, by rw [s2]; exact hX, by rw [s5]; exact h2, s4, by rw [s3]; exact XOK_copy _ hX⟩, ?_, ?_, s2⟩
  · rw [s3]; exact seen_Q (Qcopy (Qrf _)) (zCopy_WF hX.1)
  · rw [s3, zCopy_0]
end JJ
theorem ge9 {n : Nat} (hn : n < 2 ^ 31) : ¬ nI n ≤ -9 := fun z => absurd (Int32.le_trans (nI_pos' hn) z) (by decide)
theorem un_a {S : zS} {A : Int32} (h : hsz S ≠ 0) : (if hsz S = 0 then A else nI (hsz S - 1)) = nI (hsz S - 1) := if_neg h
theorem un_S {S V W : zS} (h : hsz S ≠ 0) : (if hsz S = 0 then V else W) = W := if_neg h
