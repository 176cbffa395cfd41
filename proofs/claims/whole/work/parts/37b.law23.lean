/-! ===== the comparison of the two floats ===== -/
set_option maxRecDepth 100000 in
theorem f2d_all : ∀ m, m < 7 → ∀ n, n < 7 → 0 < n → (FP.f2d (FP.fdiv (FP.i2f (nI m)) (FP.i2f (nI n))) &&& 0x7fffffffffffffff ≤ 0x7ff0000000000000) ∧ Op.cmpValue (FP.dcmp (FP.f2d (FP.fdiv (FP.i2f (nI m)) (FP.i2f (nI n)))) (FP.f2d (FP.fdiv (FP.i2f (nI m)) (FP.i2f (nI n))))) .l = 0 := by decide +kernel
theorem f2d_0 : (FP.f2d FP.fconst0 &&& 0x7fffffffffffffff ≤ 0x7ff0000000000000) ∧ Op.cmpValue (FP.dcmp (FP.f2d FP.fconst0) (FP.f2d FP.fconst0)) .l = 0 := by decide +kernel
theorem f2d_zFB {X : zCV} (hW : zWF X) : vf_n64 (FP.f2d (zFB X)) ∧ Op.cmpValue (FP.dcmp (FP.f2d (zFB X)) (FP.f2d (zFB X))) .l = 0 := by
  have h6 := hW.n6
  unfold zFB
  by_cases h : num X = 0
  · rw [if_pos h]; exact f2d_0
  · rw [if_neg h]
    obtain ⟨m, hm, e⟩ := zByp_le X (num X)
    unfold zSum
    rw [e, hW.sz]
    exact f2d_all m (by omega) _ (by omega) (by omega)
set_option maxHeartbeats 4000000 in
set_option maxRecDepth 100000 in
theorem x_law23 {p : Program} {e : Env} {s : State} {m : MethodId} {below : List Frame} {meth : Method} {c : Code} {G : zG} {b i : Nat} {S : zS} {Q : State → Prop} (cx : Cx p s m #[.ref b] meth c cL_law 8 RL G) (l : Launch) (hq : Qv (S 0) (S 8)) (hW : zWF (S 0)) (h : Sim S) (kk : Xh p l e room_1 s m #[.ref b] below meth c 8 G Q 75 1179 75 (pic G S) 18 [some (.ref b), some (.ref (zad G 7 0)), some (.ref (zad G 8 0)), some (.int (nI (i + 4))), none, none, none, none] []) : Xh p l e room_1 s m #[.ref b] below meth c 8 G Q 75 1179 75 (pic G S) 713 [some (.ref b), some (.ref (zad G 7 0)), some (.ref (zad G 8 0)), some (.int (nI i)), none, none, none, none] [.float (zFB (S 0))] := by
  have k2 : Xh p l e room_1 s m #[.ref b] below meth c 8 G Q 75 1179 75 (pic G S) 752 [some (.ref b), some (.ref (zad G 7 0)), some (.ref (zad G 8 0)), some (.int (nI i)), none, none, none, none] [] := by
    refine x_iinc (v := nI (i + 4)) (ls' := [some (.ref b), some (.ref (zad G 7 0)), some (.ref (zad G 8 0)), some (.int (nI (i + 4))), none, none, none, none]) cx dL_law_752 rfl (nI_add i 4) (by decide) rfl ?_
    exact x_goto (tgt := 18) cx dL_law_755 (by decide) kk
  obtain ⟨hne, hcm⟩ := f2d_zFB hW
  intro H locs lsA hW' hS hl h1
  refine lv_f2d cx.1.1 cx.1.2.1 dL_law_713 hne ?_
  refine lv_dstore (lv' := [(4, .double (FP.f2d (zFB (S 0)))), (0, .ref b), (1, .ref (zad G 7 0)), (2, .ref (zad G 8 0)), (3, .int (nI i))]) cx.1.1 cx.1.2.1 dL_law_714 hl (by decide) rfl (fun ls1 hl1 => ?_)
  refine lv_aload_n cx.1.1 cx.1.2.1 dL_law_716 rfl (lv_at hl1 3 rfl) ?_
  refine va_callf (va_runV (As := []) (rest := []) cx.1 (c_X7_bypassed l G S (Sim_W8 h) (hsz S) (Sim_hs h).1 (Sim_hs h).2) (cwV 0 cx.1.2.2.2.2 gV_L_114 rfl rfl rfl ⟨rfl, ndX7_bypassed⟩ ⟨Nat.le_of_ble_eq_true rfl, Nat.le_of_ble_eq_true rfl⟩) ⟨zfb, va_recv (q0 := 0) cx.2.1.1 (hW'.one (zok_8 (by decide)) (by decide) p_M) (ci := 5) (q := (RX7, TX7, 9)) rfl rfl, fun U hU hv => ⟨rfl, zpre cx hW' hS hU hv⟩⟩ rfl rfl hl1.1 rfl (lv_room (Nat.le_of_ble_eq_true rfl)) dL_law_717 ⟨Nat.le_of_ble_eq_true rfl, Nat.le_of_ble_eq_true rfl⟩) hS (fun q _ z => z) (fun q z => z) (fun r0 u t H1 locs1 ht hvm hw hB hz hk hS1 => ?_)
  have hr0 : r0 = zFB (S 0) := hw.trans (QFB hq).symm
  subst hr0
  have hW1 : HW G 75 (pic G S) H1 := by rw [← ht]; exact hB.1
  refine lv_f2d cx.1.1 cx.1.2.1 dL_law_720 hne ?_
  refine lv_dstore (lv' := [(6, .double (FP.f2d (zFB (S 0)))), (4, .double (FP.f2d (zFB (S 0)))), (0, .ref b), (1, .ref (zad G 7 0)), (2, .ref (zad G 8 0)), (3, .int (nI i))]) cx.1.1 cx.1.2.1 dL_law_721 hl1 (by decide) rfl (fun ls2 hl2 => ?_)
  refine lv_dload cx.1.1 cx.1.2.1 dL_law_723 (lv_at hl2 1 rfl) ?_
  refine lv_dload cx.1.1 cx.1.2.1 dL_law_725 (lv_at hl2 0 rfl) ?_
  refine lv_dcmp cx.1.1 cx.1.2.1 dL_law_727 ?_
  refine lv_if_eq (tgt := 749) cx.1.1 cx.1.2.1 dL_law_728 (by decide) (fun _ => ?_) (fun z => absurd hcm z)
  refine lv_goto (tgt := 752) cx.1.1 cx.1.2.1 dL_law_749 (by decide) ?_
  exact k2 H1 locs1 ls2 hW1 hS1 (lo_sub hl2 (fun q hq => by simp [lo] at hq; rcases hq with rfl | rfl | rfl | rfl <;> simp)) rfl
