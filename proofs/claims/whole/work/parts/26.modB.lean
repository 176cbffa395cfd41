set_option maxHeartbeats 4000000 in
set_option maxRecDepth 100000 in
theorem c_X7_undo (l : Launch) (G : zG) (S : zS) (h0 : Nat) (hs : S 15 0 0 = nI h0) (h4 : h0 ≤ 4) : Met l yX7_undo (zws yX7_undo cX7_undo 1 (some .int)) (zrm 1 0 0 24) (zPc G 75 (pic G S) [.ref (zad G 8 0)]) (zQi G 75 (if S 15 0 0 = 0 then -4 else S 15 0 0 - 1) (pic G (if S 15 0 0 = 0 then S else mBack S))) 0 0 (zA G) := by
  refine zMet npX7_undo rfl (Nat.le_of_ble_eq_true rfl) ?_
  intro p e s m args below meth cd hargs cx hr hin0
  have cx : Cx p s m args meth cd cX7_undo 1 RX7 G := cx
  refine x_ls (ls' := [some (.ref (zad G 8 0))]) rfl (fun _ h => h) ?_
  refine x_aload_n cx dX7_undo_0 rfl rfl ?_
  refine x_getX7 cx 3 (by decide) (fl_X7_32 cx) (zok_8 (by decide)) (by decide) (p_M) rfl dX7_undo_1 ?_
  refine x_if_ne (tgt := 10) cx dX7_undo_4 (by decide) (fun hb4 => ?_) (fun hb4 => ?_)
  · have hp : 0 < h0 := by rcases Nat.eq_zero_or_pos h0 with z | z <;> first | exact z | exact absurd (by rw [hs, z]; rfl) hb4
    have hv : S 15 0 0 - 1 = nI (h0 - 1) := by rw [hs]; exact nI_sub1 hp
    refine x_aload_n cx dX7_undo_10 rfl rfl ?_
    refine x_dup cx dX7_undo_11 rfl ?_
    refine x_getX7 cx 3 (by decide) (fl_X7_32 cx) (zok_8 (by decide)) (by decide) (p_M) rfl dX7_undo_12 ?_
    refine x_iconst (v := 1) cx dX7_undo_15 (by decide) ?_
    refine x_isub cx dX7_undo_16 ?_
    refine x_eqi hv ?_
    refine x_putX7 cx 3 (by decide) (fl_X7_32 cx) (zok_8 (by decide)) (by decide) (p_M) rfl rfl rfl (Nat.le_of_ble_eq_true rfl) (pp_M_states) dX7_undo_17 ?_
    refine x_aload_n cx dX7_undo_20 rfl rfl ?_
    refine x_getX7 cx 2 (by decide) (fl_X7_16 cx) (zok_8 (by decide)) (by decide) (p_M) rfl dX7_undo_21 ?_
    refine x_bipush (v := 66) cx dX7_undo_24 (by decide) ?_
    refine x_aload_n cx dX7_undo_26 rfl rfl ?_
    refine x_getX7 cx 3 (by decide) (fl_X7_32 cx) (zok_8 (by decide)) (by decide) (p_M) rfl dX7_undo_27 ?_
    refine x_eqi (show _ = nI (h0 - 1) from rfl) ?_
    refine x_imul cx dX7_undo_30 ?_
    refine x_eqi (mul66 _) ?_
    refine x_aload_n cx dX7_undo_31 rfl rfl ?_
    refine x_getX7 cx 0 (by decide) (fl_X7_7 cx) (zok_8 (by decide)) (by decide) (p_M) rfl dX7_undo_32 ?_
    refine x_iconst (v := 0) cx dX7_undo_35 (by decide) ?_
    refine x_Sv (rest := []) cx (c_X7_copyRow l G _ (pic G (up (up S 15 (uj (S 15) 0 (upd (S 15 0) 0 (nI (h0 - 1))))) 8 (S (11 + (h0 - 1))))) 3 1 264 66 _ _ (66 * (h0 - 1)) 0 (by decide) (by decide) (by decide) p_past p_zg (by omega) (by decide) (by decide) (by decide) (by rw [← up_ne S (uj (S 15) 0 (upd (S 15 0) 0 (nI (h0 - 1)))) (show 11 + (h0 - 1) ≠ 15 by omega)]; exact cp_past_z (by omega))) gS_X7_36 ndX7_copyRow ⟨Nat.le_of_ble_eq_true rfl, Nat.le_of_ble_eq_true rfl⟩ rfl rfl (Nat.le_of_ble_eq_true rfl) dX7_undo_36 ⟨Nat.le_of_ble_eq_true rfl, Nat.le_of_ble_eq_true rfl⟩ ?_
    refine x_aload_n cx dX7_undo_39 rfl rfl ?_
    refine x_getX7 cx 3 (by decide) (fl_X7_32 cx) (zok_8 (by decide)) (by decide) (p_M) rfl dX7_undo_40 ?_
    refine x_eqi (show _ = nI (h0 - 1) from rfl) ?_
    exact x_iret cx hr (by rw [if_neg hb4, hv]) (by intro _ _ _ _; rw [if_neg hb4]; unfold mBack; rw [hv, show tn (nI (h0 - 1)) = h0 - 1 from nI_clamp (by omega)]) dX7_undo_43
  · refine x_bipush (v := (-4)) cx dX7_undo_7 (by decide) ?_
    exact x_iret cx hr (by rw [if_pos hb4]) (by intro _ _ _ _; rw [if_pos hb4]) dX7_undo_9

set_option maxHeartbeats 4000000 in
set_option maxRecDepth 100000 in
theorem c_X7_save (l : Launch) (G : zG) (S : zS) : Met l yX7_save (zws yX7_save cX7_save 1 (some .int)) (zrm 1 0 0 24) (zPc G 75 (pic G S) [.ref (zad G 8 0)]) (zQi G 75 (S 8 0 0) (pic G (up (up S 10 (S 8)) 15 (uj (S 15) 0 (upd (S 15 0) 1 1))))) 0 0 (zA G) := by
  refine zMet npX7_save rfl (Nat.le_of_ble_eq_true rfl) ?_
  intro p e s m args below meth cd hargs cx hr hin0
  have cx : Cx p s m args meth cd cX7_save 1 RX7 G := cx
  refine x_ls (ls' := [some (.ref (zad G 8 0))]) rfl (fun _ h => h) ?_
  refine x_aload_n cx dX7_save_0 rfl rfl ?_
  refine x_getX7 cx 0 (by decide) (fl_X7_7 cx) (zok_8 (by decide)) (by decide) (p_M) rfl dX7_save_1 ?_
  refine x_iconst (v := 0) cx dX7_save_4 (by decide) ?_
  refine x_aload_n cx dX7_save_5 rfl rfl ?_
  refine x_getX7 cx 4 (by decide) (fl_X7_19 cx) (zok_8 (by decide)) (by decide) (p_M) rfl dX7_save_6 ?_
  refine x_iconst (v := 0) cx dX7_save_9 (by decide) ?_
  refine x_Sv (rest := []) cx (c_X7_copyRow l G _ (pic G (up S 10 (S 8))) 1 4 66 66 _ _ 0 0 (by decide) (by decide) (by decide) p_zg p_kept (by decide) (by decide) (by decide) (by decide) cp_z_kept) gS_X7_36 ndX7_copyRow ⟨Nat.le_of_ble_eq_true rfl, Nat.le_of_ble_eq_true rfl⟩ rfl rfl (Nat.le_of_ble_eq_true rfl) dX7_save_10 ⟨Nat.le_of_ble_eq_true rfl, Nat.le_of_ble_eq_true rfl⟩ ?_
  refine x_aload_n cx dX7_save_13 rfl rfl ?_
  refine x_iconst (v := 1) cx dX7_save_14 (by decide) ?_
  refine x_putX7 cx 5 (by decide) (fl_X7_40 cx) (zok_8 (by decide)) (by decide) (p_M) rfl rfl rfl (Nat.le_of_ble_eq_true rfl) pp_M_isKept dX7_save_15 ?_
  refine x_aload_n cx dX7_save_18 rfl rfl ?_
  refine x_getX7 cx 0 (by decide) (fl_X7_7 cx) (zok_8 (by decide)) (by decide) (p_M) rfl dX7_save_19 ?_
  refine x_iconst (v := 0) cx dX7_save_22 (by decide) ?_
  refine x_iald (t := 0) cx (zok_8 (by decide)) (by decide) p_zg rfl (by decide) (by decide) (trz (by decide)) dX7_save_23 ?_
  exact x_iret cx hr rfl (fun _ _ _ _ => rfl) dX7_save_24

set_option maxHeartbeats 4000000 in
set_option maxRecDepth 100000 in
theorem c_X7_restore (l : Launch) (G : zG) (S : zS) (h0 : Nat) (hs : S 15 0 0 = nI h0) (h4 : h0 ≤ 4) : Met l yX7_restore (zws yX7_restore cX7_restore 1 (some .int)) (zrm 2 0 0 45) (zPc G 75 (pic G S) [.ref (zad G 8 0)]) (zQi G 75 (if S 15 0 1 = 0 then -1 else S 10 0 0) (pic G (if S 15 0 1 = 0 then S else up (mRec S) 8 (S 10)))) 0 0 (zA G) := by
  refine zMet npX7_restore rfl (Nat.le_of_ble_eq_true rfl) ?_
  intro p e s m args below meth cd hargs cx hr hin0
  have cx : Cx p s m args meth cd cX7_restore 1 RX7 G := cx
  refine x_ls (ls' := [some (.ref (zad G 8 0))]) rfl (fun _ h => h) ?_
  refine x_aload_n cx dX7_restore_0 rfl rfl ?_
  refine x_getX7 cx 5 (by decide) (fl_X7_40 cx) (zok_8 (by decide)) (by decide) (p_M) rfl dX7_restore_1 ?_
  refine x_if_ne (tgt := 9) cx dX7_restore_4 (by decide) (fun hb4 => ?_) (fun hb4 => ?_)
  · refine x_aload_n cx dX7_restore_9 rfl rfl ?_
    refine x_Vv (C := RX7) (T := TX7) (N := 9) (rest := []) cx (c_X7_record l G _ h0 hs h4) gV_X7_44 ndX7_record rfl ⟨Nat.le_of_ble_eq_true rfl, Nat.le_of_ble_eq_true rfl⟩ (zok_8 (by decide)) (by decide) (p_M) rfl rfl rfl (Nat.le_of_ble_eq_true rfl) dX7_restore_10 ⟨Nat.le_of_ble_eq_true rfl, Nat.le_of_ble_eq_true rfl⟩ ?_
    refine x_aload_n cx dX7_restore_13 rfl rfl ?_
    refine x_getX7 cx 4 (by decide) (fl_X7_19 cx) (zok_8 (by decide)) (by decide) (p_M) rfl dX7_restore_14 ?_
    refine x_iconst (v := 0) cx dX7_restore_17 (by decide) ?_
    refine x_aload_n cx dX7_restore_18 rfl rfl ?_
    refine x_getX7 cx 0 (by decide) (fl_X7_7 cx) (zok_8 (by decide)) (by decide) (p_M) rfl dX7_restore_19 ?_
    refine x_iconst (v := 0) cx dX7_restore_22 (by decide) ?_
    refine x_Sv (rest := []) cx (c_X7_copyRow l G _ (pic G (up (mRec S) 8 (S 10))) 4 1 66 66 _ _ 0 0 (by decide) (by decide) (by decide) p_kept p_zg (by decide) (by decide) (by decide) (by decide) (by rw [← mRec_lo hs h4 (show 10 < 11 by decide)]; exact cp_kept_z)) gS_X7_36 ndX7_copyRow ⟨Nat.le_of_ble_eq_true rfl, Nat.le_of_ble_eq_true rfl⟩ rfl rfl (Nat.le_of_ble_eq_true rfl) dX7_restore_23 ⟨Nat.le_of_ble_eq_true rfl, Nat.le_of_ble_eq_true rfl⟩ ?_
    refine x_aload_n cx dX7_restore_26 rfl rfl ?_
    refine x_getX7 cx 0 (by decide) (fl_X7_7 cx) (zok_8 (by decide)) (by decide) (p_M) rfl dX7_restore_27 ?_
    refine x_iconst (v := 0) cx dX7_restore_30 (by decide) ?_
    refine x_iald (t := 0) cx (zok_8 (by decide)) (by decide) p_zg rfl (by decide) (by decide) (trz (by decide)) dX7_restore_31 ?_
    exact x_iret cx hr (by rw [if_neg hb4]; rfl) (by rw [if_neg hb4]; exact fun _ _ _ _ => rfl) dX7_restore_32
  · refine x_iconst (v := (-1)) cx dX7_restore_7 (by decide) ?_
    exact x_iret cx hr (by rw [if_pos hb4]) (by intro _ _ _ _; rw [if_pos hb4]) dX7_restore_8

set_option maxHeartbeats 4000000 in
set_option maxRecDepth 100000 in
theorem c_X7_sum (l : Launch) (G : zG) (S : zS) (X : zCV) (hW : zWF X) (u : Nat) (hu : u < 9) : Met l yX7_sum (zws yX7_sum cX7_sum 4 (some .int)) (zrm 1 0 0 22) (zPc G 75 (pic G (up S 8 X)) [.ref (zad G 8 0), .int (nI u)]) (zQi G 75 (zSum (fun c => c u) X) (pic G (up S 8 (X)))) 0 0 (zA G) := by
  refine zMet npX7_sum rfl (Nat.le_of_ble_eq_true rfl) ?_
  intro p e s m args below meth cd hargs cx hr hin0
  have cx : Cx p s m args meth cd cX7_sum 4 RX7 G := cx
  refine x_ls (ls' := [some (.ref (zad G 8 0)), some (.int (nI u)), none, none]) rfl (fun _ h => h) ?_
  have h6 := hW.n6
  refine x_iconst (v := 0) cx dX7_sum_0 (by decide) ?_
  refine x_istore_n (ls' := [_, _, _, _]) cx dX7_sum_1 rfl (by decide) rfl ?_
  refine x_iconst (v := 0) cx dX7_sum_2 (by decide) ?_
  refine x_istore_n (ls' := [_, _, _, _]) cx dX7_sum_3 rfl (by decide) rfl ?_
  suffices K : ∀ f k : Nat, k + f = num X → Xh p l e _ s m args below meth cd 4 G _ 0 0 75 (pic G (up S 8 X)) 4 [some (.ref (zad G 8 0)), some (.int (nI u)), some (.int (zSumL (fun c => c u) X k)), some (.int (nI k))] [] from K (num X) 0 (by omega)
  intro f
  induction f with
  | zero =>
    intro k hk
    obtain rfl : k = num X := by omega
    refine x_iload_n cx dX7_sum_4 rfl rfl ?_
    refine x_aload_n cx dX7_sum_5 rfl rfl ?_
    refine x_getX7 cx 0 (by decide) (fl_X7_7 cx) (zok_8 (by decide)) (by decide) (p_M) rfl dX7_sum_6 ?_
    refine x_iconst (v := 0) cx dX7_sum_9 (by decide) ?_
    refine x_iald (t := 0) cx (zok_8 (by decide)) (by decide) (p_z) rfl (by decide) (by decide) (trz (by decide)) dX7_sum_10 ?_
    refine x_eqi hW.sz ?_
    refine x_icmp_ge_t (tgt := 29) cx dX7_sum_11 (by decide) (nI_le (Nat.le_refl _) (by omega)) ?_
    refine x_iload_n cx dX7_sum_29 rfl rfl ?_
    exact x_iret cx hr rfl (fun _ _ _ _ => rfl) dX7_sum_30
  | succ f ih =>
    intro k hk
    refine x_iload_n cx dX7_sum_4 rfl rfl ?_
    refine x_aload_n cx dX7_sum_5 rfl rfl ?_
    refine x_getX7 cx 0 (by decide) (fl_X7_7 cx) (zok_8 (by decide)) (by decide) (p_M) rfl dX7_sum_6 ?_
    refine x_iconst (v := 0) cx dX7_sum_9 (by decide) ?_
    refine x_iald (t := 0) cx (zok_8 (by decide)) (by decide) (p_z) rfl (by decide) (by decide) (trz (by decide)) dX7_sum_10 ?_
    refine x_eqi hW.sz ?_
    refine x_icmp_ge_f (tgt := 29) cx dX7_sum_11 (by decide) (nI_ge (by omega) (by omega)) ?_
    refine x_iload_n cx dX7_sum_14 rfl rfl ?_
    refine x_aload_n cx dX7_sum_15 rfl rfl ?_
    refine x_iload_n cx dX7_sum_16 rfl rfl ?_
    refine x_iload_n cx dX7_sum_17 rfl rfl ?_
    refine x_Vi (C := RX7) (T := TX7) (N := 9) (rest := [_]) cx (c_X7_of l G _ _ k u (by omega) hu) gV_X7_47 ndX7_of rfl ⟨Nat.le_of_ble_eq_true rfl, Nat.le_of_ble_eq_true rfl⟩ (zok_8 (by decide)) (by decide) (p_M) rfl rfl rfl (Nat.le_of_ble_eq_true rfl) dX7_sum_18 ⟨Nat.le_of_ble_eq_true rfl, Nat.le_of_ble_eq_true rfl⟩ ?_
    refine x_iadd cx dX7_sum_21 ?_
    refine x_istore_n (ls' := [_, _, _, _]) cx dX7_sum_22 rfl (by decide) rfl ?_
    refine x_iinc (v := nI (k + 1)) (ls' := [_, _, _, _]) cx dX7_sum_23 rfl (nI_inc _) (by decide) rfl ?_
    refine x_goto (tgt := 4) cx dX7_sum_26 (by decide) ?_
    exact ih (k + 1) (by omega)

set_option maxHeartbeats 4000000 in
set_option maxRecDepth 100000 in
theorem c_X7_allBits (l : Launch) (G : zG) (S : zS) (X : zCV) (hW : zWF X) : Met l yX7_allBits (zws yX7_allBits cX7_allBits 3 (some .int)) (zrm 3 0 0 64) (zPc G 75 (pic G (up S 8 X)) [.ref (zad G 8 0)]) (zQi G 75 (zSum zBits X) (pic G (up S 8 (X)))) 0 0 (zA G) := by
  refine zMet npX7_allBits rfl (Nat.le_of_ble_eq_true rfl) ?_
  intro p e s m args below meth cd hargs cx hr hin0
  have cx : Cx p s m args meth cd cX7_allBits 3 RX7 G := cx
  refine x_ls (ls' := [some (.ref (zad G 8 0)), none, none]) rfl (fun _ h => h) ?_
  have h6 := hW.n6
  refine x_iconst (v := 0) cx dX7_allBits_0 (by decide) ?_
  refine x_istore_n (ls' := [_, _, _]) cx dX7_allBits_1 rfl (by decide) rfl ?_
  refine x_iconst (v := 0) cx dX7_allBits_2 (by decide) ?_
  refine x_istore_n (ls' := [_, _, _]) cx dX7_allBits_3 rfl (by decide) rfl ?_
  suffices K : ∀ f k : Nat, k + f = num X → Xh p l e _ s m args below meth cd 3 G _ 0 0 75 (pic G (up S 8 X)) 4 [some (.ref (zad G 8 0)), some (.int (zSumL zBits X k)), some (.int (nI k))] [] from K (num X) 0 (by omega)
  intro f
  induction f with
  | zero =>
    intro k hk
    obtain rfl : k = num X := by omega
    refine x_iload_n cx dX7_allBits_4 rfl rfl ?_
    refine x_aload_n cx dX7_allBits_5 rfl rfl ?_
    refine x_getX7 cx 0 (by decide) (fl_X7_7 cx) (zok_8 (by decide)) (by decide) (p_M) rfl dX7_allBits_6 ?_
    refine x_iconst (v := 0) cx dX7_allBits_9 (by decide) ?_
    refine x_iald (t := 0) cx (zok_8 (by decide)) (by decide) (p_z) rfl (by decide) (by decide) (trz (by decide)) dX7_allBits_10 ?_
    refine x_eqi hW.sz ?_
    refine x_icmp_ge_t (tgt := 28) cx dX7_allBits_11 (by decide) (nI_le (Nat.le_refl _) (by omega)) ?_
    refine x_iload_n cx dX7_allBits_28 rfl rfl ?_
    exact x_iret cx hr rfl (fun _ _ _ _ => rfl) dX7_allBits_29
  | succ f ih =>
    intro k hk
    refine x_iload_n cx dX7_allBits_4 rfl rfl ?_
    refine x_aload_n cx dX7_allBits_5 rfl rfl ?_
    refine x_getX7 cx 0 (by decide) (fl_X7_7 cx) (zok_8 (by decide)) (by decide) (p_M) rfl dX7_allBits_6 ?_
    refine x_iconst (v := 0) cx dX7_allBits_9 (by decide) ?_
    refine x_iald (t := 0) cx (zok_8 (by decide)) (by decide) (p_z) rfl (by decide) (by decide) (trz (by decide)) dX7_allBits_10 ?_
    refine x_eqi hW.sz ?_
    refine x_icmp_ge_f (tgt := 28) cx dX7_allBits_11 (by decide) (nI_ge (by omega) (by omega)) ?_
    refine x_iload_n cx dX7_allBits_14 rfl rfl ?_
    refine x_aload_n cx dX7_allBits_15 rfl rfl ?_
    refine x_iload_n cx dX7_allBits_16 rfl rfl ?_
    refine x_Vi (C := RX7) (T := TX7) (N := 9) (rest := [_]) cx (c_X7_bits l G _ _ k (by omega) (hW.chip (by omega)).2.2.2) gV_X7_91 ndX7_bits rfl ⟨Nat.le_of_ble_eq_true rfl, Nat.le_of_ble_eq_true rfl⟩ (zok_8 (by decide)) (by decide) (p_M) rfl rfl rfl (Nat.le_of_ble_eq_true rfl) dX7_allBits_17 ⟨Nat.le_of_ble_eq_true rfl, Nat.le_of_ble_eq_true rfl⟩ ?_
    refine x_iadd cx dX7_allBits_20 ?_
    refine x_istore_n (ls' := [_, _, _]) cx dX7_allBits_21 rfl (by decide) rfl ?_
    refine x_iinc (v := nI (k + 1)) (ls' := [_, _, _]) cx dX7_allBits_22 rfl (nI_inc _) (by decide) rfl ?_
    refine x_goto (tgt := 4) cx dX7_allBits_25 (by decide) ?_
    exact ih (k + 1) (by omega)

set_option maxHeartbeats 4000000 in
set_option maxRecDepth 100000 in
theorem c_X7_isShifting (l : Launch) (G : zG) (S : zS) (X : zCV) : Met l yX7_isShifting (zws yX7_isShifting cX7_isShifting 1 (some .boolean)) (zrm 0 0 0 0) (zPc G 75 (pic G (up S 8 X)) [.ref (zad G 8 0)]) (zQi G 75 (zIsS X) (pic G (up S 8 (X)))) 0 0 (zA G) := by
  refine zMet npX7_isShifting rfl (Nat.le_of_ble_eq_true rfl) ?_
  intro p e s m args below meth cd hargs cx hr hin0
  have cx : Cx p s m args meth cd cX7_isShifting 1 RX7 G := cx
  refine x_ls (ls' := [some (.ref (zad G 8 0))]) rfl (fun _ h => h) ?_
  refine x_aload_n cx dX7_isShifting_0 rfl rfl ?_
  refine x_getX7 cx 0 (by decide) (fl_X7_7 cx) (zok_8 (by decide)) (by decide) (p_M) rfl dX7_isShifting_1 ?_
  refine x_iconst (v := 1) cx dX7_isShifting_4 (by decide) ?_
  refine x_iald (t := 1) cx (zok_8 (by decide)) (by decide) (p_z) rfl (by decide) (by decide) (trz (by decide)) dX7_isShifting_5 ?_
  refine x_iconst (v := 4) cx dX7_isShifting_6 (by decide) ?_
  refine x_icmp_eq (tgt := 21) cx dX7_isShifting_7 (by decide) (fun hb7 => ?_) (fun hb7 => ?_)
  · refine x_iconst (v := 1) cx dX7_isShifting_21 (by decide) ?_
    refine x_goto (tgt := 26) cx dX7_isShifting_22 (by decide) ?_
    exact x_zret cx hr (by unfold zIsS; rw [if_pos hb7]) (by first | exact Or.inl rfl | exact Or.inr rfl) (fun _ _ _ _ => rfl) dX7_isShifting_26
  · refine x_aload_n cx dX7_isShifting_10 rfl rfl ?_
    refine x_getX7 cx 0 (by decide) (fl_X7_7 cx) (zok_8 (by decide)) (by decide) (p_M) rfl dX7_isShifting_11 ?_
    refine x_iconst (v := 1) cx dX7_isShifting_14 (by decide) ?_
    refine x_iald (t := 1) cx (zok_8 (by decide)) (by decide) (p_z) rfl (by decide) (by decide) (trz (by decide)) dX7_isShifting_15 ?_
    refine x_bipush (v := 11) cx dX7_isShifting_16 (by decide) ?_
    refine x_icmp_ne (tgt := 25) cx dX7_isShifting_18 (by decide) (fun hb18 => ?_) (fun hb18 => ?_)
    · refine x_iconst (v := 0) cx dX7_isShifting_25 (by decide) ?_
      exact x_zret cx hr (by unfold zIsS; rw [if_neg hb7, if_neg hb18]) (by first | exact Or.inl rfl | exact Or.inr rfl) (fun _ _ _ _ => rfl) dX7_isShifting_26
    · refine x_iconst (v := 1) cx dX7_isShifting_21 (by decide) ?_
      refine x_goto (tgt := 26) cx dX7_isShifting_22 (by decide) ?_
      exact x_zret cx hr (by unfold zIsS; rw [if_neg hb7, if_pos hb18]) (by first | exact Or.inl rfl | exact Or.inr rfl) (fun _ _ _ _ => rfl) dX7_isShifting_26

set_option maxHeartbeats 4000000 in
set_option maxRecDepth 100000 in
theorem c_X7_shifted (l : Launch) (G : zG) (S : zS) (X : zCV) : Met l yX7_shifted (zws yX7_shifted cX7_shifted 1 (some .int)) (zrm 0 0 0 0) (zPc G 75 (pic G (up S 8 X)) [.ref (zad G 8 0)]) (zQi G 75 (if X 0 1 = 4 then 8 else 7) (pic G (up S 8 (X)))) 0 0 (zA G) := by
  refine zMet npX7_shifted rfl (Nat.le_of_ble_eq_true rfl) ?_
  intro p e s m args below meth cd hargs cx hr hin0
  have cx : Cx p s m args meth cd cX7_shifted 1 RX7 G := cx
  refine x_ls (ls' := [some (.ref (zad G 8 0))]) rfl (fun _ h => h) ?_
  refine x_aload_n cx dX7_shifted_0 rfl rfl ?_
  refine x_getX7 cx 0 (by decide) (fl_X7_7 cx) (zok_8 (by decide)) (by decide) (p_M) rfl dX7_shifted_1 ?_
  refine x_iconst (v := 1) cx dX7_shifted_4 (by decide) ?_
  refine x_iald (t := 1) cx (zok_8 (by decide)) (by decide) (p_z) rfl (by decide) (by decide) (trz (by decide)) dX7_shifted_5 ?_
  refine x_iconst (v := 4) cx dX7_shifted_6 (by decide) ?_
  refine x_icmp_ne (tgt := 15) cx dX7_shifted_7 (by decide) (fun hb7 => ?_) (fun hb7 => ?_)
  · refine x_bipush (v := 7) cx dX7_shifted_15 (by decide) ?_
    exact x_iret cx hr (by rw [if_neg hb7]) (fun _ _ _ _ => rfl) dX7_shifted_17
  · refine x_bipush (v := 8) cx dX7_shifted_10 (by decide) ?_
    refine x_goto (tgt := 17) cx dX7_shifted_12 (by decide) ?_
    exact x_iret cx hr (by rw [if_pos hb7]) (fun _ _ _ _ => rfl) dX7_shifted_17

set_option maxHeartbeats 4000000 in
set_option maxRecDepth 100000 in
theorem c_X7_outputOf (l : Launch) (G : zG) (S : zS) (X : zCV) (c : Nat) (hc : c < 6) (hbk : X (c + 3) 5 = 0 ∨ X (c + 3) 5 = 1) : Met l yX7_outputOf (zws yX7_outputOf cX7_outputOf 2 (some .int)) (zrm 1 0 0 22) (zPc G 75 (pic G (up S 8 X)) [.ref (zad G 8 0), .int (nI c)]) (zQi G 75 (zOO X c) (pic G (up S 8 (X)))) 0 0 (zA G) := by
  refine zMet npX7_outputOf rfl (Nat.le_of_ble_eq_true rfl) ?_
  intro p e s m args below meth cd hargs cx hr hin0
  have cx : Cx p s m args meth cd cX7_outputOf 2 RX7 G := cx
  refine x_ls (ls' := [some (.ref (zad G 8 0)), some (.int (nI c))]) rfl (fun _ h => h) ?_
  by_cases h4 : X 0 1 = 4
  · refine x_aload_n cx dX7_outputOf_0 rfl rfl ?_
    refine x_iload_n cx dX7_outputOf_1 rfl rfl ?_
    refine x_iconst (v := 5) cx dX7_outputOf_2 (by decide) ?_
    refine x_Vi (C := RX7) (T := TX7) (N := 9) (rest := []) cx (c_X7_of l G _ _ c 5 (by omega) (by decide)) gV_X7_47 ndX7_of rfl ⟨Nat.le_of_ble_eq_true rfl, Nat.le_of_ble_eq_true rfl⟩ (zok_8 (by decide)) (by decide) (p_M) rfl rfl rfl (Nat.le_of_ble_eq_true rfl) dX7_outputOf_3 ⟨Nat.le_of_ble_eq_true rfl, Nat.le_of_ble_eq_true rfl⟩ ?_
    refine x_iconst (v := 1) cx dX7_outputOf_6 (by decide) ?_
    refine x_icmp_ne (tgt := 14) cx dX7_outputOf_7 (by decide) (fun hb7 => ?_) (fun hb7 => ?_)
    · refine x_aload_n cx dX7_outputOf_14 rfl rfl ?_
      refine x_iload_n cx dX7_outputOf_15 rfl rfl ?_
      refine x_aload_n cx dX7_outputOf_16 rfl rfl ?_
      refine x_Vi (C := RX7) (T := TX7) (N := 9) (rest := [_, _]) cx (c_X7_shifted l G _ _) gV_X7_80 ndX7_shifted rfl ⟨Nat.le_of_ble_eq_true rfl, Nat.le_of_ble_eq_true rfl⟩ (zok_8 (by decide)) (by decide) (p_M) rfl rfl rfl (Nat.le_of_ble_eq_true rfl) dX7_outputOf_17 ⟨Nat.le_of_ble_eq_true rfl, Nat.le_of_ble_eq_true rfl⟩ ?_
      refine x_eqi (if_pos h4) ?_
      refine x_Vi (C := RX7) (T := TX7) (N := 9) (rest := []) cx (c_X7_of l G _ _ c 8 (by omega) (by decide)) gV_X7_47 ndX7_of rfl ⟨Nat.le_of_ble_eq_true rfl, Nat.le_of_ble_eq_true rfl⟩ (zok_8 (by decide)) (by decide) (p_M) rfl rfl rfl (Nat.le_of_ble_eq_true rfl) dX7_outputOf_20 ⟨Nat.le_of_ble_eq_true rfl, Nat.le_of_ble_eq_true rfl⟩ ?_
      refine x_iconst (v := 1) cx dX7_outputOf_23 (by decide) ?_
      refine x_iand cx dX7_outputOf_24 ?_
      exact x_iret cx hr (by unfold zOO zDO; rw [if_pos h4, if_pos (hbk.resolve_right hb7)]) (fun _ _ _ _ => rfl) dX7_outputOf_25
    · refine x_iconst (v := 1) cx dX7_outputOf_10 (by decide) ?_
      refine x_goto (tgt := 25) cx dX7_outputOf_11 (by decide) ?_
      exact x_iret cx hr (by unfold zOO zDO; rw [if_pos h4, if_neg (by rw [hb7]; decide)]) (fun _ _ _ _ => rfl) dX7_outputOf_25
  · refine x_aload_n cx dX7_outputOf_0 rfl rfl ?_
    refine x_iload_n cx dX7_outputOf_1 rfl rfl ?_
    refine x_iconst (v := 5) cx dX7_outputOf_2 (by decide) ?_
    refine x_Vi (C := RX7) (T := TX7) (N := 9) (rest := []) cx (c_X7_of l G _ _ c 5 (by omega) (by decide)) gV_X7_47 ndX7_of rfl ⟨Nat.le_of_ble_eq_true rfl, Nat.le_of_ble_eq_true rfl⟩ (zok_8 (by decide)) (by decide) (p_M) rfl rfl rfl (Nat.le_of_ble_eq_true rfl) dX7_outputOf_3 ⟨Nat.le_of_ble_eq_true rfl, Nat.le_of_ble_eq_true rfl⟩ ?_
    refine x_iconst (v := 1) cx dX7_outputOf_6 (by decide) ?_
    refine x_icmp_ne (tgt := 14) cx dX7_outputOf_7 (by decide) (fun hb7 => ?_) (fun hb7 => ?_)
    · refine x_aload_n cx dX7_outputOf_14 rfl rfl ?_
      refine x_iload_n cx dX7_outputOf_15 rfl rfl ?_
      refine x_aload_n cx dX7_outputOf_16 rfl rfl ?_
      refine x_Vi (C := RX7) (T := TX7) (N := 9) (rest := [_, _]) cx (c_X7_shifted l G _ _) gV_X7_80 ndX7_shifted rfl ⟨Nat.le_of_ble_eq_true rfl, Nat.le_of_ble_eq_true rfl⟩ (zok_8 (by decide)) (by decide) (p_M) rfl rfl rfl (Nat.le_of_ble_eq_true rfl) dX7_outputOf_17 ⟨Nat.le_of_ble_eq_true rfl, Nat.le_of_ble_eq_true rfl⟩ ?_
      refine x_eqi (if_neg h4) ?_
      refine x_Vi (C := RX7) (T := TX7) (N := 9) (rest := []) cx (c_X7_of l G _ _ c 7 (by omega) (by decide)) gV_X7_47 ndX7_of rfl ⟨Nat.le_of_ble_eq_true rfl, Nat.le_of_ble_eq_true rfl⟩ (zok_8 (by decide)) (by decide) (p_M) rfl rfl rfl (Nat.le_of_ble_eq_true rfl) dX7_outputOf_20 ⟨Nat.le_of_ble_eq_true rfl, Nat.le_of_ble_eq_true rfl⟩ ?_
      refine x_iconst (v := 1) cx dX7_outputOf_23 (by decide) ?_
      refine x_iand cx dX7_outputOf_24 ?_
      exact x_iret cx hr (by unfold zOO zCO; rw [if_neg h4, if_pos (hbk.resolve_right hb7)]) (fun _ _ _ _ => rfl) dX7_outputOf_25
    · refine x_iconst (v := 1) cx dX7_outputOf_10 (by decide) ?_
      refine x_goto (tgt := 25) cx dX7_outputOf_11 (by decide) ?_
      exact x_iret cx hr (by unfold zOO zCO; rw [if_neg h4, if_neg (by rw [hb7]; decide)]) (fun _ _ _ _ => rfl) dX7_outputOf_25

set_option maxHeartbeats 4000000 in
set_option maxRecDepth 100000 in
theorem c_X7_output (l : Launch) (G : zG) (S : zS) (X : zCV) (hW : zWF X) (x : Int32) : Met l yX7_output (zws yX7_output cX7_output 2 (some .int)) (zrm 2 0 0 43) (zPc G 75 (pic G (up S 8 X)) [.ref (zad G 8 0), .int x]) (zQi G 75 (zOut X x) (pic G (up S 8 (X)))) 0 0 (zA G) := by
  refine zMet npX7_output rfl (Nat.le_of_ble_eq_true rfl) ?_
  intro p e s m args below meth cd hargs cx hr hin0
  have cx : Cx p s m args meth cd cX7_output 2 RX7 G := cx
  refine x_ls (ls' := [some (.ref (zad G 8 0)), some (.int x)]) rfl (fun _ h => h) ?_
  have h6 := hW.n6
  refine x_aload_n cx dX7_output_0 rfl rfl ?_
  refine x_Vi (C := RX7) (T := TX7) (N := 9) (rest := []) cx (c_X7_isShifting l G _ _) gV_X7_84 ndX7_isShifting rfl ⟨Nat.le_of_ble_eq_true rfl, Nat.le_of_ble_eq_true rfl⟩ (zok_8 (by decide)) (by decide) (p_M) rfl rfl rfl (Nat.le_of_ble_eq_true rfl) dX7_output_1 ⟨Nat.le_of_ble_eq_true rfl, Nat.le_of_ble_eq_true rfl⟩ ?_
  refine x_if_ne (tgt := 11) cx dX7_output_4 (by decide) (fun hb4 => ?_) (fun hb4 => ?_)
  · refine x_aload_n cx dX7_output_11 rfl rfl ?_
    refine x_getX7 cx 0 (by decide) (fl_X7_7 cx) (zok_8 (by decide)) (by decide) (p_M) rfl dX7_output_12 ?_
    refine x_iconst (v := 0) cx dX7_output_15 (by decide) ?_
    refine x_iald (t := 0) cx (zok_8 (by decide)) (by decide) (p_z) rfl (by decide) (by decide) (trz (by decide)) dX7_output_16 ?_
    refine x_if_ne (tgt := 24) cx dX7_output_17 (by decide) (fun hb17 => ?_) (fun hb17 => ?_)
    · refine x_aload_n cx dX7_output_24 rfl rfl ?_
      refine x_aload_n cx dX7_output_25 rfl rfl ?_
      refine x_getX7 cx 0 (by decide) (fl_X7_7 cx) (zok_8 (by decide)) (by decide) (p_M) rfl dX7_output_26 ?_
      refine x_iconst (v := 0) cx dX7_output_29 (by decide) ?_
      refine x_iald (t := 0) cx (zok_8 (by decide)) (by decide) (p_z) rfl (by decide) (by decide) (trz (by decide)) dX7_output_30 ?_
      refine x_iconst (v := 1) cx dX7_output_31 (by decide) ?_
      refine x_isub cx dX7_output_32 ?_
      refine x_eqi (show _ = nI (num X - 1) by rw [hW.sz]; exact nI_sub1 (Nat.pos_of_ne_zero (fun z => hb17 (by rw [hW.sz, z]; rfl)))) ?_
      have hn0 : 0 < num X := Nat.pos_of_ne_zero (fun z => hb17 (by rw [hW.sz, z]; rfl))
      refine x_Vi (C := RX7) (T := TX7) (N := 9) (rest := []) cx (c_X7_outputOf l G _ _ (num X - 1) (by omega) (hW.chip (by omega)).2.2.1) gV_X7_88 ndX7_outputOf rfl ⟨Nat.le_of_ble_eq_true rfl, Nat.le_of_ble_eq_true rfl⟩ (zok_8 (by decide)) (by decide) (p_M) rfl rfl rfl (Nat.le_of_ble_eq_true rfl) dX7_output_33 ⟨Nat.le_of_ble_eq_true rfl, Nat.le_of_ble_eq_true rfl⟩ ?_
      exact x_iret cx hr (by have hn : ¬ num X = 0 := (fun z => hb17 (by rw [hW.sz, z]; rfl)); unfold zOut zOO; unfold zIsS at hb4; by_cases h4 : X 0 1 = 4; { rw [if_pos h4, if_pos h4, if_neg hn] }; rw [if_neg h4] at hb4 ⊢; by_cases h11 : X 0 1 = 11; { rw [if_neg h4, if_pos h11, if_neg hn] }; rw [if_neg h11] at hb4; exact absurd rfl hb4) (fun _ _ _ _ => rfl) dX7_output_36
    · refine x_iload_n cx dX7_output_20 rfl rfl ?_
      refine x_goto (tgt := 36) cx dX7_output_21 (by decide) ?_
      exact x_iret cx hr (by have hn : num X = 0 := (nI_eq (b := 0) (by omega) (by decide)).mp (by rw [← hW.sz]; exact hb17); unfold zOut; unfold zIsS at hb4; by_cases h4 : X 0 1 = 4; { rw [if_pos h4, if_pos hn] }; rw [if_neg h4] at hb4 ⊢; by_cases h11 : X 0 1 = 11; { rw [if_pos h11, if_pos hn] }; rw [if_neg h11] at hb4; exact absurd rfl hb4) (fun _ _ _ _ => rfl) dX7_output_36
  · refine x_iconst (v := 1) cx dX7_output_7 (by decide) ?_
    refine x_goto (tgt := 36) cx dX7_output_8 (by decide) ?_
    exact x_iret cx hr (by unfold zOut; unfold zIsS at hb4; by_cases h4 : X 0 1 = 4; { rw [if_pos h4] at hb4; exact absurd hb4 (by decide) }; rw [if_neg h4] at hb4 ⊢; by_cases h11 : X 0 1 = 11; { rw [if_pos h11] at hb4; exact absurd hb4 (by decide) }; rw [if_neg h11]) (fun _ _ _ _ => rfl) dX7_output_36

set_option maxHeartbeats 4000000 in
set_option maxRecDepth 100000 in
theorem c_X7_shift (l : Launch) (G : zG) (S : zS) (X : zCV) (hW : zWF X) (x : Int32) : Met l yX7_shift (zws yX7_shift cX7_shift 6 none) (zrm 3 0 0 64) (zPc G 75 (pic G (up S 8 X)) [.ref (zad G 8 0), .int x]) (zQv G 75 (pic G (up S 8 (zSft X x)))) 0 0 (zA G) := by
  refine zMet npX7_shift rfl (Nat.le_of_ble_eq_true rfl) ?_
  intro p e s m args below meth cd hargs cx hr hin0
  have cx : Cx p s m args meth cd cX7_shift 6 RX7 G := cx
  refine x_ls (ls' := [some (.ref (zad G 8 0)), some (.int x), none, none, none, none]) rfl (fun _ h => h) ?_
  have h6 := hW.n6
  by_cases h4 : X 0 1 = 4
  · have hz : zSft X x = zShiftD X x := if_pos h4
    rw [hz]
    refine x_aload_n cx dX7_shift_0 rfl rfl ?_
    refine x_Vi (C := RX7) (T := TX7) (N := 9) (rest := []) cx (c_X7_shifted l G _ _) gV_X7_80 ndX7_shifted rfl ⟨Nat.le_of_ble_eq_true rfl, Nat.le_of_ble_eq_true rfl⟩ (zok_8 (by decide)) (by decide) (p_M) rfl rfl rfl (Nat.le_of_ble_eq_true rfl) dX7_shift_1 ⟨Nat.le_of_ble_eq_true rfl, Nat.le_of_ble_eq_true rfl⟩ ?_
    refine x_eqi (if_pos h4) ?_
    refine x_istore_n (ls' := [_, _, _, _, _, _]) cx dX7_shift_4 rfl (by decide) rfl ?_
    refine x_aload_n cx dX7_shift_5 rfl rfl ?_
    refine x_getX7 cx 0 (by decide) (fl_X7_7 cx) (zok_8 (by decide)) (by decide) (p_M) rfl dX7_shift_6 ?_
    refine x_iconst (v := 0) cx dX7_shift_9 (by decide) ?_
    refine x_iald (t := 0) cx (zok_8 (by decide)) (by decide) (p_z) rfl (by decide) (by decide) (trz (by decide)) dX7_shift_10 ?_
    refine x_eqi hW.sz ?_
    refine x_iconst (v := 1) cx dX7_shift_11 (by decide) ?_
    refine x_isub cx dX7_shift_12 ?_
    refine x_istore_n (ls' := [_, _, _, _, _, _]) cx dX7_shift_13 rfl (by decide) rfl ?_
    suffices K : ∀ k : Nat, k ≤ num X → Xh p l e _ s m args below meth cd 6 G _ 0 0 75 (pic G (up S 8 (zMapD (fun k c => zShD c (zInc zDO X x k)) (num X) k X))) 14 [some (.ref (zad G 8 0)), some (.int x), some (.int 8), some (.int (nI k - 1)), none, none] [] from x_up (zMapD_n (fun k c => zShD c (zInc zDO X x k)) (num X) X).symm (K (num X) (Nat.le_refl _))
    intro k
    induction k with
    | zero =>
      intro _
      refine x_iload_n cx dX7_shift_14 rfl rfl ?_
      refine x_if_lt_t (tgt := 85) cx dX7_shift_15 (by decide) (by decide) ?_
      exact x_vret cx hr (by intro _ _ _ _; rw [zMapD_z]; rfl) dX7_shift_85
    | succ k ih =>
      intro hk
      rw [nI_pred]
      have hYk : ∀ t, t < k + 1 → zMapD (fun k c => zShD c (zInc zDO X x k)) (num X) (k + 1) X (t + 3) = X (t + 3) := fun t ht => zMapD_lo _ _ _ X ht
      have hY0 : zMapD (fun k c => zShD c (zInc zDO X x k)) (num X) (k + 1) X 0 = X 0 := zMapD_0 _ _ _ X
      have hYs := zMapD_s (fun k c => zShD c (zInc zDO X x k)) X (show k < num X by omega)
      have hc := hW.chip (t := k) (by omega)
      generalize zMapD (fun k c => zShD c (zInc zDO X x k)) (num X) (k + 1) X = Y at hYk hY0 hYs ⊢
      refine x_iload_n cx dX7_shift_14 rfl rfl ?_
      refine x_if_lt_f (tgt := 85) cx dX7_shift_15 (by decide) (nI_pos (by omega)) ?_
      refine x_iload_n cx dX7_shift_18 rfl rfl ?_
      refine x_if_ne (tgt := 26) cx dX7_shift_19 (by decide) (fun hb19 => ?_) (fun hb19 => ?_)
      · obtain ⟨q, rfl⟩ : ∃ q, k = q + 1 := ⟨k - 1, by rcases Nat.eq_zero_or_pos k with z | z <;> first | omega | exact absurd (by rw [z]; rfl) hb19⟩
        refine x_aload_n cx dX7_shift_26 rfl rfl ?_
        refine x_iload_n cx dX7_shift_27 rfl rfl ?_
        refine x_iconst (v := 1) cx dX7_shift_28 (by decide) ?_
        refine x_isub cx dX7_shift_29 ?_
        refine x_eqi (nI_pred q) ?_
        refine x_Vi (C := RX7) (T := TX7) (N := 9) (rest := []) cx (c_X7_outputOf l G _ _ q (by omega) (by rw [hYk q (by omega)]; exact (hW.chip (by omega)).2.2.1)) gV_X7_88 ndX7_outputOf rfl ⟨Nat.le_of_ble_eq_true rfl, Nat.le_of_ble_eq_true rfl⟩ (zok_8 (by decide)) (by decide) (p_M) rfl rfl rfl (Nat.le_of_ble_eq_true rfl) dX7_shift_30 ⟨Nat.le_of_ble_eq_true rfl, Nat.le_of_ble_eq_true rfl⟩ ?_
        refine x_eqi (show _ = zInc zDO X x (q + 1) by unfold zOO; rw [hY0, if_pos h4, hYk q (by omega)]; rfl) ?_
        refine x_istore (ls' := [_, _, _, _, _, _]) cx dX7_shift_33 (by decide) rfl ?_
        refine x_iload_n cx dX7_shift_35 rfl rfl ?_
        refine x_bipush (v := 8) cx dX7_shift_36 (by decide) ?_
        refine x_icmp_ne_f (tgt := 49) cx dX7_shift_38 (by decide) rfl ?_
        refine x_aload_n cx dX7_shift_41 rfl rfl ?_
        refine x_iload_n cx dX7_shift_42 rfl rfl ?_
        refine x_Vi (C := RX7) (T := TX7) (N := 9) (rest := []) cx (c_X7_bits l G _ _ (q + 1) (by omega) (by rw [hYk _ (by omega)]; exact hc.2.2.2)) gV_X7_91 ndX7_bits rfl ⟨Nat.le_of_ble_eq_true rfl, Nat.le_of_ble_eq_true rfl⟩ (zok_8 (by decide)) (by decide) (p_M) rfl rfl rfl (Nat.le_of_ble_eq_true rfl) dX7_shift_43 ⟨Nat.le_of_ble_eq_true rfl, Nat.le_of_ble_eq_true rfl⟩ ?_
        refine x_goto (tgt := 55) cx dX7_shift_46 (by decide) ?_
        refine x_istore (ls' := [_, _, _, _, _, _]) cx dX7_shift_55 (by decide) rfl ?_
        refine x_aload_n cx dX7_shift_57 rfl rfl ?_
        refine x_iload_n cx dX7_shift_58 rfl rfl ?_
        refine x_iload_n cx dX7_shift_59 rfl rfl ?_
        refine x_aload_n cx dX7_shift_60 rfl rfl ?_
        refine x_iload_n cx dX7_shift_61 rfl rfl ?_
        refine x_iload_n cx dX7_shift_62 rfl rfl ?_
        refine x_Vi (C := RX7) (T := TX7) (N := 9) (rest := [_, _, _]) cx (c_X7_of l G _ _ (q + 1) 8 (by omega) (by decide)) gV_X7_47 ndX7_of rfl ⟨Nat.le_of_ble_eq_true rfl, Nat.le_of_ble_eq_true rfl⟩ (zok_8 (by decide)) (by decide) (p_M) rfl rfl rfl (Nat.le_of_ble_eq_true rfl) dX7_shift_63 ⟨Nat.le_of_ble_eq_true rfl, Nat.le_of_ble_eq_true rfl⟩ ?_
        refine x_iconst (v := 1) cx dX7_shift_66 (by decide) ?_
        refine x_ishr cx dX7_shift_67 ?_
        refine x_iload cx dX7_shift_68 rfl ?_
        refine x_iload cx dX7_shift_70 rfl ?_
        refine x_iconst (v := 1) cx dX7_shift_72 (by decide) ?_
        refine x_isub cx dX7_shift_73 ?_
        refine x_ishl cx dX7_shift_74 ?_
        refine x_ior cx dX7_shift_75 ?_
        refine x_Vv (C := RX7) (T := TX7) (N := 9) (rest := []) cx (c_X7_lay l G _ _ (q + 1) 8 (by omega) (by decide) _) gV_X7_58 ndX7_lay rfl ⟨Nat.le_of_ble_eq_true rfl, Nat.le_of_ble_eq_true rfl⟩ (zok_8 (by decide)) (by decide) (p_M) rfl rfl rfl (Nat.le_of_ble_eq_true rfl) dX7_shift_76 ⟨Nat.le_of_ble_eq_true rfl, Nat.le_of_ble_eq_true rfl⟩ ?_
        refine x_iinc (ls' := [_, _, _, _, _, _]) cx dX7_shift_79 rfl rfl (by decide) rfl ?_
        refine x_goto (tgt := 14) cx dX7_shift_82 (by decide) ?_
        rw [nI_dec]
        refine x_up (X' := zMapD (fun k c => zShD c (zInc zDO X x k)) (num X) (q + 1) X) (by rw [hYs, hYk (q + 1) (by omega)]; rfl) ?_
        exact x_ls rfl (by simp [lo]) (ih (by omega))
      · obtain rfl : k = 0 := (nI_eq (b := 0) (by omega) (by decide)).mp hb19
        refine x_iload_n cx dX7_shift_22 rfl rfl ?_
        refine x_goto (tgt := 33) cx dX7_shift_23 (by decide) ?_
        refine x_istore (ls' := [_, _, _, _, _, _]) cx dX7_shift_33 (by decide) rfl ?_
        refine x_iload_n cx dX7_shift_35 rfl rfl ?_
        refine x_bipush (v := 8) cx dX7_shift_36 (by decide) ?_
        refine x_icmp_ne_f (tgt := 49) cx dX7_shift_38 (by decide) rfl ?_
        refine x_aload_n cx dX7_shift_41 rfl rfl ?_
        refine x_iload_n cx dX7_shift_42 rfl rfl ?_
        refine x_Vi (C := RX7) (T := TX7) (N := 9) (rest := []) cx (c_X7_bits l G _ _ 0 (by omega) (by rw [hYk _ (by omega)]; exact hc.2.2.2)) gV_X7_91 ndX7_bits rfl ⟨Nat.le_of_ble_eq_true rfl, Nat.le_of_ble_eq_true rfl⟩ (zok_8 (by decide)) (by decide) (p_M) rfl rfl rfl (Nat.le_of_ble_eq_true rfl) dX7_shift_43 ⟨Nat.le_of_ble_eq_true rfl, Nat.le_of_ble_eq_true rfl⟩ ?_
        refine x_goto (tgt := 55) cx dX7_shift_46 (by decide) ?_
        refine x_istore (ls' := [_, _, _, _, _, _]) cx dX7_shift_55 (by decide) rfl ?_
        refine x_aload_n cx dX7_shift_57 rfl rfl ?_
        refine x_iload_n cx dX7_shift_58 rfl rfl ?_
        refine x_iload_n cx dX7_shift_59 rfl rfl ?_
        refine x_aload_n cx dX7_shift_60 rfl rfl ?_
        refine x_iload_n cx dX7_shift_61 rfl rfl ?_
        refine x_iload_n cx dX7_shift_62 rfl rfl ?_
        refine x_Vi (C := RX7) (T := TX7) (N := 9) (rest := [_, _, _]) cx (c_X7_of l G _ _ 0 8 (by omega) (by decide)) gV_X7_47 ndX7_of rfl ⟨Nat.le_of_ble_eq_true rfl, Nat.le_of_ble_eq_true rfl⟩ (zok_8 (by decide)) (by decide) (p_M) rfl rfl rfl (Nat.le_of_ble_eq_true rfl) dX7_shift_63 ⟨Nat.le_of_ble_eq_true rfl, Nat.le_of_ble_eq_true rfl⟩ ?_
        refine x_iconst (v := 1) cx dX7_shift_66 (by decide) ?_
        refine x_ishr cx dX7_shift_67 ?_
        refine x_iload cx dX7_shift_68 rfl ?_
        refine x_iload cx dX7_shift_70 rfl ?_
        refine x_iconst (v := 1) cx dX7_shift_72 (by decide) ?_
        refine x_isub cx dX7_shift_73 ?_
        refine x_ishl cx dX7_shift_74 ?_
        refine x_ior cx dX7_shift_75 ?_
        refine x_Vv (C := RX7) (T := TX7) (N := 9) (rest := []) cx (c_X7_lay l G _ _ 0 8 (by omega) (by decide) _) gV_X7_58 ndX7_lay rfl ⟨Nat.le_of_ble_eq_true rfl, Nat.le_of_ble_eq_true rfl⟩ (zok_8 (by decide)) (by decide) (p_M) rfl rfl rfl (Nat.le_of_ble_eq_true rfl) dX7_shift_76 ⟨Nat.le_of_ble_eq_true rfl, Nat.le_of_ble_eq_true rfl⟩ ?_
        refine x_iinc (ls' := [_, _, _, _, _, _]) cx dX7_shift_79 rfl rfl (by decide) rfl ?_
        refine x_goto (tgt := 14) cx dX7_shift_82 (by decide) ?_
        rw [nI_dec]
        refine x_up (X' := zMapD (fun k c => zShD c (zInc zDO X x k)) (num X) 0 X) (by rw [hYs, hYk 0 (by omega)]; rfl) ?_
        exact x_ls rfl (by simp [lo]) (ih (by omega))
  · have hz : zSft X x = zShiftC X x := if_neg h4
    rw [hz]
    refine x_aload_n cx dX7_shift_0 rfl rfl ?_
    refine x_Vi (C := RX7) (T := TX7) (N := 9) (rest := []) cx (c_X7_shifted l G _ _) gV_X7_80 ndX7_shifted rfl ⟨Nat.le_of_ble_eq_true rfl, Nat.le_of_ble_eq_true rfl⟩ (zok_8 (by decide)) (by decide) (p_M) rfl rfl rfl (Nat.le_of_ble_eq_true rfl) dX7_shift_1 ⟨Nat.le_of_ble_eq_true rfl, Nat.le_of_ble_eq_true rfl⟩ ?_
    refine x_eqi (if_neg h4) ?_
    refine x_istore_n (ls' := [_, _, _, _, _, _]) cx dX7_shift_4 rfl (by decide) rfl ?_
    refine x_aload_n cx dX7_shift_5 rfl rfl ?_
    refine x_getX7 cx 0 (by decide) (fl_X7_7 cx) (zok_8 (by decide)) (by decide) (p_M) rfl dX7_shift_6 ?_
    refine x_iconst (v := 0) cx dX7_shift_9 (by decide) ?_
    refine x_iald (t := 0) cx (zok_8 (by decide)) (by decide) (p_z) rfl (by decide) (by decide) (trz (by decide)) dX7_shift_10 ?_
    refine x_eqi hW.sz ?_
    refine x_iconst (v := 1) cx dX7_shift_11 (by decide) ?_
    refine x_isub cx dX7_shift_12 ?_
    refine x_istore_n (ls' := [_, _, _, _, _, _]) cx dX7_shift_13 rfl (by decide) rfl ?_
    suffices K : ∀ k : Nat, k ≤ num X → Xh p l e _ s m args below meth cd 6 G _ 0 0 75 (pic G (up S 8 (zMapD (fun k c => zShC c (zInc zCO X x k)) (num X) k X))) 14 [some (.ref (zad G 8 0)), some (.int x), some (.int 7), some (.int (nI k - 1)), none, none] [] from x_up (zMapD_n (fun k c => zShC c (zInc zCO X x k)) (num X) X).symm (K (num X) (Nat.le_refl _))
    intro k
    induction k with
    | zero =>
      intro _
      refine x_iload_n cx dX7_shift_14 rfl rfl ?_
      refine x_if_lt_t (tgt := 85) cx dX7_shift_15 (by decide) (by decide) ?_
      exact x_vret cx hr (by intro _ _ _ _; rw [zMapD_z]; rfl) dX7_shift_85
    | succ k ih =>
      intro hk
      rw [nI_pred]
      have hYk : ∀ t, t < k + 1 → zMapD (fun k c => zShC c (zInc zCO X x k)) (num X) (k + 1) X (t + 3) = X (t + 3) := fun t ht => zMapD_lo _ _ _ X ht
      have hY0 : zMapD (fun k c => zShC c (zInc zCO X x k)) (num X) (k + 1) X 0 = X 0 := zMapD_0 _ _ _ X
      have hYs := zMapD_s (fun k c => zShC c (zInc zCO X x k)) X (show k < num X by omega)
      have hc := hW.chip (t := k) (by omega)
      generalize zMapD (fun k c => zShC c (zInc zCO X x k)) (num X) (k + 1) X = Y at hYk hY0 hYs ⊢
      refine x_iload_n cx dX7_shift_14 rfl rfl ?_
      refine x_if_lt_f (tgt := 85) cx dX7_shift_15 (by decide) (nI_pos (by omega)) ?_
      refine x_iload_n cx dX7_shift_18 rfl rfl ?_
      refine x_if_ne (tgt := 26) cx dX7_shift_19 (by decide) (fun hb19 => ?_) (fun hb19 => ?_)
      · obtain ⟨q, rfl⟩ : ∃ q, k = q + 1 := ⟨k - 1, by rcases Nat.eq_zero_or_pos k with z | z <;> first | omega | exact absurd (by rw [z]; rfl) hb19⟩
        refine x_aload_n cx dX7_shift_26 rfl rfl ?_
        refine x_iload_n cx dX7_shift_27 rfl rfl ?_
        refine x_iconst (v := 1) cx dX7_shift_28 (by decide) ?_
        refine x_isub cx dX7_shift_29 ?_
        refine x_eqi (nI_pred q) ?_
        refine x_Vi (C := RX7) (T := TX7) (N := 9) (rest := []) cx (c_X7_outputOf l G _ _ q (by omega) (by rw [hYk q (by omega)]; exact (hW.chip (by omega)).2.2.1)) gV_X7_88 ndX7_outputOf rfl ⟨Nat.le_of_ble_eq_true rfl, Nat.le_of_ble_eq_true rfl⟩ (zok_8 (by decide)) (by decide) (p_M) rfl rfl rfl (Nat.le_of_ble_eq_true rfl) dX7_shift_30 ⟨Nat.le_of_ble_eq_true rfl, Nat.le_of_ble_eq_true rfl⟩ ?_
        refine x_eqi (show _ = zInc zCO X x (q + 1) by unfold zOO; rw [hY0, if_neg h4, hYk q (by omega)]; rfl) ?_
        refine x_istore (ls' := [_, _, _, _, _, _]) cx dX7_shift_33 (by decide) rfl ?_
        refine x_iload_n cx dX7_shift_35 rfl rfl ?_
        refine x_bipush (v := 8) cx dX7_shift_36 (by decide) ?_
        refine x_icmp_ne_t (tgt := 49) cx dX7_shift_38 (by decide) (by decide) ?_
        refine x_aload_n cx dX7_shift_49 rfl rfl ?_
        refine x_iload_n cx dX7_shift_50 rfl rfl ?_
        refine x_iconst (v := 0) cx dX7_shift_51 (by decide) ?_
        refine x_Vi (C := RX7) (T := TX7) (N := 9) (rest := []) cx (c_X7_of l G _ _ (q + 1) 0 (by omega) (by decide)) gV_X7_47 ndX7_of rfl ⟨Nat.le_of_ble_eq_true rfl, Nat.le_of_ble_eq_true rfl⟩ (zok_8 (by decide)) (by decide) (p_M) rfl rfl rfl (Nat.le_of_ble_eq_true rfl) dX7_shift_52 ⟨Nat.le_of_ble_eq_true rfl, Nat.le_of_ble_eq_true rfl⟩ ?_
        refine x_istore (ls' := [_, _, _, _, _, _]) cx dX7_shift_55 (by decide) rfl ?_
        refine x_aload_n cx dX7_shift_57 rfl rfl ?_
        refine x_iload_n cx dX7_shift_58 rfl rfl ?_
        refine x_iload_n cx dX7_shift_59 rfl rfl ?_
        refine x_aload_n cx dX7_shift_60 rfl rfl ?_
        refine x_iload_n cx dX7_shift_61 rfl rfl ?_
        refine x_iload_n cx dX7_shift_62 rfl rfl ?_
        refine x_Vi (C := RX7) (T := TX7) (N := 9) (rest := [_, _, _]) cx (c_X7_of l G _ _ (q + 1) 7 (by omega) (by decide)) gV_X7_47 ndX7_of rfl ⟨Nat.le_of_ble_eq_true rfl, Nat.le_of_ble_eq_true rfl⟩ (zok_8 (by decide)) (by decide) (p_M) rfl rfl rfl (Nat.le_of_ble_eq_true rfl) dX7_shift_63 ⟨Nat.le_of_ble_eq_true rfl, Nat.le_of_ble_eq_true rfl⟩ ?_
        refine x_iconst (v := 1) cx dX7_shift_66 (by decide) ?_
        refine x_ishr cx dX7_shift_67 ?_
        refine x_iload cx dX7_shift_68 rfl ?_
        refine x_iload cx dX7_shift_70 rfl ?_
        refine x_iconst (v := 1) cx dX7_shift_72 (by decide) ?_
        refine x_isub cx dX7_shift_73 ?_
        refine x_ishl cx dX7_shift_74 ?_
        refine x_ior cx dX7_shift_75 ?_
        refine x_Vv (C := RX7) (T := TX7) (N := 9) (rest := []) cx (c_X7_lay l G _ _ (q + 1) 7 (by omega) (by decide) _) gV_X7_58 ndX7_lay rfl ⟨Nat.le_of_ble_eq_true rfl, Nat.le_of_ble_eq_true rfl⟩ (zok_8 (by decide)) (by decide) (p_M) rfl rfl rfl (Nat.le_of_ble_eq_true rfl) dX7_shift_76 ⟨Nat.le_of_ble_eq_true rfl, Nat.le_of_ble_eq_true rfl⟩ ?_
        refine x_iinc (ls' := [_, _, _, _, _, _]) cx dX7_shift_79 rfl rfl (by decide) rfl ?_
        refine x_goto (tgt := 14) cx dX7_shift_82 (by decide) ?_
        rw [nI_dec]
        refine x_up (X' := zMapD (fun k c => zShC c (zInc zCO X x k)) (num X) (q + 1) X) (by rw [hYs, hYk (q + 1) (by omega)]; rfl) ?_
        exact x_ls rfl (by simp [lo]) (ih (by omega))
      · obtain rfl : k = 0 := (nI_eq (b := 0) (by omega) (by decide)).mp hb19
        refine x_iload_n cx dX7_shift_22 rfl rfl ?_
        refine x_goto (tgt := 33) cx dX7_shift_23 (by decide) ?_
        refine x_istore (ls' := [_, _, _, _, _, _]) cx dX7_shift_33 (by decide) rfl ?_
        refine x_iload_n cx dX7_shift_35 rfl rfl ?_
        refine x_bipush (v := 8) cx dX7_shift_36 (by decide) ?_
        refine x_icmp_ne_t (tgt := 49) cx dX7_shift_38 (by decide) (by decide) ?_
        refine x_aload_n cx dX7_shift_49 rfl rfl ?_
        refine x_iload_n cx dX7_shift_50 rfl rfl ?_
        refine x_iconst (v := 0) cx dX7_shift_51 (by decide) ?_
        refine x_Vi (C := RX7) (T := TX7) (N := 9) (rest := []) cx (c_X7_of l G _ _ 0 0 (by omega) (by decide)) gV_X7_47 ndX7_of rfl ⟨Nat.le_of_ble_eq_true rfl, Nat.le_of_ble_eq_true rfl⟩ (zok_8 (by decide)) (by decide) (p_M) rfl rfl rfl (Nat.le_of_ble_eq_true rfl) dX7_shift_52 ⟨Nat.le_of_ble_eq_true rfl, Nat.le_of_ble_eq_true rfl⟩ ?_
        refine x_istore (ls' := [_, _, _, _, _, _]) cx dX7_shift_55 (by decide) rfl ?_
        refine x_aload_n cx dX7_shift_57 rfl rfl ?_
        refine x_iload_n cx dX7_shift_58 rfl rfl ?_
        refine x_iload_n cx dX7_shift_59 rfl rfl ?_
        refine x_aload_n cx dX7_shift_60 rfl rfl ?_
        refine x_iload_n cx dX7_shift_61 rfl rfl ?_
        refine x_iload_n cx dX7_shift_62 rfl rfl ?_
        refine x_Vi (C := RX7) (T := TX7) (N := 9) (rest := [_, _, _]) cx (c_X7_of l G _ _ 0 7 (by omega) (by decide)) gV_X7_47 ndX7_of rfl ⟨Nat.le_of_ble_eq_true rfl, Nat.le_of_ble_eq_true rfl⟩ (zok_8 (by decide)) (by decide) (p_M) rfl rfl rfl (Nat.le_of_ble_eq_true rfl) dX7_shift_63 ⟨Nat.le_of_ble_eq_true rfl, Nat.le_of_ble_eq_true rfl⟩ ?_
        refine x_iconst (v := 1) cx dX7_shift_66 (by decide) ?_
        refine x_ishr cx dX7_shift_67 ?_
        refine x_iload cx dX7_shift_68 rfl ?_
        refine x_iload cx dX7_shift_70 rfl ?_
        refine x_iconst (v := 1) cx dX7_shift_72 (by decide) ?_
        refine x_isub cx dX7_shift_73 ?_
        refine x_ishl cx dX7_shift_74 ?_
        refine x_ior cx dX7_shift_75 ?_
        refine x_Vv (C := RX7) (T := TX7) (N := 9) (rest := []) cx (c_X7_lay l G _ _ 0 7 (by omega) (by decide) _) gV_X7_58 ndX7_lay rfl ⟨Nat.le_of_ble_eq_true rfl, Nat.le_of_ble_eq_true rfl⟩ (zok_8 (by decide)) (by decide) (p_M) rfl rfl rfl (Nat.le_of_ble_eq_true rfl) dX7_shift_76 ⟨Nat.le_of_ble_eq_true rfl, Nat.le_of_ble_eq_true rfl⟩ ?_
        refine x_iinc (ls' := [_, _, _, _, _, _]) cx dX7_shift_79 rfl rfl (by decide) rfl ?_
        refine x_goto (tgt := 14) cx dX7_shift_82 (by decide) ?_
        rw [nI_dec]
        refine x_up (X' := zMapD (fun k c => zShC c (zInc zCO X x k)) (num X) 0 X) (by rw [hYs, hYk 0 (by omega)]; rfl) ?_
        exact x_ls rfl (by simp [lo]) (ih (by omega))

set_option maxHeartbeats 4000000 in
set_option maxRecDepth 100000 in
theorem c_X7_work (l : Launch) (G : zG) (S : zS) (X : zCV) (c : Nat) (hc : c < 6) (hW : zWF X) (hid : 0 ≤ X (c + 3) 1) : Met l yX7_work (zws yX7_work cX7_work 2 none) (zrm 3 0 0 66) (zPc G 75 (pic G (up S 8 X)) [.ref (zad G 8 0), .int (nI c)]) (zQv G 75 (pic G (up S 8 (uj X (c + 3) (zWork (X 0 1) (X (c + 3))))))) 0 0 (zA G) := by
  refine zMet npX7_work rfl (Nat.le_of_ble_eq_true rfl) ?_
  intro p e s m args below meth cd hargs cx hr hin0
  have cx : Cx p s m args meth cd cX7_work 2 RX7 G := cx
  refine x_ls (ls' := [some (.ref (zad G 8 0)), some (.int (nI c))]) rfl (fun _ h => h) ?_
  refine x_aload_n cx dX7_work_0 rfl rfl ?_
  refine x_getX7 cx 0 (by decide) (fl_X7_7 cx) (zok_8 (by decide)) (by decide) (p_M) rfl dX7_work_1 ?_
  refine x_iconst (v := 1) cx dX7_work_4 (by decide) ?_
  refine x_iald (t := 1) cx (zok_8 (by decide)) (by decide) (p_z) rfl (by decide) (by decide) (trz (by decide)) dX7_work_5 ?_
  refine x_eqi hW.s1 ?_
  have hs := hW.s1
  have h16 := hW.s16
  generalize stt X = a at hs h16 ⊢
  rcases (show a = 0 ∨ a = 1 ∨ a = 2 ∨ a = 3 ∨ a = 4 ∨ a = 5 ∨ a = 6 ∨ a = 7 ∨ a = 8 ∨ a = 9 ∨ a = 10 ∨ a = 11 ∨ a = 12 ∨ a = 13 ∨ a = 14 ∨ a = 15 by omega) with rfl | rfl | rfl | rfl | rfl | rfl | rfl | rfl | rfl | rfl | rfl | rfl | rfl | rfl | rfl | rfl
  · refine x_lookup (off := 50) (tgt := 56) cx dX7_work_6 (by decide +kernel) (by decide +kernel) (by decide) ?_
    rw [hs]
    have hz : zWork (nI 0) (X (c + 3)) = zFirst (X (c + 3)) := rfl
    rw [hz]
    refine x_aload_n cx dX7_work_56 rfl rfl ?_
    refine x_iload_n cx dX7_work_57 rfl rfl ?_
    refine x_Vv (C := RX7) (T := TX7) (N := 9) (rest := []) cx (c_X7_giveFirst l G _ _ c (by omega) hid) gV_X7_70 ndX7_giveFirst rfl ⟨Nat.le_of_ble_eq_true rfl, Nat.le_of_ble_eq_true rfl⟩ (zok_8 (by decide)) (by decide) (p_M) rfl rfl rfl (Nat.le_of_ble_eq_true rfl) dX7_work_58 ⟨Nat.le_of_ble_eq_true rfl, Nat.le_of_ble_eq_true rfl⟩ ?_
    refine x_goto (tgt := 170) cx dX7_work_61 (by decide) ?_
    exact x_vret cx hr (fun _ _ _ _ => rfl) dX7_work_170
  · refine x_lookup (off := 164) (tgt := 170) cx dX7_work_6 (by decide +kernel) (by decide +kernel) (by decide) ?_
    rw [hs]
    have hz : zWork (nI 1) (X (c + 3)) = (X (c + 3)) := rfl
    rw [hz]
    exact x_vret cx hr (by intro _ _ _ _; rw [uj_self]) dX7_work_170
  · refine x_lookup (off := 164) (tgt := 170) cx dX7_work_6 (by decide +kernel) (by decide +kernel) (by decide) ?_
    rw [hs]
    have hz : zWork (nI 2) (X (c + 3)) = (X (c + 3)) := rfl
    rw [hz]
    exact x_vret cx hr (by intro _ _ _ _; rw [uj_self]) dX7_work_170
  · refine x_lookup (off := 58) (tgt := 64) cx dX7_work_6 (by decide +kernel) (by decide +kernel) (by decide) ?_
    rw [hs]
    have hz : zWork (nI 3) (X (c + 3)) = zCap (X (c + 3)) := rfl
    rw [hz]
    refine x_aload_n cx dX7_work_64 rfl rfl ?_
    refine x_iload_n cx dX7_work_65 rfl rfl ?_
    refine x_bipush (v := 8) cx dX7_work_66 (by decide) ?_
    refine x_aload_n cx dX7_work_68 rfl rfl ?_
    refine x_iload_n cx dX7_work_69 rfl rfl ?_
    refine x_Vi (C := RX7) (T := TX7) (N := 9) (rest := [_, _, _]) cx (c_X7_selectsCells l G _ _ c (by omega)) gV_X7_51 ndX7_selectsCells rfl ⟨Nat.le_of_ble_eq_true rfl, Nat.le_of_ble_eq_true rfl⟩ (zok_8 (by decide)) (by decide) (p_M) rfl rfl rfl (Nat.le_of_ble_eq_true rfl) dX7_work_70 ⟨Nat.le_of_ble_eq_true rfl, Nat.le_of_ble_eq_true rfl⟩ ?_
    refine x_if_eq (tgt := 85) cx dX7_work_73 (by decide) (fun hb73 => ?_) (fun hb73 => ?_)
    · refine x_aload_n cx dX7_work_85 rfl rfl ?_
      refine x_iload_n cx dX7_work_86 rfl rfl ?_
      refine x_Vi (C := RX7) (T := TX7) (N := 9) (rest := [_, _, _]) cx (c_X7_selectsIdentity l G _ _ c (by omega) hid) gV_X7_55 ndX7_selectsIdentity rfl ⟨Nat.le_of_ble_eq_true rfl, Nat.le_of_ble_eq_true rfl⟩ (zok_8 (by decide)) (by decide) (p_M) rfl rfl rfl (Nat.le_of_ble_eq_true rfl) dX7_work_87 ⟨Nat.le_of_ble_eq_true rfl, Nat.le_of_ble_eq_true rfl⟩ ?_
      refine x_if_eq (tgt := 102) cx dX7_work_90 (by decide) (fun hb90 => ?_) (fun hb90 => ?_)
      · refine x_iconst (v := 0) cx dX7_work_102 (by decide) ?_
        refine x_Vv (C := RX7) (T := TX7) (N := 9) (rest := []) cx (c_X7_lay l G _ _ c 8 (by omega) (by decide) _) gV_X7_58 ndX7_lay rfl ⟨Nat.le_of_ble_eq_true rfl, Nat.le_of_ble_eq_true rfl⟩ (zok_8 (by decide)) (by decide) (p_M) rfl rfl rfl (Nat.le_of_ble_eq_true rfl) dX7_work_103 ⟨Nat.le_of_ble_eq_true rfl, Nat.le_of_ble_eq_true rfl⟩ ?_
        refine x_goto (tgt := 170) cx dX7_work_106 (by decide) ?_
        exact x_vret cx hr (by simp only [zselC_0, zselI_0, Decidable.not_not] at hb73 hb90; unfold zCap zCapV; (repeat' split) <;> first | exact fun _ _ _ _ => rfl | contradiction) dX7_work_170
      · refine x_aload_n cx dX7_work_93 rfl rfl ?_
        refine x_iload_n cx dX7_work_94 rfl rfl ?_
        refine x_iconst (v := 1) cx dX7_work_95 (by decide) ?_
        refine x_Vi (C := RX7) (T := TX7) (N := 9) (rest := [_, _, _]) cx (c_X7_of l G _ _ c 1 (by omega) (by decide)) gV_X7_47 ndX7_of rfl ⟨Nat.le_of_ble_eq_true rfl, Nat.le_of_ble_eq_true rfl⟩ (zok_8 (by decide)) (by decide) (p_M) rfl rfl rfl (Nat.le_of_ble_eq_true rfl) dX7_work_96 ⟨Nat.le_of_ble_eq_true rfl, Nat.le_of_ble_eq_true rfl⟩ ?_
        refine x_goto (tgt := 103) cx dX7_work_99 (by decide) ?_
        refine x_Vv (C := RX7) (T := TX7) (N := 9) (rest := []) cx (c_X7_lay l G _ _ c 8 (by omega) (by decide) _) gV_X7_58 ndX7_lay rfl ⟨Nat.le_of_ble_eq_true rfl, Nat.le_of_ble_eq_true rfl⟩ (zok_8 (by decide)) (by decide) (p_M) rfl rfl rfl (Nat.le_of_ble_eq_true rfl) dX7_work_103 ⟨Nat.le_of_ble_eq_true rfl, Nat.le_of_ble_eq_true rfl⟩ ?_
        refine x_goto (tgt := 170) cx dX7_work_106 (by decide) ?_
        exact x_vret cx hr (by simp only [zselC_0, zselI_0, Decidable.not_not] at hb73 hb90; unfold zCap zCapV; (repeat' split) <;> first | exact fun _ _ _ _ => rfl | contradiction) dX7_work_170
    · refine x_aload_n cx dX7_work_76 rfl rfl ?_
      refine x_iload_n cx dX7_work_77 rfl rfl ?_
      refine x_iconst (v := 3) cx dX7_work_78 (by decide) ?_
      refine x_Vi (C := RX7) (T := TX7) (N := 9) (rest := [_, _, _]) cx (c_X7_of l G _ _ c 3 (by omega) (by decide)) gV_X7_47 ndX7_of rfl ⟨Nat.le_of_ble_eq_true rfl, Nat.le_of_ble_eq_true rfl⟩ (zok_8 (by decide)) (by decide) (p_M) rfl rfl rfl (Nat.le_of_ble_eq_true rfl) dX7_work_79 ⟨Nat.le_of_ble_eq_true rfl, Nat.le_of_ble_eq_true rfl⟩ ?_
      refine x_goto (tgt := 103) cx dX7_work_82 (by decide) ?_
      refine x_Vv (C := RX7) (T := TX7) (N := 9) (rest := []) cx (c_X7_lay l G _ _ c 8 (by omega) (by decide) _) gV_X7_58 ndX7_lay rfl ⟨Nat.le_of_ble_eq_true rfl, Nat.le_of_ble_eq_true rfl⟩ (zok_8 (by decide)) (by decide) (p_M) rfl rfl rfl (Nat.le_of_ble_eq_true rfl) dX7_work_103 ⟨Nat.le_of_ble_eq_true rfl, Nat.le_of_ble_eq_true rfl⟩ ?_
      refine x_goto (tgt := 170) cx dX7_work_106 (by decide) ?_
      exact x_vret cx hr (by simp only [zselC_0, zselI_0, Decidable.not_not] at hb73; unfold zCap zCapV; (repeat' split) <;> first | exact fun _ _ _ _ => rfl | contradiction) dX7_work_170
  · refine x_lookup (off := 164) (tgt := 170) cx dX7_work_6 (by decide +kernel) (by decide +kernel) (by decide) ?_
    rw [hs]
    have hz : zWork (nI 4) (X (c + 3)) = (X (c + 3)) := rfl
    rw [hz]
    exact x_vret cx hr (by intro _ _ _ _; rw [uj_self]) dX7_work_170
  · refine x_lookup (off := 164) (tgt := 170) cx dX7_work_6 (by decide +kernel) (by decide +kernel) (by decide) ?_
    rw [hs]
    have hz : zWork (nI 5) (X (c + 3)) = (X (c + 3)) := rfl
    rw [hz]
    exact x_vret cx hr (by intro _ _ _ _; rw [uj_self]) dX7_work_170
  · refine x_lookup (off := 164) (tgt := 170) cx dX7_work_6 (by decide +kernel) (by decide +kernel) (by decide) ?_
    rw [hs]
    have hz : zWork (nI 6) (X (c + 3)) = (X (c + 3)) := rfl
    rw [hz]
    exact x_vret cx hr (by intro _ _ _ _; rw [uj_self]) dX7_work_170
  · refine x_lookup (off := 164) (tgt := 170) cx dX7_work_6 (by decide +kernel) (by decide +kernel) (by decide) ?_
    rw [hs]
    have hz : zWork (nI 7) (X (c + 3)) = (X (c + 3)) := rfl
    rw [hz]
    exact x_vret cx hr (by intro _ _ _ _; rw [uj_self]) dX7_work_170
  · refine x_lookup (off := 114) (tgt := 120) cx dX7_work_6 (by decide +kernel) (by decide +kernel) (by decide) ?_
    rw [hs]
    have hz : zWork (nI 8) (X (c + 3)) = zUpd (X (c + 3)) := rfl
    rw [hz]
    refine x_aload_n cx dX7_work_120 rfl rfl ?_
    refine x_iload_n cx dX7_work_121 rfl rfl ?_
    refine x_iconst (v := 4) cx dX7_work_122 (by decide) ?_
    refine x_aload_n cx dX7_work_123 rfl rfl ?_
    refine x_iload_n cx dX7_work_124 rfl rfl ?_
    refine x_bipush (v := 6) cx dX7_work_125 (by decide) ?_
    refine x_Vi (C := RX7) (T := TX7) (N := 9) (rest := [_, _, _]) cx (c_X7_of l G _ _ c 6 (by omega) (by decide)) gV_X7_47 ndX7_of rfl ⟨Nat.le_of_ble_eq_true rfl, Nat.le_of_ble_eq_true rfl⟩ (zok_8 (by decide)) (by decide) (p_M) rfl rfl rfl (Nat.le_of_ble_eq_true rfl) dX7_work_127 ⟨Nat.le_of_ble_eq_true rfl, Nat.le_of_ble_eq_true rfl⟩ ?_
    refine x_if_ne (tgt := 143) cx dX7_work_130 (by decide) (fun hb130 => ?_) (fun hb130 => ?_)
    · refine x_aload_n cx dX7_work_143 rfl rfl ?_
      refine x_iload_n cx dX7_work_144 rfl rfl ?_
      refine x_iconst (v := 4) cx dX7_work_145 (by decide) ?_
      refine x_Vi (C := RX7) (T := TX7) (N := 9) (rest := [_, _, _]) cx (c_X7_of l G _ _ c 4 (by omega) (by decide)) gV_X7_47 ndX7_of rfl ⟨Nat.le_of_ble_eq_true rfl, Nat.le_of_ble_eq_true rfl⟩ (zok_8 (by decide)) (by decide) (p_M) rfl rfl rfl (Nat.le_of_ble_eq_true rfl) dX7_work_146 ⟨Nat.le_of_ble_eq_true rfl, Nat.le_of_ble_eq_true rfl⟩ ?_
      refine x_Vv (C := RX7) (T := TX7) (N := 9) (rest := []) cx (c_X7_lay l G _ _ c 4 (by omega) (by decide) _) gV_X7_58 ndX7_lay rfl ⟨Nat.le_of_ble_eq_true rfl, Nat.le_of_ble_eq_true rfl⟩ (zok_8 (by decide)) (by decide) (p_M) rfl rfl rfl (Nat.le_of_ble_eq_true rfl) dX7_work_149 ⟨Nat.le_of_ble_eq_true rfl, Nat.le_of_ble_eq_true rfl⟩ ?_
      refine x_goto (tgt := 170) cx dX7_work_152 (by decide) ?_
      exact x_vret cx hr (by intro _ _ _ _; unfold zUpd; rw [if_neg hb130, upd_self]) dX7_work_170
    · refine x_aload_n cx dX7_work_133 rfl rfl ?_
      refine x_iload_n cx dX7_work_134 rfl rfl ?_
      refine x_bipush (v := 8) cx dX7_work_135 (by decide) ?_
      refine x_Vi (C := RX7) (T := TX7) (N := 9) (rest := [_, _, _]) cx (c_X7_of l G _ _ c 8 (by omega) (by decide)) gV_X7_47 ndX7_of rfl ⟨Nat.le_of_ble_eq_true rfl, Nat.le_of_ble_eq_true rfl⟩ (zok_8 (by decide)) (by decide) (p_M) rfl rfl rfl (Nat.le_of_ble_eq_true rfl) dX7_work_137 ⟨Nat.le_of_ble_eq_true rfl, Nat.le_of_ble_eq_true rfl⟩ ?_
      refine x_goto (tgt := 149) cx dX7_work_140 (by decide) ?_
      refine x_Vv (C := RX7) (T := TX7) (N := 9) (rest := []) cx (c_X7_lay l G _ _ c 4 (by omega) (by decide) _) gV_X7_58 ndX7_lay rfl ⟨Nat.le_of_ble_eq_true rfl, Nat.le_of_ble_eq_true rfl⟩ (zok_8 (by decide)) (by decide) (p_M) rfl rfl rfl (Nat.le_of_ble_eq_true rfl) dX7_work_149 ⟨Nat.le_of_ble_eq_true rfl, Nat.le_of_ble_eq_true rfl⟩ ?_
      refine x_goto (tgt := 170) cx dX7_work_152 (by decide) ?_
      exact x_vret cx hr (by intro _ _ _ _; unfold zUpd; rw [if_pos hb130]) dX7_work_170
  · refine x_lookup (off := 164) (tgt := 170) cx dX7_work_6 (by decide +kernel) (by decide +kernel) (by decide) ?_
    rw [hs]
    have hz : zWork (nI 9) (X (c + 3)) = (X (c + 3)) := rfl
    rw [hz]
    exact x_vret cx hr (by intro _ _ _ _; rw [uj_self]) dX7_work_170
  · refine x_lookup (off := 103) (tgt := 109) cx dX7_work_6 (by decide +kernel) (by decide +kernel) (by decide) ?_
    rw [hs]
    have hz : zWork (nI 10) (X (c + 3)) = upd (X (c + 3)) 7 1 := rfl
    rw [hz]
    refine x_aload_n cx dX7_work_109 rfl rfl ?_
    refine x_iload_n cx dX7_work_110 rfl rfl ?_
    refine x_bipush (v := 7) cx dX7_work_111 (by decide) ?_
    refine x_iconst (v := 1) cx dX7_work_113 (by decide) ?_
    refine x_Vv (C := RX7) (T := TX7) (N := 9) (rest := []) cx (c_X7_lay l G _ _ c 7 (by omega) (by decide) _) gV_X7_58 ndX7_lay rfl ⟨Nat.le_of_ble_eq_true rfl, Nat.le_of_ble_eq_true rfl⟩ (zok_8 (by decide)) (by decide) (p_M) rfl rfl rfl (Nat.le_of_ble_eq_true rfl) dX7_work_114 ⟨Nat.le_of_ble_eq_true rfl, Nat.le_of_ble_eq_true rfl⟩ ?_
    refine x_goto (tgt := 170) cx dX7_work_117 (by decide) ?_
    exact x_vret cx hr (fun _ _ _ _ => rfl) dX7_work_170
  · refine x_lookup (off := 164) (tgt := 170) cx dX7_work_6 (by decide +kernel) (by decide +kernel) (by decide) ?_
    rw [hs]
    have hz : zWork (nI 11) (X (c + 3)) = (X (c + 3)) := rfl
    rw [hz]
    exact x_vret cx hr (by intro _ _ _ _; rw [uj_self]) dX7_work_170
  · refine x_lookup (off := 164) (tgt := 170) cx dX7_work_6 (by decide +kernel) (by decide +kernel) (by decide) ?_
    rw [hs]
    have hz : zWork (nI 12) (X (c + 3)) = (X (c + 3)) := rfl
    rw [hz]
    exact x_vret cx hr (by intro _ _ _ _; rw [uj_self]) dX7_work_170
  · refine x_lookup (off := 164) (tgt := 170) cx dX7_work_6 (by decide +kernel) (by decide +kernel) (by decide) ?_
    rw [hs]
    have hz : zWork (nI 13) (X (c + 3)) = (X (c + 3)) := rfl
    rw [hz]
    exact x_vret cx hr (by intro _ _ _ _; rw [uj_self]) dX7_work_170
  · refine x_lookup (off := 164) (tgt := 170) cx dX7_work_6 (by decide +kernel) (by decide +kernel) (by decide) ?_
    rw [hs]
    have hz : zWork (nI 14) (X (c + 3)) = (X (c + 3)) := rfl
    rw [hz]
    exact x_vret cx hr (by intro _ _ _ _; rw [uj_self]) dX7_work_170
  · refine x_lookup (off := 149) (tgt := 155) cx dX7_work_6 (by decide +kernel) (by decide +kernel) (by decide) ?_
    rw [hs]
    have hz : zWork (nI 15) (X (c + 3)) = zGive (X (c + 3)) ((X (c + 3)) 7) := rfl
    rw [hz]
    refine x_aload_n cx dX7_work_155 rfl rfl ?_
    refine x_iload_n cx dX7_work_156 rfl rfl ?_
    refine x_aload_n cx dX7_work_157 rfl rfl ?_
    refine x_iload_n cx dX7_work_158 rfl rfl ?_
    refine x_bipush (v := 7) cx dX7_work_159 (by decide) ?_
    refine x_Vi (C := RX7) (T := TX7) (N := 9) (rest := [_, _]) cx (c_X7_of l G _ _ c 7 (by omega) (by decide)) gV_X7_47 ndX7_of rfl ⟨Nat.le_of_ble_eq_true rfl, Nat.le_of_ble_eq_true rfl⟩ (zok_8 (by decide)) (by decide) (p_M) rfl rfl rfl (Nat.le_of_ble_eq_true rfl) dX7_work_161 ⟨Nat.le_of_ble_eq_true rfl, Nat.le_of_ble_eq_true rfl⟩ ?_
    refine x_Vv (C := RX7) (T := TX7) (N := 9) (rest := []) cx (c_X7_give l G _ _ c (by omega) _) gV_X7_66 ndX7_give rfl ⟨Nat.le_of_ble_eq_true rfl, Nat.le_of_ble_eq_true rfl⟩ (zok_8 (by decide)) (by decide) (p_M) rfl rfl rfl (Nat.le_of_ble_eq_true rfl) dX7_work_164 ⟨Nat.le_of_ble_eq_true rfl, Nat.le_of_ble_eq_true rfl⟩ ?_
    refine x_goto (tgt := 170) cx dX7_work_167 (by decide) ?_
    exact x_vret cx hr (fun _ _ _ _ => rfl) dX7_work_170

set_option maxHeartbeats 4000000 in
set_option maxRecDepth 100000 in
theorem c_X7_clockNow (l : Launch) (G : zG) (S : zS) (X : zCV) (hW : zWF X) (md x : Int32) : Met l yX7_clockNow (zws yX7_clockNow cX7_clockNow 5 (some .int)) (zrm 4 0 0 89) (zPc G 75 (pic G (up S 8 X)) [.ref (zad G 8 0), .int md, .int x]) (zQi G 75 (zOut X x) (pic G (up S 8 (zTick X md x)))) 0 0 (zA G) := by
  refine zMet npX7_clockNow rfl (Nat.le_of_ble_eq_true rfl) ?_
  intro p e s m args below meth cd hargs cx hr hin0
  have cx : Cx p s m args meth cd cX7_clockNow 5 RX7 G := cx
  refine x_ls (ls' := [some (.ref (zad G 8 0)), some (.int md), some (.int x), none, none]) rfl (fun _ h => h) ?_
  have h6 := hW.n6
  have K : ∀ Y : zCV, zWF Y → Y 0 = X 0 → zMap (fun _ c => zWork (X 0 1) c) (num X) Y = zWorkAll X x → Xh p l e (zrm 4 0 0 89) s m args below meth cd 5 G (MQ below (zQi G 75 (zOut X x) (pic G (up S 8 (zTick X md x)))) args s 0 0 (zA G)) 0 0 75 (pic G (up S 8 Y)) 18 [some (.ref (zad G 8 0)), some (.int md), some (.int x), some (.int (zOut X x)), none] [] := by
    intro Y hY hY0 hYw
    refine x_iconst (v := 0) cx dX7_clockNow_18 (by decide) ?_
    refine x_istore (ls' := [_, _, _, _, _]) cx dX7_clockNow_19 (by decide) rfl ?_
    have hnY : num Y = num X := by unfold num; rw [hY0]
    suffices K : ∀ f k : Nat, k + f = num X → Xh p l e _ s m args below meth cd 5 G _ 0 0 75 (pic G (up S 8 (zMap (fun _ c => zWork (X 0 1) c) k Y))) 21 [some (.ref (zad G 8 0)), some (.int md), some (.int x), some (.int (zOut X x)), some (.int (nI k))] [] from x_up (zMap_z (fun _ c => zWork (X 0 1) c) Y).symm (K (num X) 0 (by omega))
    intro f
    induction f with
    | zero =>
      intro k hk
      obtain rfl : k = num X := by omega
      rw [hYw]
      refine x_iload cx dX7_clockNow_21 rfl ?_
      refine x_aload_n cx dX7_clockNow_23 rfl rfl ?_
      refine x_getX7 cx 0 (by decide) (fl_X7_7 cx) (zok_8 (by decide)) (by decide) (p_M) rfl dX7_clockNow_24 ?_
      refine x_iconst (v := 0) cx dX7_clockNow_27 (by decide) ?_
      refine x_iald (t := 0) cx (zok_8 (by decide)) (by decide) (p_z) rfl (by decide) (by decide) (trz (by decide)) dX7_clockNow_28 ?_
      refine x_eqi (show _ = nI (num X) by rw [zWorkAll_0]; exact hW.sz) ?_
      refine x_icmp_ge_t (tgt := 44) cx dX7_clockNow_29 (by decide) (nI_le (Nat.le_refl _) (by omega)) ?_
      refine x_aload_n cx dX7_clockNow_44 rfl rfl ?_
      refine x_getX7 cx 0 (by decide) (fl_X7_7 cx) (zok_8 (by decide)) (by decide) (p_M) rfl dX7_clockNow_45 ?_
      refine x_iconst (v := 1) cx dX7_clockNow_48 (by decide) ?_
      refine x_aload_n cx dX7_clockNow_49 rfl rfl ?_
      refine x_getX7 cx 0 (by decide) (fl_X7_7 cx) (zok_8 (by decide)) (by decide) (p_M) rfl dX7_clockNow_50 ?_
      refine x_iconst (v := 1) cx dX7_clockNow_53 (by decide) ?_
      refine x_iald (t := 1) cx (zok_8 (by decide)) (by decide) (p_z) rfl (by decide) (by decide) (trz (by decide)) dX7_clockNow_54 ?_
      refine x_eqi (show _ = nI (stt X) by rw [zWorkAll_0]; exact hW.s1) ?_
      refine x_iload_n cx dX7_clockNow_55 rfl rfl ?_
      refine x_Si (rest := [_, _]) cx (c_X7_next l G _ _ (stt X) hW.s16 _) gS_X7_103 ndX7_next ⟨Nat.le_of_ble_eq_true rfl, Nat.le_of_ble_eq_true rfl⟩ rfl rfl (Nat.le_of_ble_eq_true rfl) dX7_clockNow_56 ⟨Nat.le_of_ble_eq_true rfl, Nat.le_of_ble_eq_true rfl⟩ ?_
      refine x_iast (t := 1) cx (zok_8 (by decide)) (by decide) (p_z) rfl (by decide) (by decide) (pp_z0 (by decide)) dX7_clockNow_59 ?_
      refine x_aload_n cx dX7_clockNow_60 rfl rfl ?_
      refine x_getX7 cx 0 (by decide) (fl_X7_7 cx) (zok_8 (by decide)) (by decide) (p_M) rfl dX7_clockNow_61 ?_
      refine x_iconst (v := 2) cx dX7_clockNow_64 (by decide) ?_
      refine x_dup2 cx dX7_clockNow_65 rfl rfl ?_
      refine x_iald (t := 2) cx (zok_8 (by decide)) (by decide) (p_z) rfl (by decide) (by decide) (trz (by decide)) dX7_clockNow_66 ?_
      refine x_iconst (v := 1) cx dX7_clockNow_67 (by decide) ?_
      refine x_iadd cx dX7_clockNow_68 ?_
      refine x_iast (t := 2) cx (zok_8 (by decide)) (by decide) (p_z) rfl (by decide) (by decide) (pp_z0 (by decide)) dX7_clockNow_69 ?_
      refine x_iload_n cx dX7_clockNow_70 rfl rfl ?_
      exact x_iret cx hr rfl (by intro _ _ _ _; unfold zTick; rw [uj_same, uj_uj, zWorkAll_0]; rfl) dX7_clockNow_71
    | succ f ih =>
      intro k hk
      refine x_iload cx dX7_clockNow_21 rfl ?_
      refine x_aload_n cx dX7_clockNow_23 rfl rfl ?_
      refine x_getX7 cx 0 (by decide) (fl_X7_7 cx) (zok_8 (by decide)) (by decide) (p_M) rfl dX7_clockNow_24 ?_
      refine x_iconst (v := 0) cx dX7_clockNow_27 (by decide) ?_
      refine x_iald (t := 0) cx (zok_8 (by decide)) (by decide) (p_z) rfl (by decide) (by decide) (trz (by decide)) dX7_clockNow_28 ?_
      refine x_eqi (show _ = nI (num X) by rw [zMap_num, hY0]; exact hW.sz) ?_
      refine x_icmp_ge_f (tgt := 44) cx dX7_clockNow_29 (by decide) (nI_ge (by omega) (by omega)) ?_
      refine x_aload_n cx dX7_clockNow_32 rfl rfl ?_
      refine x_iload cx dX7_clockNow_33 rfl ?_
      refine x_Vv (C := RX7) (T := TX7) (N := 9) (rest := []) cx (c_X7_work l G _ _ k (by omega) (zMap_WF hY (fun _ _ => cWF_work _)) ((zMap_WF hY (fun _ _ => cWF_work _)).chip (by rw [show num (zMap (fun _ c => zWork (X 0 1) c) k Y) = num X by unfold num; rw [zMap_num, hY0]]; omega)).2.2.2) gV_X7_100 ndX7_work rfl ⟨Nat.le_of_ble_eq_true rfl, Nat.le_of_ble_eq_true rfl⟩ (zok_8 (by decide)) (by decide) (p_M) rfl rfl rfl (Nat.le_of_ble_eq_true rfl) dX7_clockNow_35 ⟨Nat.le_of_ble_eq_true rfl, Nat.le_of_ble_eq_true rfl⟩ ?_
      refine x_iinc (v := nI (k + 1)) (ls' := [_, _, _, _, _]) cx dX7_clockNow_38 rfl (nI_inc _) (by decide) rfl ?_
      refine x_goto (tgt := 21) cx dX7_clockNow_41 (by decide) ?_
      refine x_up (X' := zMap (fun _ c => zWork (X 0 1) c) (k + 1) Y) (by rw [zMap_s, zMap_out (Nat.le_refl _), zMap_num, hY0]) ?_
      exact ih (k + 1) (by omega)
  refine x_aload_n cx dX7_clockNow_0 rfl rfl ?_
  refine x_iload_n cx dX7_clockNow_1 rfl rfl ?_
  refine x_Vi (C := RX7) (T := TX7) (N := 9) (rest := []) cx (c_X7_output l G _ _ hW _) gV_X7_94 ndX7_output rfl ⟨Nat.le_of_ble_eq_true rfl, Nat.le_of_ble_eq_true rfl⟩ (zok_8 (by decide)) (by decide) (p_M) rfl rfl rfl (Nat.le_of_ble_eq_true rfl) dX7_clockNow_2 ⟨Nat.le_of_ble_eq_true rfl, Nat.le_of_ble_eq_true rfl⟩ ?_
  refine x_istore_n (ls' := [_, _, _, _, _]) cx dX7_clockNow_5 rfl (by decide) rfl ?_
  refine x_aload_n cx dX7_clockNow_6 rfl rfl ?_
  refine x_Vi (C := RX7) (T := TX7) (N := 9) (rest := []) cx (c_X7_isShifting l G _ _) gV_X7_84 ndX7_isShifting rfl ⟨Nat.le_of_ble_eq_true rfl, Nat.le_of_ble_eq_true rfl⟩ (zok_8 (by decide)) (by decide) (p_M) rfl rfl rfl (Nat.le_of_ble_eq_true rfl) dX7_clockNow_7 ⟨Nat.le_of_ble_eq_true rfl, Nat.le_of_ble_eq_true rfl⟩ ?_
  refine x_if_eq (tgt := 18) cx dX7_clockNow_10 (by decide) (fun hb10 => ?_) (fun hb10 => ?_)
  · exact K X hW rfl (zWA_N hb10)
  · refine x_aload_n cx dX7_clockNow_13 rfl rfl ?_
    refine x_iload_n cx dX7_clockNow_14 rfl rfl ?_
    refine x_Vv (C := RX7) (T := TX7) (N := 9) (rest := []) cx (c_X7_shift l G _ _ hW _) gV_X7_97 ndX7_shift rfl ⟨Nat.le_of_ble_eq_true rfl, Nat.le_of_ble_eq_true rfl⟩ (zok_8 (by decide)) (by decide) (p_M) rfl rfl rfl (Nat.le_of_ble_eq_true rfl) dX7_clockNow_15 ⟨Nat.le_of_ble_eq_true rfl, Nat.le_of_ble_eq_true rfl⟩ ?_
    exact K (zSft X x) (zSft_WF hW) (zSft_0 X x) (zWA_S hb10)

