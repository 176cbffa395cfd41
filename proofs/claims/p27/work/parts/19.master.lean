set_option maxHeartbeats 4000000 in
set_option maxRecDepth 100000 in
theorem c_X3_dropOldest (l : Launch) (G : zG) (S : zS) (hH : hWF S) : Met l yX3_dropOldest (zws yX3_dropOldest cX3_dropOldest 3 none) (zrm 0 0 0 0) (zPc G 68 (pic G S) [.ref (zad G 7 1)]) (zQv G 68 (pic G (zDrop S))) 0 0 (zA G) := by
  refine zMet npX3_dropOldest rfl (Nat.le_of_ble_eq_true rfl) ?_
  intro p e s m args below meth cd hargs cx hr hin0
  have cx : Cx p s m args meth cd cX3_dropOldest 3 RX3 G := cx
  refine x_ls (ls' := [some (.ref (zad G 7 1)), none, none]) rfl (fun _ h => h) ?_
  have hr0 : rc S 0 < 7 := by have := (hH.2.1 0 (by decide)).2.2; omega
  refine x_aload_n cx dX3_dropOldest_0 rfl rfl ?_
  refine x_getX3 cx 0 (by decide) (fl_X3_11 cx) (zok_7 (by decide)) (by decide) (p_hist) rfl dX3_dropOldest_1 ?_
  refine x_iconst (v := 0) cx dX3_dropOldest_4 (by decide) ?_
  refine x_aald (t := 0) (a := zad G (rc S 0) 0) cx 3 rfl (zok_7 (by decide)) (by decide) (p_recs) rfl (by omega) (by decide) rfl dX3_dropOldest_5 ?_
  refine x_astore_n (ls' := [_, _, _]) cx dX3_dropOldest_6 rfl (by decide) rfl ?_
  refine x_iconst (v := 1) cx dX3_dropOldest_7 (by decide) ?_
  refine x_istore_n (ls' := [_, _, _]) cx dX3_dropOldest_8 rfl (by decide) rfl ?_
  suffices K : ∀ f k : Nat, k + f = 3 → Xh p l e _ s m args below meth cd 3 G _ 0 0 68 (pic G (up S 7 (uj (S 7) 1 (rotL (S 7 1) k)))) 9 [some (.ref (zad G 7 1)), some (.ref (zad G (rc S 0) 0)), some (.int (nI (k + 1)))] [] from x_S (by rw [rotL_z, uj_self, up_self]) (K 3 0 rfl)
  intro f
  induction f with
  | zero =>
    intro k hk
    obtain rfl : k = 3 := by omega
    refine x_iload_n cx dX3_dropOldest_9 rfl rfl ?_
    refine x_aload_n cx dX3_dropOldest_10 rfl rfl ?_
    refine x_getX3 cx 0 (by decide) (fl_X3_11 cx) (zok_7 (by decide)) (by decide) (p_hist) rfl dX3_dropOldest_11 ?_
    refine x_alenq cx 3 rfl (zok_7 (by decide)) (by decide) (p_recs) dX3_dropOldest_14 ?_
    refine x_icmp_ge_t (tgt := 38) cx dX3_dropOldest_15 (by decide) (by decide) ?_
    refine x_aload_n cx dX3_dropOldest_38 rfl rfl ?_
    refine x_getX3 cx 0 (by decide) (fl_X3_11 cx) (zok_7 (by decide)) (by decide) (p_hist) rfl dX3_dropOldest_39 ?_
    refine x_aload_n cx dX3_dropOldest_42 rfl rfl ?_
    refine x_getX3 cx 0 (by decide) (fl_X3_11 cx) (zok_7 (by decide)) (by decide) (p_hist) rfl dX3_dropOldest_43 ?_
    refine x_alenq cx 3 rfl (zok_7 (by decide)) (by decide) (p_recs) dX3_dropOldest_46 ?_
    refine x_iconst (v := 1) cx dX3_dropOldest_47 (by decide) ?_
    refine x_isub cx dX3_dropOldest_48 ?_
    refine x_aload_n cx dX3_dropOldest_49 rfl rfl ?_
    refine x_aast (t := 3) (i2 := (rc S 0)) (j2 := 0) cx 3 rfl (zok_7 (by decide)) (by decide) (p_recs) (zok_c hr0 (by decide)) (zix_c hr0 (by decide)) (pcOg hr0) rfl (by decide) (by decide) (by decide) (pp_recs (by decide) hr0) dX3_dropOldest_50 ?_
    refine x_S (S' := up S 7 (uj (S 7) 1 (upd (rotL (S 7 1) 3) 3 (S 7 1 0)))) (by rw [up_same, up_up, uj_same, uj_uj, ← (hH.2.1 0 (by decide)).1]) ?_
    refine x_aload_n cx dX3_dropOldest_51 rfl rfl ?_
    refine x_aload_n cx dX3_dropOldest_52 rfl rfl ?_
    refine x_getX3 cx 0 (by decide) (fl_X3_11 cx) (zok_7 (by decide)) (by decide) (p_hist) rfl dX3_dropOldest_53 ?_
    refine x_alenq cx 3 rfl (zok_7 (by decide)) (by decide) (p_recs) dX3_dropOldest_56 ?_
    refine x_iconst (v := 1) cx dX3_dropOldest_57 (by decide) ?_
    refine x_isub cx dX3_dropOldest_58 ?_
    refine x_eqi (show nI 4 - 1 = 3 by decide) ?_
    refine x_putX3 cx 1 (by decide) (fl_X3_18 cx) (zok_7 (by decide)) (by decide) (p_hist) rfl rfl rfl (Nat.le_of_ble_eq_true rfl) (pp_hist_size) dX3_dropOldest_59 ?_
    exact x_vret cx hr (by intro _ _ _ _; unfold zDrop; rw [up_same, up_up, uj_ne _ _ (by decide)]) dX3_dropOldest_62
  | succ f ih =>
    intro k hk
    have hr1 : rc S (k + 1) < 7 := by have := (hH.2.1 (k + 1) (by omega)).2.2; omega
    refine x_iload_n cx dX3_dropOldest_9 rfl rfl ?_
    refine x_aload_n cx dX3_dropOldest_10 rfl rfl ?_
    refine x_getX3 cx 0 (by decide) (fl_X3_11 cx) (zok_7 (by decide)) (by decide) (p_hist) rfl dX3_dropOldest_11 ?_
    refine x_alenq cx 3 rfl (zok_7 (by decide)) (by decide) (p_recs) dX3_dropOldest_14 ?_
    refine x_icmp_ge_f (tgt := 38) cx dX3_dropOldest_15 (by decide) (nI_ge (b := 4) (by omega) (by decide)) ?_
    refine x_aload_n cx dX3_dropOldest_18 rfl rfl ?_
    refine x_getX3 cx 0 (by decide) (fl_X3_11 cx) (zok_7 (by decide)) (by decide) (p_hist) rfl dX3_dropOldest_19 ?_
    refine x_iload_n cx dX3_dropOldest_22 rfl rfl ?_
    refine x_iconst (v := 1) cx dX3_dropOldest_23 (by decide) ?_
    refine x_isub cx dX3_dropOldest_24 ?_
    refine x_aload_n cx dX3_dropOldest_25 rfl rfl ?_
    refine x_getX3 cx 0 (by decide) (fl_X3_11 cx) (zok_7 (by decide)) (by decide) (p_hist) rfl dX3_dropOldest_26 ?_
    refine x_iload_n cx dX3_dropOldest_29 rfl rfl ?_
    refine x_aald (t := (k + 1)) (a := zad G (rc S (k + 1)) 0) cx 3 rfl (zok_7 (by decide)) (by decide) (p_recs) rfl (by omega) (by decide) (by show (if k + 1 < 4 then some (zad G (rc (up S 7 _) (k + 1)) 0) else none) = _; rw [if_pos (by omega), rc_rot (by omega)]) dX3_dropOldest_30 ?_
    refine x_aast (t := k) (i2 := (rc S (k + 1))) (j2 := 0) cx 3 rfl (zok_7 (by decide)) (by decide) (p_recs) (zok_c hr1 (by decide)) (zix_c hr1 (by decide)) (pcOg hr1) rfl (nI_pred k) (by omega) (by decide) (pp_recs (by omega) hr1) dX3_dropOldest_31 ?_
    refine x_S (rot_put hH (by omega)) ?_
    refine x_iinc (v := nI ((k + 1) + 1)) (ls' := [_, _, _]) cx dX3_dropOldest_32 rfl (nI_inc _) (by decide) rfl ?_
    refine x_goto (tgt := 9) cx dX3_dropOldest_35 (by decide) ?_
    exact ih (k + 1) (by omega)

set_option maxHeartbeats 4000000 in
set_option maxRecDepth 100000 in
theorem c_X3_record (l : Launch) (G : zG) (S : zS) (hH : hWF S) (hW : zWF (S 0)) : Met l yX3_record (zws yX3_record cX3_record 2 none) (zrm 2 0 0 43) (zPc G 68 (pic G S) [.ref (zad G 7 1), .ref (zad G 0 0)]) (zQv G 68 (pic G (zRec S))) 0 0 (zA G) := by
  refine zMet npX3_record rfl (Nat.le_of_ble_eq_true rfl) ?_
  intro p e s m args below meth cd hargs cx hr hin0
  have cx : Cx p s m args meth cd cX3_record 2 RX3 G := cx
  refine x_ls (ls' := [some (.ref (zad G 7 1)), some (.ref (zad G 0 0))]) rfl (fun _ h => h) ?_
  have K : ∀ S1 : zS, hWF S1 → hsz S1 < 4 → zWF (S1 0) → zRec1 S1 = zRec S → Xh p l e (zrm 2 0 0 43) s m args below meth cd 2 G (MQ below (zQv G 68 (pic G (zRec S))) args s 0 0 (zA G)) 0 0 68 (pic G S1) 16 [some (.ref (zad G 7 1)), some (.ref (zad G 0 0))] [] := by
    intro S1 hH1 hlt hW1 hz
    have hrr := hH1.2.1 (hsz S1) hlt
    have hr7 : rc S1 (hsz S1) < 7 := by omega
    refine x_aload_n cx dX3_record_16 rfl rfl ?_
    refine x_getX3 cx 0 (by decide) (fl_X3_11 cx) (zok_7 (by decide)) (by decide) (p_hist) rfl dX3_record_17 ?_
    refine x_aload_n cx dX3_record_20 rfl rfl ?_
    refine x_getX3 cx 1 (by decide) (fl_X3_18 cx) (zok_7 (by decide)) (by decide) (p_hist) rfl dX3_record_21 ?_
    refine x_aald (t := (hsz S1)) (a := zad G (rc S1 (hsz S1)) 0) cx 3 rfl (zok_7 (by decide)) (by decide) (p_recs) hH1.1.1 hlt (by decide) (if_pos hlt) dX3_record_24 ?_
    refine x_aload_n cx dX3_record_25 rfl rfl ?_
    refine x_Vv (C := RX0) (T := TX0) (N := 6) (rest := []) cx (c_X0_becomeCopyOf l G _ (rc S1 (hsz S1)) 0 hr7 (by decide) (by omega) hW1) gV_X3_25 ndX0_becomeCopyOf rfl ⟨Nat.le_of_ble_eq_true rfl, Nat.le_of_ble_eq_true rfl⟩ (zok_c hr7 (by decide)) (zix_c hr7 (by decide)) (pcOg hr7) rfl rfl rfl (Nat.le_of_ble_eq_true rfl) dX3_record_26 ⟨Nat.le_of_ble_eq_true rfl, Nat.le_of_ble_eq_true rfl⟩ ?_
    refine x_aload_n cx dX3_record_29 rfl rfl ?_
    refine x_dup cx dX3_record_30 rfl ?_
    refine x_getX3 cx 1 (by decide) (fl_X3_18 cx) (zok_7 (by decide)) (by decide) (p_hist) rfl dX3_record_31 ?_
    refine x_eqi (show _ = S1 7 0 0 by rw [up_ne _ _ (by omega)]) ?_
    refine x_iconst (v := 1) cx dX3_record_34 (by decide) ?_
    refine x_iadd cx dX3_record_35 ?_
    refine x_putX3 cx 1 (by decide) (fl_X3_18 cx) (zok_7 (by decide)) (by decide) (p_hist) rfl rfl rfl (Nat.le_of_ble_eq_true rfl) (pp_hist_size) dX3_record_36 ?_
    exact x_vret cx hr (by intro _ _ _ _; rw [← hz]; unfold zRec1; rw [up_ne _ _ (by omega)]) dX3_record_39
  have h4 := hH.1.2
  refine x_aload_n cx dX3_record_0 rfl rfl ?_
  refine x_getX3 cx 1 (by decide) (fl_X3_18 cx) (zok_7 (by decide)) (by decide) (p_hist) rfl dX3_record_1 ?_
  refine x_eqi hH.1.1 ?_
  refine x_aload_n cx dX3_record_4 rfl rfl ?_
  refine x_getX3 cx 0 (by decide) (fl_X3_11 cx) (zok_7 (by decide)) (by decide) (p_hist) rfl dX3_record_5 ?_
  refine x_alenq cx 3 rfl (zok_7 (by decide)) (by decide) (p_recs) dX3_record_8 ?_
  refine x_icmp_lt (tgt := 16) cx dX3_record_9 (by decide) (fun hb9 => ?_) (fun hb9 => ?_)
  · exact K S hH ((nI_ltI (b := 4) (by omega) (by decide)).mp hb9) hW (by unfold zRec zRec0; rw [if_pos ((nI_ltI (b := 4) (by omega) (by decide)).mp hb9)])
  · refine x_aload_n cx dX3_record_12 rfl rfl ?_
    refine x_Vv (C := RX3) (T := TX3) (N := 2) (rest := []) cx (c_X3_dropOldest l G _ hH) gV_X3_22 ndX3_dropOldest rfl ⟨Nat.le_of_ble_eq_true rfl, Nat.le_of_ble_eq_true rfl⟩ (zok_7 (by decide)) (by decide) (p_hist) rfl rfl rfl (Nat.le_of_ble_eq_true rfl) dX3_record_13 ⟨Nat.le_of_ble_eq_true rfl, Nat.le_of_ble_eq_true rfl⟩ ?_
    exact K (zDrop S) (hWF_drop hH).1 (by rw [(hWF_drop hH).2]; decide) (by rw [zDrop_ne (by decide)]; exact hW) (by unfold zRec zRec0; rw [if_neg (fun z => hb9 ((nI_ltI (b := 4) (by omega) (by decide)).mpr z))])

set_option maxHeartbeats 4000000 in
set_option maxRecDepth 100000 in
theorem c_X3_takeBack (l : Launch) (G : zG) (S : zS) (hH : hWF S) (hWr : ∀ k, k < hsz S → zWF (S (rc S k))) : Met l yX3_takeBack (zws yX3_takeBack cX3_takeBack 2 (some .int)) (zrm 2 0 0 43) (zPc G 68 (pic G S) [.ref (zad G 7 1), .ref (zad G 0 0)]) (zQi G 68 (if hsz S = 0 then -4 else nI (hsz S - 1)) (pic G (if hsz S = 0 then S else zBack S))) 0 0 (zA G) := by
  refine zMet npX3_takeBack rfl (Nat.le_of_ble_eq_true rfl) ?_
  intro p e s m args below meth cd hargs cx hr hin0
  have cx : Cx p s m args meth cd cX3_takeBack 2 RX3 G := cx
  refine x_ls (ls' := [some (.ref (zad G 7 1)), some (.ref (zad G 0 0))]) rfl (fun _ h => h) ?_
  have h4 := hH.1.2
  have hz : 0 < S 7 0 0 ↔ 0 < hsz S := by rw [hH.1.1]; exact nI_ltI (a := 0) (by decide) (by omega)
  refine x_aload_n cx dX3_takeBack_0 rfl rfl ?_
  refine x_getX3 cx 1 (by decide) (fl_X3_18 cx) (zok_7 (by decide)) (by decide) (p_hist) rfl dX3_takeBack_1 ?_
  refine x_if_gt (tgt := 10) cx dX3_takeBack_4 (by decide) (fun hb4 => ?_) (fun hb4 => ?_)
  · have h0 : 0 < hsz S := hz.mp hb4
    have hrr := hH.2.1 (hsz S - 1) (by omega)
    have hr7 : rc S (hsz S - 1) < 7 := by omega
    have hv : S 7 0 0 - 1 = nI (hsz S - 1) := by rw [hH.1.1]; exact nI_sub1 h0
    refine x_aload_n cx dX3_takeBack_10 rfl rfl ?_
    refine x_dup cx dX3_takeBack_11 rfl ?_
    refine x_getX3 cx 1 (by decide) (fl_X3_18 cx) (zok_7 (by decide)) (by decide) (p_hist) rfl dX3_takeBack_12 ?_
    refine x_iconst (v := 1) cx dX3_takeBack_15 (by decide) ?_
    refine x_isub cx dX3_takeBack_16 ?_
    refine x_eqi hv ?_
    refine x_putX3 cx 1 (by decide) (fl_X3_18 cx) (zok_7 (by decide)) (by decide) (p_hist) rfl rfl rfl (Nat.le_of_ble_eq_true rfl) (pp_hist_size) dX3_takeBack_17 ?_
    refine x_aload_n cx dX3_takeBack_20 rfl rfl ?_
    refine x_aload_n cx dX3_takeBack_21 rfl rfl ?_
    refine x_getX3 cx 0 (by decide) (fl_X3_11 cx) (zok_7 (by decide)) (by decide) (p_hist) rfl dX3_takeBack_22 ?_
    refine x_aload_n cx dX3_takeBack_25 rfl rfl ?_
    refine x_getX3 cx 1 (by decide) (fl_X3_18 cx) (zok_7 (by decide)) (by decide) (p_hist) rfl dX3_takeBack_26 ?_
    refine x_eqi (show _ = nI (hsz S - 1) from rfl) ?_
    refine x_aald (t := (hsz S - 1)) (a := zad G (rc S (hsz S - 1)) 0) cx 3 rfl (zok_7 (by decide)) (by decide) (p_recs) rfl (by omega) (by decide) (if_pos (by omega)) dX3_takeBack_29 ?_
    refine x_Vv (C := RX0) (T := TX0) (N := 6) (rest := []) cx (c_X0_becomeCopyOf l G _ 0 (rc S (hsz S - 1)) (by decide) hr7 (by omega) (by rw [up_ne _ _ (by omega)]; exact hWr (hsz S - 1) (by omega))) gV_X3_25 ndX0_becomeCopyOf rfl ⟨Nat.le_of_ble_eq_true rfl, Nat.le_of_ble_eq_true rfl⟩ (zok_c (show 0 < 7 by decide) (by decide)) (zix_c (show 0 < 7 by decide) (by decide)) (pcOg (show 0 < 7 by decide)) rfl rfl rfl (Nat.le_of_ble_eq_true rfl) dX3_takeBack_30 ⟨Nat.le_of_ble_eq_true rfl, Nat.le_of_ble_eq_true rfl⟩ ?_
    refine x_aload_n cx dX3_takeBack_33 rfl rfl ?_
    refine x_getX3 cx 1 (by decide) (fl_X3_18 cx) (zok_7 (by decide)) (by decide) (p_hist) rfl dX3_takeBack_34 ?_
    refine x_eqi (show _ = nI (hsz S - 1) by rw [up_ne _ _ (by decide), up_same, uj_same, upd_same]) ?_
    exact x_iret cx hr (by rw [if_neg (by omega)]) (by intro _ _ _ _; rw [if_neg (by omega)]; unfold zBack; rw [hv, up_ne _ _ (show (0 : Nat) ≠ 7 by decide), up_ne _ _ (show rc S (hsz S - 1) ≠ 7 by omega)]) dX3_takeBack_37
  · refine x_bipush (v := (-4)) cx dX3_takeBack_7 (by decide) ?_
    exact x_iret cx hr (by rw [if_pos (show hsz S = 0 by rw [hz] at hb4; omega)]) (by intro _ _ _ _; rw [if_pos (show hsz S = 0 by rw [hz] at hb4; omega)]) dX3_takeBack_9

set_option maxHeartbeats 4000000 in
set_option maxRecDepth 100000 in
theorem c_X4_goTo (l : Launch) (G : zG) (S : zS) (i : Nat) (hi : i < 7) (X : zCV) (hW : zWF X) (b : Nat) (hb : b < 16) : Met l yX4_goTo (zws yX4_goTo cX4_goTo 6 (some .int)) (zrm 5 0 0 109) (zPc G 68 (pic G (up S i X)) [.ref (zad G i 0), .int (nI b)]) (zQi G 68 (nI (dst (stt X) b)) (pic G (up S i (zGo X b)))) 0 0 (zA G) := by
  refine zMet npX4_goTo rfl (Nat.le_of_ble_eq_true rfl) ?_
  intro p e s m args below meth cd hargs cx hr hin0
  have cx : Cx p s m args meth cd cX4_goTo 6 RX4 G := cx
  refine x_ls (ls' := [some (.ref (zad G i 0)), some (.int (nI b)), none, none, none, none]) rfl (fun _ h => h) ?_
  refine x_aload_n cx dX4_goTo_0 rfl rfl ?_
  refine x_getX0 cx 2 (by decide) (fl_X4_9 cx) (zok_c hi (by decide)) (zix_c hi (by decide)) (pcO hi) rfl dX4_goTo_1 ?_
  refine x_eqi hW.s1 ?_
  refine x_iload_n cx dX4_goTo_4 rfl rfl ?_
  refine x_Si (rest := []) cx (c_X2_clocksBetween l G _ _ (stt X) b hW.s16 hb) gS_X4_15 ndX2_clocksBetween ⟨Nat.le_of_ble_eq_true rfl, Nat.le_of_ble_eq_true rfl⟩ rfl rfl (Nat.le_of_ble_eq_true rfl) dX4_goTo_5 ⟨Nat.le_of_ble_eq_true rfl, Nat.le_of_ble_eq_true rfl⟩ ?_
  refine x_istore_n (ls' := [_, _, _, _, _, _]) cx dX4_goTo_8 rfl (by decide) rfl ?_
  refine x_iload_n cx dX4_goTo_9 rfl rfl ?_
  refine x_iconst (v := 1) cx dX4_goTo_10 (by decide) ?_
  refine x_isub cx dX4_goTo_11 ?_
  refine x_istore_n (ls' := [_, _, _, _, _, _]) cx dX4_goTo_12 rfl (by decide) rfl ?_
  suffices K : ∀ (d : Nat) (Y : zCV), zWF Y → dst (stt Y) b = d → zGoL d Y b = zGo X b → Xh p l e _ s m args below meth cd 6 G _ 0 0 68 (pic G (up S i Y)) 13 [some (.ref (zad G i 0)), some (.int (nI b)), some (.int (nI (dst (stt X) b))), some (.int (nI d - 1)), none, none] [] from K _ X hW rfl rfl
  intro d
  induction d with
  | zero =>
    intro Y hY hd hz
    refine x_iload_n cx dX4_goTo_13 rfl rfl ?_
    refine x_if_lt_t (tgt := 58) cx dX4_goTo_14 (by decide) (by decide) ?_
    refine x_iload_n cx dX4_goTo_58 rfl rfl ?_
    exact x_iret cx hr rfl (by intro _ _ _ _; rw [← hz]; rfl) dX4_goTo_59
  | succ d ih =>
    intro Y hY hd hz
    rw [nI_pred]
    have hd16 := dst_lt _ hY.s16 b hb
    refine x_iload_n cx dX4_goTo_13 rfl rfl ?_
    refine x_if_lt_f (tgt := 58) cx dX4_goTo_14 (by decide) (nI_pos (by omega)) ?_
    refine x_aload_n cx dX4_goTo_17 rfl rfl ?_
    refine x_getX0 cx 2 (by decide) (fl_X4_9 cx) (zok_c hi (by decide)) (zix_c hi (by decide)) (pcO hi) rfl dX4_goTo_18 ?_
    refine x_eqi hY.s1 ?_
    refine x_iconst (v := 0) cx dX4_goTo_21 (by decide) ?_
    refine x_Si (rest := []) cx (c_X2_next l G _ _ (stt Y) hY.s16 _) gS_X4_21 ndX2_next ⟨Nat.le_of_ble_eq_true rfl, Nat.le_of_ble_eq_true rfl⟩ rfl rfl (Nat.le_of_ble_eq_true rfl) dX4_goTo_22 ⟨Nat.le_of_ble_eq_true rfl, Nat.le_of_ble_eq_true rfl⟩ ?_
    refine x_eqi (nx_eq hY.s16 0) ?_
    refine x_istore (ls' := [_, _, _, _, _, _]) cx dX4_goTo_25 (by decide) rfl ?_
    refine x_iload cx dX4_goTo_27 rfl ?_
    refine x_iload_n cx dX4_goTo_29 rfl rfl ?_
    refine x_Si (rest := []) cx (c_X2_clocksBetween l G _ _ (nx (stt Y) 0) b (nx_lt hY.s16 0) hb) gS_X4_15 ndX2_clocksBetween ⟨Nat.le_of_ble_eq_true rfl, Nat.le_of_ble_eq_true rfl⟩ rfl rfl (Nat.le_of_ble_eq_true rfl) dX4_goTo_30 ⟨Nat.le_of_ble_eq_true rfl, Nat.le_of_ble_eq_true rfl⟩ ?_
    refine x_iload_n cx dX4_goTo_33 rfl rfl ?_
    refine x_icmp_ne (tgt := 41) cx dX4_goTo_34 (by decide) (fun hb34 => ?_) (fun hb34 => ?_)
    · refine x_iconst (v := 1) cx dX4_goTo_41 (by decide) ?_
      refine x_istore (ls' := [_, _, _, _, _, _]) cx dX4_goTo_42 (by decide) rfl ?_
      refine x_aload_n cx dX4_goTo_44 rfl rfl ?_
      refine x_iload cx dX4_goTo_45 rfl ?_
      refine x_iconst (v := 1) cx dX4_goTo_47 (by decide) ?_
      refine x_Vi (C := RX0) (T := TX0) (N := 6) (rest := []) cx (c_X0_tick l G _ i hi _ hY _ _) gV_X4_24 ndX0_tick rfl ⟨Nat.le_of_ble_eq_true rfl, Nat.le_of_ble_eq_true rfl⟩ (zok_c hi (by decide)) (zix_c hi (by decide)) (pcO hi) rfl rfl rfl (Nat.le_of_ble_eq_true rfl) dX4_goTo_48 ⟨Nat.le_of_ble_eq_true rfl, Nat.le_of_ble_eq_true rfl⟩ ?_
      refine x_pop cx dX4_goTo_51 rfl ?_
      refine x_iinc (ls' := [_, _, _, _, _, _]) cx dX4_goTo_52 rfl rfl (by decide) rfl ?_
      refine x_goto (tgt := 13) cx dX4_goTo_55 (by decide) ?_
      have hm : zMd (stt Y) b = 1 := zMd_1 hY.s16 hb hd hb34
      rw [nI_dec]
      exact x_ls rfl (by simp [lo]) (ih _ (zTick_WF hY) (by rw [stt_tick, ← hm]; exact dst_go hY.s16 hb hd) (by rw [← hz]; show _ = zGoL d (zTick Y (zMd (stt Y) b) 1) b; rw [hm]))
    · refine x_iconst (v := 0) cx dX4_goTo_37 (by decide) ?_
      refine x_goto (tgt := 42) cx dX4_goTo_38 (by decide) ?_
      refine x_istore (ls' := [_, _, _, _, _, _]) cx dX4_goTo_42 (by decide) rfl ?_
      refine x_aload_n cx dX4_goTo_44 rfl rfl ?_
      refine x_iload cx dX4_goTo_45 rfl ?_
      refine x_iconst (v := 1) cx dX4_goTo_47 (by decide) ?_
      refine x_Vi (C := RX0) (T := TX0) (N := 6) (rest := []) cx (c_X0_tick l G _ i hi _ hY _ _) gV_X4_24 ndX0_tick rfl ⟨Nat.le_of_ble_eq_true rfl, Nat.le_of_ble_eq_true rfl⟩ (zok_c hi (by decide)) (zix_c hi (by decide)) (pcO hi) rfl rfl rfl (Nat.le_of_ble_eq_true rfl) dX4_goTo_48 ⟨Nat.le_of_ble_eq_true rfl, Nat.le_of_ble_eq_true rfl⟩ ?_
      refine x_pop cx dX4_goTo_51 rfl ?_
      refine x_iinc (ls' := [_, _, _, _, _, _]) cx dX4_goTo_52 rfl rfl (by decide) rfl ?_
      refine x_goto (tgt := 13) cx dX4_goTo_55 (by decide) ?_
      have hm : zMd (stt Y) b = 0 := zMd_0 hY.s16 hb hd hb34
      rw [nI_dec]
      exact x_ls rfl (by simp [lo]) (ih _ (zTick_WF hY) (by rw [stt_tick, ← hm]; exact dst_go hY.s16 hb hd) (by rw [← hz]; show _ = zGoL d (zTick Y (zMd (stt Y) b) 1) b; rw [hm]))

set_option maxHeartbeats 4000000 in
set_option maxRecDepth 100000 in
theorem c_X4_shiftThrough (l : Launch) (G : zG) (S : zS) (i : Nat) (hi : i < 7) (X : zCV) (hW : zWF X) (x : Int32) (L : Nat) (hL : L ≤ 8) (la : Int32) (hla : la = 0 ∨ la = 1) : Met l yX4_shiftThrough (zws yX4_shiftThrough cX4_shiftThrough 7 (some .int)) (zrm 5 0 0 109) (zPc G 68 (pic G (up S i X)) [.ref (zad G i 0), .int x, .int (nI L), .int la]) (zQi G 68 (zThO x L la L X) (pic G (up S i (zThX x L la L X)))) 0 0 (zA G) := by
  refine zMet npX4_shiftThrough rfl (Nat.le_of_ble_eq_true rfl) ?_
  intro p e s m args below meth cd hargs cx hr hin0
  have cx : Cx p s m args meth cd cX4_shiftThrough 7 RX4 G := cx
  refine x_ls (ls' := [some (.ref (zad G i 0)), some (.int x), some (.int (nI L)), some (.int la), none, none, none]) rfl (fun _ h => h) ?_
  refine x_iconst (v := 0) cx dX4_shiftThrough_0 (by decide) ?_
  refine x_istore (ls' := [_, _, _, _, _, _, _]) cx dX4_shiftThrough_1 (by decide) rfl ?_
  refine x_iconst (v := 0) cx dX4_shiftThrough_3 (by decide) ?_
  refine x_istore (ls' := [_, _, _, _, _, _, _]) cx dX4_shiftThrough_4 (by decide) rfl ?_
  suffices K : ∀ f k : Nat, k + f = L → Xh p l e _ s m args below meth cd 7 G _ 0 0 68 (pic G (up S i (zThX x L la k X))) 6 [some (.ref (zad G i 0)), some (.int x), some (.int (nI L)), some (.int la), some (.int (zThO x L la k X)), some (.int (nI k)), none] [] from K L 0 (by omega)
  intro f
  induction f with
  | zero =>
    intro k hk
    obtain rfl : k = L := by omega
    refine x_iload cx dX4_shiftThrough_6 rfl ?_
    refine x_iload_n cx dX4_shiftThrough_8 rfl rfl ?_
    refine x_icmp_ge_t (tgt := 57) cx dX4_shiftThrough_9 (by decide) (nI_le (Nat.le_refl _) (by omega)) ?_
    refine x_iload cx dX4_shiftThrough_57 rfl ?_
    exact x_iret cx hr rfl (fun _ _ _ _ => rfl) dX4_shiftThrough_59
  | succ f ih =>
    intro k hk
    refine x_iload cx dX4_shiftThrough_6 rfl ?_
    refine x_iload_n cx dX4_shiftThrough_8 rfl rfl ?_
    refine x_icmp_ge_f (tgt := 57) cx dX4_shiftThrough_9 (by decide) (nI_ge (by omega) (by omega)) ?_
    refine x_iload_n cx dX4_shiftThrough_12 rfl rfl ?_
    refine x_if_eq (tgt := 28) cx dX4_shiftThrough_13 (by decide) (fun hb13 => ?_) (fun hb13 => ?_)
    · refine x_iconst (v := 0) cx dX4_shiftThrough_28 (by decide) ?_
      refine x_istore (ls' := [_, _, _, _, _, _, _]) cx dX4_shiftThrough_29 (by decide) rfl ?_
      refine x_iload cx dX4_shiftThrough_31 rfl ?_
      refine x_aload_n cx dX4_shiftThrough_33 rfl rfl ?_
      refine x_iload cx dX4_shiftThrough_34 rfl ?_
      refine x_iload_n cx dX4_shiftThrough_36 rfl rfl ?_
      refine x_iload cx dX4_shiftThrough_37 rfl ?_
      refine x_ishr cx dX4_shiftThrough_39 ?_
      refine x_iconst (v := 1) cx dX4_shiftThrough_40 (by decide) ?_
      refine x_iand cx dX4_shiftThrough_41 ?_
      refine x_Vi (C := RX0) (T := TX0) (N := 6) (rest := [_]) cx (c_X0_tick l G _ i hi _ (zThX_WF hW k) _ _) gV_X4_24 ndX0_tick rfl ⟨Nat.le_of_ble_eq_true rfl, Nat.le_of_ble_eq_true rfl⟩ (zok_c hi (by decide)) (zix_c hi (by decide)) (pcO hi) rfl rfl rfl (Nat.le_of_ble_eq_true rfl) dX4_shiftThrough_42 ⟨Nat.le_of_ble_eq_true rfl, Nat.le_of_ble_eq_true rfl⟩ ?_
      refine x_iload cx dX4_shiftThrough_45 rfl ?_
      refine x_ishl cx dX4_shiftThrough_47 ?_
      refine x_ior cx dX4_shiftThrough_48 ?_
      refine x_istore (ls' := [_, _, _, _, _, _, _]) cx dX4_shiftThrough_49 (by decide) rfl ?_
      refine x_iinc (v := nI (k + 1)) (ls' := [_, _, _, _, _, _, _]) cx dX4_shiftThrough_51 rfl (nI_inc _) (by decide) rfl ?_
      refine x_goto (tgt := 6) cx dX4_shiftThrough_54 (by decide) ?_
      have hm : zLm la L k = 0 := zLm_0 hb13
      refine x_up (X' := zThX x L la (k + 1) X) (by show _ = zTick (zThX x L la k X) (zLm la L k) (zBit x k); rw [hm]; rfl) ?_
      exact x_ls rfl (by simp [lo, zThO, zBit]) (ih (k + 1) (by omega))
    · refine x_iload cx dX4_shiftThrough_16 rfl ?_
      refine x_iload_n cx dX4_shiftThrough_18 rfl rfl ?_
      refine x_iconst (v := 1) cx dX4_shiftThrough_19 (by decide) ?_
      refine x_isub cx dX4_shiftThrough_20 ?_
      refine x_icmp_ne (tgt := 28) cx dX4_shiftThrough_21 (by decide) (fun hb21 => ?_) (fun hb21 => ?_)
      · refine x_iconst (v := 0) cx dX4_shiftThrough_28 (by decide) ?_
        refine x_istore (ls' := [_, _, _, _, _, _, _]) cx dX4_shiftThrough_29 (by decide) rfl ?_
        refine x_iload cx dX4_shiftThrough_31 rfl ?_
        refine x_aload_n cx dX4_shiftThrough_33 rfl rfl ?_
        refine x_iload cx dX4_shiftThrough_34 rfl ?_
        refine x_iload_n cx dX4_shiftThrough_36 rfl rfl ?_
        refine x_iload cx dX4_shiftThrough_37 rfl ?_
        refine x_ishr cx dX4_shiftThrough_39 ?_
        refine x_iconst (v := 1) cx dX4_shiftThrough_40 (by decide) ?_
        refine x_iand cx dX4_shiftThrough_41 ?_
        refine x_Vi (C := RX0) (T := TX0) (N := 6) (rest := [_]) cx (c_X0_tick l G _ i hi _ (zThX_WF hW k) _ _) gV_X4_24 ndX0_tick rfl ⟨Nat.le_of_ble_eq_true rfl, Nat.le_of_ble_eq_true rfl⟩ (zok_c hi (by decide)) (zix_c hi (by decide)) (pcO hi) rfl rfl rfl (Nat.le_of_ble_eq_true rfl) dX4_shiftThrough_42 ⟨Nat.le_of_ble_eq_true rfl, Nat.le_of_ble_eq_true rfl⟩ ?_
        refine x_iload cx dX4_shiftThrough_45 rfl ?_
        refine x_ishl cx dX4_shiftThrough_47 ?_
        refine x_ior cx dX4_shiftThrough_48 ?_
        refine x_istore (ls' := [_, _, _, _, _, _, _]) cx dX4_shiftThrough_49 (by decide) rfl ?_
        refine x_iinc (v := nI (k + 1)) (ls' := [_, _, _, _, _, _, _]) cx dX4_shiftThrough_51 rfl (nI_inc _) (by decide) rfl ?_
        refine x_goto (tgt := 6) cx dX4_shiftThrough_54 (by decide) ?_
        have hm : zLm la L k = 0 := zLm_n hb13 (by omega) hL hb21
        refine x_up (X' := zThX x L la (k + 1) X) (by show _ = zTick (zThX x L la k X) (zLm la L k) (zBit x k); rw [hm]; rfl) ?_
        exact x_ls rfl (by simp [lo, zThO, zBit]) (ih (k + 1) (by omega))
      · refine x_iconst (v := 1) cx dX4_shiftThrough_24 (by decide) ?_
        refine x_goto (tgt := 29) cx dX4_shiftThrough_25 (by decide) ?_
        refine x_istore (ls' := [_, _, _, _, _, _, _]) cx dX4_shiftThrough_29 (by decide) rfl ?_
        refine x_iload cx dX4_shiftThrough_31 rfl ?_
        refine x_aload_n cx dX4_shiftThrough_33 rfl rfl ?_
        refine x_iload cx dX4_shiftThrough_34 rfl ?_
        refine x_iload_n cx dX4_shiftThrough_36 rfl rfl ?_
        refine x_iload cx dX4_shiftThrough_37 rfl ?_
        refine x_ishr cx dX4_shiftThrough_39 ?_
        refine x_iconst (v := 1) cx dX4_shiftThrough_40 (by decide) ?_
        refine x_iand cx dX4_shiftThrough_41 ?_
        refine x_Vi (C := RX0) (T := TX0) (N := 6) (rest := [_]) cx (c_X0_tick l G _ i hi _ (zThX_WF hW k) _ _) gV_X4_24 ndX0_tick rfl ⟨Nat.le_of_ble_eq_true rfl, Nat.le_of_ble_eq_true rfl⟩ (zok_c hi (by decide)) (zix_c hi (by decide)) (pcO hi) rfl rfl rfl (Nat.le_of_ble_eq_true rfl) dX4_shiftThrough_42 ⟨Nat.le_of_ble_eq_true rfl, Nat.le_of_ble_eq_true rfl⟩ ?_
        refine x_iload cx dX4_shiftThrough_45 rfl ?_
        refine x_ishl cx dX4_shiftThrough_47 ?_
        refine x_ior cx dX4_shiftThrough_48 ?_
        refine x_istore (ls' := [_, _, _, _, _, _, _]) cx dX4_shiftThrough_49 (by decide) rfl ?_
        refine x_iinc (v := nI (k + 1)) (ls' := [_, _, _, _, _, _, _]) cx dX4_shiftThrough_51 rfl (nI_inc _) (by decide) rfl ?_
        refine x_goto (tgt := 6) cx dX4_shiftThrough_54 (by decide) ?_
        have hm : zLm la L k = 1 := zLm_y hb13 (by omega) hL hb21
        refine x_up (X' := zThX x L la (k + 1) X) (by show _ = zTick (zThX x L la k X) (zLm la L k) (zBit x k); rw [hm]; rfl) ?_
        exact x_ls rfl (by simp [lo, zThO, zBit]) (ih (k + 1) (by omega))

set_option maxHeartbeats 4000000 in
set_option maxRecDepth 100000 in
theorem c_X4_readIdentity (l : Launch) (G : zG) (S : zS) (i : Nat) (hi : i < 7) (X : zCV) (hW : zWF X) : Met l yX4_readIdentity (zws yX4_readIdentity cX4_readIdentity 3 (some .int)) (zrm 5 0 0 109) (zPc G 68 (pic G (up S i X)) [.ref (zad G i 0)]) (zQi G 68 (zRdV X) (pic G (up S i (zRdX X)))) 0 0 (zA G) := by
  refine zMet npX4_readIdentity rfl (Nat.le_of_ble_eq_true rfl) ?_
  intro p e s m args below meth cd hargs cx hr hin0
  have cx : Cx p s m args meth cd cX4_readIdentity 3 RX4 G := cx
  refine x_ls (ls' := [some (.ref (zad G i 0)), none, none]) rfl (fun _ h => h) ?_
  refine x_aload_n cx dX4_readIdentity_0 rfl rfl ?_
  refine x_iconst (v := 0) cx dX4_readIdentity_1 (by decide) ?_
  refine x_iconst (v := 1) cx dX4_readIdentity_2 (by decide) ?_
  refine x_Vi (C := RX0) (T := TX0) (N := 6) (rest := []) cx (c_X0_tick l G _ i hi _ hW _ _) gV_X4_24 ndX0_tick rfl ⟨Nat.le_of_ble_eq_true rfl, Nat.le_of_ble_eq_true rfl⟩ (zok_c hi (by decide)) (zix_c hi (by decide)) (pcO hi) rfl rfl rfl (Nat.le_of_ble_eq_true rfl) dX4_readIdentity_3 ⟨Nat.le_of_ble_eq_true rfl, Nat.le_of_ble_eq_true rfl⟩ ?_
  by_cases h0 : zOut X 1 = 0
  · refine x_eqi h0 ?_
    refine x_istore_n (ls' := [_, _, _]) cx dX4_readIdentity_6 rfl (by decide) rfl ?_
    refine x_iconst (v := 1) cx dX4_readIdentity_7 (by decide) ?_
    refine x_istore_n (ls' := [_, _, _]) cx dX4_readIdentity_8 rfl (by decide) rfl ?_
    refine x_iload_n cx dX4_readIdentity_9 rfl rfl ?_
    refine x_if_eq_t (tgt := 36) cx dX4_readIdentity_10 (by decide) (by decide) ?_
    refine x_iload_n cx dX4_readIdentity_36 rfl rfl ?_
    exact x_iret cx hr (by unfold zRdV; rw [if_pos h0]) (by intro _ _ _ _; unfold zRdX; rw [if_pos h0]) dX4_readIdentity_37
  · refine x_eqi (zOut_1 h0) ?_
    refine x_istore_n (ls' := [_, _, _]) cx dX4_readIdentity_6 rfl (by decide) rfl ?_
    refine x_iconst (v := 1) cx dX4_readIdentity_7 (by decide) ?_
    refine x_istore_n (ls' := [_, _, _]) cx dX4_readIdentity_8 rfl (by decide) rfl ?_
    have h1 := zTick_WF (md := 0) (x := 1) hW
    have hv : zRdV X = mO 7 (zTick X 0 1) := by unfold zRdV; rw [if_neg h0, mO_th 7 (Nat.le_refl _)]
    have hx : zRdX X = mX 7 (zTick X 0 1) := by unfold zRdX; rw [if_neg h0, mX_th 7 (Nat.le_refl _)]
    rw [hv, hx]
    generalize zTick X 0 1 = Y at h1 ⊢
    suffices K : ∀ f k : Nat, k + f = 7 → Xh p l e _ s m args below meth cd 3 G _ 0 0 68 (pic G (up S i (mX k Y))) 9 [some (.ref (zad G i 0)), some (.int (mO k Y)), some (.int (nI (k + 1)))] [] from K 7 0 rfl
    intro f
    induction f with
    | zero =>
      intro k hk
      obtain rfl : k = 7 := by omega
      refine x_iload_n cx dX4_readIdentity_9 rfl rfl ?_
      refine x_if_eq_f (tgt := 36) cx dX4_readIdentity_10 (by decide) (mO_ne 7 (Nat.le_refl _) _) ?_
      refine x_iload_n cx dX4_readIdentity_13 rfl rfl ?_
      refine x_bipush (v := 8) cx dX4_readIdentity_14 (by decide) ?_
      refine x_icmp_ge_t (tgt := 36) cx dX4_readIdentity_16 (by decide) (by decide) ?_
      refine x_iload_n cx dX4_readIdentity_36 rfl rfl ?_
      exact x_iret cx hr rfl (fun _ _ _ _ => rfl) dX4_readIdentity_37
    | succ f ih =>
      intro k hk
      refine x_iload_n cx dX4_readIdentity_9 rfl rfl ?_
      refine x_if_eq_f (tgt := 36) cx dX4_readIdentity_10 (by decide) (mO_ne k (by omega) _) ?_
      refine x_iload_n cx dX4_readIdentity_13 rfl rfl ?_
      refine x_bipush (v := 8) cx dX4_readIdentity_14 (by decide) ?_
      refine x_icmp_ge_f (tgt := 36) cx dX4_readIdentity_16 (by decide) (nI_ge (b := 8) (by omega) (by decide)) ?_
      refine x_iload_n cx dX4_readIdentity_19 rfl rfl ?_
      refine x_aload_n cx dX4_readIdentity_20 rfl rfl ?_
      refine x_iconst (v := 0) cx dX4_readIdentity_21 (by decide) ?_
      refine x_iconst (v := 1) cx dX4_readIdentity_22 (by decide) ?_
      refine x_Vi (C := RX0) (T := TX0) (N := 6) (rest := [_]) cx (c_X0_tick l G _ i hi _ (mX_WF k h1) _ _) gV_X4_24 ndX0_tick rfl ⟨Nat.le_of_ble_eq_true rfl, Nat.le_of_ble_eq_true rfl⟩ (zok_c hi (by decide)) (zix_c hi (by decide)) (pcO hi) rfl rfl rfl (Nat.le_of_ble_eq_true rfl) dX4_readIdentity_23 ⟨Nat.le_of_ble_eq_true rfl, Nat.le_of_ble_eq_true rfl⟩ ?_
      refine x_iload_n cx dX4_readIdentity_26 rfl rfl ?_
      refine x_ishl cx dX4_readIdentity_27 ?_
      refine x_ior cx dX4_readIdentity_28 ?_
      refine x_istore_n (ls' := [_, _, _]) cx dX4_readIdentity_29 rfl (by decide) rfl ?_
      refine x_iinc (v := nI ((k + 1) + 1)) (ls' := [_, _, _]) cx dX4_readIdentity_30 rfl (nI_inc _) (by decide) rfl ?_
      refine x_goto (tgt := 9) cx dX4_readIdentity_33 (by decide) ?_
      exact ih (k + 1) (by omega)

set_option maxHeartbeats 4000000 in
set_option maxRecDepth 100000 in
theorem c_X4_readIdentities (l : Launch) (G : zG) (S : zS) (i : Nat) (hi : i < 7) (X : zCV) (hW : zWF X) : Met l yX4_readIdentities (zws yX4_readIdentities cX4_readIdentities 3 (some .int)) (zrm 6 0 0 134) (zPc G 68 (pic G (up S i X)) [.ref (zad G i 0)]) (zQi G 68 (zIdent X 0 3) (pic G (up S i (zIdent X)))) 0 0 (zA G) := by
  refine zMet npX4_readIdentities rfl (Nat.le_of_ble_eq_true rfl) ?_
  intro p e s m args below meth cd hargs cx hr hin0
  have cx : Cx p s m args meth cd cX4_readIdentities 3 RX4 G := cx
  refine x_ls (ls' := [some (.ref (zad G i 0)), none, none]) rfl (fun _ h => h) ?_
  refine x_iconst (v := 0) cx dX4_readIdentities_0 (by decide) ?_
  refine x_istore_n (ls' := [_, _, _]) cx dX4_readIdentities_1 rfl (by decide) rfl ?_
  suffices K : ∀ (f k : Nat) (Y : zCV), k + f = 5 → zWF Y → zTkN f Y = zTkN 5 X → Xh p l e _ s m args below meth cd 3 G _ 0 0 68 (pic G (up S i Y)) 2 [some (.ref (zad G i 0)), some (.int (nI k)), none] [] from K 5 0 X rfl hW rfl
  intro f
  induction f with
  | zero =>
    intro k Y hk hY hz
    obtain rfl : k = 5 := by omega
    refine x_iload_n cx dX4_readIdentities_2 rfl rfl ?_
    refine x_iconst (v := 5) cx dX4_readIdentities_3 (by decide) ?_
    refine x_icmp_ge_t (tgt := 20) cx dX4_readIdentities_4 (by decide) (by decide) ?_
    refine x_aload_n cx dX4_readIdentities_20 rfl rfl ?_
    refine x_iconst (v := 4) cx dX4_readIdentities_21 (by decide) ?_
    refine x_Si (rest := []) cx (c_X4_goTo l G _ i hi _ hY 4 (by decide)) gS_X4_29 ndX4_goTo ⟨Nat.le_of_ble_eq_true rfl, Nat.le_of_ble_eq_true rfl⟩ rfl rfl (Nat.le_of_ble_eq_true rfl) dX4_readIdentities_22 ⟨Nat.le_of_ble_eq_true rfl, Nat.le_of_ble_eq_true rfl⟩ ?_
    refine x_pop cx dX4_readIdentities_25 rfl ?_
    refine x_aload_n cx dX4_readIdentities_26 rfl rfl ?_
    refine x_Vv (C := RX0) (T := TX0) (N := 6) (rest := []) cx (c_X0_forgetIdentities l G _ i hi _ (zGo_WF hY) ) gV_X4_33 ndX0_forgetIdentities rfl ⟨Nat.le_of_ble_eq_true rfl, Nat.le_of_ble_eq_true rfl⟩ (zok_c hi (by decide)) (zix_c hi (by decide)) (pcO hi) rfl rfl rfl (Nat.le_of_ble_eq_true rfl) dX4_readIdentities_27 ⟨Nat.le_of_ble_eq_true rfl, Nat.le_of_ble_eq_true rfl⟩ ?_
    refine x_iconst (v := 0) cx dX4_readIdentities_30 (by decide) ?_
    refine x_istore_n (ls' := [_, _, _]) cx dX4_readIdentities_31 rfl (by decide) rfl ?_
    have hv : zIdent X = zGo (zIdL 8 (zForget (zGo Y 4))) 1 := by unfold zIdent; rw [← hz]; rfl
    rw [hv]
    suffices K2 : ∀ (f k : Nat) (V : zCV), k + f = 8 → zWF V → cnt V = k → zIdL f V = zIdL 8 (zForget (zGo Y 4)) → Xh p l e _ s m args below meth cd 3 G _ 0 0 68 (pic G (up S i V)) 32 [some (.ref (zad G i 0)), some (.int (nI k)), none] [] from K2 8 0 _ rfl (zForget_WF (zGo_WF hY)) (cnt_forget _) rfl
    intro f
    induction f with
    | zero =>
      intro k V hk hV hcn hzv
      obtain rfl : k = 8 := by omega
      have hzv : V = zIdL 8 (zForget (zGo Y 4)) := hzv
      refine x_iload_n cx dX4_readIdentities_32 rfl rfl ?_
      refine x_bipush (v := 8) cx dX4_readIdentities_33 (by decide) ?_
      refine x_icmp_ge_t (tgt := 64) cx dX4_readIdentities_35 (by decide) (by decide) ?_
      refine x_aload_n cx dX4_readIdentities_64 rfl rfl ?_
      refine x_iconst (v := 1) cx dX4_readIdentities_65 (by decide) ?_
      refine x_Si (rest := []) cx (c_X4_goTo l G _ i hi _ hV 1 (by decide)) gS_X4_29 ndX4_goTo ⟨Nat.le_of_ble_eq_true rfl, Nat.le_of_ble_eq_true rfl⟩ rfl rfl (Nat.le_of_ble_eq_true rfl) dX4_readIdentities_66 ⟨Nat.le_of_ble_eq_true rfl, Nat.le_of_ble_eq_true rfl⟩ ?_
      refine x_pop cx dX4_readIdentities_69 rfl ?_
      refine x_aload_n cx dX4_readIdentities_70 rfl rfl ?_
      refine x_getX0 cx 5 (by decide) (fl_X4_44 cx) (zok_c hi (by decide)) (zix_c hi (by decide)) (pcO hi) rfl dX4_readIdentities_71 ?_
      exact x_iret cx hr (by rw [← hzv]) (by intro _ _ _ _; rw [← hzv]) dX4_readIdentities_74
    | succ f ih =>
      intro k V hk hV hcn hzv
      refine x_iload_n cx dX4_readIdentities_32 rfl rfl ?_
      refine x_bipush (v := 8) cx dX4_readIdentities_33 (by decide) ?_
      refine x_icmp_ge_f (tgt := 64) cx dX4_readIdentities_35 (by decide) (nI_ge (b := 8) (by omega) (by decide)) ?_
      refine x_aload_n cx dX4_readIdentities_38 rfl rfl ?_
      refine x_Si (rest := []) cx (c_X4_readIdentity l G _ i hi _ hV) gS_X4_36 ndX4_readIdentity ⟨Nat.le_of_ble_eq_true rfl, Nat.le_of_ble_eq_true rfl⟩ rfl rfl (Nat.le_of_ble_eq_true rfl) dX4_readIdentities_39 ⟨Nat.le_of_ble_eq_true rfl, Nat.le_of_ble_eq_true rfl⟩ ?_
      refine x_istore_n (ls' := [_, _, _]) cx dX4_readIdentities_42 rfl (by decide) rfl ?_
      refine x_iload_n cx dX4_readIdentities_43 rfl rfl ?_
      refine x_sipush (v := 255) cx dX4_readIdentities_44 (by decide) ?_
      refine x_icmp_ne (tgt := 53) cx dX4_readIdentities_47 (by decide) (fun hb47 => ?_) (fun hb47 => ?_)
      · refine x_aload_n cx dX4_readIdentities_53 rfl rfl ?_
        refine x_iload_n cx dX4_readIdentities_54 rfl rfl ?_
        refine x_Vv (C := RX0) (T := TX0) (N := 6) (rest := []) cx (c_X0_keepIdentity l G _ i hi _ (zRdX_WF hV) (by rw [cnt_rdX]; omega) _) gV_X4_40 ndX0_keepIdentity rfl ⟨Nat.le_of_ble_eq_true rfl, Nat.le_of_ble_eq_true rfl⟩ (zok_c hi (by decide)) (zix_c hi (by decide)) (pcO hi) rfl rfl rfl (Nat.le_of_ble_eq_true rfl) dX4_readIdentities_55 ⟨Nat.le_of_ble_eq_true rfl, Nat.le_of_ble_eq_true rfl⟩ ?_
        refine x_iinc (v := nI (k + 1)) (ls' := [_, _, _]) cx dX4_readIdentities_58 rfl (nI_inc _) (by decide) rfl ?_
        refine x_goto (tgt := 32) cx dX4_readIdentities_61 (by decide) ?_
        have hcr := cnt_rdX V
        exact x_ls rfl (by simp [lo]) (ih (k + 1) _ (by omega) (zKeep_WF (zRdX_WF hV) (by omega)) (by rw [cnt_keep (zRdX_WF hV)]; omega) (by rw [← hzv]; show _ = (if zRdV V = 255 then zRdX V else zIdL f (zKeep (zRdX V) (zRdV V))); rw [if_neg hb47]))
      · refine x_goto (tgt := 64) cx dX4_readIdentities_50 (by decide) ?_
        have hzv : zRdX V = zIdL 8 (zForget (zGo Y 4)) := by rw [← hzv]; unfold zIdL; rw [if_pos hb47]
        refine x_aload_n cx dX4_readIdentities_64 rfl rfl ?_
        refine x_iconst (v := 1) cx dX4_readIdentities_65 (by decide) ?_
        refine x_Si (rest := []) cx (c_X4_goTo l G _ i hi _ (zRdX_WF hV) 1 (by decide)) gS_X4_29 ndX4_goTo ⟨Nat.le_of_ble_eq_true rfl, Nat.le_of_ble_eq_true rfl⟩ rfl rfl (Nat.le_of_ble_eq_true rfl) dX4_readIdentities_66 ⟨Nat.le_of_ble_eq_true rfl, Nat.le_of_ble_eq_true rfl⟩ ?_
        refine x_pop cx dX4_readIdentities_69 rfl ?_
        refine x_aload_n cx dX4_readIdentities_70 rfl rfl ?_
        refine x_getX0 cx 5 (by decide) (fl_X4_44 cx) (zok_c hi (by decide)) (zix_c hi (by decide)) (pcO hi) rfl dX4_readIdentities_71 ?_
        exact x_iret cx hr (by rw [← hzv]) (by intro _ _ _ _; rw [← hzv]) dX4_readIdentities_74
  | succ f ih =>
    intro k Y hk hY hz
    refine x_iload_n cx dX4_readIdentities_2 rfl rfl ?_
    refine x_iconst (v := 5) cx dX4_readIdentities_3 (by decide) ?_
    refine x_icmp_ge_f (tgt := 20) cx dX4_readIdentities_4 (by decide) (nI_ge (b := 5) (by omega) (by decide)) ?_
    refine x_aload_n cx dX4_readIdentities_7 rfl rfl ?_
    refine x_iconst (v := 1) cx dX4_readIdentities_8 (by decide) ?_
    refine x_iconst (v := 1) cx dX4_readIdentities_9 (by decide) ?_
    refine x_Vi (C := RX0) (T := TX0) (N := 6) (rest := []) cx (c_X0_tick l G _ i hi _ hY _ _) gV_X4_24 ndX0_tick rfl ⟨Nat.le_of_ble_eq_true rfl, Nat.le_of_ble_eq_true rfl⟩ (zok_c hi (by decide)) (zix_c hi (by decide)) (pcO hi) rfl rfl rfl (Nat.le_of_ble_eq_true rfl) dX4_readIdentities_10 ⟨Nat.le_of_ble_eq_true rfl, Nat.le_of_ble_eq_true rfl⟩ ?_
    refine x_pop cx dX4_readIdentities_13 rfl ?_
    refine x_iinc (v := nI (k + 1)) (ls' := [_, _, _]) cx dX4_readIdentities_14 rfl (nI_inc _) (by decide) rfl ?_
    refine x_goto (tgt := 2) cx dX4_readIdentities_17 (by decide) ?_
    exact ih (k + 1) _ (by omega) (zTick_WF hY) hz

set_option maxHeartbeats 4000000 in
set_option maxRecDepth 100000 in
theorem c_X4_loadInstruction (l : Launch) (G : zG) (S : zS) (i : Nat) (hi : i < 7) (X : zCV) (hW : zWF X) (q : Nat) (hq : q < num X) (x : Int32) : Met l yX4_loadInstruction (zws yX4_loadInstruction cX4_loadInstruction 6 none) (zrm 6 0 0 135) (zPc G 68 (pic G (up S i X)) [.ref (zad G i 0), .int (nI q), .int x]) (zQv G 68 (pic G (up S i (zLoad X q x)))) 0 0 (zA G) := by
  refine zMet npX4_loadInstruction rfl (Nat.le_of_ble_eq_true rfl) ?_
  intro p e s m args below meth cd hargs cx hr hin0
  have cx : Cx p s m args meth cd cX4_loadInstruction 6 RX4 G := cx
  refine x_ls (ls' := [some (.ref (zad G i 0)), some (.int (nI q)), some (.int x), none, none, none]) rfl (fun _ h => h) ?_
  have h6 := hW.n6
  refine x_aload_n cx dX4_loadInstruction_0 rfl rfl ?_
  refine x_bipush (v := 11) cx dX4_loadInstruction_1 (by decide) ?_
  refine x_Si (rest := []) cx (c_X4_goTo l G _ i hi _ hW 11 (by decide)) gS_X4_29 ndX4_goTo ⟨Nat.le_of_ble_eq_true rfl, Nat.le_of_ble_eq_true rfl⟩ rfl rfl (Nat.le_of_ble_eq_true rfl) dX4_loadInstruction_3 ⟨Nat.le_of_ble_eq_true rfl, Nat.le_of_ble_eq_true rfl⟩ ?_
  refine x_pop cx dX4_loadInstruction_6 rfl ?_
  refine x_aload_n cx dX4_loadInstruction_7 rfl rfl ?_
  refine x_getX0 cx 1 (by decide) (fl_X4_47 cx) (zok_c hi (by decide)) (zix_c hi (by decide)) (pcO hi) rfl dX4_loadInstruction_8 ?_
  refine x_eqi (show _ = nI (num X) by rw [← num_go X 11]; exact (zGo_WF hW).sz) ?_
  refine x_iconst (v := 1) cx dX4_loadInstruction_11 (by decide) ?_
  refine x_isub cx dX4_loadInstruction_12 ?_
  refine x_istore_n (ls' := [_, _, _, _, _, _]) cx dX4_loadInstruction_13 rfl (by decide) rfl ?_
  suffices K : ∀ (k : Nat) (Y : zCV), k ≤ num X → zWF Y → num Y = num X → zLdL q x k Y = zLdL q x (num X) (zGo X 11) → Xh p l e _ s m args below meth cd 6 G _ 0 0 68 (pic G (up S i Y)) 14 [some (.ref (zad G i 0)), some (.int (nI q)), some (.int x), some (.int (nI k - 1)), none, none] [] from K _ _ (Nat.le_refl _) (zGo_WF hW) (num_go X 11) rfl
  intro k
  induction k with
  | zero =>
    intro Y hk hY hn hz
    have hz : Y = zLdL q x (num X) (zGo X 11) := hz
    refine x_iload_n cx dX4_loadInstruction_14 rfl rfl ?_
    refine x_if_lt_t (tgt := 69) cx dX4_loadInstruction_15 (by decide) (by decide) ?_
    refine x_aload_n cx dX4_loadInstruction_69 rfl rfl ?_
    refine x_iconst (v := 1) cx dX4_loadInstruction_70 (by decide) ?_
    refine x_Si (rest := []) cx (c_X4_goTo l G _ i hi _ hY 1 (by decide)) gS_X4_29 ndX4_goTo ⟨Nat.le_of_ble_eq_true rfl, Nat.le_of_ble_eq_true rfl⟩ rfl rfl (Nat.le_of_ble_eq_true rfl) dX4_loadInstruction_71 ⟨Nat.le_of_ble_eq_true rfl, Nat.le_of_ble_eq_true rfl⟩ ?_
    refine x_pop cx dX4_loadInstruction_74 rfl ?_
    exact x_vret cx hr (by intro _ _ _ _; unfold zLoad; rw [← hz]) dX4_loadInstruction_75
  | succ k ih =>
    intro Y hk hY hn hz
    rw [nI_pred]
    have hc := cWF_len (hY.chip (t := k) (by omega))
    refine x_iload_n cx dX4_loadInstruction_14 rfl rfl ?_
    refine x_if_lt_f (tgt := 69) cx dX4_loadInstruction_15 (by decide) (nI_pos (by omega)) ?_
    refine x_aload_n cx dX4_loadInstruction_18 rfl rfl ?_
    refine x_getX0 cx 0 (by decide) (fl_X4_50 cx) (zok_c hi (by decide)) (zix_c hi (by decide)) (pcO hi) rfl dX4_loadInstruction_19 ?_
    refine x_iload_n cx dX4_loadInstruction_22 rfl rfl ?_
    refine x_aald (t := k) cx 2 rfl (zok_c hi (by decide)) (zix_c hi (by decide)) (pcA hi) rfl (by omega) (by decide) rfl dX4_loadInstruction_23 ?_
    refine x_getX1 cx 0 (by decide) (fl_X4_54 cx) (zok_c hi (by omega)) (zix_c hi (by omega)) (pcC hi _) rfl dX4_loadInstruction_24 ?_
    refine x_eqi (show _ = nI (zLen Y k) from hc.1) ?_
    refine x_istore (ls' := [_, _, _, _, _, _]) cx dX4_loadInstruction_27 (by decide) rfl ?_
    refine x_iload_n cx dX4_loadInstruction_29 rfl rfl ?_
    refine x_iload_n cx dX4_loadInstruction_30 rfl rfl ?_
    refine x_icmp_ne (tgt := 38) cx dX4_loadInstruction_31 (by decide) (fun hb31 => ?_) (fun hb31 => ?_)
    · refine x_iload cx dX4_loadInstruction_38 rfl ?_
      refine x_SNi (rest := []) cx (c_X6_allOnes l G _ _ _) (zG0 zt301) (ml_X4_59 cx) zt6 zt300 ndX6_allOnes ⟨Nat.le_of_ble_eq_true rfl, Nat.le_of_ble_eq_true rfl⟩ rfl rfl (Nat.le_of_ble_eq_true rfl) dX4_loadInstruction_40 ⟨Nat.le_of_ble_eq_true rfl, Nat.le_of_ble_eq_true rfl⟩ ?_
      refine x_istore (ls' := [_, _, _, _, _, _]) cx dX4_loadInstruction_43 (by decide) rfl ?_
      refine x_aload_n cx dX4_loadInstruction_45 rfl rfl ?_
      refine x_iload cx dX4_loadInstruction_46 rfl ?_
      refine x_iload cx dX4_loadInstruction_48 rfl ?_
      refine x_iload_n cx dX4_loadInstruction_50 rfl rfl ?_
      refine x_if_ne (tgt := 58) cx dX4_loadInstruction_51 (by decide) (fun hb51 => ?_) (fun hb51 => ?_)
      · refine x_iconst (v := 0) cx dX4_loadInstruction_58 (by decide) ?_
        refine x_Si (rest := []) cx (c_X4_shiftThrough l G _ i hi _ hY _ (zLen Y k) (Nat.le_trans hc.2.2 (by decide)) 0 (Or.inl rfl)) gS_X4_63 ndX4_shiftThrough ⟨Nat.le_of_ble_eq_true rfl, Nat.le_of_ble_eq_true rfl⟩ rfl rfl (Nat.le_of_ble_eq_true rfl) dX4_loadInstruction_59 ⟨Nat.le_of_ble_eq_true rfl, Nat.le_of_ble_eq_true rfl⟩ ?_
        refine x_pop cx dX4_loadInstruction_62 rfl ?_
        refine x_iinc (ls' := [_, _, _, _, _, _]) cx dX4_loadInstruction_63 rfl rfl (by decide) rfl ?_
        refine x_goto (tgt := 14) cx dX4_loadInstruction_66 (by decide) ?_
        have hcd : zCod q x Y k = zOnes (nI (zLen Y k)) := by unfold zCod; rw [if_neg (fun z => hb31 (by rw [z])), hc.1]; rfl
        have hla : zLa k = 0 := by unfold zLa; rw [if_neg (fun z => hb51 (by rw [z]; rfl))]
        rw [nI_dec]
        refine x_up (X' := zThX (zCod q x Y k) (zLen Y k) (zLa k) (zLen Y k) Y) (by rw [hcd, hla]) ?_
        exact x_ls rfl (by simp [lo]) (ih _ (by omega) (zThX_WF hY _) (by rw [num_thX]; exact hn) hz)
      · refine x_iconst (v := 1) cx dX4_loadInstruction_54 (by decide) ?_
        refine x_goto (tgt := 59) cx dX4_loadInstruction_55 (by decide) ?_
        refine x_Si (rest := []) cx (c_X4_shiftThrough l G _ i hi _ hY _ (zLen Y k) (Nat.le_trans hc.2.2 (by decide)) 1 (Or.inr rfl)) gS_X4_63 ndX4_shiftThrough ⟨Nat.le_of_ble_eq_true rfl, Nat.le_of_ble_eq_true rfl⟩ rfl rfl (Nat.le_of_ble_eq_true rfl) dX4_loadInstruction_59 ⟨Nat.le_of_ble_eq_true rfl, Nat.le_of_ble_eq_true rfl⟩ ?_
        refine x_pop cx dX4_loadInstruction_62 rfl ?_
        refine x_iinc (ls' := [_, _, _, _, _, _]) cx dX4_loadInstruction_63 rfl rfl (by decide) rfl ?_
        refine x_goto (tgt := 14) cx dX4_loadInstruction_66 (by decide) ?_
        have hcd : zCod q x Y k = zOnes (nI (zLen Y k)) := by unfold zCod; rw [if_neg (fun z => hb31 (by rw [z])), hc.1]; rfl
        have hla : zLa k = 1 := by unfold zLa; rw [if_pos ((nI_eq (b := 0) (by omega) (by decide)).mp hb51)]
        rw [nI_dec]
        refine x_up (X' := zThX (zCod q x Y k) (zLen Y k) (zLa k) (zLen Y k) Y) (by rw [hcd, hla]) ?_
        exact x_ls rfl (by simp [lo]) (ih _ (by omega) (zThX_WF hY _) (by rw [num_thX]; exact hn) hz)
    · refine x_iload_n cx dX4_loadInstruction_34 rfl rfl ?_
      refine x_goto (tgt := 43) cx dX4_loadInstruction_35 (by decide) ?_
      refine x_istore (ls' := [_, _, _, _, _, _]) cx dX4_loadInstruction_43 (by decide) rfl ?_
      refine x_aload_n cx dX4_loadInstruction_45 rfl rfl ?_
      refine x_iload cx dX4_loadInstruction_46 rfl ?_
      refine x_iload cx dX4_loadInstruction_48 rfl ?_
      refine x_iload_n cx dX4_loadInstruction_50 rfl rfl ?_
      refine x_if_ne (tgt := 58) cx dX4_loadInstruction_51 (by decide) (fun hb51 => ?_) (fun hb51 => ?_)
      · refine x_iconst (v := 0) cx dX4_loadInstruction_58 (by decide) ?_
        refine x_Si (rest := []) cx (c_X4_shiftThrough l G _ i hi _ hY _ (zLen Y k) (Nat.le_trans hc.2.2 (by decide)) 0 (Or.inl rfl)) gS_X4_63 ndX4_shiftThrough ⟨Nat.le_of_ble_eq_true rfl, Nat.le_of_ble_eq_true rfl⟩ rfl rfl (Nat.le_of_ble_eq_true rfl) dX4_loadInstruction_59 ⟨Nat.le_of_ble_eq_true rfl, Nat.le_of_ble_eq_true rfl⟩ ?_
        refine x_pop cx dX4_loadInstruction_62 rfl ?_
        refine x_iinc (ls' := [_, _, _, _, _, _]) cx dX4_loadInstruction_63 rfl rfl (by decide) rfl ?_
        refine x_goto (tgt := 14) cx dX4_loadInstruction_66 (by decide) ?_
        have hcd : zCod q x Y k = x := by unfold zCod; rw [if_pos ((nI_eq (by omega) (by omega)).mp hb31)]
        have hla : zLa k = 0 := by unfold zLa; rw [if_neg (fun z => hb51 (by rw [z]; rfl))]
        rw [nI_dec]
        refine x_up (X' := zThX (zCod q x Y k) (zLen Y k) (zLa k) (zLen Y k) Y) (by rw [hcd, hla]) ?_
        exact x_ls rfl (by simp [lo]) (ih _ (by omega) (zThX_WF hY _) (by rw [num_thX]; exact hn) hz)
      · refine x_iconst (v := 1) cx dX4_loadInstruction_54 (by decide) ?_
        refine x_goto (tgt := 59) cx dX4_loadInstruction_55 (by decide) ?_
        refine x_Si (rest := []) cx (c_X4_shiftThrough l G _ i hi _ hY _ (zLen Y k) (Nat.le_trans hc.2.2 (by decide)) 1 (Or.inr rfl)) gS_X4_63 ndX4_shiftThrough ⟨Nat.le_of_ble_eq_true rfl, Nat.le_of_ble_eq_true rfl⟩ rfl rfl (Nat.le_of_ble_eq_true rfl) dX4_loadInstruction_59 ⟨Nat.le_of_ble_eq_true rfl, Nat.le_of_ble_eq_true rfl⟩ ?_
        refine x_pop cx dX4_loadInstruction_62 rfl ?_
        refine x_iinc (ls' := [_, _, _, _, _, _]) cx dX4_loadInstruction_63 rfl rfl (by decide) rfl ?_
        refine x_goto (tgt := 14) cx dX4_loadInstruction_66 (by decide) ?_
        have hcd : zCod q x Y k = x := by unfold zCod; rw [if_pos ((nI_eq (by omega) (by omega)).mp hb31)]
        have hla : zLa k = 1 := by unfold zLa; rw [if_pos ((nI_eq (b := 0) (by omega) (by decide)).mp hb51)]
        rw [nI_dec]
        refine x_up (X' := zThX (zCod q x Y k) (zLen Y k) (zLa k) (zLen Y k) Y) (by rw [hcd, hla]) ?_
        exact x_ls rfl (by simp [lo]) (ih _ (by omega) (zThX_WF hY _) (by rw [num_thX]; exact hn) hz)

set_option maxHeartbeats 4000000 in
set_option maxRecDepth 100000 in
theorem c_X4_exchangeData (l : Launch) (G : zG) (S : zS) (i : Nat) (hi : i < 7) (X : zCV) (hW : zWF X) (q : Nat) (hq : q < num X) (x : Int32) : Met l yX4_exchangeData (zws yX4_exchangeData cX4_exchangeData 7 (some .int)) (zrm 6 0 0 135) (zPc G 68 (pic G (up S i X)) [.ref (zad G i 0), .int (nI q), .int x]) (zQi G 68 (zExchO X q x) (pic G (up S i (zExch X q x)))) 0 0 (zA G) := by
  refine zMet npX4_exchangeData rfl (Nat.le_of_ble_eq_true rfl) ?_
  intro p e s m args below meth cd hargs cx hr hin0
  have cx : Cx p s m args meth cd cX4_exchangeData 7 RX4 G := cx
  refine x_ls (ls' := [some (.ref (zad G i 0)), some (.int (nI q)), some (.int x), none, none, none, none]) rfl (fun _ h => h) ?_
  have h6 := hW.n6
  refine x_iconst (v := 0) cx dX4_exchangeData_0 (by decide) ?_
  refine x_istore_n (ls' := [_, _, _, _, _, _, _]) cx dX4_exchangeData_1 rfl (by decide) rfl ?_
  refine x_aload_n cx dX4_exchangeData_2 rfl rfl ?_
  refine x_iconst (v := 4) cx dX4_exchangeData_3 (by decide) ?_
  refine x_Si (rest := []) cx (c_X4_goTo l G _ i hi _ hW 4 (by decide)) gS_X4_29 ndX4_goTo ⟨Nat.le_of_ble_eq_true rfl, Nat.le_of_ble_eq_true rfl⟩ rfl rfl (Nat.le_of_ble_eq_true rfl) dX4_exchangeData_4 ⟨Nat.le_of_ble_eq_true rfl, Nat.le_of_ble_eq_true rfl⟩ ?_
  refine x_pop cx dX4_exchangeData_7 rfl ?_
  refine x_aload_n cx dX4_exchangeData_8 rfl rfl ?_
  refine x_getX0 cx 1 (by decide) (fl_X4_47 cx) (zok_c hi (by decide)) (zix_c hi (by decide)) (pcO hi) rfl dX4_exchangeData_9 ?_
  refine x_eqi (show _ = nI (num X) by rw [← num_go X 4]; exact (zGo_WF hW).sz) ?_
  refine x_iconst (v := 1) cx dX4_exchangeData_12 (by decide) ?_
  refine x_isub cx dX4_exchangeData_13 ?_
  refine x_istore (ls' := [_, _, _, _, _, _, _]) cx dX4_exchangeData_14 (by decide) rfl ?_
  suffices K : ∀ (k : Nat) (o : Int32) (Y : zCV), k ≤ num X → zWF Y → num Y = num X → zExX q x k Y = zExX q x (num X) (zGo X 4) → zExO q x k o Y = zExchO X q x → Xh p l e _ s m args below meth cd 7 G _ 0 0 68 (pic G (up S i Y)) 16 [some (.ref (zad G i 0)), some (.int (nI q)), some (.int x), some (.int o), some (.int (nI k - 1)), none, none] [] from K _ _ _ (Nat.le_refl _) (zGo_WF hW) (num_go X 4) rfl rfl
  intro k
  induction k with
  | zero =>
    intro o Y hk hY hn hz ho
    have hz : Y = zExX q x (num X) (zGo X 4) := hz
    refine x_iload cx dX4_exchangeData_16 rfl ?_
    refine x_if_lt_t (tgt := 77) cx dX4_exchangeData_18 (by decide) (by decide) ?_
    refine x_aload_n cx dX4_exchangeData_77 rfl rfl ?_
    refine x_iconst (v := 1) cx dX4_exchangeData_78 (by decide) ?_
    refine x_Si (rest := []) cx (c_X4_goTo l G _ i hi _ hY 1 (by decide)) gS_X4_29 ndX4_goTo ⟨Nat.le_of_ble_eq_true rfl, Nat.le_of_ble_eq_true rfl⟩ rfl rfl (Nat.le_of_ble_eq_true rfl) dX4_exchangeData_79 ⟨Nat.le_of_ble_eq_true rfl, Nat.le_of_ble_eq_true rfl⟩ ?_
    refine x_pop cx dX4_exchangeData_82 rfl ?_
    refine x_iload_n cx dX4_exchangeData_83 rfl rfl ?_
    exact x_iret cx hr ho (by intro _ _ _ _; unfold zExch; rw [← hz]) dX4_exchangeData_84
  | succ k ih =>
    intro o Y hk hY hn hz ho
    rw [nI_pred]
    have hc := cWF_bits (hY.chip (t := k) (by omega))
    refine x_iload cx dX4_exchangeData_16 rfl ?_
    refine x_if_lt_f (tgt := 77) cx dX4_exchangeData_18 (by decide) (nI_pos (by omega)) ?_
    refine x_iload cx dX4_exchangeData_21 rfl ?_
    refine x_iload_n cx dX4_exchangeData_23 rfl rfl ?_
    refine x_icmp_ne (tgt := 31) cx dX4_exchangeData_24 (by decide) (fun hb24 => ?_) (fun hb24 => ?_)
    · refine x_iconst (v := 0) cx dX4_exchangeData_31 (by decide) ?_
      refine x_istore (ls' := [_, _, _, _, _, _, _]) cx dX4_exchangeData_32 (by decide) rfl ?_
      refine x_aload_n cx dX4_exchangeData_34 rfl rfl ?_
      refine x_iload cx dX4_exchangeData_35 rfl ?_
      refine x_aload_n cx dX4_exchangeData_37 rfl rfl ?_
      refine x_getX0 cx 0 (by decide) (fl_X4_50 cx) (zok_c hi (by decide)) (zix_c hi (by decide)) (pcO hi) rfl dX4_exchangeData_38 ?_
      refine x_iload cx dX4_exchangeData_41 rfl ?_
      refine x_aald (t := k) cx 2 rfl (zok_c hi (by decide)) (zix_c hi (by decide)) (pcA hi) rfl (by omega) (by decide) rfl dX4_exchangeData_43 ?_
      refine x_chip k ?_
      refine x_Vi (C := RX1) (T := TX1) (N := 9) (rest := [_, _]) cx (c_X1_dataBits l G _ i k hi (by omega) _ _) gV_X4_67 ndX1_dataBits rfl ⟨Nat.le_of_ble_eq_true rfl, Nat.le_of_ble_eq_true rfl⟩ (zok_c hi (by omega)) (zix_c hi (by omega)) (pcC hi _) rfl rfl rfl (Nat.le_of_ble_eq_true rfl) dX4_exchangeData_44 ⟨Nat.le_of_ble_eq_true rfl, Nat.le_of_ble_eq_true rfl⟩ ?_
      refine x_unchip ?_
      refine x_eqi (show _ = nI (zBtN Y k) from hc.1) ?_
      refine x_iload cx dX4_exchangeData_47 rfl ?_
      refine x_if_ne (tgt := 56) cx dX4_exchangeData_49 (by decide) (fun hb49 => ?_) (fun hb49 => ?_)
      · refine x_iconst (v := 0) cx dX4_exchangeData_56 (by decide) ?_
        refine x_Si (rest := []) cx (c_X4_shiftThrough l G _ i hi _ hY _ (zBtN Y k) hc.2.2 0 (Or.inl rfl)) gS_X4_63 ndX4_shiftThrough ⟨Nat.le_of_ble_eq_true rfl, Nat.le_of_ble_eq_true rfl⟩ rfl rfl (Nat.le_of_ble_eq_true rfl) dX4_exchangeData_57 ⟨Nat.le_of_ble_eq_true rfl, Nat.le_of_ble_eq_true rfl⟩ ?_
        refine x_istore (ls' := [_, _, _, _, _, _, _]) cx dX4_exchangeData_60 (by decide) rfl ?_
        refine x_iload cx dX4_exchangeData_62 rfl ?_
        refine x_iload_n cx dX4_exchangeData_64 rfl rfl ?_
        refine x_icmp_ne_t (tgt := 71) cx dX4_exchangeData_65 (by decide) hb24 ?_
        refine x_iinc (ls' := [_, _, _, _, _, _, _]) cx dX4_exchangeData_71 rfl rfl (by decide) rfl ?_
        refine x_goto (tgt := 16) cx dX4_exchangeData_74 (by decide) ?_
        have hqk : ¬ k = q := fun z => hb24 (by rw [z])
        have hcd : zDat q x k = 0 := if_neg hqk
        have hof : ∀ u : Int32, (if k = q then u else o) = o := fun u => if_neg hqk
        have hla : zLa k = 0 := by unfold zLa; rw [if_neg (fun z => hb49 (by rw [z]; rfl))]
        rw [nI_dec]
        refine x_up (X' := zThX (zDat q x k) (zBtN Y k) (zLa k) (zBtN Y k) Y) (by rw [hcd, hla]) ?_
        have ho2 : zExO q x k (if k = q then zThO (zDat q x k) (zBtN Y k) (zLa k) (zBtN Y k) Y else o) (zThX (zDat q x k) (zBtN Y k) (zLa k) (zBtN Y k) Y) = zExchO X q x := ho
        have h9 := ih _ _ (by omega) (zThX_WF hY _) (by rw [num_thX]; exact hn) hz ho2
        rw [hof] at h9
        exact x_ls rfl (by simp [lo, hcd, hla]) h9
      · refine x_iconst (v := 1) cx dX4_exchangeData_52 (by decide) ?_
        refine x_goto (tgt := 57) cx dX4_exchangeData_53 (by decide) ?_
        refine x_Si (rest := []) cx (c_X4_shiftThrough l G _ i hi _ hY _ (zBtN Y k) hc.2.2 1 (Or.inr rfl)) gS_X4_63 ndX4_shiftThrough ⟨Nat.le_of_ble_eq_true rfl, Nat.le_of_ble_eq_true rfl⟩ rfl rfl (Nat.le_of_ble_eq_true rfl) dX4_exchangeData_57 ⟨Nat.le_of_ble_eq_true rfl, Nat.le_of_ble_eq_true rfl⟩ ?_
        refine x_istore (ls' := [_, _, _, _, _, _, _]) cx dX4_exchangeData_60 (by decide) rfl ?_
        refine x_iload cx dX4_exchangeData_62 rfl ?_
        refine x_iload_n cx dX4_exchangeData_64 rfl rfl ?_
        refine x_icmp_ne_t (tgt := 71) cx dX4_exchangeData_65 (by decide) hb24 ?_
        refine x_iinc (ls' := [_, _, _, _, _, _, _]) cx dX4_exchangeData_71 rfl rfl (by decide) rfl ?_
        refine x_goto (tgt := 16) cx dX4_exchangeData_74 (by decide) ?_
        have hqk : ¬ k = q := fun z => hb24 (by rw [z])
        have hcd : zDat q x k = 0 := if_neg hqk
        have hof : ∀ u : Int32, (if k = q then u else o) = o := fun u => if_neg hqk
        have hla : zLa k = 1 := by unfold zLa; rw [if_pos ((nI_eq (b := 0) (by omega) (by decide)).mp hb49)]
        rw [nI_dec]
        refine x_up (X' := zThX (zDat q x k) (zBtN Y k) (zLa k) (zBtN Y k) Y) (by rw [hcd, hla]) ?_
        have ho2 : zExO q x k (if k = q then zThO (zDat q x k) (zBtN Y k) (zLa k) (zBtN Y k) Y else o) (zThX (zDat q x k) (zBtN Y k) (zLa k) (zBtN Y k) Y) = zExchO X q x := ho
        have h9 := ih _ _ (by omega) (zThX_WF hY _) (by rw [num_thX]; exact hn) hz ho2
        rw [hof] at h9
        exact x_ls rfl (by simp [lo, hcd, hla]) h9
    · refine x_iload_n cx dX4_exchangeData_27 rfl rfl ?_
      refine x_goto (tgt := 32) cx dX4_exchangeData_28 (by decide) ?_
      refine x_istore (ls' := [_, _, _, _, _, _, _]) cx dX4_exchangeData_32 (by decide) rfl ?_
      refine x_aload_n cx dX4_exchangeData_34 rfl rfl ?_
      refine x_iload cx dX4_exchangeData_35 rfl ?_
      refine x_aload_n cx dX4_exchangeData_37 rfl rfl ?_
      refine x_getX0 cx 0 (by decide) (fl_X4_50 cx) (zok_c hi (by decide)) (zix_c hi (by decide)) (pcO hi) rfl dX4_exchangeData_38 ?_
      refine x_iload cx dX4_exchangeData_41 rfl ?_
      refine x_aald (t := k) cx 2 rfl (zok_c hi (by decide)) (zix_c hi (by decide)) (pcA hi) rfl (by omega) (by decide) rfl dX4_exchangeData_43 ?_
      refine x_chip k ?_
      refine x_Vi (C := RX1) (T := TX1) (N := 9) (rest := [_, _]) cx (c_X1_dataBits l G _ i k hi (by omega) _ _) gV_X4_67 ndX1_dataBits rfl ⟨Nat.le_of_ble_eq_true rfl, Nat.le_of_ble_eq_true rfl⟩ (zok_c hi (by omega)) (zix_c hi (by omega)) (pcC hi _) rfl rfl rfl (Nat.le_of_ble_eq_true rfl) dX4_exchangeData_44 ⟨Nat.le_of_ble_eq_true rfl, Nat.le_of_ble_eq_true rfl⟩ ?_
      refine x_unchip ?_
      refine x_eqi (show _ = nI (zBtN Y k) from hc.1) ?_
      refine x_iload cx dX4_exchangeData_47 rfl ?_
      refine x_if_ne (tgt := 56) cx dX4_exchangeData_49 (by decide) (fun hb49 => ?_) (fun hb49 => ?_)
      · refine x_iconst (v := 0) cx dX4_exchangeData_56 (by decide) ?_
        refine x_Si (rest := []) cx (c_X4_shiftThrough l G _ i hi _ hY _ (zBtN Y k) hc.2.2 0 (Or.inl rfl)) gS_X4_63 ndX4_shiftThrough ⟨Nat.le_of_ble_eq_true rfl, Nat.le_of_ble_eq_true rfl⟩ rfl rfl (Nat.le_of_ble_eq_true rfl) dX4_exchangeData_57 ⟨Nat.le_of_ble_eq_true rfl, Nat.le_of_ble_eq_true rfl⟩ ?_
        refine x_istore (ls' := [_, _, _, _, _, _, _]) cx dX4_exchangeData_60 (by decide) rfl ?_
        refine x_iload cx dX4_exchangeData_62 rfl ?_
        refine x_iload_n cx dX4_exchangeData_64 rfl rfl ?_
        refine x_icmp_ne_f (tgt := 71) cx dX4_exchangeData_65 (by decide) hb24 ?_
        refine x_iload cx dX4_exchangeData_68 rfl ?_
        refine x_istore_n (ls' := [_, _, _, _, _, _, _]) cx dX4_exchangeData_70 rfl (by decide) rfl ?_
        refine x_iinc (ls' := [_, _, _, _, _, _, _]) cx dX4_exchangeData_71 rfl rfl (by decide) rfl ?_
        refine x_goto (tgt := 16) cx dX4_exchangeData_74 (by decide) ?_
        have hqk : k = q := (nI_eq (by omega) (by omega)).mp hb24
        have hcd : zDat q x k = x := if_pos hqk
        have hof : ∀ u : Int32, (if k = q then u else o) = u := fun u => if_pos hqk
        have hla : zLa k = 0 := by unfold zLa; rw [if_neg (fun z => hb49 (by rw [z]; rfl))]
        rw [nI_dec]
        refine x_up (X' := zThX (zDat q x k) (zBtN Y k) (zLa k) (zBtN Y k) Y) (by rw [hcd, hla]) ?_
        have ho2 : zExO q x k (if k = q then zThO (zDat q x k) (zBtN Y k) (zLa k) (zBtN Y k) Y else o) (zThX (zDat q x k) (zBtN Y k) (zLa k) (zBtN Y k) Y) = zExchO X q x := ho
        have h9 := ih _ _ (by omega) (zThX_WF hY _) (by rw [num_thX]; exact hn) hz ho2
        rw [hof] at h9
        exact x_ls rfl (by simp [lo, hcd, hla]) h9
      · refine x_iconst (v := 1) cx dX4_exchangeData_52 (by decide) ?_
        refine x_goto (tgt := 57) cx dX4_exchangeData_53 (by decide) ?_
        refine x_Si (rest := []) cx (c_X4_shiftThrough l G _ i hi _ hY _ (zBtN Y k) hc.2.2 1 (Or.inr rfl)) gS_X4_63 ndX4_shiftThrough ⟨Nat.le_of_ble_eq_true rfl, Nat.le_of_ble_eq_true rfl⟩ rfl rfl (Nat.le_of_ble_eq_true rfl) dX4_exchangeData_57 ⟨Nat.le_of_ble_eq_true rfl, Nat.le_of_ble_eq_true rfl⟩ ?_
        refine x_istore (ls' := [_, _, _, _, _, _, _]) cx dX4_exchangeData_60 (by decide) rfl ?_
        refine x_iload cx dX4_exchangeData_62 rfl ?_
        refine x_iload_n cx dX4_exchangeData_64 rfl rfl ?_
        refine x_icmp_ne_f (tgt := 71) cx dX4_exchangeData_65 (by decide) hb24 ?_
        refine x_iload cx dX4_exchangeData_68 rfl ?_
        refine x_istore_n (ls' := [_, _, _, _, _, _, _]) cx dX4_exchangeData_70 rfl (by decide) rfl ?_
        refine x_iinc (ls' := [_, _, _, _, _, _, _]) cx dX4_exchangeData_71 rfl rfl (by decide) rfl ?_
        refine x_goto (tgt := 16) cx dX4_exchangeData_74 (by decide) ?_
        have hqk : k = q := (nI_eq (by omega) (by omega)).mp hb24
        have hcd : zDat q x k = x := if_pos hqk
        have hof : ∀ u : Int32, (if k = q then u else o) = u := fun u => if_pos hqk
        have hla : zLa k = 1 := by unfold zLa; rw [if_pos ((nI_eq (b := 0) (by omega) (by decide)).mp hb49)]
        rw [nI_dec]
        refine x_up (X' := zThX (zDat q x k) (zBtN Y k) (zLa k) (zBtN Y k) Y) (by rw [hcd, hla]) ?_
        have ho2 : zExO q x k (if k = q then zThO (zDat q x k) (zBtN Y k) (zLa k) (zBtN Y k) Y else o) (zThX (zDat q x k) (zBtN Y k) (zLa k) (zBtN Y k) Y) = zExchO X q x := ho
        have h9 := ih _ _ (by omega) (zThX_WF hY _) (by rw [num_thX]; exact hn) hz ho2
        rw [hof] at h9
        exact x_ls rfl (by simp [lo, hcd, hla]) h9

set_option maxHeartbeats 4000000 in
set_option maxRecDepth 100000 in
theorem c_X4_clockItem (l : Launch) (G : zG) (S : zS) (i : Nat) (hi : i < 7) (X : zCV) (hW : zWF X) (c : Int32) : Met l yX4_clockItem (zws yX4_clockItem cX4_clockItem 4 none) (zrm 5 0 0 109) (zPc G 68 (pic G (up S i X)) [.ref (zad G i 0), .int c]) (zQv G 68 (pic G (up S i (zTick X (zCm c) (zCi c))))) 0 0 (zA G) := by
  refine zMet npX4_clockItem rfl (Nat.le_of_ble_eq_true rfl) ?_
  intro p e s m args below meth cd hargs cx hr hin0
  have cx : Cx p s m args meth cd cX4_clockItem 4 RX4 G := cx
  refine x_ls (ls' := [some (.ref (zad G i 0)), some (.int c), none, none]) rfl (fun _ h => h) ?_
  refine x_iload_n cx dX4_clockItem_0 rfl rfl ?_
  refine x_bipush (v := 97) cx dX4_clockItem_1 (by decide) ?_
  refine x_icmp_eq (tgt := 12) cx dX4_clockItem_3 (by decide) (fun hb3 => ?_) (fun hb3 => ?_)
  · refine x_iconst (v := 1) cx dX4_clockItem_12 (by decide) ?_
    refine x_goto (tgt := 17) cx dX4_clockItem_13 (by decide) ?_
    refine x_istore_n (ls' := [_, _, _, _]) cx dX4_clockItem_17 rfl (by decide) rfl ?_
    refine x_iload_n cx dX4_clockItem_18 rfl rfl ?_
    refine x_bipush (v := 49) cx dX4_clockItem_19 (by decide) ?_
    refine x_icmp_eq (tgt := 30) cx dX4_clockItem_21 (by decide) (fun hb21 => ?_) (fun hb21 => ?_)
    · refine x_iconst (v := 1) cx dX4_clockItem_30 (by decide) ?_
      refine x_goto (tgt := 35) cx dX4_clockItem_31 (by decide) ?_
      refine x_istore_n (ls' := [_, _, _, _]) cx dX4_clockItem_35 rfl (by decide) rfl ?_
      refine x_aload_n cx dX4_clockItem_36 rfl rfl ?_
      refine x_iload_n cx dX4_clockItem_37 rfl rfl ?_
      refine x_iload_n cx dX4_clockItem_38 rfl rfl ?_
      refine x_Vi (C := RX0) (T := TX0) (N := 6) (rest := []) cx (c_X0_tick l G _ i hi _ hW _ _) gV_X4_24 ndX0_tick rfl ⟨Nat.le_of_ble_eq_true rfl, Nat.le_of_ble_eq_true rfl⟩ (zok_c hi (by decide)) (zix_c hi (by decide)) (pcO hi) rfl rfl rfl (Nat.le_of_ble_eq_true rfl) dX4_clockItem_39 ⟨Nat.le_of_ble_eq_true rfl, Nat.le_of_ble_eq_true rfl⟩ ?_
      refine x_pop cx dX4_clockItem_42 rfl ?_
      exact x_vret cx hr (by have h1 : zCm c = 1 := (by unfold zCm; rw [if_pos hb3]); have h2 : zCi c = 1 := (by unfold zCi; rw [if_pos hb21]); intro _ _ _ _; rw [h1, h2]) dX4_clockItem_43
    · refine x_iload_n cx dX4_clockItem_24 rfl rfl ?_
      refine x_bipush (v := 98) cx dX4_clockItem_25 (by decide) ?_
      refine x_icmp_ne (tgt := 34) cx dX4_clockItem_27 (by decide) (fun hb27 => ?_) (fun hb27 => ?_)
      · refine x_iconst (v := 0) cx dX4_clockItem_34 (by decide) ?_
        refine x_istore_n (ls' := [_, _, _, _]) cx dX4_clockItem_35 rfl (by decide) rfl ?_
        refine x_aload_n cx dX4_clockItem_36 rfl rfl ?_
        refine x_iload_n cx dX4_clockItem_37 rfl rfl ?_
        refine x_iload_n cx dX4_clockItem_38 rfl rfl ?_
        refine x_Vi (C := RX0) (T := TX0) (N := 6) (rest := []) cx (c_X0_tick l G _ i hi _ hW _ _) gV_X4_24 ndX0_tick rfl ⟨Nat.le_of_ble_eq_true rfl, Nat.le_of_ble_eq_true rfl⟩ (zok_c hi (by decide)) (zix_c hi (by decide)) (pcO hi) rfl rfl rfl (Nat.le_of_ble_eq_true rfl) dX4_clockItem_39 ⟨Nat.le_of_ble_eq_true rfl, Nat.le_of_ble_eq_true rfl⟩ ?_
        refine x_pop cx dX4_clockItem_42 rfl ?_
        exact x_vret cx hr (by have h1 : zCm c = 1 := (by unfold zCm; rw [if_pos hb3]); have h2 : zCi c = 0 := (by unfold zCi; rw [if_neg hb21, if_neg hb27]); intro _ _ _ _; rw [h1, h2]) dX4_clockItem_43
      · refine x_iconst (v := 1) cx dX4_clockItem_30 (by decide) ?_
        refine x_goto (tgt := 35) cx dX4_clockItem_31 (by decide) ?_
        refine x_istore_n (ls' := [_, _, _, _]) cx dX4_clockItem_35 rfl (by decide) rfl ?_
        refine x_aload_n cx dX4_clockItem_36 rfl rfl ?_
        refine x_iload_n cx dX4_clockItem_37 rfl rfl ?_
        refine x_iload_n cx dX4_clockItem_38 rfl rfl ?_
        refine x_Vi (C := RX0) (T := TX0) (N := 6) (rest := []) cx (c_X0_tick l G _ i hi _ hW _ _) gV_X4_24 ndX0_tick rfl ⟨Nat.le_of_ble_eq_true rfl, Nat.le_of_ble_eq_true rfl⟩ (zok_c hi (by decide)) (zix_c hi (by decide)) (pcO hi) rfl rfl rfl (Nat.le_of_ble_eq_true rfl) dX4_clockItem_39 ⟨Nat.le_of_ble_eq_true rfl, Nat.le_of_ble_eq_true rfl⟩ ?_
        refine x_pop cx dX4_clockItem_42 rfl ?_
        exact x_vret cx hr (by have h1 : zCm c = 1 := (by unfold zCm; rw [if_pos hb3]); have h2 : zCi c = 1 := (by unfold zCi; rw [if_neg hb21, if_pos hb27]); intro _ _ _ _; rw [h1, h2]) dX4_clockItem_43
  · refine x_iload_n cx dX4_clockItem_6 rfl rfl ?_
    refine x_bipush (v := 98) cx dX4_clockItem_7 (by decide) ?_
    refine x_icmp_ne (tgt := 16) cx dX4_clockItem_9 (by decide) (fun hb9 => ?_) (fun hb9 => ?_)
    · refine x_iconst (v := 0) cx dX4_clockItem_16 (by decide) ?_
      refine x_istore_n (ls' := [_, _, _, _]) cx dX4_clockItem_17 rfl (by decide) rfl ?_
      refine x_iload_n cx dX4_clockItem_18 rfl rfl ?_
      refine x_bipush (v := 49) cx dX4_clockItem_19 (by decide) ?_
      refine x_icmp_eq (tgt := 30) cx dX4_clockItem_21 (by decide) (fun hb21 => ?_) (fun hb21 => ?_)
      · refine x_iconst (v := 1) cx dX4_clockItem_30 (by decide) ?_
        refine x_goto (tgt := 35) cx dX4_clockItem_31 (by decide) ?_
        refine x_istore_n (ls' := [_, _, _, _]) cx dX4_clockItem_35 rfl (by decide) rfl ?_
        refine x_aload_n cx dX4_clockItem_36 rfl rfl ?_
        refine x_iload_n cx dX4_clockItem_37 rfl rfl ?_
        refine x_iload_n cx dX4_clockItem_38 rfl rfl ?_
        refine x_Vi (C := RX0) (T := TX0) (N := 6) (rest := []) cx (c_X0_tick l G _ i hi _ hW _ _) gV_X4_24 ndX0_tick rfl ⟨Nat.le_of_ble_eq_true rfl, Nat.le_of_ble_eq_true rfl⟩ (zok_c hi (by decide)) (zix_c hi (by decide)) (pcO hi) rfl rfl rfl (Nat.le_of_ble_eq_true rfl) dX4_clockItem_39 ⟨Nat.le_of_ble_eq_true rfl, Nat.le_of_ble_eq_true rfl⟩ ?_
        refine x_pop cx dX4_clockItem_42 rfl ?_
        exact x_vret cx hr (by have h1 : zCm c = 0 := (by unfold zCm; rw [if_neg hb3, if_neg hb9]); have h2 : zCi c = 1 := (by unfold zCi; rw [if_pos hb21]); intro _ _ _ _; rw [h1, h2]) dX4_clockItem_43
      · refine x_iload_n cx dX4_clockItem_24 rfl rfl ?_
        refine x_bipush (v := 98) cx dX4_clockItem_25 (by decide) ?_
        refine x_icmp_ne (tgt := 34) cx dX4_clockItem_27 (by decide) (fun hb27 => ?_) (fun hb27 => ?_)
        · refine x_iconst (v := 0) cx dX4_clockItem_34 (by decide) ?_
          refine x_istore_n (ls' := [_, _, _, _]) cx dX4_clockItem_35 rfl (by decide) rfl ?_
          refine x_aload_n cx dX4_clockItem_36 rfl rfl ?_
          refine x_iload_n cx dX4_clockItem_37 rfl rfl ?_
          refine x_iload_n cx dX4_clockItem_38 rfl rfl ?_
          refine x_Vi (C := RX0) (T := TX0) (N := 6) (rest := []) cx (c_X0_tick l G _ i hi _ hW _ _) gV_X4_24 ndX0_tick rfl ⟨Nat.le_of_ble_eq_true rfl, Nat.le_of_ble_eq_true rfl⟩ (zok_c hi (by decide)) (zix_c hi (by decide)) (pcO hi) rfl rfl rfl (Nat.le_of_ble_eq_true rfl) dX4_clockItem_39 ⟨Nat.le_of_ble_eq_true rfl, Nat.le_of_ble_eq_true rfl⟩ ?_
          refine x_pop cx dX4_clockItem_42 rfl ?_
          exact x_vret cx hr (by have h1 : zCm c = 0 := (by unfold zCm; rw [if_neg hb3, if_neg hb9]); have h2 : zCi c = 0 := (by unfold zCi; rw [if_neg hb21, if_neg hb27]); intro _ _ _ _; rw [h1, h2]) dX4_clockItem_43
        · refine x_iconst (v := 1) cx dX4_clockItem_30 (by decide) ?_
          refine x_goto (tgt := 35) cx dX4_clockItem_31 (by decide) ?_
          refine x_istore_n (ls' := [_, _, _, _]) cx dX4_clockItem_35 rfl (by decide) rfl ?_
          refine x_aload_n cx dX4_clockItem_36 rfl rfl ?_
          refine x_iload_n cx dX4_clockItem_37 rfl rfl ?_
          refine x_iload_n cx dX4_clockItem_38 rfl rfl ?_
          refine x_Vi (C := RX0) (T := TX0) (N := 6) (rest := []) cx (c_X0_tick l G _ i hi _ hW _ _) gV_X4_24 ndX0_tick rfl ⟨Nat.le_of_ble_eq_true rfl, Nat.le_of_ble_eq_true rfl⟩ (zok_c hi (by decide)) (zix_c hi (by decide)) (pcO hi) rfl rfl rfl (Nat.le_of_ble_eq_true rfl) dX4_clockItem_39 ⟨Nat.le_of_ble_eq_true rfl, Nat.le_of_ble_eq_true rfl⟩ ?_
          refine x_pop cx dX4_clockItem_42 rfl ?_
          exact x_vret cx hr (by have h1 : zCm c = 0 := (by unfold zCm; rw [if_neg hb3, if_neg hb9]); have h2 : zCi c = 1 := (by unfold zCi; rw [if_neg hb21, if_pos hb27]); intro _ _ _ _; rw [h1, h2]) dX4_clockItem_43
    · refine x_iconst (v := 1) cx dX4_clockItem_12 (by decide) ?_
      refine x_goto (tgt := 17) cx dX4_clockItem_13 (by decide) ?_
      refine x_istore_n (ls' := [_, _, _, _]) cx dX4_clockItem_17 rfl (by decide) rfl ?_
      refine x_iload_n cx dX4_clockItem_18 rfl rfl ?_
      refine x_bipush (v := 49) cx dX4_clockItem_19 (by decide) ?_
      refine x_icmp_eq (tgt := 30) cx dX4_clockItem_21 (by decide) (fun hb21 => ?_) (fun hb21 => ?_)
      · refine x_iconst (v := 1) cx dX4_clockItem_30 (by decide) ?_
        refine x_goto (tgt := 35) cx dX4_clockItem_31 (by decide) ?_
        refine x_istore_n (ls' := [_, _, _, _]) cx dX4_clockItem_35 rfl (by decide) rfl ?_
        refine x_aload_n cx dX4_clockItem_36 rfl rfl ?_
        refine x_iload_n cx dX4_clockItem_37 rfl rfl ?_
        refine x_iload_n cx dX4_clockItem_38 rfl rfl ?_
        refine x_Vi (C := RX0) (T := TX0) (N := 6) (rest := []) cx (c_X0_tick l G _ i hi _ hW _ _) gV_X4_24 ndX0_tick rfl ⟨Nat.le_of_ble_eq_true rfl, Nat.le_of_ble_eq_true rfl⟩ (zok_c hi (by decide)) (zix_c hi (by decide)) (pcO hi) rfl rfl rfl (Nat.le_of_ble_eq_true rfl) dX4_clockItem_39 ⟨Nat.le_of_ble_eq_true rfl, Nat.le_of_ble_eq_true rfl⟩ ?_
        refine x_pop cx dX4_clockItem_42 rfl ?_
        exact x_vret cx hr (by have h1 : zCm c = 1 := (by unfold zCm; rw [if_neg hb3, if_pos hb9]); have h2 : zCi c = 1 := (by unfold zCi; rw [if_pos hb21]); intro _ _ _ _; rw [h1, h2]) dX4_clockItem_43
      · refine x_iload_n cx dX4_clockItem_24 rfl rfl ?_
        refine x_bipush (v := 98) cx dX4_clockItem_25 (by decide) ?_
        refine x_icmp_ne (tgt := 34) cx dX4_clockItem_27 (by decide) (fun hb27 => ?_) (fun hb27 => ?_)
        · refine x_iconst (v := 0) cx dX4_clockItem_34 (by decide) ?_
          refine x_istore_n (ls' := [_, _, _, _]) cx dX4_clockItem_35 rfl (by decide) rfl ?_
          refine x_aload_n cx dX4_clockItem_36 rfl rfl ?_
          refine x_iload_n cx dX4_clockItem_37 rfl rfl ?_
          refine x_iload_n cx dX4_clockItem_38 rfl rfl ?_
          refine x_Vi (C := RX0) (T := TX0) (N := 6) (rest := []) cx (c_X0_tick l G _ i hi _ hW _ _) gV_X4_24 ndX0_tick rfl ⟨Nat.le_of_ble_eq_true rfl, Nat.le_of_ble_eq_true rfl⟩ (zok_c hi (by decide)) (zix_c hi (by decide)) (pcO hi) rfl rfl rfl (Nat.le_of_ble_eq_true rfl) dX4_clockItem_39 ⟨Nat.le_of_ble_eq_true rfl, Nat.le_of_ble_eq_true rfl⟩ ?_
          refine x_pop cx dX4_clockItem_42 rfl ?_
          exact x_vret cx hr (by have h1 : zCm c = 1 := (by unfold zCm; rw [if_neg hb3, if_pos hb9]); have h2 : zCi c = 0 := (by unfold zCi; rw [if_neg hb21, if_neg hb27]); intro _ _ _ _; rw [h1, h2]) dX4_clockItem_43
        · refine x_iconst (v := 1) cx dX4_clockItem_30 (by decide) ?_
          refine x_goto (tgt := 35) cx dX4_clockItem_31 (by decide) ?_
          refine x_istore_n (ls' := [_, _, _, _]) cx dX4_clockItem_35 rfl (by decide) rfl ?_
          refine x_aload_n cx dX4_clockItem_36 rfl rfl ?_
          refine x_iload_n cx dX4_clockItem_37 rfl rfl ?_
          refine x_iload_n cx dX4_clockItem_38 rfl rfl ?_
          refine x_Vi (C := RX0) (T := TX0) (N := 6) (rest := []) cx (c_X0_tick l G _ i hi _ hW _ _) gV_X4_24 ndX0_tick rfl ⟨Nat.le_of_ble_eq_true rfl, Nat.le_of_ble_eq_true rfl⟩ (zok_c hi (by decide)) (zix_c hi (by decide)) (pcO hi) rfl rfl rfl (Nat.le_of_ble_eq_true rfl) dX4_clockItem_39 ⟨Nat.le_of_ble_eq_true rfl, Nat.le_of_ble_eq_true rfl⟩ ?_
          refine x_pop cx dX4_clockItem_42 rfl ?_
          exact x_vret cx hr (by have h1 : zCm c = 1 := (by unfold zCm; rw [if_neg hb3, if_pos hb9]); have h2 : zCi c = 1 := (by unfold zCi; rw [if_neg hb21, if_pos hb27]); intro _ _ _ _; rw [h1, h2]) dX4_clockItem_43

set_option maxHeartbeats 4000000 in
set_option maxRecDepth 100000 in
theorem c_X4_carryOut (l : Launch) (G : zG) (S : zS) (i : Nat) (hi : i < 7) (X : zCV) (hW : zWF X) (L : Nat) (hL : S 7 0 2 = nI L) (h80 : L ≤ 80) (hF : zFault (S 7 2) L = -4) : Met l yX4_carryOut (zws yX4_carryOut cX4_carryOut 7 (some .int)) (zrm 6 0 0 134) (zPc G 68 (pic G (up S i X)) [.ref (zad G i 0), .ref (zad G 7 3)]) (zQi G 68 (zRunO (S 7 2) L L 0 0 0 X) (pic G (up S i (zRunX (S 7 2) L L 0 X)))) 0 0 (zA G) := by
  refine zMet npX4_carryOut rfl (Nat.le_of_ble_eq_true rfl) ?_
  intro p e s m args below meth cd hargs cx hr hin0
  have cx : Cx p s m args meth cd cX4_carryOut 7 RX4 G := cx
  refine x_ls (ls' := [some (.ref (zad G i 0)), some (.ref (zad G 7 3)), none, none, none, none, none]) rfl (fun _ h => h) ?_
  refine x_iconst (v := 0) cx dX4_carryOut_0 (by decide) ?_
  refine x_istore_n (ls' := [_, _, _, _, _, _, _]) cx dX4_carryOut_1 rfl (by decide) rfl ?_
  refine x_iconst (v := 0) cx dX4_carryOut_2 (by decide) ?_
  refine x_istore_n (ls' := [_, _, _, _, _, _, _]) cx dX4_carryOut_3 rfl (by decide) rfl ?_
  refine x_iconst (v := 0) cx dX4_carryOut_4 (by decide) ?_
  refine x_istore (ls' := [_, _, _, _, _, _, _]) cx dX4_carryOut_5 (by decide) rfl ?_
  suffices K : ∀ (f k : Nat) (o : Int32) (q : Nat) (Y : zCV), L ≤ k + f → k ≤ L → q ≤ 30 → zWF Y → zFltL (S 7 2) (L - k) k 0 = -4 → zRunO (S 7 2) L f k o q Y = zRunO (S 7 2) L L 0 0 0 X → zRunX (S 7 2) L f k Y = zRunX (S 7 2) L L 0 X → Xh p l e _ s m args below meth cd 7 G _ 0 0 68 (pic G (up S i Y)) 7 [some (.ref (zad G i 0)), some (.ref (zad G 7 3)), some (.int o), some (.int (nI q)), some (.int (nI k)), none, none] [] from K L 0 0 0 X (by omega) (by omega) (by decide) hW hF rfl rfl
  intro f
  induction f with
  | zero =>
    intro k o q Y hf hk hq hY hflt ho hx
    refine x_iload cx dX4_carryOut_7 rfl ?_
    refine x_aload_n cx dX4_carryOut_9 rfl rfl ?_
    refine x_getX5 cx 1 (by decide) (fl_X4_71 cx) (zok_7 (by decide)) (by decide) (p_script' hi) rfl dX4_carryOut_10 ?_
    refine x_eqi hL ?_
    refine x_icmp_ge_t (tgt := 95) cx dX4_carryOut_13 (by decide) (nI_le (by omega) (by omega)) ?_
    refine x_iload_n cx dX4_carryOut_95 rfl rfl ?_
    exact x_iret cx hr ho (by intro _ _ _ _; rw [← hx]; rfl) dX4_carryOut_96
  | succ f ih =>
    intro k o q Y hf hk hq hY hflt ho hx
    by_cases hkl : k < L
    · obtain ⟨g, hg⟩ : ∃ g, L - k = g + 1 := ⟨L - k - 1, by omega⟩
      rw [hg] at hflt
      rw [zRunO] at ho
      rw [zRunX] at hx
      rw [if_pos hkl] at ho hx
      refine x_iload cx dX4_carryOut_7 rfl ?_
      refine x_aload_n cx dX4_carryOut_9 rfl rfl ?_
      refine x_getX5 cx 1 (by decide) (fl_X4_71 cx) (zok_7 (by decide)) (by decide) (p_script' hi) rfl dX4_carryOut_10 ?_
      refine x_eqi hL ?_
      refine x_icmp_ge_f (tgt := 95) cx dX4_carryOut_13 (by decide) (nI_ge hkl (by omega)) ?_
      refine x_aload_n cx dX4_carryOut_16 rfl rfl ?_
      refine x_getX5 cx 0 (by decide) (fl_X4_76 cx) (zok_7 (by decide)) (by decide) (p_script' hi) rfl dX4_carryOut_17 ?_
      refine x_iload cx dX4_carryOut_20 rfl ?_
      refine x_cald (t := k) cx (zok_7 (by decide)) (by decide) (p_chars' hi) rfl (by omega) (by decide) (tr_lt (by omega)) dX4_carryOut_22 ?_
      refine x_istore (ls' := [_, _, _, _, _, _, _]) cx dX4_carryOut_23 (by decide) rfl ?_
      refine x_iload cx dX4_carryOut_25 rfl ?_
      refine x_bipush (v := 63) cx dX4_carryOut_27 (by decide) ?_
      refine x_icmp_ne (tgt := 59) cx dX4_carryOut_29 (by decide) (fun hb29 => ?_) (fun hb29 => ?_)
      · refine x_iload cx dX4_carryOut_59 rfl ?_
        refine x_bipush (v := 64) cx dX4_carryOut_61 (by decide) ?_
        refine x_icmp_ne (tgt := 83) cx dX4_carryOut_63 (by decide) (fun hb63 => ?_) (fun hb63 => ?_)
        · refine x_aload_n cx dX4_carryOut_83 rfl rfl ?_
          refine x_iload cx dX4_carryOut_84 rfl ?_
          refine x_Sv (rest := []) cx (c_X4_clockItem l G _ i hi _ hY _) gS_X4_83 ndX4_clockItem ⟨Nat.le_of_ble_eq_true rfl, Nat.le_of_ble_eq_true rfl⟩ rfl rfl (Nat.le_of_ble_eq_true rfl) dX4_carryOut_86 ⟨Nat.le_of_ble_eq_true rfl, Nat.le_of_ble_eq_true rfl⟩ ?_
          refine x_iinc (v := nI (k + 1)) (ls' := [_, _, _, _, _, _, _]) cx dX4_carryOut_89 rfl (nI_inc _) (by decide) rfl ?_
          refine x_goto (tgt := 7) cx dX4_carryOut_92 (by decide) ?_
          rw [if_neg hb29, if_neg hb63] at ho hx
          have hfl2 := flt_ot (by omega) hflt hb63
          have hg2 : L - (k + 1) = g := by omega
          exact x_ls rfl (by simp [lo]) (ih (k + 1) _ q _ (by omega) (by omega) hq (zTick_WF hY) (by rw [hg2]; exact hfl2) ho hx)
        · obtain ⟨g2, hg2, hhx, hfl2⟩ := flt_at (by omega) hflt hb63
          have hxx := zHex_in hhx
          refine x_iinc (v := nI (k + 1)) (ls' := [_, _, _, _, _, _, _]) cx dX4_carryOut_66 rfl (nI_inc _) (by decide) rfl ?_
          refine x_aload_n cx dX4_carryOut_69 rfl rfl ?_
          refine x_aload_n cx dX4_carryOut_70 rfl rfl ?_
          refine x_iload cx dX4_carryOut_71 rfl ?_
          refine x_Vi (C := RX5) (T := TX5) (N := 2) (rest := [_]) cx (c_X5_hexAt l G _ i hi Y L (k + 1) hL h80 (by omega)) gV_X4_80 ndX5_hexAt rfl ⟨Nat.le_of_ble_eq_true rfl, Nat.le_of_ble_eq_true rfl⟩ (zok_7 (by decide)) (by decide) (p_script' hi) rfl rfl rfl (Nat.le_of_ble_eq_true rfl) dX4_carryOut_73 ⟨Nat.le_of_ble_eq_true rfl, Nat.le_of_ble_eq_true rfl⟩ ?_
          refine x_eqi hxx.1 ?_
          refine x_Si (rest := []) cx (c_X4_goTo l G _ i hi _ hY (hexN (S 7 2 (k + 1))) hxx.2) gS_X4_29 ndX4_goTo ⟨Nat.le_of_ble_eq_true rfl, Nat.le_of_ble_eq_true rfl⟩ rfl rfl (Nat.le_of_ble_eq_true rfl) dX4_carryOut_76 ⟨Nat.le_of_ble_eq_true rfl, Nat.le_of_ble_eq_true rfl⟩ ?_
          refine x_pop cx dX4_carryOut_79 rfl ?_
          refine x_goto (tgt := 89) cx dX4_carryOut_80 (by decide) ?_
          refine x_iinc (v := nI ((k + 1) + 1)) (ls' := [_, _, _, _, _, _, _]) cx dX4_carryOut_89 rfl (nI_inc _) (by decide) rfl ?_
          refine x_goto (tgt := 7) cx dX4_carryOut_92 (by decide) ?_
          rw [if_neg hb29, if_pos hb63] at ho hx
          exact x_ls rfl (by simp [lo]) (ih (k + 2) _ q _ (by omega) (by omega) hq (zGo_WF hY) (by rw [show L - (k + 2) = g2 by omega]; exact hfl2) ho hx)
      · refine x_aload_n cx dX4_carryOut_32 rfl rfl ?_
        refine x_iconst (v := 0) cx dX4_carryOut_33 (by decide) ?_
        refine x_iconst (v := 1) cx dX4_carryOut_34 (by decide) ?_
        refine x_Vi (C := RX0) (T := TX0) (N := 6) (rest := []) cx (c_X0_tick l G _ i hi _ hY _ _) gV_X4_24 ndX0_tick rfl ⟨Nat.le_of_ble_eq_true rfl, Nat.le_of_ble_eq_true rfl⟩ (zok_c hi (by decide)) (zix_c hi (by decide)) (pcO hi) rfl rfl rfl (Nat.le_of_ble_eq_true rfl) dX4_carryOut_35 ⟨Nat.le_of_ble_eq_true rfl, Nat.le_of_ble_eq_true rfl⟩ ?_
        refine x_istore (ls' := [_, _, _, _, _, _, _]) cx dX4_carryOut_38 (by decide) rfl ?_
        refine x_iload_n cx dX4_carryOut_40 rfl rfl ?_
        refine x_bipush (v := 30) cx dX4_carryOut_41 (by decide) ?_
        refine x_icmp_ge (tgt := 56) cx dX4_carryOut_43 (by decide) (fun hb43 => ?_) (fun hb43 => ?_)
        · refine x_goto (tgt := 89) cx dX4_carryOut_56 (by decide) ?_
          refine x_iinc (v := nI (k + 1)) (ls' := [_, _, _, _, _, _, _]) cx dX4_carryOut_89 rfl (nI_inc _) (by decide) rfl ?_
          refine x_goto (tgt := 7) cx dX4_carryOut_92 (by decide) ?_
          rw [if_pos hb29] at ho hx
          rw [if_neg (fun z => absurd hb43 (nI_ge (b := 30) z (by decide)))] at ho
          have hq2 := hq
          have hfl2 := flt_ot (by omega) hflt (by rw [hb29]; decide)
          have hg2 : L - (k + 1) = g := by omega
          exact x_ls rfl (by simp [lo]) (ih (k + 1) _ q _ (by omega) (by omega) (by omega) (zTick_WF hY) (by rw [hg2]; exact hfl2) ho hx)
        · refine x_iload_n cx dX4_carryOut_46 rfl rfl ?_
          refine x_iload cx dX4_carryOut_47 rfl ?_
          refine x_iload_n cx dX4_carryOut_49 rfl rfl ?_
          refine x_ishl cx dX4_carryOut_50 ?_
          refine x_ior cx dX4_carryOut_51 ?_
          refine x_istore_n (ls' := [_, _, _, _, _, _, _]) cx dX4_carryOut_52 rfl (by decide) rfl ?_
          refine x_iinc (v := nI (q + 1)) (ls' := [_, _, _, _, _, _, _]) cx dX4_carryOut_53 rfl (nI_inc _) (by decide) rfl ?_
          refine x_goto (tgt := 89) cx dX4_carryOut_56 (by decide) ?_
          refine x_iinc (v := nI (k + 1)) (ls' := [_, _, _, _, _, _, _]) cx dX4_carryOut_89 rfl (nI_inc _) (by decide) rfl ?_
          refine x_goto (tgt := 7) cx dX4_carryOut_92 (by decide) ?_
          rw [if_pos hb29] at ho hx
          rw [if_pos ((nI_ltI (b := 30) (by omega) (by decide)).mp (Int32.not_le.mp hb43))] at ho
          have hq2 : q < 30 := (nI_ltI (b := 30) (by omega) (by decide)).mp (Int32.not_le.mp hb43)
          have hfl2 := flt_ot (by omega) hflt (by rw [hb29]; decide)
          have hg2 : L - (k + 1) = g := by omega
          exact x_ls rfl (by simp [lo]) (ih (k + 1) _ (q + 1) _ (by omega) (by omega) (by omega) (zTick_WF hY) (by rw [hg2]; exact hfl2) ho hx)
    · refine x_iload cx dX4_carryOut_7 rfl ?_
      refine x_aload_n cx dX4_carryOut_9 rfl rfl ?_
      refine x_getX5 cx 1 (by decide) (fl_X4_71 cx) (zok_7 (by decide)) (by decide) (p_script' hi) rfl dX4_carryOut_10 ?_
      refine x_eqi hL ?_
      refine x_icmp_ge_t (tgt := 95) cx dX4_carryOut_13 (by decide) (nI_le (by omega) (by omega)) ?_
      refine x_iload_n cx dX4_carryOut_95 rfl rfl ?_
      exact x_iret cx hr (by rw [← ho, zRunO_end hkl]) (by intro _ _ _ _; rw [← hx, zRunX_end hkl]) dX4_carryOut_96

