set_option maxHeartbeats 4000000 in
set_option maxRecDepth 100000 in
theorem c_X7_measure (l : Launch) (G : zG) (S : zS) (b : Nat) (hb : b < 16) : Met l yX7_measure (zws yX7_measure cX7_measure 6 none) (zrm 1 0 0 21) (zPc G 75 (pic G S) [.ref (zad G 8 0), .int (nI b)]) (zQv G 75 (pic G (fr S (farF b)))) 0 0 (zA G) := by
  refine zMet npX7_measure rfl (Nat.le_of_ble_eq_true rfl) ?_
  intro p e s m args below meth cd hargs cx hr hin0
  have cx : Cx p s m args meth cd cX7_measure 6 RX7 G := cx
  refine x_ls (ls' := [some (.ref (zad G 8 0)), some (.int (nI b)), none, none, none, none]) rfl (fun _ h => h) ?_
  refine x_iconst (v := 0) cx dX7_measure_0 (by decide) ?_
  refine x_istore_n (ls' := [_, _, _, _, _, _]) cx dX7_measure_1 rfl (by decide) rfl ?_
  refine x_S (fr_self S).symm ?_
  generalize S 15 2 = F
  suffices K : ∀ f k : Nat, k + f = 16 → Xh p l e _ s m args below meth cd 6 G _ 0 0 75 (pic G (fr S (frI b F k))) 2 [some (.ref (zad G 8 0)), some (.int (nI b)), some (.int (nI k)), none, none, none] [] from x_S (by rw [frI_z]) (K 16 0 rfl)
  intro f
  induction f with
  | zero =>
    intro k hk
    obtain rfl : k = 16 := by omega
    refine x_iload_n cx dX7_measure_2 rfl rfl ?_
    refine x_bipush (v := 16) cx dX7_measure_3 (by decide) ?_
    refine x_icmp_ge_t (tgt := 31) cx dX7_measure_5 (by decide) (by decide) ?_
    refine x_iconst (v := 0) cx dX7_measure_31 (by decide) ?_
    refine x_istore_n (ls' := [_, _, _, _, _, _]) cx dX7_measure_32 rfl (by decide) rfl ?_
    have hall := frRd_all hb F
    generalize frI b F 16 = C at hall ⊢
    suffices K2 : ∀ f r : Nat, r + f = 16 → Xh p l e _ s m args below meth cd 6 G _ 0 0 75 (pic G (fr S (frRd C r))) 33 [some (.ref (zad G 8 0)), some (.int (nI b)), some (.int (nI r)), none, none, none] [] from x_ls rfl (by simp [lo, nI_0]) (K2 16 0 rfl)
    intro f
    induction f with
    | zero =>
      intro r hr0
      obtain rfl : r = 16 := by omega
      refine x_iload_n cx dX7_measure_33 rfl rfl ?_
      refine x_bipush (v := 16) cx dX7_measure_34 (by decide) ?_
      refine x_icmp_ge_t (tgt := 117) cx dX7_measure_36 (by decide) (by decide) ?_
      exact x_vret cx hr (eqS_pic (eqS_fr (fun a ha => (hall a ha).symm))) dX7_measure_117
    | succ f ih =>
      intro r hr0
      refine x_iload_n cx dX7_measure_33 rfl rfl ?_
      refine x_bipush (v := 16) cx dX7_measure_34 (by decide) ?_
      refine x_icmp_ge_f (tgt := 117) cx dX7_measure_36 (by decide) (nI_ge (b := 16) (by omega) (by decide)) ?_
      refine x_iconst (v := 0) cx dX7_measure_39 (by decide) ?_
      refine x_istore_n (ls' := [_, _, _, _, _, _]) cx dX7_measure_40 rfl (by decide) rfl ?_
      have hrd : frRd C (r + 1) = frSt (frRd C r) 16 := rfl
      generalize frRd C r = D at hrd ⊢
      suffices K3 : ∀ g q : Nat, q + g = 16 → Xh p l e _ s m args below meth cd 6 G _ 0 0 75 (pic G (fr S (frSt D q))) 41 [some (.ref (zad G 8 0)), some (.int (nI b)), some (.int (nI r)), some (.int (nI q)), none, none] [] from x_ls rfl (by simp [lo, nI_0]) (K3 16 0 rfl)
      intro g
      induction g with
      | zero =>
        intro q hq
        obtain rfl : q = 16 := by omega
        refine x_iload_n cx dX7_measure_41 rfl rfl ?_
        refine x_bipush (v := 16) cx dX7_measure_42 (by decide) ?_
        refine x_icmp_ge_t (tgt := 111) cx dX7_measure_44 (by decide) (by decide) ?_
        refine x_iinc (v := nI (r + 1)) (ls' := [_, _, _, _, _, _]) cx dX7_measure_111 rfl (nI_inc _) (by decide) rfl ?_
        refine x_goto (tgt := 33) cx dX7_measure_114 (by decide) ?_
        exact x_S (by rw [hrd]) (x_ls rfl (by simp [lo]) (ih (r + 1) (by omega)))
      | succ g ihq =>
        intro q hq
        refine x_iload_n cx dX7_measure_41 rfl rfl ?_
        refine x_bipush (v := 16) cx dX7_measure_42 (by decide) ?_
        refine x_icmp_ge_f (tgt := 111) cx dX7_measure_44 (by decide) (nI_ge (b := 16) (by omega) (by decide)) ?_
        refine x_iconst (v := 0) cx dX7_measure_47 (by decide) ?_
        refine x_istore (ls' := [_, _, _, _, _, _]) cx dX7_measure_48 (by decide) rfl ?_
        have hsd : frSt D (q + 1) = frMl (frSt D q) q 2 := rfl
        generalize frSt D q = E at hsd ⊢
        suffices K4 : ∀ g2 y : Nat, y + g2 = 2 → Xh p l e _ s m args below meth cd 6 G _ 0 0 75 (pic G (fr S (frMl E q y))) 50 [some (.ref (zad G 8 0)), some (.int (nI b)), some (.int (nI r)), some (.int (nI q)), some (.int (nI y)), none] [] from x_ls rfl (by simp [lo, nI_0]) (K4 2 0 rfl)
        intro g2
        induction g2 with
        | zero =>
          intro y hy
          obtain rfl : y = 2 := by omega
          refine x_iload cx dX7_measure_50 rfl ?_
          refine x_iconst (v := 2) cx dX7_measure_52 (by decide) ?_
          refine x_icmp_ge_t (tgt := 105) cx dX7_measure_53 (by decide) (by decide) ?_
          refine x_iinc (v := nI (q + 1)) (ls' := [_, _, _, _, _, _]) cx dX7_measure_105 rfl (nI_inc _) (by decide) rfl ?_
          refine x_goto (tgt := 41) cx dX7_measure_108 (by decide) ?_
          exact x_S (by rw [hsd]) (x_ls rfl (by simp [lo]) (ihq (q + 1) (by omega)))
        | succ g2 ihy =>
          intro y hy
          have hmd : frMl E q (y + 1) = frM (frMl E q y) q (nI y) := rfl
          generalize frMl E q y = c at hmd ⊢
          refine x_iload cx dX7_measure_50 rfl ?_
          refine x_iconst (v := 2) cx dX7_measure_52 (by decide) ?_
          refine x_icmp_ge_f (tgt := 105) cx dX7_measure_53 (by decide) (nI_ge (b := 2) (by omega) (by decide)) ?_
          refine x_aload_n cx dX7_measure_56 rfl rfl ?_
          refine x_getX7 cx 8 (by decide) (fl_X7_25 cx) (zok_8 (by decide)) (by decide) (p_M) rfl dX7_measure_57 ?_
          refine x_iload_n cx dX7_measure_60 rfl rfl ?_
          refine x_iload cx dX7_measure_61 rfl ?_
          refine x_Si (rest := [_]) cx (c_X7_next l G _ _ q (by omega) _) gS_X7_103 ndX7_next ⟨Nat.le_of_ble_eq_true rfl, Nat.le_of_ble_eq_true rfl⟩ rfl rfl (Nat.le_of_ble_eq_true rfl) dX7_measure_63 ⟨Nat.le_of_ble_eq_true rfl, Nat.le_of_ble_eq_true rfl⟩ ?_
          refine x_eqi (nx_eq (by omega) _) ?_
          refine x_iald (t := (nx q (nI y))) cx (zok_8 (by decide)) (by decide) (p_far) rfl (nx_lt (by omega) _) (by decide) (trf (nx_lt (by omega) _)) dX7_measure_66 ?_
          refine x_iconst (v := 1) cx dX7_measure_67 (by decide) ?_
          refine x_iadd cx dX7_measure_68 ?_
          refine x_istore (ls' := [_, _, _, _, _, _]) cx dX7_measure_69 (by decide) rfl ?_
          refine x_aload_n cx dX7_measure_71 rfl rfl ?_
          refine x_getX7 cx 8 (by decide) (fl_X7_25 cx) (zok_8 (by decide)) (by decide) (p_M) rfl dX7_measure_72 ?_
          refine x_iload_n cx dX7_measure_75 rfl rfl ?_
          refine x_iload cx dX7_measure_76 rfl ?_
          refine x_aload_n cx dX7_measure_78 rfl rfl ?_
          refine x_getX7 cx 8 (by decide) (fl_X7_25 cx) (zok_8 (by decide)) (by decide) (p_M) rfl dX7_measure_79 ?_
          refine x_iload_n cx dX7_measure_82 rfl rfl ?_
          refine x_iald (t := q) cx (zok_8 (by decide)) (by decide) (p_far) rfl (by omega) (by decide) (trf (by omega)) dX7_measure_83 ?_
          refine x_icmp_ge (tgt := 92) cx dX7_measure_84 (by decide) (fun hb84 => ?_) (fun hb84 => ?_)
          · refine x_aload_n cx dX7_measure_92 rfl rfl ?_
            refine x_getX7 cx 8 (by decide) (fl_X7_25 cx) (zok_8 (by decide)) (by decide) (p_M) rfl dX7_measure_93 ?_
            refine x_iload_n cx dX7_measure_96 rfl rfl ?_
            refine x_iald (t := q) cx (zok_8 (by decide)) (by decide) (p_far) rfl (by omega) (by decide) (trf (by omega)) dX7_measure_97 ?_
            refine x_iast (t := q) cx (zok_8 (by decide)) (by decide) (p_far) rfl (by omega) (by decide) (ppf (by omega)) dX7_measure_98 ?_
            refine x_iinc (v := nI (y + 1)) (ls' := [_, _, _, _, _, _]) cx dX7_measure_99 rfl (nI_inc _) (by decide) rfl ?_
            refine x_goto (tgt := 50) cx dX7_measure_102 (by decide) ?_
            exact x_S (by rw [hmd]; unfold frM; rw [if_pos hb84]) (x_ls rfl (by simp [lo]) (ihy (y + 1) (by omega)))
          · refine x_iload cx dX7_measure_87 rfl ?_
            refine x_goto (tgt := 98) cx dX7_measure_89 (by decide) ?_
            refine x_iast (t := q) cx (zok_8 (by decide)) (by decide) (p_far) rfl (by omega) (by decide) (ppf (by omega)) dX7_measure_98 ?_
            refine x_iinc (v := nI (y + 1)) (ls' := [_, _, _, _, _, _]) cx dX7_measure_99 rfl (nI_inc _) (by decide) rfl ?_
            refine x_goto (tgt := 50) cx dX7_measure_102 (by decide) ?_
            exact x_S (by rw [hmd]; unfold frM; rw [if_neg hb84]) (x_ls rfl (by simp [lo]) (ihy (y + 1) (by omega)))
  | succ f ih =>
    intro k hk
    refine x_iload_n cx dX7_measure_2 rfl rfl ?_
    refine x_bipush (v := 16) cx dX7_measure_3 (by decide) ?_
    refine x_icmp_ge_f (tgt := 31) cx dX7_measure_5 (by decide) (nI_ge (b := 16) (by omega) (by decide)) ?_
    refine x_aload_n cx dX7_measure_8 rfl rfl ?_
    refine x_getX7 cx 8 (by decide) (fl_X7_25 cx) (zok_8 (by decide)) (by decide) (p_M) rfl dX7_measure_9 ?_
    refine x_iload_n cx dX7_measure_12 rfl rfl ?_
    refine x_iload_n cx dX7_measure_13 rfl rfl ?_
    refine x_iload_n cx dX7_measure_14 rfl rfl ?_
    refine x_icmp_ne (tgt := 22) cx dX7_measure_15 (by decide) (fun hb15 => ?_) (fun hb15 => ?_)
    · refine x_bipush (v := 16) cx dX7_measure_22 (by decide) ?_
      refine x_iast (t := k) cx (zok_8 (by decide)) (by decide) (p_far) rfl (by omega) (by decide) (ppf (by omega)) dX7_measure_24 ?_
      refine x_iinc (v := nI (k + 1)) (ls' := [_, _, _, _, _, _]) cx dX7_measure_25 rfl (nI_inc _) (by decide) rfl ?_
      refine x_goto (tgt := 2) cx dX7_measure_28 (by decide) ?_
      have he : (if k = b then (0 : Int32) else 16) = 16 := if_neg (fun z => hb15 (by rw [z]))
      exact x_S (by rw [← frI_s, he]) (ih (k + 1) (by omega))
    · refine x_iconst (v := 0) cx dX7_measure_18 (by decide) ?_
      refine x_goto (tgt := 24) cx dX7_measure_19 (by decide) ?_
      refine x_iast (t := k) cx (zok_8 (by decide)) (by decide) (p_far) rfl (by omega) (by decide) (ppf (by omega)) dX7_measure_24 ?_
      refine x_iinc (v := nI (k + 1)) (ls' := [_, _, _, _, _, _]) cx dX7_measure_25 rfl (nI_inc _) (by decide) rfl ?_
      refine x_goto (tgt := 2) cx dX7_measure_28 (by decide) ?_
      have he : (if k = b then (0 : Int32) else 16) = 0 := if_pos ((nI_eq (by omega) (by omega)).mp hb15)
      exact x_S (by rw [← frI_s, he]) (ih (k + 1) (by omega))

set_option maxHeartbeats 4000000 in
set_option maxRecDepth 100000 in
theorem c_X7_moveNow (l : Launch) (G : zG) (S : zS) (X : zCV) (hW : zWF X) (b : Nat) (hb : b < 16) : Met l yX7_moveNow (zws yX7_moveNow cX7_moveNow 4 (some .int)) (zrm 5 0 0 113) (zPc G 75 (pic G (up S 8 X)) [.ref (zad G 8 0), .int (nI b)]) (zQi G 75 (nI (dst (stt X) b)) (pic G (up (fr S (farF b)) 8 (zGo X b)))) 0 0 (zA G) := by
  refine zMet npX7_moveNow rfl (Nat.le_of_ble_eq_true rfl) ?_
  intro p e s m args below meth cd hargs cx hr hin0
  have cx : Cx p s m args meth cd cX7_moveNow 4 RX7 G := cx
  refine x_ls (ls' := [some (.ref (zad G 8 0)), some (.int (nI b)), none, none]) rfl (fun _ h => h) ?_
  refine x_aload_n cx dX7_moveNow_0 rfl rfl ?_
  refine x_iload_n cx dX7_moveNow_1 rfl rfl ?_
  refine x_Vv (C := RX7) (T := TX7) (N := 9) (rest := []) cx (c_X7_measure l G _ b hb) gV_X7_109 ndX7_measure rfl ⟨Nat.le_of_ble_eq_true rfl, Nat.le_of_ble_eq_true rfl⟩ (zok_8 (by decide)) (by decide) (p_M) rfl rfl rfl (Nat.le_of_ble_eq_true rfl) dX7_moveNow_2 ⟨Nat.le_of_ble_eq_true rfl, Nat.le_of_ble_eq_true rfl⟩ ?_
  refine x_S (fr_up8 S X _) ?_
  refine x_iconst (v := 0) cx dX7_moveNow_5 (by decide) ?_
  refine x_istore_n (ls' := [_, _, _, _]) cx dX7_moveNow_6 rfl (by decide) rfl ?_
  suffices K : ∀ (d : Nat) (Y : zCV) (u : Nat), zWF Y → dst (stt Y) b = d → zGoL d Y b = zGo X b → u + d = dst (stt X) b → Xh p l e _ s m args below meth cd 4 G _ 0 0 75 (pic G (up (fr S (farF b)) 8 Y)) 7 [some (.ref (zad G 8 0)), some (.int (nI b)), some (.int (nI u)), none] [] from K _ X 0 hW rfl rfl (by omega)
  intro d
  induction d with
  | zero =>
    intro Y u hY hd hz hu
    refine x_aload_n cx dX7_moveNow_7 rfl rfl ?_
    refine x_getX7 cx 0 (by decide) (fl_X7_7 cx) (zok_8 (by decide)) (by decide) (p_M) rfl dX7_moveNow_8 ?_
    refine x_iconst (v := 1) cx dX7_moveNow_11 (by decide) ?_
    refine x_iald (t := 1) cx (zok_8 (by decide)) (by decide) (p_z) rfl (by decide) (by decide) (trz (by decide)) dX7_moveNow_12 ?_
    refine x_eqi hY.s1 ?_
    refine x_iload_n cx dX7_moveNow_13 rfl rfl ?_
    refine x_icmp_eq_t (tgt := 65) cx dX7_moveNow_14 (by decide) (by rw [(dst_0 _ hY.s16 b hb).mp hd]) ?_
    refine x_iload_n cx dX7_moveNow_65 rfl rfl ?_
    exact x_iret cx hr (by rw [show u = dst (stt X) b by omega]) (by intro _ _ _ _; rw [← hz]; rfl) dX7_moveNow_66
  | succ d ih =>
    intro Y u hY hd hz hu
    have hs16 := hY.s16
    refine x_aload_n cx dX7_moveNow_7 rfl rfl ?_
    refine x_getX7 cx 0 (by decide) (fl_X7_7 cx) (zok_8 (by decide)) (by decide) (p_M) rfl dX7_moveNow_8 ?_
    refine x_iconst (v := 1) cx dX7_moveNow_11 (by decide) ?_
    refine x_iald (t := 1) cx (zok_8 (by decide)) (by decide) (p_z) rfl (by decide) (by decide) (trz (by decide)) dX7_moveNow_12 ?_
    refine x_eqi hY.s1 ?_
    refine x_iload_n cx dX7_moveNow_13 rfl rfl ?_
    refine x_icmp_eq_f (tgt := 65) cx dX7_moveNow_14 (by decide) (fun z => by have h1 := (dst_0 _ hY.s16 b hb).mpr ((nI_eq (by omega) (by omega)).mp z); omega) ?_
    refine x_aload_n cx dX7_moveNow_17 rfl rfl ?_
    refine x_getX7 cx 8 (by decide) (fl_X7_25 cx) (zok_8 (by decide)) (by decide) (p_M) rfl dX7_moveNow_18 ?_
    refine x_aload_n cx dX7_moveNow_21 rfl rfl ?_
    refine x_getX7 cx 0 (by decide) (fl_X7_7 cx) (zok_8 (by decide)) (by decide) (p_M) rfl dX7_moveNow_22 ?_
    refine x_iconst (v := 1) cx dX7_moveNow_25 (by decide) ?_
    refine x_iald (t := 1) cx (zok_8 (by decide)) (by decide) (p_z) rfl (by decide) (by decide) (trz (by decide)) dX7_moveNow_26 ?_
    refine x_eqi hY.s1 ?_
    refine x_iconst (v := 0) cx dX7_moveNow_27 (by decide) ?_
    refine x_Si (rest := [_]) cx (c_X7_next l G _ _ (stt Y) hY.s16 _) gS_X7_103 ndX7_next ⟨Nat.le_of_ble_eq_true rfl, Nat.le_of_ble_eq_true rfl⟩ rfl rfl (Nat.le_of_ble_eq_true rfl) dX7_moveNow_28 ⟨Nat.le_of_ble_eq_true rfl, Nat.le_of_ble_eq_true rfl⟩ ?_
    refine x_eqi (nx_eq hY.s16 0) ?_
    refine x_iald (t := (nx (stt Y) 0)) cx (zok_8 (by decide)) (by decide) (p_far) rfl (nx_lt hY.s16 0) (by decide) (trf8 (nx_lt hY.s16 0)) dX7_moveNow_31 ?_
    refine x_aload_n cx dX7_moveNow_32 rfl rfl ?_
    refine x_getX7 cx 8 (by decide) (fl_X7_25 cx) (zok_8 (by decide)) (by decide) (p_M) rfl dX7_moveNow_33 ?_
    refine x_aload_n cx dX7_moveNow_36 rfl rfl ?_
    refine x_getX7 cx 0 (by decide) (fl_X7_7 cx) (zok_8 (by decide)) (by decide) (p_M) rfl dX7_moveNow_37 ?_
    refine x_iconst (v := 1) cx dX7_moveNow_40 (by decide) ?_
    refine x_iald (t := 1) cx (zok_8 (by decide)) (by decide) (p_z) rfl (by decide) (by decide) (trz (by decide)) dX7_moveNow_41 ?_
    refine x_eqi hY.s1 ?_
    refine x_iald (t := (stt Y)) cx (zok_8 (by decide)) (by decide) (p_far) rfl hY.s16 (by decide) (trf8 hY.s16) dX7_moveNow_42 ?_
    refine x_icmp_ge (tgt := 50) cx dX7_moveNow_43 (by decide) (fun hb43 => ?_) (fun hb43 => ?_)
    · refine x_iconst (v := 1) cx dX7_moveNow_50 (by decide) ?_
      refine x_istore_n (ls' := [_, _, _, _]) cx dX7_moveNow_51 rfl (by decide) rfl ?_
      refine x_aload_n cx dX7_moveNow_52 rfl rfl ?_
      refine x_iload_n cx dX7_moveNow_53 rfl rfl ?_
      refine x_iconst (v := 1) cx dX7_moveNow_54 (by decide) ?_
      refine x_Vi (C := RX7) (T := TX7) (N := 9) (rest := []) cx (c_X7_clockNow l G _ _ hY _ _) gV_X7_106 ndX7_clockNow rfl ⟨Nat.le_of_ble_eq_true rfl, Nat.le_of_ble_eq_true rfl⟩ (zok_8 (by decide)) (by decide) (p_M) rfl rfl rfl (Nat.le_of_ble_eq_true rfl) dX7_moveNow_55 ⟨Nat.le_of_ble_eq_true rfl, Nat.le_of_ble_eq_true rfl⟩ ?_
      refine x_pop cx dX7_moveNow_58 rfl ?_
      refine x_iinc (v := nI (u + 1)) (ls' := [_, _, _, _]) cx dX7_moveNow_59 rfl (nI_inc _) (by decide) rfl ?_
      refine x_goto (tgt := 7) cx dX7_moveNow_62 (by decide) ?_
      have hm : zMd (stt Y) b = 1 := zMd_ge hY.s16 hb hb43
      exact x_ls rfl (by simp [lo]) (ih _ (u + 1) (zTick_WF hY) (by rw [stt_tick, ← hm]; exact dst_go hY.s16 hb hd) (by rw [← hz]; show _ = zGoL d (zTick Y (zMd (stt Y) b) 1) b; rw [hm]) (by omega))
    · refine x_iconst (v := 0) cx dX7_moveNow_46 (by decide) ?_
      refine x_goto (tgt := 51) cx dX7_moveNow_47 (by decide) ?_
      refine x_istore_n (ls' := [_, _, _, _]) cx dX7_moveNow_51 rfl (by decide) rfl ?_
      refine x_aload_n cx dX7_moveNow_52 rfl rfl ?_
      refine x_iload_n cx dX7_moveNow_53 rfl rfl ?_
      refine x_iconst (v := 1) cx dX7_moveNow_54 (by decide) ?_
      refine x_Vi (C := RX7) (T := TX7) (N := 9) (rest := []) cx (c_X7_clockNow l G _ _ hY _ _) gV_X7_106 ndX7_clockNow rfl ⟨Nat.le_of_ble_eq_true rfl, Nat.le_of_ble_eq_true rfl⟩ (zok_8 (by decide)) (by decide) (p_M) rfl rfl rfl (Nat.le_of_ble_eq_true rfl) dX7_moveNow_55 ⟨Nat.le_of_ble_eq_true rfl, Nat.le_of_ble_eq_true rfl⟩ ?_
      refine x_pop cx dX7_moveNow_58 rfl ?_
      refine x_iinc (v := nI (u + 1)) (ls' := [_, _, _, _]) cx dX7_moveNow_59 rfl (nI_inc _) (by decide) rfl ?_
      refine x_goto (tgt := 7) cx dX7_moveNow_62 (by decide) ?_
      have hm : zMd (stt Y) b = 0 := zMd_lt hY.s16 hb hb43
      exact x_ls rfl (by simp [lo]) (ih _ (u + 1) (zTick_WF hY) (by rw [stt_tick, ← hm]; exact dst_go hY.s16 hb hd) (by rw [← hz]; show _ = zGoL d (zTick Y (zMd (stt Y) b) 1) b; rw [hm]) (by omega))

set_option maxHeartbeats 4000000 in
set_option maxRecDepth 100000 in
theorem c_X7_readOne (l : Launch) (G : zG) (S : zS) (X : zCV) (hW : zWF X) : Met l yX7_readOne (zws yX7_readOne cX7_readOne 3 (some .int)) (zrm 5 0 0 113) (zPc G 75 (pic G (up S 8 X)) [.ref (zad G 8 0)]) (zQi G 75 (zRdV X) (pic G (up S 8 (zRdX X)))) 0 0 (zA G) := by
  refine zMet npX7_readOne rfl (Nat.le_of_ble_eq_true rfl) ?_
  intro p e s m args below meth cd hargs cx hr hin0
  have cx : Cx p s m args meth cd cX7_readOne 3 RX7 G := cx
  refine x_ls (ls' := [some (.ref (zad G 8 0)), none, none]) rfl (fun _ h => h) ?_
  refine x_aload_n cx dX7_readOne_0 rfl rfl ?_
  refine x_iconst (v := 0) cx dX7_readOne_1 (by decide) ?_
  refine x_iconst (v := 1) cx dX7_readOne_2 (by decide) ?_
  refine x_Vi (C := RX7) (T := TX7) (N := 9) (rest := []) cx (c_X7_clockNow l G _ _ hW _ _) gV_X7_106 ndX7_clockNow rfl ⟨Nat.le_of_ble_eq_true rfl, Nat.le_of_ble_eq_true rfl⟩ (zok_8 (by decide)) (by decide) (p_M) rfl rfl rfl (Nat.le_of_ble_eq_true rfl) dX7_readOne_3 ⟨Nat.le_of_ble_eq_true rfl, Nat.le_of_ble_eq_true rfl⟩ ?_
  refine x_if_ne (tgt := 11) cx dX7_readOne_6 (by decide) (fun hb6 => ?_) (fun hb6 => ?_)
  · refine x_iconst (v := 1) cx dX7_readOne_11 (by decide) ?_
    refine x_istore_n (ls' := [_, _, _]) cx dX7_readOne_12 rfl (by decide) rfl ?_
    refine x_iconst (v := 1) cx dX7_readOne_13 (by decide) ?_
    refine x_istore_n (ls' := [_, _, _]) cx dX7_readOne_14 rfl (by decide) rfl ?_
    have h1 := zTick_WF (md := 0) (x := 1) hW
    have hv : zRdV X = mO 7 (zTick X 0 1) := by unfold zRdV; rw [if_neg hb6, mO_th 7 (Nat.le_refl _)]
    have hx : zRdX X = mX 7 (zTick X 0 1) := by unfold zRdX; rw [if_neg hb6, mX_th 7 (Nat.le_refl _)]
    rw [hv, hx]
    generalize zTick X 0 1 = Y at h1 ⊢
    suffices K : ∀ f k : Nat, k + f = 7 → Xh p l e _ s m args below meth cd 3 G _ 0 0 75 (pic G (up S 8 (mX k Y))) 15 [some (.ref (zad G 8 0)), some (.int (mO k Y)), some (.int (nI (k + 1)))] [] from K 7 0 rfl
    intro f
    induction f with
    | zero =>
      intro k hk
      obtain rfl : k = 7 := by omega
      refine x_iload_n cx dX7_readOne_15 rfl rfl ?_
      refine x_bipush (v := 8) cx dX7_readOne_16 (by decide) ?_
      refine x_icmp_ge_t (tgt := 38) cx dX7_readOne_18 (by decide) (by decide) ?_
      refine x_iload_n cx dX7_readOne_38 rfl rfl ?_
      exact x_iret cx hr rfl (fun _ _ _ _ => rfl) dX7_readOne_39
    | succ f ih =>
      intro k hk
      refine x_iload_n cx dX7_readOne_15 rfl rfl ?_
      refine x_bipush (v := 8) cx dX7_readOne_16 (by decide) ?_
      refine x_icmp_ge_f (tgt := 38) cx dX7_readOne_18 (by decide) (nI_ge (b := 8) (by omega) (by decide)) ?_
      refine x_iload_n cx dX7_readOne_21 rfl rfl ?_
      refine x_aload_n cx dX7_readOne_22 rfl rfl ?_
      refine x_iconst (v := 0) cx dX7_readOne_23 (by decide) ?_
      refine x_iconst (v := 1) cx dX7_readOne_24 (by decide) ?_
      refine x_Vi (C := RX7) (T := TX7) (N := 9) (rest := [_]) cx (c_X7_clockNow l G _ _ (mX_WF k h1) _ _) gV_X7_106 ndX7_clockNow rfl ⟨Nat.le_of_ble_eq_true rfl, Nat.le_of_ble_eq_true rfl⟩ (zok_8 (by decide)) (by decide) (p_M) rfl rfl rfl (Nat.le_of_ble_eq_true rfl) dX7_readOne_25 ⟨Nat.le_of_ble_eq_true rfl, Nat.le_of_ble_eq_true rfl⟩ ?_
      refine x_iload_n cx dX7_readOne_28 rfl rfl ?_
      refine x_ishl cx dX7_readOne_29 ?_
      refine x_ior cx dX7_readOne_30 ?_
      refine x_istore_n (ls' := [_, _, _]) cx dX7_readOne_31 rfl (by decide) rfl ?_
      refine x_iinc (v := nI ((k + 1) + 1)) (ls' := [_, _, _]) cx dX7_readOne_32 rfl (nI_inc _) (by decide) rfl ?_
      refine x_goto (tgt := 15) cx dX7_readOne_35 (by decide) ?_
      exact ih (k + 1) (by omega)
  · refine x_iconst (v := 0) cx dX7_readOne_9 (by decide) ?_
    exact x_iret cx hr (by unfold zRdV; rw [if_pos hb6]) (by intro _ _ _ _; unfold zRdX; rw [if_pos hb6]) dX7_readOne_10

set_option maxHeartbeats 4000000 in
set_option maxRecDepth 100000 in
theorem c_X7_identifyNow (l : Launch) (G : zG) (S : zS) (X : zCV) (hW : zWF X) : Met l yX7_identifyNow (zws yX7_identifyNow cX7_identifyNow 3 none) (zrm 6 0 0 136) (zPc G 75 (pic G (up S 8 X)) [.ref (zad G 8 0)]) (zQv G 75 (pic G (up (fr S (farF 1)) 8 (mIdent X)))) 0 0 (zA G) := by
  refine zMet npX7_identifyNow rfl (Nat.le_of_ble_eq_true rfl) ?_
  intro p e s m args below meth cd hargs cx hr hin0
  have cx : Cx p s m args meth cd cX7_identifyNow 3 RX7 G := cx
  refine x_ls (ls' := [some (.ref (zad G 8 0)), none, none]) rfl (fun _ h => h) ?_
  refine x_iconst (v := 0) cx dX7_identifyNow_0 (by decide) ?_
  refine x_istore_n (ls' := [_, _, _]) cx dX7_identifyNow_1 rfl (by decide) rfl ?_
  suffices K : ∀ (f k : Nat) (Y : zCV), k + f = 5 → zWF Y → zTkN f Y = zTkN 5 X → Xh p l e _ s m args below meth cd 3 G _ 0 0 75 (pic G (up S 8 Y)) 2 [some (.ref (zad G 8 0)), some (.int (nI k)), none] [] from K 5 0 X rfl hW rfl
  intro f
  induction f with
  | zero =>
    intro k Y hk hY hz
    obtain rfl : k = 5 := by omega
    refine x_iload_n cx dX7_identifyNow_2 rfl rfl ?_
    refine x_iconst (v := 5) cx dX7_identifyNow_3 (by decide) ?_
    refine x_icmp_ge_t (tgt := 20) cx dX7_identifyNow_4 (by decide) (by decide) ?_
    refine x_aload_n cx dX7_identifyNow_20 rfl rfl ?_
    refine x_iconst (v := 4) cx dX7_identifyNow_21 (by decide) ?_
    refine x_Vi (C := RX7) (T := TX7) (N := 9) (rest := []) cx (c_X7_moveNow l G _ _ hY 4 (by decide)) gV_X7_112 ndX7_moveNow rfl ⟨Nat.le_of_ble_eq_true rfl, Nat.le_of_ble_eq_true rfl⟩ (zok_8 (by decide)) (by decide) (p_M) rfl rfl rfl (Nat.le_of_ble_eq_true rfl) dX7_identifyNow_22 ⟨Nat.le_of_ble_eq_true rfl, Nat.le_of_ble_eq_true rfl⟩ ?_
    refine x_pop cx dX7_identifyNow_25 rfl ?_
    refine x_aload_n cx dX7_identifyNow_26 rfl rfl ?_
    refine x_getX7 cx 0 (by decide) (fl_X7_7 cx) (zok_8 (by decide)) (by decide) (p_M) rfl dX7_identifyNow_27 ?_
    refine x_iconst (v := 3) cx dX7_identifyNow_30 (by decide) ?_
    refine x_iconst (v := 0) cx dX7_identifyNow_31 (by decide) ?_
    refine x_iast (t := 3) cx (zok_8 (by decide)) (by decide) (p_z) rfl (by decide) (by decide) (pp_z0 (by decide)) dX7_identifyNow_32 ?_
    refine x_iconst (v := 0) cx dX7_identifyNow_33 (by decide) ?_
    refine x_istore_n (ls' := [_, _, _]) cx dX7_identifyNow_34 rfl (by decide) rfl ?_
    have hv : mIdent X = zGo (zIdL 8 (zZero (zForget (zGo Y 4)))) 1 := by unfold mIdent; rw [← hz]; rfl
    rw [hv]
    have hU := zForget_WF (zGo_WF (b := 4) hY)
    have hcU : cnt (zForget (zGo Y 4)) = 0 := cnt_forget _
    refine x_up (X' := zForget (zGo Y 4)) rfl ?_
    generalize zForget (zGo Y 4) = U at hU hcU ⊢
    have hS1 : ∀ F, fr (fr S (farF 4)) F = fr S F := fun F => fr_fr _ _ _
    generalize fr S (farF 4) = S1 at hS1 ⊢
    suffices K1 : ∀ f k : Nat, k + f = 8 → Xh p l e _ s m args below meth cd 3 G _ 0 0 75 (pic G (up S1 8 (uj U 2 (zrs (U 2) k)))) 35 [some (.ref (zad G 8 0)), some (.int (nI k)), none] [] from x_up (by rw [zrs_z, uj_self]) (K1 8 0 rfl)
    intro f
    induction f with
    | zero =>
      intro k hk
      obtain rfl : k = 8 := by omega
      refine x_iload_n cx dX7_identifyNow_35 rfl rfl ?_
      refine x_bipush (v := 8) cx dX7_identifyNow_36 (by decide) ?_
      refine x_icmp_ge_t (tgt := 56) cx dX7_identifyNow_38 (by decide) (by decide) ?_
      refine x_iconst (v := 1) cx dX7_identifyNow_56 (by decide) ?_
      refine x_istore_n (ls' := [_, _, _]) cx dX7_identifyNow_57 rfl (by decide) rfl ?_
      refine x_up (X' := zZero U) rfl ?_
      have hZ := zZero_WF hU
      have hcZ : cnt (zZero U) = 0 := by rw [cnt_zero]; exact hcU
      generalize zZero U = Z at hZ hcZ ⊢
      suffices K2 : ∀ (f : Nat) (V : zCV), zWF V → cnt V + (f + 1) = 8 → zIdL (f + 1) V = zIdL 8 Z → Xh p l e _ s m args below meth cd 3 G _ 0 0 75 (pic G (up S1 8 V)) 58 [some (.ref (zad G 8 0)), some (.int 1), none] [] from x_ls rfl (by simp [lo]) (K2 7 Z hZ (by omega) rfl)
      intro f
      induction f with
      | zero =>
        intro V hV hcn hzv
        refine x_iload_n cx dX7_identifyNow_58 rfl rfl ?_
        refine x_if_eq_f (tgt := 128) cx dX7_identifyNow_59 (by decide) (by decide) ?_
        refine x_aload_n cx dX7_identifyNow_62 rfl rfl ?_
        refine x_Vi (C := RX7) (T := TX7) (N := 9) (rest := []) cx (c_X7_readOne l G _ _ hV) gV_X7_115 ndX7_readOne rfl ⟨Nat.le_of_ble_eq_true rfl, Nat.le_of_ble_eq_true rfl⟩ (zok_8 (by decide)) (by decide) (p_M) rfl rfl rfl (Nat.le_of_ble_eq_true rfl) dX7_identifyNow_63 ⟨Nat.le_of_ble_eq_true rfl, Nat.le_of_ble_eq_true rfl⟩ ?_
        refine x_istore_n (ls' := [_, _, _]) cx dX7_identifyNow_66 rfl (by decide) rfl ?_
        refine x_iload_n cx dX7_identifyNow_67 rfl rfl ?_
        refine x_sipush (v := 255) cx dX7_identifyNow_68 (by decide) ?_
        refine x_icmp_eq (tgt := 78) cx dX7_identifyNow_71 (by decide) (fun hb71 => ?_) (fun hb71 => ?_)
        · refine x_iconst (v := 0) cx dX7_identifyNow_78 (by decide) ?_
          refine x_istore_n (ls' := [_, _, _]) cx dX7_identifyNow_79 rfl (by decide) rfl ?_
          refine x_iload_n cx dX7_identifyNow_80 rfl rfl ?_
          refine x_if_eq_t (tgt := 125) cx dX7_identifyNow_81 (by decide) (by decide) ?_
          refine x_goto (tgt := 58) cx dX7_identifyNow_125 (by decide) ?_
          have hzv : zRdX V = zIdL 8 Z := by rw [← hzv]; unfold zIdL; rw [if_pos hb71]
          refine x_iload_n cx dX7_identifyNow_58 rfl rfl ?_
          refine x_if_eq_t (tgt := 128) cx dX7_identifyNow_59 (by decide) (by decide) ?_
          refine x_aload_n cx dX7_identifyNow_128 rfl rfl ?_
          refine x_iconst (v := 1) cx dX7_identifyNow_129 (by decide) ?_
          refine x_Vi (C := RX7) (T := TX7) (N := 9) (rest := []) cx (c_X7_moveNow l G _ _ (zRdX_WF hV) 1 (by decide)) gV_X7_112 ndX7_moveNow rfl ⟨Nat.le_of_ble_eq_true rfl, Nat.le_of_ble_eq_true rfl⟩ (zok_8 (by decide)) (by decide) (p_M) rfl rfl rfl (Nat.le_of_ble_eq_true rfl) dX7_identifyNow_130 ⟨Nat.le_of_ble_eq_true rfl, Nat.le_of_ble_eq_true rfl⟩ ?_
          refine x_pop cx dX7_identifyNow_133 rfl ?_
          exact x_vret cx hr (by intro _ _ _ _; rw [← hzv, hS1]) dX7_identifyNow_134
        · refine x_iconst (v := 1) cx dX7_identifyNow_74 (by decide) ?_
          refine x_goto (tgt := 79) cx dX7_identifyNow_75 (by decide) ?_
          refine x_istore_n (ls' := [_, _, _]) cx dX7_identifyNow_79 rfl (by decide) rfl ?_
          refine x_iload_n cx dX7_identifyNow_80 rfl rfl ?_
          refine x_if_eq_f (tgt := 125) cx dX7_identifyNow_81 (by decide) (by decide) ?_
          have hcr := cnt_rdX V
          have hR := zRdX_WF hV
          refine x_aload_n cx dX7_identifyNow_84 rfl rfl ?_
          refine x_getX7 cx 0 (by decide) (fl_X7_7 cx) (zok_8 (by decide)) (by decide) (p_M) rfl dX7_identifyNow_85 ?_
          refine x_iconst (v := 4) cx dX7_identifyNow_88 (by decide) ?_
          refine x_aload_n cx dX7_identifyNow_89 rfl rfl ?_
          refine x_getX7 cx 0 (by decide) (fl_X7_7 cx) (zok_8 (by decide)) (by decide) (p_M) rfl dX7_identifyNow_90 ?_
          refine x_iconst (v := 3) cx dX7_identifyNow_93 (by decide) ?_
          refine x_iald (t := 3) cx (zok_8 (by decide)) (by decide) (p_z) rfl (by decide) (by decide) (trz (by decide)) dX7_identifyNow_94 ?_
          refine x_eqi hR.c3 ?_
          refine x_iadd cx dX7_identifyNow_95 ?_
          refine x_eqi (nI_add 4 (cnt (zRdX V))) ?_
          refine x_iload_n cx dX7_identifyNow_96 rfl rfl ?_
          refine x_iast (t := (4 + cnt (zRdX V))) cx (zok_8 (by decide)) (by decide) (p_z) rfl (by omega) (by decide) (pp_z2 (by omega)) dX7_identifyNow_97 ?_
          refine x_aload_n cx dX7_identifyNow_98 rfl rfl ?_
          refine x_getX7 cx 0 (by decide) (fl_X7_7 cx) (zok_8 (by decide)) (by decide) (p_M) rfl dX7_identifyNow_99 ?_
          refine x_iconst (v := 3) cx dX7_identifyNow_102 (by decide) ?_
          refine x_dup2 cx dX7_identifyNow_103 rfl rfl ?_
          refine x_iald (t := 3) cx (zok_8 (by decide)) (by decide) (p_z) rfl (by decide) (by decide) (trz (by decide)) dX7_identifyNow_104 ?_
          refine x_iconst (v := 1) cx dX7_identifyNow_105 (by decide) ?_
          refine x_iadd cx dX7_identifyNow_106 ?_
          refine x_iast (t := 3) cx (zok_8 (by decide)) (by decide) (p_z) rfl (by decide) (by decide) (pp_z0 (by decide)) dX7_identifyNow_107 ?_
          refine x_aload_n cx dX7_identifyNow_108 rfl rfl ?_
          refine x_getX7 cx 0 (by decide) (fl_X7_7 cx) (zok_8 (by decide)) (by decide) (p_M) rfl dX7_identifyNow_109 ?_
          refine x_iconst (v := 3) cx dX7_identifyNow_112 (by decide) ?_
          refine x_iald (t := 3) cx (zok_8 (by decide)) (by decide) (p_z) rfl (by decide) (by decide) (trz (by decide)) dX7_identifyNow_113 ?_
          refine x_eqi (show _ = nI (cnt (zRdX V) + 1) by rw [uj_same, upd_same, uj_ne _ _ (show 0 ≠ 2 by decide), hR.c3]; exact nI_1 _) ?_
          refine x_bipush (v := 8) cx dX7_identifyNow_114 (by decide) ?_
          refine x_icmp_ge_t (tgt := 123) cx dX7_identifyNow_116 (by decide) (nI_le (a := 8) (by omega) (by omega)) ?_
          refine x_iconst (v := 0) cx dX7_identifyNow_123 (by decide) ?_
          refine x_istore_n (ls' := [_, _, _]) cx dX7_identifyNow_124 rfl (by decide) rfl ?_
          refine x_goto (tgt := 58) cx dX7_identifyNow_125 (by decide) ?_
          have hzv : zIdL 0 (zKeep (zRdX V) (zRdV V)) = zIdL 8 Z := by rw [← hzv]; show _ = (if zRdV V = 255 then zRdX V else zIdL 0 (zKeep (zRdX V) (zRdV V))); rw [if_neg hb71]
          refine x_up (X' := zKeep (zRdX V) (zRdV V)) (by unfold zKeep; rw [uj_ne _ _ (show 0 ≠ 2 by decide)]) ?_
          have hzv : zKeep (zRdX V) (zRdV V) = zIdL 8 Z := hzv
          refine x_iload_n cx dX7_identifyNow_58 rfl rfl ?_
          refine x_if_eq_t (tgt := 128) cx dX7_identifyNow_59 (by decide) (by decide) ?_
          refine x_aload_n cx dX7_identifyNow_128 rfl rfl ?_
          refine x_iconst (v := 1) cx dX7_identifyNow_129 (by decide) ?_
          refine x_Vi (C := RX7) (T := TX7) (N := 9) (rest := []) cx (c_X7_moveNow l G _ _ (zKeep_WF (zRdX_WF hV) (by omega)) 1 (by decide)) gV_X7_112 ndX7_moveNow rfl ⟨Nat.le_of_ble_eq_true rfl, Nat.le_of_ble_eq_true rfl⟩ (zok_8 (by decide)) (by decide) (p_M) rfl rfl rfl (Nat.le_of_ble_eq_true rfl) dX7_identifyNow_130 ⟨Nat.le_of_ble_eq_true rfl, Nat.le_of_ble_eq_true rfl⟩ ?_
          refine x_pop cx dX7_identifyNow_133 rfl ?_
          exact x_vret cx hr (by intro _ _ _ _; rw [← hzv, hS1]) dX7_identifyNow_134
      | succ f ih =>
        intro V hV hcn hzv
        refine x_iload_n cx dX7_identifyNow_58 rfl rfl ?_
        refine x_if_eq_f (tgt := 128) cx dX7_identifyNow_59 (by decide) (by decide) ?_
        refine x_aload_n cx dX7_identifyNow_62 rfl rfl ?_
        refine x_Vi (C := RX7) (T := TX7) (N := 9) (rest := []) cx (c_X7_readOne l G _ _ hV) gV_X7_115 ndX7_readOne rfl ⟨Nat.le_of_ble_eq_true rfl, Nat.le_of_ble_eq_true rfl⟩ (zok_8 (by decide)) (by decide) (p_M) rfl rfl rfl (Nat.le_of_ble_eq_true rfl) dX7_identifyNow_63 ⟨Nat.le_of_ble_eq_true rfl, Nat.le_of_ble_eq_true rfl⟩ ?_
        refine x_istore_n (ls' := [_, _, _]) cx dX7_identifyNow_66 rfl (by decide) rfl ?_
        refine x_iload_n cx dX7_identifyNow_67 rfl rfl ?_
        refine x_sipush (v := 255) cx dX7_identifyNow_68 (by decide) ?_
        refine x_icmp_eq (tgt := 78) cx dX7_identifyNow_71 (by decide) (fun hb71 => ?_) (fun hb71 => ?_)
        · refine x_iconst (v := 0) cx dX7_identifyNow_78 (by decide) ?_
          refine x_istore_n (ls' := [_, _, _]) cx dX7_identifyNow_79 rfl (by decide) rfl ?_
          refine x_iload_n cx dX7_identifyNow_80 rfl rfl ?_
          refine x_if_eq_t (tgt := 125) cx dX7_identifyNow_81 (by decide) (by decide) ?_
          refine x_goto (tgt := 58) cx dX7_identifyNow_125 (by decide) ?_
          have hzv : zRdX V = zIdL 8 Z := by rw [← hzv]; unfold zIdL; rw [if_pos hb71]
          refine x_iload_n cx dX7_identifyNow_58 rfl rfl ?_
          refine x_if_eq_t (tgt := 128) cx dX7_identifyNow_59 (by decide) (by decide) ?_
          refine x_aload_n cx dX7_identifyNow_128 rfl rfl ?_
          refine x_iconst (v := 1) cx dX7_identifyNow_129 (by decide) ?_
          refine x_Vi (C := RX7) (T := TX7) (N := 9) (rest := []) cx (c_X7_moveNow l G _ _ (zRdX_WF hV) 1 (by decide)) gV_X7_112 ndX7_moveNow rfl ⟨Nat.le_of_ble_eq_true rfl, Nat.le_of_ble_eq_true rfl⟩ (zok_8 (by decide)) (by decide) (p_M) rfl rfl rfl (Nat.le_of_ble_eq_true rfl) dX7_identifyNow_130 ⟨Nat.le_of_ble_eq_true rfl, Nat.le_of_ble_eq_true rfl⟩ ?_
          refine x_pop cx dX7_identifyNow_133 rfl ?_
          exact x_vret cx hr (by intro _ _ _ _; rw [← hzv, hS1]) dX7_identifyNow_134
        · refine x_iconst (v := 1) cx dX7_identifyNow_74 (by decide) ?_
          refine x_goto (tgt := 79) cx dX7_identifyNow_75 (by decide) ?_
          refine x_istore_n (ls' := [_, _, _]) cx dX7_identifyNow_79 rfl (by decide) rfl ?_
          refine x_iload_n cx dX7_identifyNow_80 rfl rfl ?_
          refine x_if_eq_f (tgt := 125) cx dX7_identifyNow_81 (by decide) (by decide) ?_
          have hcr := cnt_rdX V
          have hR := zRdX_WF hV
          refine x_aload_n cx dX7_identifyNow_84 rfl rfl ?_
          refine x_getX7 cx 0 (by decide) (fl_X7_7 cx) (zok_8 (by decide)) (by decide) (p_M) rfl dX7_identifyNow_85 ?_
          refine x_iconst (v := 4) cx dX7_identifyNow_88 (by decide) ?_
          refine x_aload_n cx dX7_identifyNow_89 rfl rfl ?_
          refine x_getX7 cx 0 (by decide) (fl_X7_7 cx) (zok_8 (by decide)) (by decide) (p_M) rfl dX7_identifyNow_90 ?_
          refine x_iconst (v := 3) cx dX7_identifyNow_93 (by decide) ?_
          refine x_iald (t := 3) cx (zok_8 (by decide)) (by decide) (p_z) rfl (by decide) (by decide) (trz (by decide)) dX7_identifyNow_94 ?_
          refine x_eqi hR.c3 ?_
          refine x_iadd cx dX7_identifyNow_95 ?_
          refine x_eqi (nI_add 4 (cnt (zRdX V))) ?_
          refine x_iload_n cx dX7_identifyNow_96 rfl rfl ?_
          refine x_iast (t := (4 + cnt (zRdX V))) cx (zok_8 (by decide)) (by decide) (p_z) rfl (by omega) (by decide) (pp_z2 (by omega)) dX7_identifyNow_97 ?_
          refine x_aload_n cx dX7_identifyNow_98 rfl rfl ?_
          refine x_getX7 cx 0 (by decide) (fl_X7_7 cx) (zok_8 (by decide)) (by decide) (p_M) rfl dX7_identifyNow_99 ?_
          refine x_iconst (v := 3) cx dX7_identifyNow_102 (by decide) ?_
          refine x_dup2 cx dX7_identifyNow_103 rfl rfl ?_
          refine x_iald (t := 3) cx (zok_8 (by decide)) (by decide) (p_z) rfl (by decide) (by decide) (trz (by decide)) dX7_identifyNow_104 ?_
          refine x_iconst (v := 1) cx dX7_identifyNow_105 (by decide) ?_
          refine x_iadd cx dX7_identifyNow_106 ?_
          refine x_iast (t := 3) cx (zok_8 (by decide)) (by decide) (p_z) rfl (by decide) (by decide) (pp_z0 (by decide)) dX7_identifyNow_107 ?_
          refine x_aload_n cx dX7_identifyNow_108 rfl rfl ?_
          refine x_getX7 cx 0 (by decide) (fl_X7_7 cx) (zok_8 (by decide)) (by decide) (p_M) rfl dX7_identifyNow_109 ?_
          refine x_iconst (v := 3) cx dX7_identifyNow_112 (by decide) ?_
          refine x_iald (t := 3) cx (zok_8 (by decide)) (by decide) (p_z) rfl (by decide) (by decide) (trz (by decide)) dX7_identifyNow_113 ?_
          refine x_eqi (show _ = nI (cnt (zRdX V) + 1) by rw [uj_same, upd_same, uj_ne _ _ (show 0 ≠ 2 by decide), hR.c3]; exact nI_1 _) ?_
          refine x_bipush (v := 8) cx dX7_identifyNow_114 (by decide) ?_
          refine x_icmp_ge_f (tgt := 123) cx dX7_identifyNow_116 (by decide) (nI_ge (b := 8) (by omega) (by decide)) ?_
          refine x_iconst (v := 1) cx dX7_identifyNow_119 (by decide) ?_
          refine x_goto (tgt := 124) cx dX7_identifyNow_120 (by decide) ?_
          refine x_istore_n (ls' := [_, _, _]) cx dX7_identifyNow_124 rfl (by decide) rfl ?_
          refine x_goto (tgt := 58) cx dX7_identifyNow_125 (by decide) ?_
          have hzv : zIdL (f + 1) (zKeep (zRdX V) (zRdV V)) = zIdL 8 Z := by rw [← hzv]; show _ = (if zRdV V = 255 then zRdX V else zIdL (f + 1) (zKeep (zRdX V) (zRdV V))); rw [if_neg hb71]
          refine x_up (X' := zKeep (zRdX V) (zRdV V)) (by unfold zKeep; rw [uj_ne _ _ (show 0 ≠ 2 by decide)]) ?_
          exact x_ls rfl (by simp [lo]) (ih _ (zKeep_WF (zRdX_WF hV) (by omega)) (by rw [cnt_keep (zRdX_WF hV)]; omega) hzv)
    | succ f ih =>
      intro k hk
      refine x_iload_n cx dX7_identifyNow_35 rfl rfl ?_
      refine x_bipush (v := 8) cx dX7_identifyNow_36 (by decide) ?_
      refine x_icmp_ge_f (tgt := 56) cx dX7_identifyNow_38 (by decide) (nI_ge (b := 8) (by omega) (by decide)) ?_
      refine x_aload_n cx dX7_identifyNow_41 rfl rfl ?_
      refine x_getX7 cx 0 (by decide) (fl_X7_7 cx) (zok_8 (by decide)) (by decide) (p_M) rfl dX7_identifyNow_42 ?_
      refine x_iconst (v := 4) cx dX7_identifyNow_45 (by decide) ?_
      refine x_iload_n cx dX7_identifyNow_46 rfl rfl ?_
      refine x_iadd cx dX7_identifyNow_47 ?_
      refine x_eqi (nI_add 4 k) ?_
      refine x_iconst (v := 0) cx dX7_identifyNow_48 (by decide) ?_
      refine x_iast (t := (4 + k)) cx (zok_8 (by decide)) (by decide) (p_z) rfl (by omega) (by decide) (pp_z2 (by omega)) dX7_identifyNow_49 ?_
      refine x_iinc (v := nI (k + 1)) (ls' := [_, _, _]) cx dX7_identifyNow_50 rfl (nI_inc _) (by decide) rfl ?_
      refine x_goto (tgt := 35) cx dX7_identifyNow_53 (by decide) ?_
      exact x_up (by rw [uj_same, uj_uj, zrs_s]) (ih (k + 1) (by omega))
  | succ f ih =>
    intro k Y hk hY hz
    refine x_iload_n cx dX7_identifyNow_2 rfl rfl ?_
    refine x_iconst (v := 5) cx dX7_identifyNow_3 (by decide) ?_
    refine x_icmp_ge_f (tgt := 20) cx dX7_identifyNow_4 (by decide) (nI_ge (b := 5) (by omega) (by decide)) ?_
    refine x_aload_n cx dX7_identifyNow_7 rfl rfl ?_
    refine x_iconst (v := 1) cx dX7_identifyNow_8 (by decide) ?_
    refine x_iconst (v := 1) cx dX7_identifyNow_9 (by decide) ?_
    refine x_Vi (C := RX7) (T := TX7) (N := 9) (rest := []) cx (c_X7_clockNow l G _ _ hY _ _) gV_X7_106 ndX7_clockNow rfl ⟨Nat.le_of_ble_eq_true rfl, Nat.le_of_ble_eq_true rfl⟩ (zok_8 (by decide)) (by decide) (p_M) rfl rfl rfl (Nat.le_of_ble_eq_true rfl) dX7_identifyNow_10 ⟨Nat.le_of_ble_eq_true rfl, Nat.le_of_ble_eq_true rfl⟩ ?_
    refine x_pop cx dX7_identifyNow_13 rfl ?_
    refine x_iinc (v := nI (k + 1)) (ls' := [_, _, _]) cx dX7_identifyNow_14 rfl (nI_inc _) (by decide) rfl ?_
    refine x_goto (tgt := 2) cx dX7_identifyNow_17 (by decide) ?_
    exact ih (k + 1) _ (by omega) (zTick_WF hY) hz

set_option maxHeartbeats 4000000 in
set_option maxRecDepth 100000 in
theorem c_X7_clockBits (l : Launch) (G : zG) (S : zS) (X : zCV) (hW : zWF X) (x : Int32) (L : Nat) (hL : L ≤ 8) (la : Int32) (hla : la = 0 ∨ la = 1) : Met l yX7_clockBits (zws yX7_clockBits cX7_clockBits 7 (some .int)) (zrm 5 0 0 113) (zPc G 75 (pic G (up S 8 X)) [.ref (zad G 8 0), .int x, .int (nI L), .int la]) (zQi G 75 (zThO x L la L X) (pic G (up S 8 (zThX x L la L X)))) 0 0 (zA G) := by
  refine zMet npX7_clockBits rfl (Nat.le_of_ble_eq_true rfl) ?_
  intro p e s m args below meth cd hargs cx hr hin0
  have cx : Cx p s m args meth cd cX7_clockBits 7 RX7 G := cx
  refine x_ls (ls' := [some (.ref (zad G 8 0)), some (.int x), some (.int (nI L)), some (.int la), none, none, none]) rfl (fun _ h => h) ?_
  refine x_iconst (v := 0) cx dX7_clockBits_0 (by decide) ?_
  refine x_istore (ls' := [_, _, _, _, _, _, _]) cx dX7_clockBits_1 (by decide) rfl ?_
  refine x_iconst (v := 0) cx dX7_clockBits_3 (by decide) ?_
  refine x_istore (ls' := [_, _, _, _, _, _, _]) cx dX7_clockBits_4 (by decide) rfl ?_
  suffices K : ∀ f k : Nat, k + f = L → Xh p l e _ s m args below meth cd 7 G _ 0 0 75 (pic G (up S 8 (zThX x L la k X))) 6 [some (.ref (zad G 8 0)), some (.int x), some (.int (nI L)), some (.int la), some (.int (zThO x L la k X)), some (.int (nI k)), none] [] from K L 0 (by omega)
  intro f
  induction f with
  | zero =>
    intro k hk
    obtain rfl : k = L := by omega
    refine x_iload cx dX7_clockBits_6 rfl ?_
    refine x_iload_n cx dX7_clockBits_8 rfl rfl ?_
    refine x_icmp_ge_t (tgt := 53) cx dX7_clockBits_9 (by decide) (nI_le (Nat.le_refl _) (by omega)) ?_
    refine x_iload cx dX7_clockBits_53 rfl ?_
    exact x_iret cx hr rfl (fun _ _ _ _ => rfl) dX7_clockBits_55
  | succ f ih =>
    intro k hk
    refine x_iload cx dX7_clockBits_6 rfl ?_
    refine x_iload_n cx dX7_clockBits_8 rfl rfl ?_
    refine x_icmp_ge_f (tgt := 53) cx dX7_clockBits_9 (by decide) (nI_ge (by omega) (by omega)) ?_
    refine x_iload cx dX7_clockBits_12 rfl ?_
    refine x_iload_n cx dX7_clockBits_14 rfl rfl ?_
    refine x_iconst (v := 1) cx dX7_clockBits_15 (by decide) ?_
    refine x_isub cx dX7_clockBits_16 ?_
    refine x_icmp_ne (tgt := 24) cx dX7_clockBits_17 (by decide) (fun hb17 => ?_) (fun hb17 => ?_)
    · refine x_iconst (v := 0) cx dX7_clockBits_24 (by decide) ?_
      refine x_istore (ls' := [_, _, _, _, _, _, _]) cx dX7_clockBits_25 (by decide) rfl ?_
      refine x_iload cx dX7_clockBits_27 rfl ?_
      refine x_aload_n cx dX7_clockBits_29 rfl rfl ?_
      refine x_iload cx dX7_clockBits_30 rfl ?_
      refine x_iload_n cx dX7_clockBits_32 rfl rfl ?_
      refine x_iload cx dX7_clockBits_33 rfl ?_
      refine x_ishr cx dX7_clockBits_35 ?_
      refine x_iconst (v := 1) cx dX7_clockBits_36 (by decide) ?_
      refine x_iand cx dX7_clockBits_37 ?_
      refine x_Vi (C := RX7) (T := TX7) (N := 9) (rest := [_]) cx (c_X7_clockNow l G _ _ (zThX_WF hW k) _ _) gV_X7_106 ndX7_clockNow rfl ⟨Nat.le_of_ble_eq_true rfl, Nat.le_of_ble_eq_true rfl⟩ (zok_8 (by decide)) (by decide) (p_M) rfl rfl rfl (Nat.le_of_ble_eq_true rfl) dX7_clockBits_38 ⟨Nat.le_of_ble_eq_true rfl, Nat.le_of_ble_eq_true rfl⟩ ?_
      refine x_iload cx dX7_clockBits_41 rfl ?_
      refine x_ishl cx dX7_clockBits_43 ?_
      refine x_ior cx dX7_clockBits_44 ?_
      refine x_istore (ls' := [_, _, _, _, _, _, _]) cx dX7_clockBits_45 (by decide) rfl ?_
      refine x_iinc (v := nI (k + 1)) (ls' := [_, _, _, _, _, _, _]) cx dX7_clockBits_47 rfl (nI_inc _) (by decide) rfl ?_
      refine x_goto (tgt := 6) cx dX7_clockBits_50 (by decide) ?_
      have hm : zLm la L k = 0 := zLm_nn hla (by omega) hL hb17
      refine x_up (X' := zThX x L la (k + 1) X) (by show _ = zTick (zThX x L la k X) (zLm la L k) (zBit x k); rw [hm]; rfl) ?_
      exact x_ls rfl (by simp [lo, zThO, zBit]) (ih (k + 1) (by omega))
    · refine x_iload_n cx dX7_clockBits_20 rfl rfl ?_
      refine x_goto (tgt := 25) cx dX7_clockBits_21 (by decide) ?_
      refine x_istore (ls' := [_, _, _, _, _, _, _]) cx dX7_clockBits_25 (by decide) rfl ?_
      refine x_iload cx dX7_clockBits_27 rfl ?_
      refine x_aload_n cx dX7_clockBits_29 rfl rfl ?_
      refine x_iload cx dX7_clockBits_30 rfl ?_
      refine x_iload_n cx dX7_clockBits_32 rfl rfl ?_
      refine x_iload cx dX7_clockBits_33 rfl ?_
      refine x_ishr cx dX7_clockBits_35 ?_
      refine x_iconst (v := 1) cx dX7_clockBits_36 (by decide) ?_
      refine x_iand cx dX7_clockBits_37 ?_
      refine x_Vi (C := RX7) (T := TX7) (N := 9) (rest := [_]) cx (c_X7_clockNow l G _ _ (zThX_WF hW k) _ _) gV_X7_106 ndX7_clockNow rfl ⟨Nat.le_of_ble_eq_true rfl, Nat.le_of_ble_eq_true rfl⟩ (zok_8 (by decide)) (by decide) (p_M) rfl rfl rfl (Nat.le_of_ble_eq_true rfl) dX7_clockBits_38 ⟨Nat.le_of_ble_eq_true rfl, Nat.le_of_ble_eq_true rfl⟩ ?_
      refine x_iload cx dX7_clockBits_41 rfl ?_
      refine x_ishl cx dX7_clockBits_43 ?_
      refine x_ior cx dX7_clockBits_44 ?_
      refine x_istore (ls' := [_, _, _, _, _, _, _]) cx dX7_clockBits_45 (by decide) rfl ?_
      refine x_iinc (v := nI (k + 1)) (ls' := [_, _, _, _, _, _, _]) cx dX7_clockBits_47 rfl (nI_inc _) (by decide) rfl ?_
      refine x_goto (tgt := 6) cx dX7_clockBits_50 (by decide) ?_
      have hm : zLm la L k = la := zLm_eq hla (by omega) hL hb17
      refine x_up (X' := zThX x L la (k + 1) X) (by show _ = zTick (zThX x L la k X) (zLm la L k) (zBit x k); rw [hm]; rfl) ?_
      exact x_ls rfl (by simp [lo, zThO, zBit]) (ih (k + 1) (by omega))

set_option maxHeartbeats 4000000 in
set_option maxRecDepth 100000 in
theorem c_X7_exchangeNow (l : Launch) (G : zG) (S : zS) (X : zCV) (hW : zWF X) (q : Nat) (hq : q < num X) (x : Int32) : Met l yX7_exchangeNow (zws yX7_exchangeNow cX7_exchangeNow 6 (some .int)) (zrm 6 0 0 139) (zPc G 75 (pic G (up S 8 X)) [.ref (zad G 8 0), .int (nI q), .int x]) (zQi G 75 (zExchO X q x) (pic G (up (fr S (farF 1)) 8 (zExch X q x)))) 0 0 (zA G) := by
  refine zMet npX7_exchangeNow rfl (Nat.le_of_ble_eq_true rfl) ?_
  intro p e s m args below meth cd hargs cx hr hin0
  have cx : Cx p s m args meth cd cX7_exchangeNow 6 RX7 G := cx
  refine x_ls (ls' := [some (.ref (zad G 8 0)), some (.int (nI q)), some (.int x), none, none, none]) rfl (fun _ h => h) ?_
  have h6 := hW.n6
  refine x_aload_n cx dX7_exchangeNow_0 rfl rfl ?_
  refine x_iconst (v := 4) cx dX7_exchangeNow_1 (by decide) ?_
  refine x_Vi (C := RX7) (T := TX7) (N := 9) (rest := []) cx (c_X7_moveNow l G _ _ hW 4 (by decide)) gV_X7_112 ndX7_moveNow rfl ⟨Nat.le_of_ble_eq_true rfl, Nat.le_of_ble_eq_true rfl⟩ (zok_8 (by decide)) (by decide) (p_M) rfl rfl rfl (Nat.le_of_ble_eq_true rfl) dX7_exchangeNow_2 ⟨Nat.le_of_ble_eq_true rfl, Nat.le_of_ble_eq_true rfl⟩ ?_
  refine x_pop cx dX7_exchangeNow_5 rfl ?_
  refine x_iconst (v := 0) cx dX7_exchangeNow_6 (by decide) ?_
  refine x_istore_n (ls' := [_, _, _, _, _, _]) cx dX7_exchangeNow_7 rfl (by decide) rfl ?_
  refine x_aload_n cx dX7_exchangeNow_8 rfl rfl ?_
  refine x_getX7 cx 0 (by decide) (fl_X7_7 cx) (zok_8 (by decide)) (by decide) (p_M) rfl dX7_exchangeNow_9 ?_
  refine x_iconst (v := 0) cx dX7_exchangeNow_12 (by decide) ?_
  refine x_iald (t := 0) cx (zok_8 (by decide)) (by decide) (p_z) rfl (by decide) (by decide) (trz (by decide)) dX7_exchangeNow_13 ?_
  refine x_eqi (show _ = nI (num X) by rw [← num_go X 4]; exact (zGo_WF hW).sz) ?_
  refine x_iconst (v := 1) cx dX7_exchangeNow_14 (by decide) ?_
  refine x_isub cx dX7_exchangeNow_15 ?_
  refine x_istore (ls' := [_, _, _, _, _, _]) cx dX7_exchangeNow_16 (by decide) rfl ?_
  have hS1 : ∀ F, fr (fr S (farF 4)) F = fr S F := fun F => fr_fr _ _ _
  generalize fr S (farF 4) = S1 at hS1 ⊢
  suffices K : ∀ (k : Nat) (o : Int32) (Y : zCV), k ≤ num X → zWF Y → num Y = num X → zExX q x k Y = zExX q x (num X) (zGo X 4) → zExO q x k o Y = zExchO X q x → Xh p l e _ s m args below meth cd 6 G _ 0 0 75 (pic G (up S1 8 Y)) 18 [some (.ref (zad G 8 0)), some (.int (nI q)), some (.int x), some (.int o), some (.int (nI k - 1)), none] [] from K _ _ _ (Nat.le_refl _) (zGo_WF hW) (num_go X 4) rfl rfl
  intro k
  induction k with
  | zero =>
    intro o Y hk hY hn hz ho
    have hz : Y = zExX q x (num X) (zGo X 4) := hz
    refine x_iload cx dX7_exchangeNow_18 rfl ?_
    refine x_if_lt_t (tgt := 75) cx dX7_exchangeNow_20 (by decide) (by decide) ?_
    refine x_aload_n cx dX7_exchangeNow_75 rfl rfl ?_
    refine x_iconst (v := 1) cx dX7_exchangeNow_76 (by decide) ?_
    refine x_Vi (C := RX7) (T := TX7) (N := 9) (rest := []) cx (c_X7_moveNow l G _ _ hY 1 (by decide)) gV_X7_112 ndX7_moveNow rfl ⟨Nat.le_of_ble_eq_true rfl, Nat.le_of_ble_eq_true rfl⟩ (zok_8 (by decide)) (by decide) (p_M) rfl rfl rfl (Nat.le_of_ble_eq_true rfl) dX7_exchangeNow_77 ⟨Nat.le_of_ble_eq_true rfl, Nat.le_of_ble_eq_true rfl⟩ ?_
    refine x_pop cx dX7_exchangeNow_80 rfl ?_
    refine x_iload_n cx dX7_exchangeNow_81 rfl rfl ?_
    exact x_iret cx hr ho (by intro _ _ _ _; unfold zExch; rw [← hz, hS1]) dX7_exchangeNow_82
  | succ k ih =>
    intro o Y hk hY hn hz ho
    rw [nI_pred]
    have hc := cWF_bits (hY.chip (t := k) (by omega))
    refine x_iload cx dX7_exchangeNow_18 rfl ?_
    refine x_if_lt_f (tgt := 75) cx dX7_exchangeNow_20 (by decide) (nI_pos (by omega)) ?_
    refine x_aload_n cx dX7_exchangeNow_23 rfl rfl ?_
    refine x_iload cx dX7_exchangeNow_24 rfl ?_
    refine x_iload_n cx dX7_exchangeNow_26 rfl rfl ?_
    refine x_icmp_ne (tgt := 34) cx dX7_exchangeNow_27 (by decide) (fun hb27 => ?_) (fun hb27 => ?_)
    · refine x_iconst (v := 0) cx dX7_exchangeNow_34 (by decide) ?_
      refine x_aload_n cx dX7_exchangeNow_35 rfl rfl ?_
      refine x_iload cx dX7_exchangeNow_36 rfl ?_
      refine x_Vi (C := RX7) (T := TX7) (N := 9) (rest := [_, _]) cx (c_X7_bits l G _ _ k (by omega) (hY.chip (by omega)).2.2.2) gV_X7_91 ndX7_bits rfl ⟨Nat.le_of_ble_eq_true rfl, Nat.le_of_ble_eq_true rfl⟩ (zok_8 (by decide)) (by decide) (p_M) rfl rfl rfl (Nat.le_of_ble_eq_true rfl) dX7_exchangeNow_38 ⟨Nat.le_of_ble_eq_true rfl, Nat.le_of_ble_eq_true rfl⟩ ?_
      refine x_eqi (show _ = nI (zBtN Y k) from hc.1) ?_
      refine x_iload cx dX7_exchangeNow_41 rfl ?_
      refine x_if_ne (tgt := 50) cx dX7_exchangeNow_43 (by decide) (fun hb43 => ?_) (fun hb43 => ?_)
      · refine x_iconst (v := 0) cx dX7_exchangeNow_50 (by decide) ?_
        refine x_Vi (C := RX7) (T := TX7) (N := 9) (rest := []) cx (c_X7_clockBits l G _ _ hY _ (zBtN Y k) hc.2.2 0 (Or.inl rfl)) gV_X7_121 ndX7_clockBits rfl ⟨Nat.le_of_ble_eq_true rfl, Nat.le_of_ble_eq_true rfl⟩ (zok_8 (by decide)) (by decide) (p_M) rfl rfl rfl (Nat.le_of_ble_eq_true rfl) dX7_exchangeNow_51 ⟨Nat.le_of_ble_eq_true rfl, Nat.le_of_ble_eq_true rfl⟩ ?_
        refine x_istore (ls' := [_, _, _, _, _, _]) cx dX7_exchangeNow_54 (by decide) rfl ?_
        refine x_iload cx dX7_exchangeNow_56 rfl ?_
        refine x_iload_n cx dX7_exchangeNow_58 rfl rfl ?_
        refine x_icmp_ne_t (tgt := 67) cx dX7_exchangeNow_59 (by decide) hb27 ?_
        refine x_iload_n cx dX7_exchangeNow_67 rfl rfl ?_
        refine x_istore_n (ls' := [_, _, _, _, _, _]) cx dX7_exchangeNow_68 rfl (by decide) rfl ?_
        refine x_iinc (ls' := [_, _, _, _, _, _]) cx dX7_exchangeNow_69 rfl rfl (by decide) rfl ?_
        refine x_goto (tgt := 18) cx dX7_exchangeNow_72 (by decide) ?_
        have hqk : ¬ k = q := fun z => hb27 (by rw [z])
        have hcd : zDat q x k = 0 := if_neg hqk
        have hof : ∀ u : Int32, (if k = q then u else o) = o := fun u => if_neg hqk
        have hla : zLa k = 0 := by unfold zLa; rw [if_neg (fun z => hb43 (by rw [z]; rfl))]
        rw [nI_dec]
        refine x_up (X' := zThX (zDat q x k) (zBtN Y k) (zLa k) (zBtN Y k) Y) (by rw [hcd, hla]) ?_
        have ho2 : zExO q x k (if k = q then zThO (zDat q x k) (zBtN Y k) (zLa k) (zBtN Y k) Y else o) (zThX (zDat q x k) (zBtN Y k) (zLa k) (zBtN Y k) Y) = zExchO X q x := ho
        have h9 := ih _ _ (by omega) (zThX_WF hY _) (by rw [num_thX]; exact hn) hz ho2
        rw [hof] at h9
        exact x_ls rfl (by simp [lo, hcd, hla]) h9
      · refine x_iconst (v := 1) cx dX7_exchangeNow_46 (by decide) ?_
        refine x_goto (tgt := 51) cx dX7_exchangeNow_47 (by decide) ?_
        refine x_Vi (C := RX7) (T := TX7) (N := 9) (rest := []) cx (c_X7_clockBits l G _ _ hY _ (zBtN Y k) hc.2.2 1 (Or.inr rfl)) gV_X7_121 ndX7_clockBits rfl ⟨Nat.le_of_ble_eq_true rfl, Nat.le_of_ble_eq_true rfl⟩ (zok_8 (by decide)) (by decide) (p_M) rfl rfl rfl (Nat.le_of_ble_eq_true rfl) dX7_exchangeNow_51 ⟨Nat.le_of_ble_eq_true rfl, Nat.le_of_ble_eq_true rfl⟩ ?_
        refine x_istore (ls' := [_, _, _, _, _, _]) cx dX7_exchangeNow_54 (by decide) rfl ?_
        refine x_iload cx dX7_exchangeNow_56 rfl ?_
        refine x_iload_n cx dX7_exchangeNow_58 rfl rfl ?_
        refine x_icmp_ne_t (tgt := 67) cx dX7_exchangeNow_59 (by decide) hb27 ?_
        refine x_iload_n cx dX7_exchangeNow_67 rfl rfl ?_
        refine x_istore_n (ls' := [_, _, _, _, _, _]) cx dX7_exchangeNow_68 rfl (by decide) rfl ?_
        refine x_iinc (ls' := [_, _, _, _, _, _]) cx dX7_exchangeNow_69 rfl rfl (by decide) rfl ?_
        refine x_goto (tgt := 18) cx dX7_exchangeNow_72 (by decide) ?_
        have hqk : ¬ k = q := fun z => hb27 (by rw [z])
        have hcd : zDat q x k = 0 := if_neg hqk
        have hof : ∀ u : Int32, (if k = q then u else o) = o := fun u => if_neg hqk
        have hla : zLa k = 1 := by unfold zLa; rw [if_pos ((nI_eq (b := 0) (by omega) (by decide)).mp hb43)]
        rw [nI_dec]
        refine x_up (X' := zThX (zDat q x k) (zBtN Y k) (zLa k) (zBtN Y k) Y) (by rw [hcd, hla]) ?_
        have ho2 : zExO q x k (if k = q then zThO (zDat q x k) (zBtN Y k) (zLa k) (zBtN Y k) Y else o) (zThX (zDat q x k) (zBtN Y k) (zLa k) (zBtN Y k) Y) = zExchO X q x := ho
        have h9 := ih _ _ (by omega) (zThX_WF hY _) (by rw [num_thX]; exact hn) hz ho2
        rw [hof] at h9
        exact x_ls rfl (by simp [lo, hcd, hla]) h9
    · refine x_iload_n cx dX7_exchangeNow_30 rfl rfl ?_
      refine x_goto (tgt := 35) cx dX7_exchangeNow_31 (by decide) ?_
      refine x_aload_n cx dX7_exchangeNow_35 rfl rfl ?_
      refine x_iload cx dX7_exchangeNow_36 rfl ?_
      refine x_Vi (C := RX7) (T := TX7) (N := 9) (rest := [_, _]) cx (c_X7_bits l G _ _ k (by omega) (hY.chip (by omega)).2.2.2) gV_X7_91 ndX7_bits rfl ⟨Nat.le_of_ble_eq_true rfl, Nat.le_of_ble_eq_true rfl⟩ (zok_8 (by decide)) (by decide) (p_M) rfl rfl rfl (Nat.le_of_ble_eq_true rfl) dX7_exchangeNow_38 ⟨Nat.le_of_ble_eq_true rfl, Nat.le_of_ble_eq_true rfl⟩ ?_
      refine x_eqi (show _ = nI (zBtN Y k) from hc.1) ?_
      refine x_iload cx dX7_exchangeNow_41 rfl ?_
      refine x_if_ne (tgt := 50) cx dX7_exchangeNow_43 (by decide) (fun hb43 => ?_) (fun hb43 => ?_)
      · refine x_iconst (v := 0) cx dX7_exchangeNow_50 (by decide) ?_
        refine x_Vi (C := RX7) (T := TX7) (N := 9) (rest := []) cx (c_X7_clockBits l G _ _ hY _ (zBtN Y k) hc.2.2 0 (Or.inl rfl)) gV_X7_121 ndX7_clockBits rfl ⟨Nat.le_of_ble_eq_true rfl, Nat.le_of_ble_eq_true rfl⟩ (zok_8 (by decide)) (by decide) (p_M) rfl rfl rfl (Nat.le_of_ble_eq_true rfl) dX7_exchangeNow_51 ⟨Nat.le_of_ble_eq_true rfl, Nat.le_of_ble_eq_true rfl⟩ ?_
        refine x_istore (ls' := [_, _, _, _, _, _]) cx dX7_exchangeNow_54 (by decide) rfl ?_
        refine x_iload cx dX7_exchangeNow_56 rfl ?_
        refine x_iload_n cx dX7_exchangeNow_58 rfl rfl ?_
        refine x_icmp_ne_f (tgt := 67) cx dX7_exchangeNow_59 (by decide) hb27 ?_
        refine x_iload cx dX7_exchangeNow_62 rfl ?_
        refine x_goto (tgt := 68) cx dX7_exchangeNow_64 (by decide) ?_
        refine x_istore_n (ls' := [_, _, _, _, _, _]) cx dX7_exchangeNow_68 rfl (by decide) rfl ?_
        refine x_iinc (ls' := [_, _, _, _, _, _]) cx dX7_exchangeNow_69 rfl rfl (by decide) rfl ?_
        refine x_goto (tgt := 18) cx dX7_exchangeNow_72 (by decide) ?_
        have hqk : k = q := (nI_eq (by omega) (by omega)).mp hb27
        have hcd : zDat q x k = x := if_pos hqk
        have hof : ∀ u : Int32, (if k = q then u else o) = u := fun u => if_pos hqk
        have hla : zLa k = 0 := by unfold zLa; rw [if_neg (fun z => hb43 (by rw [z]; rfl))]
        rw [nI_dec]
        refine x_up (X' := zThX (zDat q x k) (zBtN Y k) (zLa k) (zBtN Y k) Y) (by rw [hcd, hla]) ?_
        have ho2 : zExO q x k (if k = q then zThO (zDat q x k) (zBtN Y k) (zLa k) (zBtN Y k) Y else o) (zThX (zDat q x k) (zBtN Y k) (zLa k) (zBtN Y k) Y) = zExchO X q x := ho
        have h9 := ih _ _ (by omega) (zThX_WF hY _) (by rw [num_thX]; exact hn) hz ho2
        rw [hof] at h9
        exact x_ls rfl (by simp [lo, hcd, hla]) h9
      · refine x_iconst (v := 1) cx dX7_exchangeNow_46 (by decide) ?_
        refine x_goto (tgt := 51) cx dX7_exchangeNow_47 (by decide) ?_
        refine x_Vi (C := RX7) (T := TX7) (N := 9) (rest := []) cx (c_X7_clockBits l G _ _ hY _ (zBtN Y k) hc.2.2 1 (Or.inr rfl)) gV_X7_121 ndX7_clockBits rfl ⟨Nat.le_of_ble_eq_true rfl, Nat.le_of_ble_eq_true rfl⟩ (zok_8 (by decide)) (by decide) (p_M) rfl rfl rfl (Nat.le_of_ble_eq_true rfl) dX7_exchangeNow_51 ⟨Nat.le_of_ble_eq_true rfl, Nat.le_of_ble_eq_true rfl⟩ ?_
        refine x_istore (ls' := [_, _, _, _, _, _]) cx dX7_exchangeNow_54 (by decide) rfl ?_
        refine x_iload cx dX7_exchangeNow_56 rfl ?_
        refine x_iload_n cx dX7_exchangeNow_58 rfl rfl ?_
        refine x_icmp_ne_f (tgt := 67) cx dX7_exchangeNow_59 (by decide) hb27 ?_
        refine x_iload cx dX7_exchangeNow_62 rfl ?_
        refine x_goto (tgt := 68) cx dX7_exchangeNow_64 (by decide) ?_
        refine x_istore_n (ls' := [_, _, _, _, _, _]) cx dX7_exchangeNow_68 rfl (by decide) rfl ?_
        refine x_iinc (ls' := [_, _, _, _, _, _]) cx dX7_exchangeNow_69 rfl rfl (by decide) rfl ?_
        refine x_goto (tgt := 18) cx dX7_exchangeNow_72 (by decide) ?_
        have hqk : k = q := (nI_eq (by omega) (by omega)).mp hb27
        have hcd : zDat q x k = x := if_pos hqk
        have hof : ∀ u : Int32, (if k = q then u else o) = u := fun u => if_pos hqk
        have hla : zLa k = 1 := by unfold zLa; rw [if_pos ((nI_eq (b := 0) (by omega) (by decide)).mp hb43)]
        rw [nI_dec]
        refine x_up (X' := zThX (zDat q x k) (zBtN Y k) (zLa k) (zBtN Y k) Y) (by rw [hcd, hla]) ?_
        have ho2 : zExO q x k (if k = q then zThO (zDat q x k) (zBtN Y k) (zLa k) (zBtN Y k) Y else o) (zThX (zDat q x k) (zBtN Y k) (zLa k) (zBtN Y k) Y) = zExchO X q x := ho
        have h9 := ih _ _ (by omega) (zThX_WF hY _) (by rw [num_thX]; exact hn) hz ho2
        rw [hof] at h9
        exact x_ls rfl (by simp [lo, hcd, hla]) h9

