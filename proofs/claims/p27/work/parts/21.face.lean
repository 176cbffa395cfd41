set_option maxHeartbeats 4000000 in
set_option maxRecDepth 100000 in
theorem c_X6_add (l : Launch) (G : zG) (S : zS) (hS : kWF S) (cl id ce : Int32) : Met l yX6_add (zws yX6_add cX6_add 4 (some .int)) (zrm 4 0 0 88) (zPc G 68 (pic G S) [.ref (zad G 7 0), .int cl, .int id, .int ce]) (zQi G 68 (if eAdd (S 0) cl id ce = 0 then S 0 0 0 else eAdd (S 0) cl id ce) (pic G (if eAdd (S 0) cl id ce = 0 then up (zRec S) 0 (zAdd (S 0) cl id ce) else S))) 0 0 (zA G) := by
  refine zMet npX6_add rfl (Nat.le_of_ble_eq_true rfl) ?_
  intro p e s m args below meth cd hargs cx hr hin0
  have cx : Cx p s m args meth cd cX6_add 4 RX6 G := cx
  refine x_ls (ls' := [some (.ref (zad G 7 0)), some (.int cl), some (.int id), some (.int ce)]) rfl (fun _ h => h) ?_
  have h6 := hS.1.n6
  refine x_iload_n cx dX6_add_0 rfl rfl ?_
  refine x_iconst (v := 2) cx dX6_add_1 (by decide) ?_
  refine x_bipush (v := 6) cx dX6_add_2 (by decide) ?_
  refine x_Si (rest := []) cx (c_X6_isWithin l G _ _ _ _ _) gS_X6_40 ndX6_isWithin ⟨Nat.le_of_ble_eq_true rfl, Nat.le_of_ble_eq_true rfl⟩ rfl rfl (Nat.le_of_ble_eq_true rfl) dX6_add_4 ⟨Nat.le_of_ble_eq_true rfl, Nat.le_of_ble_eq_true rfl⟩ ?_
  refine x_if_eq (tgt := 27) cx dX6_add_7 (by decide) (fun hb7 => ?_) (fun hb7 => ?_)
  · refine x_bipush (v := (-2)) cx dX6_add_27 (by decide) ?_
    have he : eAdd (S 0) cl id ce = -2 := by unfold eAdd; rw [if_pos hb7]
    exact x_iret cx hr (by rw [he, if_neg (by decide)]) (by intro _ _ _ _; rw [he, if_neg (by decide)]) dX6_add_29
  · refine x_iload_n cx dX6_add_10 rfl rfl ?_
    refine x_Si (rest := []) cx (c_X6_isIdentity l G _ _ _) gS_X6_44 ndX6_isIdentity ⟨Nat.le_of_ble_eq_true rfl, Nat.le_of_ble_eq_true rfl⟩ rfl rfl (Nat.le_of_ble_eq_true rfl) dX6_add_11 ⟨Nat.le_of_ble_eq_true rfl, Nat.le_of_ble_eq_true rfl⟩ ?_
    refine x_if_eq (tgt := 27) cx dX6_add_14 (by decide) (fun hb14 => ?_) (fun hb14 => ?_)
    · refine x_bipush (v := (-2)) cx dX6_add_27 (by decide) ?_
      have he : eAdd (S 0) cl id ce = -2 := by unfold eAdd; rw [if_neg hb7, if_pos hb14]
      exact x_iret cx hr (by rw [he, if_neg (by decide)]) (by intro _ _ _ _; rw [he, if_neg (by decide)]) dX6_add_29
    · refine x_iload_n cx dX6_add_17 rfl rfl ?_
      refine x_iconst (v := 1) cx dX6_add_18 (by decide) ?_
      refine x_bipush (v := 8) cx dX6_add_19 (by decide) ?_
      refine x_Si (rest := []) cx (c_X6_isWithin l G _ _ _ _ _) gS_X6_40 ndX6_isWithin ⟨Nat.le_of_ble_eq_true rfl, Nat.le_of_ble_eq_true rfl⟩ rfl rfl (Nat.le_of_ble_eq_true rfl) dX6_add_21 ⟨Nat.le_of_ble_eq_true rfl, Nat.le_of_ble_eq_true rfl⟩ ?_
      refine x_if_ne (tgt := 30) cx dX6_add_24 (by decide) (fun hb24 => ?_) (fun hb24 => ?_)
      · refine x_aload_n cx dX6_add_30 rfl rfl ?_
        refine x_getX6 cx 0 (by decide) (fl_X6_10 cx) (zok_7 (by decide)) (by decide) (p_SC) rfl dX6_add_31 ?_
        refine x_getX0 cx 1 (by decide) (fl_X6_48 cx) (zok_c h07 (by decide)) (zix_c h07 (by decide)) (pcOg h07) rfl dX6_add_34 ?_
        refine x_bipush (v := 6) cx dX6_add_37 (by decide) ?_
        refine x_icmp_lt (tgt := 45) cx dX6_add_39 (by decide) (fun hb39 => ?_) (fun hb39 => ?_)
        · refine x_aload_n cx dX6_add_45 rfl rfl ?_
          refine x_getX6 cx 4 (by decide) (fl_X6_29 cx) (zok_7 (by decide)) (by decide) (p_SC) rfl dX6_add_46 ?_
          refine x_aload_n cx dX6_add_49 rfl rfl ?_
          refine x_getX6 cx 0 (by decide) (fl_X6_10 cx) (zok_7 (by decide)) (by decide) (p_SC) rfl dX6_add_50 ?_
          refine x_Vv (C := RX3) (T := TX3) (N := 2) (rest := []) cx (c_X3_record l G _ hS.2.1 hS.1) gV_X6_52 ndX3_record rfl ⟨Nat.le_of_ble_eq_true rfl, Nat.le_of_ble_eq_true rfl⟩ (zok_7 (by decide)) (by decide) (p_hist) rfl rfl rfl (Nat.le_of_ble_eq_true rfl) dX6_add_53 ⟨Nat.le_of_ble_eq_true rfl, Nat.le_of_ble_eq_true rfl⟩ ?_
          refine x_S (S' := up (zRec S) 0 (S 0)) (by rw [← zRec_0 hS.2.1, up_self]) ?_
          refine x_aload_n cx dX6_add_56 rfl rfl ?_
          refine x_getX6 cx 0 (by decide) (fl_X6_10 cx) (zok_7 (by decide)) (by decide) (p_SC) rfl dX6_add_57 ?_
          refine x_iload_n cx dX6_add_60 rfl rfl ?_
          refine x_iload_n cx dX6_add_61 rfl rfl ?_
          refine x_iload_n cx dX6_add_62 rfl rfl ?_
          refine x_Vi (C := RX0) (T := TX0) (N := 6) (rest := []) cx (c_X0_putBehind l G _ 0 h07 _ hS.1 ((nI_ltI (b := 6) (by omega) (by decide)).mp (by rw [← hS.1.sz]; exact hb39)) _ _ _) gV_X6_56 ndX0_putBehind rfl ⟨Nat.le_of_ble_eq_true rfl, Nat.le_of_ble_eq_true rfl⟩ (zok_c h07 (by decide)) (zix_c h07 (by decide)) (pcOg h07) rfl rfl rfl (Nat.le_of_ble_eq_true rfl) dX6_add_63 ⟨Nat.le_of_ble_eq_true rfl, Nat.le_of_ble_eq_true rfl⟩ ?_
          have he : eAdd (S 0) cl id ce = 0 := by unfold eAdd; rw [if_neg hb7, if_neg hb14, if_neg hb24, if_pos hb39]
          exact x_iret cx hr (by rw [if_pos he]) (by rw [if_pos he]; exact fun _ _ _ _ => rfl) dX6_add_66
        · refine x_bipush (v := (-3)) cx dX6_add_42 (by decide) ?_
          have he : eAdd (S 0) cl id ce = -3 := by unfold eAdd; rw [if_neg hb7, if_neg hb14, if_neg hb24, if_neg hb39]
          exact x_iret cx hr (by rw [he, if_neg (by decide)]) (by intro _ _ _ _; rw [he, if_neg (by decide)]) dX6_add_44
      · refine x_bipush (v := (-2)) cx dX6_add_27 (by decide) ?_
        have he : eAdd (S 0) cl id ce = -2 := by unfold eAdd; rw [if_neg hb7, if_neg hb14, if_pos hb24]
        exact x_iret cx hr (by rw [he, if_neg (by decide)]) (by intro _ _ _ _; rw [he, if_neg (by decide)]) dX6_add_29

set_option maxHeartbeats 4000000 in
set_option maxRecDepth 100000 in
theorem c_X6_take (l : Launch) (G : zG) (S : zS) (hS : kWF S) (q : Int32) : Met l yX6_take (zws yX6_take cX6_take 2 (some .int)) (zrm 3 0 0 64) (zPc G 68 (pic G S) [.ref (zad G 7 0), .int q]) (zQi G 68 (if eHas (S 0) q = 0 then S 0 (tn q + 3) 1 else eHas (S 0) q) (pic G (if eHas (S 0) q = 0 then up (zRec S) 0 (zTake (S 0) (tn q)) else S))) 0 0 (zA G) := by
  refine zMet npX6_take rfl (Nat.le_of_ble_eq_true rfl) ?_
  intro p e s m args below meth cd hargs cx hr hin0
  have cx : Cx p s m args meth cd cX6_take 2 RX6 G := cx
  refine x_ls (ls' := [some (.ref (zad G 7 0)), some (.int q)]) rfl (fun _ h => h) ?_
  refine x_aload_n cx dX6_take_0 rfl rfl ?_
  refine x_getX6 cx 0 (by decide) (fl_X6_10 cx) (zok_7 (by decide)) (by decide) (p_SC) rfl dX6_take_1 ?_
  refine x_iload_n cx dX6_take_4 rfl rfl ?_
  refine x_S (up_self S 0).symm ?_
  refine x_Vi (C := RX0) (T := TX0) (N := 6) (rest := []) cx (c_X0_has l G _ 0 h07 _ hS.1 _) gV_X6_60 ndX0_has rfl ⟨Nat.le_of_ble_eq_true rfl, Nat.le_of_ble_eq_true rfl⟩ (zok_c h07 (by decide)) (zix_c h07 (by decide)) (pcOg h07) rfl rfl rfl (Nat.le_of_ble_eq_true rfl) dX6_take_5 ⟨Nat.le_of_ble_eq_true rfl, Nat.le_of_ble_eq_true rfl⟩ ?_
  refine x_S (up_self S 0) ?_
  refine x_if_ne (tgt := 13) cx dX6_take_8 (by decide) (fun hb8 => ?_) (fun hb8 => ?_)
  · obtain ⟨t, ht, rfl⟩ := has_ix hS.1 hb8
    have h6 := hS.1.n6
    have htn : tn (nI t) = t := nI_clamp (by omega)
    try simp only [htn]
    refine x_aload_n cx dX6_take_13 rfl rfl ?_
    refine x_getX6 cx 4 (by decide) (fl_X6_29 cx) (zok_7 (by decide)) (by decide) (p_SC) rfl dX6_take_14 ?_
    refine x_aload_n cx dX6_take_17 rfl rfl ?_
    refine x_getX6 cx 0 (by decide) (fl_X6_10 cx) (zok_7 (by decide)) (by decide) (p_SC) rfl dX6_take_18 ?_
    refine x_Vv (C := RX3) (T := TX3) (N := 2) (rest := []) cx (c_X3_record l G _ hS.2.1 hS.1) gV_X6_52 ndX3_record rfl ⟨Nat.le_of_ble_eq_true rfl, Nat.le_of_ble_eq_true rfl⟩ (zok_7 (by decide)) (by decide) (p_hist) rfl rfl rfl (Nat.le_of_ble_eq_true rfl) dX6_take_21 ⟨Nat.le_of_ble_eq_true rfl, Nat.le_of_ble_eq_true rfl⟩ ?_
    refine x_S (S' := up (zRec S) 0 (S 0)) (by rw [← zRec_0 hS.2.1, up_self]) ?_
    refine x_aload_n cx dX6_take_24 rfl rfl ?_
    refine x_getX6 cx 0 (by decide) (fl_X6_10 cx) (zok_7 (by decide)) (by decide) (p_SC) rfl dX6_take_25 ?_
    refine x_iload_n cx dX6_take_28 rfl rfl ?_
    refine x_Vi (C := RX0) (T := TX0) (N := 6) (rest := []) cx (c_X0_takeOut l G _ 0 h07 _ hS.1 t ht) gV_X6_63 ndX0_takeOut rfl ⟨Nat.le_of_ble_eq_true rfl, Nat.le_of_ble_eq_true rfl⟩ (zok_c h07 (by decide)) (zix_c h07 (by decide)) (pcOg h07) rfl rfl rfl (Nat.le_of_ble_eq_true rfl) dX6_take_29 ⟨Nat.le_of_ble_eq_true rfl, Nat.le_of_ble_eq_true rfl⟩ ?_
    have he : eHas (S 0) (nI t) = 0 := by unfold eHas; rw [if_neg hb8]
    exact x_iret cx hr (by rw [if_pos he]) (by rw [if_pos he]; exact fun _ _ _ _ => rfl) dX6_take_32
  · refine x_iconst (v := (-1)) cx dX6_take_11 (by decide) ?_
    have he : eHas (S 0) q = -1 := by unfold eHas; rw [if_pos hb8]
    exact x_iret cx hr (by rw [he, if_neg (by decide)]) (by intro _ _ _ _; rw [he, if_neg (by decide)]) dX6_take_12

set_option maxHeartbeats 4000000 in
set_option maxRecDepth 100000 in
theorem c_X6_setPins (l : Launch) (G : zG) (S : zS) (hS : kWF S) (q v : Int32) : Met l yX6_setPins (zws yX6_setPins cX6_setPins 3 (some .int)) (zrm 3 0 0 64) (zPc G 68 (pic G S) [.ref (zad G 7 0), .int q, .int v]) (zQi G 68 (if eArg (S 0) q v 255 = 0 then S 0 (tn q + 3) 3 else eArg (S 0) q v 255) (pic G (if eArg (S 0) q v 255 = 0 then up (zRec S) 0 (zPinsX (S 0) (tn q) v) else S))) 0 0 (zA G) := by
  refine zMet npX6_setPins rfl (Nat.le_of_ble_eq_true rfl) ?_
  intro p e s m args below meth cd hargs cx hr hin0
  have cx : Cx p s m args meth cd cX6_setPins 3 RX6 G := cx
  refine x_ls (ls' := [some (.ref (zad G 7 0)), some (.int q), some (.int v)]) rfl (fun _ h => h) ?_
  refine x_aload_n cx dX6_setPins_0 rfl rfl ?_
  refine x_getX6 cx 0 (by decide) (fl_X6_10 cx) (zok_7 (by decide)) (by decide) (p_SC) rfl dX6_setPins_1 ?_
  refine x_iload_n cx dX6_setPins_4 rfl rfl ?_
  refine x_S (up_self S 0).symm ?_
  refine x_Vi (C := RX0) (T := TX0) (N := 6) (rest := []) cx (c_X0_has l G _ 0 h07 _ hS.1 _) gV_X6_60 ndX0_has rfl ⟨Nat.le_of_ble_eq_true rfl, Nat.le_of_ble_eq_true rfl⟩ (zok_c h07 (by decide)) (zix_c h07 (by decide)) (pcOg h07) rfl rfl rfl (Nat.le_of_ble_eq_true rfl) dX6_setPins_5 ⟨Nat.le_of_ble_eq_true rfl, Nat.le_of_ble_eq_true rfl⟩ ?_
  refine x_S (up_self S 0) ?_
  refine x_if_ne (tgt := 13) cx dX6_setPins_8 (by decide) (fun hb8 => ?_) (fun hb8 => ?_)
  · refine x_iload_n cx dX6_setPins_13 rfl rfl ?_
    refine x_iconst (v := 0) cx dX6_setPins_14 (by decide) ?_
    refine x_sipush (v := 255) cx dX6_setPins_15 (by decide) ?_
    refine x_Si (rest := []) cx (c_X6_isWithin l G _ _ _ _ _) gS_X6_40 ndX6_isWithin ⟨Nat.le_of_ble_eq_true rfl, Nat.le_of_ble_eq_true rfl⟩ rfl rfl (Nat.le_of_ble_eq_true rfl) dX6_setPins_18 ⟨Nat.le_of_ble_eq_true rfl, Nat.le_of_ble_eq_true rfl⟩ ?_
    refine x_if_ne (tgt := 27) cx dX6_setPins_21 (by decide) (fun hb21 => ?_) (fun hb21 => ?_)
    · obtain ⟨t, ht, rfl⟩ := has_ix hS.1 hb8
      have h6 := hS.1.n6
      have htn : tn (nI t) = t := nI_clamp (by omega)
      try simp only [htn]
      refine x_aload_n cx dX6_setPins_27 rfl rfl ?_
      refine x_getX6 cx 4 (by decide) (fl_X6_29 cx) (zok_7 (by decide)) (by decide) (p_SC) rfl dX6_setPins_28 ?_
      refine x_aload_n cx dX6_setPins_31 rfl rfl ?_
      refine x_getX6 cx 0 (by decide) (fl_X6_10 cx) (zok_7 (by decide)) (by decide) (p_SC) rfl dX6_setPins_32 ?_
      refine x_Vv (C := RX3) (T := TX3) (N := 2) (rest := []) cx (c_X3_record l G _ hS.2.1 hS.1) gV_X6_52 ndX3_record rfl ⟨Nat.le_of_ble_eq_true rfl, Nat.le_of_ble_eq_true rfl⟩ (zok_7 (by decide)) (by decide) (p_hist) rfl rfl rfl (Nat.le_of_ble_eq_true rfl) dX6_setPins_35 ⟨Nat.le_of_ble_eq_true rfl, Nat.le_of_ble_eq_true rfl⟩ ?_
      refine x_S (S' := up (zRec S) 0 (S 0)) (by rw [← zRec_0 hS.2.1, up_self]) ?_
      refine x_aload_n cx dX6_setPins_38 rfl rfl ?_
      refine x_getX6 cx 0 (by decide) (fl_X6_10 cx) (zok_7 (by decide)) (by decide) (p_SC) rfl dX6_setPins_39 ?_
      refine x_getX0 cx 0 (by decide) (fl_X6_67 cx) (zok_c h07 (by decide)) (zix_c h07 (by decide)) (pcOg h07) rfl dX6_setPins_42 ?_
      refine x_iload_n cx dX6_setPins_45 rfl rfl ?_
      refine x_aald (t := t) cx 2 rfl (zok_c h07 (by decide)) (zix_c h07 (by decide)) (pcA h07) rfl (by omega) (by decide) rfl dX6_setPins_46 ?_
      refine x_iload_n cx dX6_setPins_47 rfl rfl ?_
      refine x_chip t ?_
      refine x_Vi (C := RX1) (T := TX1) (N := 9) (rest := []) cx (c_X1_changePins l G _ 0 t h07 (by omega) _ _ _) gV_X6_71 ndX1_changePins rfl ⟨Nat.le_of_ble_eq_true rfl, Nat.le_of_ble_eq_true rfl⟩ (zok_c h07 (by omega)) (zix_c h07 (by omega)) (pcCc h07 _) rfl rfl rfl (Nat.le_of_ble_eq_true rfl) dX6_setPins_48 ⟨Nat.le_of_ble_eq_true rfl, Nat.le_of_ble_eq_true rfl⟩ ?_
      have he : eArg (S 0) (nI t) v 255 = 0 := by unfold eArg; rw [if_neg hb8, if_neg hb21]
      exact x_iret cx hr (by rw [if_pos he]) (by rw [if_pos he]; exact fun _ _ _ _ => rfl) dX6_setPins_51
    · refine x_bipush (v := (-2)) cx dX6_setPins_24 (by decide) ?_
      have he : eArg (S 0) q v 255 = -2 := by unfold eArg; rw [if_neg hb8, if_pos hb21]
      exact x_iret cx hr (by rw [he, if_neg (by decide)]) (by intro _ _ _ _; rw [he, if_neg (by decide)]) dX6_setPins_26
  · refine x_iconst (v := (-1)) cx dX6_setPins_11 (by decide) ?_
    have he : eArg (S 0) q v 255 = -1 := by unfold eArg; rw [if_pos hb8]
    exact x_iret cx hr (by rw [he, if_neg (by decide)]) (by intro _ _ _ _; rw [he, if_neg (by decide)]) dX6_setPins_12

set_option maxHeartbeats 4000000 in
set_option maxRecDepth 100000 in
theorem c_X6_breakChip (l : Launch) (G : zG) (S : zS) (hS : kWF S) (q v : Int32) (hv : v = 0 ∨ v = 1) : Met l yX6_breakChip (zws yX6_breakChip cX6_breakChip 3 (some .int)) (zrm 3 0 0 64) (zPc G 68 (pic G S) [.ref (zad G 7 0), .int q, .int v]) (zQi G 68 (if eHas (S 0) q = 0 then zSum zBrk (zBrkX (S 0) (tn q) v) else eHas (S 0) q) (pic G (if eHas (S 0) q = 0 then up (zRec S) 0 (zBrkX (S 0) (tn q) v) else S))) 0 0 (zA G) := by
  refine zMet npX6_breakChip rfl (Nat.le_of_ble_eq_true rfl) ?_
  intro p e s m args below meth cd hargs cx hr hin0
  have cx : Cx p s m args meth cd cX6_breakChip 3 RX6 G := cx
  refine x_ls (ls' := [some (.ref (zad G 7 0)), some (.int q), some (.int v)]) rfl (fun _ h => h) ?_
  refine x_aload_n cx dX6_breakChip_0 rfl rfl ?_
  refine x_getX6 cx 0 (by decide) (fl_X6_10 cx) (zok_7 (by decide)) (by decide) (p_SC) rfl dX6_breakChip_1 ?_
  refine x_iload_n cx dX6_breakChip_4 rfl rfl ?_
  refine x_S (up_self S 0).symm ?_
  refine x_Vi (C := RX0) (T := TX0) (N := 6) (rest := []) cx (c_X0_has l G _ 0 h07 _ hS.1 _) gV_X6_60 ndX0_has rfl ⟨Nat.le_of_ble_eq_true rfl, Nat.le_of_ble_eq_true rfl⟩ (zok_c h07 (by decide)) (zix_c h07 (by decide)) (pcOg h07) rfl rfl rfl (Nat.le_of_ble_eq_true rfl) dX6_breakChip_5 ⟨Nat.le_of_ble_eq_true rfl, Nat.le_of_ble_eq_true rfl⟩ ?_
  refine x_S (up_self S 0) ?_
  refine x_if_ne (tgt := 13) cx dX6_breakChip_8 (by decide) (fun hb8 => ?_) (fun hb8 => ?_)
  · obtain ⟨t, ht, rfl⟩ := has_ix hS.1 hb8
    have h6 := hS.1.n6
    have htn : tn (nI t) = t := nI_clamp (by omega)
    try simp only [htn]
    refine x_aload_n cx dX6_breakChip_13 rfl rfl ?_
    refine x_getX6 cx 4 (by decide) (fl_X6_29 cx) (zok_7 (by decide)) (by decide) (p_SC) rfl dX6_breakChip_14 ?_
    refine x_aload_n cx dX6_breakChip_17 rfl rfl ?_
    refine x_getX6 cx 0 (by decide) (fl_X6_10 cx) (zok_7 (by decide)) (by decide) (p_SC) rfl dX6_breakChip_18 ?_
    refine x_Vv (C := RX3) (T := TX3) (N := 2) (rest := []) cx (c_X3_record l G _ hS.2.1 hS.1) gV_X6_52 ndX3_record rfl ⟨Nat.le_of_ble_eq_true rfl, Nat.le_of_ble_eq_true rfl⟩ (zok_7 (by decide)) (by decide) (p_hist) rfl rfl rfl (Nat.le_of_ble_eq_true rfl) dX6_breakChip_21 ⟨Nat.le_of_ble_eq_true rfl, Nat.le_of_ble_eq_true rfl⟩ ?_
    refine x_S (S' := up (zRec S) 0 (S 0)) (by rw [← zRec_0 hS.2.1, up_self]) ?_
    refine x_aload_n cx dX6_breakChip_24 rfl rfl ?_
    refine x_getX6 cx 0 (by decide) (fl_X6_10 cx) (zok_7 (by decide)) (by decide) (p_SC) rfl dX6_breakChip_25 ?_
    refine x_getX0 cx 0 (by decide) (fl_X6_67 cx) (zok_c h07 (by decide)) (zix_c h07 (by decide)) (pcOg h07) rfl dX6_breakChip_28 ?_
    refine x_iload_n cx dX6_breakChip_31 rfl rfl ?_
    refine x_aald (t := t) cx 2 rfl (zok_c h07 (by decide)) (zix_c h07 (by decide)) (pcA h07) rfl (by omega) (by decide) rfl dX6_breakChip_32 ?_
    refine x_iload_n cx dX6_breakChip_33 rfl rfl ?_
    refine x_putX1 cx 5 (by decide) (fl_X6_76 cx) (zok_c h07 (by omega)) (zix_c h07 (by omega)) (pcCc h07 _) rfl (by rcases hv with h | h <;> rw [h] <;> rfl) (by rcases hv with h | h <;> rw [h] <;> rfl) (Nat.le_of_ble_eq_true rfl) (ppC h07 (by decide)) dX6_breakChip_34 ?_
    refine x_aload_n cx dX6_breakChip_37 rfl rfl ?_
    refine x_getX6 cx 0 (by decide) (fl_X6_10 cx) (zok_7 (by decide)) (by decide) (p_SC) rfl dX6_breakChip_38 ?_
    refine x_Vi (C := RX0) (T := TX0) (N := 6) (rest := []) cx (c_X0_brokenChips l G _ 0 h07 _ (zBrkX_WF hS.1 hv)) gV_X6_79 ndX0_brokenChips rfl ⟨Nat.le_of_ble_eq_true rfl, Nat.le_of_ble_eq_true rfl⟩ (zok_c h07 (by decide)) (zix_c h07 (by decide)) (pcOg h07) rfl rfl rfl (Nat.le_of_ble_eq_true rfl) dX6_breakChip_41 ⟨Nat.le_of_ble_eq_true rfl, Nat.le_of_ble_eq_true rfl⟩ ?_
    have he : eHas (S 0) (nI t) = 0 := by unfold eHas; rw [if_neg hb8]
    exact x_iret cx hr (by rw [if_pos he]; exact rfl) (by rw [if_pos he]; exact fun _ _ _ _ => rfl) dX6_breakChip_44
  · refine x_iconst (v := (-1)) cx dX6_breakChip_11 (by decide) ?_
    have he : eHas (S 0) q = -1 := by unfold eHas; rw [if_pos hb8]
    exact x_iret cx hr (by rw [he, if_neg (by decide)]) (by intro _ _ _ _; rw [he, if_neg (by decide)]) dX6_breakChip_12

set_option maxHeartbeats 4000000 in
set_option maxRecDepth 100000 in
theorem c_X6_clock (l : Launch) (G : zG) (S : zS) (hS : kWF S) (md x : Int32) : Met l yX6_clock (zws yX6_clock cX6_clock 3 (some .int)) (zrm 5 0 0 109) (zPc G 68 (pic G S) [.ref (zad G 7 0), .int md, .int x]) (zQi G 68 (if eClk md x = 0 then zOut (S 0) x else eClk md x) (pic G (if eClk md x = 0 then up (zRec S) 0 (zTick (S 0) md x) else S))) 0 0 (zA G) := by
  refine zMet npX6_clock rfl (Nat.le_of_ble_eq_true rfl) ?_
  intro p e s m args below meth cd hargs cx hr hin0
  have cx : Cx p s m args meth cd cX6_clock 3 RX6 G := cx
  refine x_ls (ls' := [some (.ref (zad G 7 0)), some (.int md), some (.int x)]) rfl (fun _ h => h) ?_
  refine x_iload_n cx dX6_clock_0 rfl rfl ?_
  refine x_iconst (v := 0) cx dX6_clock_1 (by decide) ?_
  refine x_iconst (v := 1) cx dX6_clock_2 (by decide) ?_
  refine x_Si (rest := []) cx (c_X6_isWithin l G _ _ _ _ _) gS_X6_40 ndX6_isWithin ⟨Nat.le_of_ble_eq_true rfl, Nat.le_of_ble_eq_true rfl⟩ rfl rfl (Nat.le_of_ble_eq_true rfl) dX6_clock_3 ⟨Nat.le_of_ble_eq_true rfl, Nat.le_of_ble_eq_true rfl⟩ ?_
  refine x_if_eq (tgt := 18) cx dX6_clock_6 (by decide) (fun hb6 => ?_) (fun hb6 => ?_)
  · refine x_bipush (v := (-2)) cx dX6_clock_18 (by decide) ?_
    have he : eClk md x = -2 := by unfold eClk; rw [if_pos hb6]
    exact x_iret cx hr (by rw [he, if_neg (by decide)]) (by intro _ _ _ _; rw [he, if_neg (by decide)]) dX6_clock_20
  · refine x_iload_n cx dX6_clock_9 rfl rfl ?_
    refine x_iconst (v := 0) cx dX6_clock_10 (by decide) ?_
    refine x_iconst (v := 1) cx dX6_clock_11 (by decide) ?_
    refine x_Si (rest := []) cx (c_X6_isWithin l G _ _ _ _ _) gS_X6_40 ndX6_isWithin ⟨Nat.le_of_ble_eq_true rfl, Nat.le_of_ble_eq_true rfl⟩ rfl rfl (Nat.le_of_ble_eq_true rfl) dX6_clock_12 ⟨Nat.le_of_ble_eq_true rfl, Nat.le_of_ble_eq_true rfl⟩ ?_
    refine x_if_ne (tgt := 21) cx dX6_clock_15 (by decide) (fun hb15 => ?_) (fun hb15 => ?_)
    · refine x_aload_n cx dX6_clock_21 rfl rfl ?_
      refine x_getX6 cx 4 (by decide) (fl_X6_29 cx) (zok_7 (by decide)) (by decide) (p_SC) rfl dX6_clock_22 ?_
      refine x_aload_n cx dX6_clock_25 rfl rfl ?_
      refine x_getX6 cx 0 (by decide) (fl_X6_10 cx) (zok_7 (by decide)) (by decide) (p_SC) rfl dX6_clock_26 ?_
      refine x_Vv (C := RX3) (T := TX3) (N := 2) (rest := []) cx (c_X3_record l G _ hS.2.1 hS.1) gV_X6_52 ndX3_record rfl ⟨Nat.le_of_ble_eq_true rfl, Nat.le_of_ble_eq_true rfl⟩ (zok_7 (by decide)) (by decide) (p_hist) rfl rfl rfl (Nat.le_of_ble_eq_true rfl) dX6_clock_29 ⟨Nat.le_of_ble_eq_true rfl, Nat.le_of_ble_eq_true rfl⟩ ?_
      refine x_S (S' := up (zRec S) 0 (S 0)) (by rw [← zRec_0 hS.2.1, up_self]) ?_
      refine x_aload_n cx dX6_clock_32 rfl rfl ?_
      refine x_getX6 cx 0 (by decide) (fl_X6_10 cx) (zok_7 (by decide)) (by decide) (p_SC) rfl dX6_clock_33 ?_
      refine x_iload_n cx dX6_clock_36 rfl rfl ?_
      refine x_iload_n cx dX6_clock_37 rfl rfl ?_
      refine x_Vi (C := RX0) (T := TX0) (N := 6) (rest := []) cx (c_X0_tick l G _ 0 h07 _ hS.1 _ _) gV_X6_83 ndX0_tick rfl ⟨Nat.le_of_ble_eq_true rfl, Nat.le_of_ble_eq_true rfl⟩ (zok_c h07 (by decide)) (zix_c h07 (by decide)) (pcOg h07) rfl rfl rfl (Nat.le_of_ble_eq_true rfl) dX6_clock_38 ⟨Nat.le_of_ble_eq_true rfl, Nat.le_of_ble_eq_true rfl⟩ ?_
      have he : eClk md x = 0 := by unfold eClk; rw [if_neg hb6, if_neg hb15]
      exact x_iret cx hr (by rw [if_pos he]) (by rw [if_pos he]; exact fun _ _ _ _ => rfl) dX6_clock_41
    · refine x_bipush (v := (-2)) cx dX6_clock_18 (by decide) ?_
      have he : eClk md x = -2 := by unfold eClk; rw [if_neg hb6, if_pos hb15]
      exact x_iret cx hr (by rw [he, if_neg (by decide)]) (by intro _ _ _ _; rw [he, if_neg (by decide)]) dX6_clock_20

set_option maxHeartbeats 4000000 in
set_option maxRecDepth 100000 in
theorem c_X6_move (l : Launch) (G : zG) (S : zS) (hS : kWF S) (b : Int32) : Met l yX6_move (zws yX6_move cX6_move 2 (some .int)) (zrm 6 0 0 134) (zPc G 68 (pic G S) [.ref (zad G 7 0), .int b]) (zQi G 68 (if eMov b = 0 then nI (dst (stt (S 0)) (tn b)) else eMov b) (pic G (if eMov b = 0 then up (zRec S) 0 (zGo (S 0) (tn b)) else S))) 0 0 (zA G) := by
  refine zMet npX6_move rfl (Nat.le_of_ble_eq_true rfl) ?_
  intro p e s m args below meth cd hargs cx hr hin0
  have cx : Cx p s m args meth cd cX6_move 2 RX6 G := cx
  refine x_ls (ls' := [some (.ref (zad G 7 0)), some (.int b)]) rfl (fun _ h => h) ?_
  refine x_iload_n cx dX6_move_0 rfl rfl ?_
  refine x_Si (rest := []) cx (c_X2_isState l G _ _ _) gS_X6_87 ndX2_isState ⟨Nat.le_of_ble_eq_true rfl, Nat.le_of_ble_eq_true rfl⟩ rfl rfl (Nat.le_of_ble_eq_true rfl) dX6_move_1 ⟨Nat.le_of_ble_eq_true rfl, Nat.le_of_ble_eq_true rfl⟩ ?_
  refine x_if_ne (tgt := 10) cx dX6_move_4 (by decide) (fun hb4 => ?_) (fun hb4 => ?_)
  · obtain ⟨t, ht, rfl⟩ := is_ix hb4
    have htn : tn (nI t) = t := nI_clamp (by omega)
    try simp only [htn]
    refine x_aload_n cx dX6_move_10 rfl rfl ?_
    refine x_getX6 cx 4 (by decide) (fl_X6_29 cx) (zok_7 (by decide)) (by decide) (p_SC) rfl dX6_move_11 ?_
    refine x_aload_n cx dX6_move_14 rfl rfl ?_
    refine x_getX6 cx 0 (by decide) (fl_X6_10 cx) (zok_7 (by decide)) (by decide) (p_SC) rfl dX6_move_15 ?_
    refine x_Vv (C := RX3) (T := TX3) (N := 2) (rest := []) cx (c_X3_record l G _ hS.2.1 hS.1) gV_X6_52 ndX3_record rfl ⟨Nat.le_of_ble_eq_true rfl, Nat.le_of_ble_eq_true rfl⟩ (zok_7 (by decide)) (by decide) (p_hist) rfl rfl rfl (Nat.le_of_ble_eq_true rfl) dX6_move_18 ⟨Nat.le_of_ble_eq_true rfl, Nat.le_of_ble_eq_true rfl⟩ ?_
    refine x_S (S' := up (zRec S) 0 (S 0)) (by rw [← zRec_0 hS.2.1, up_self]) ?_
    refine x_aload_n cx dX6_move_21 rfl rfl ?_
    refine x_getX6 cx 0 (by decide) (fl_X6_10 cx) (zok_7 (by decide)) (by decide) (p_SC) rfl dX6_move_22 ?_
    refine x_iload_n cx dX6_move_25 rfl rfl ?_
    refine x_Si (rest := []) cx (c_X4_goTo l G _ 0 h07 _ hS.1 t ht) gS_X6_92 ndX4_goTo ⟨Nat.le_of_ble_eq_true rfl, Nat.le_of_ble_eq_true rfl⟩ rfl rfl (Nat.le_of_ble_eq_true rfl) dX6_move_26 ⟨Nat.le_of_ble_eq_true rfl, Nat.le_of_ble_eq_true rfl⟩ ?_
    have he : eMov (nI t) = 0 := by unfold eMov; rw [if_neg hb4]
    exact x_iret cx hr (by rw [if_pos he]) (by rw [if_pos he]; exact fun _ _ _ _ => rfl) dX6_move_29
  · refine x_bipush (v := (-2)) cx dX6_move_7 (by decide) ?_
    have he : eMov b = -2 := by unfold eMov; rw [if_pos hb4]
    exact x_iret cx hr (by rw [he, if_neg (by decide)]) (by intro _ _ _ _; rw [he, if_neg (by decide)]) dX6_move_9

set_option maxHeartbeats 4000000 in
set_option maxRecDepth 100000 in
theorem c_X6_identify (l : Launch) (G : zG) (S : zS) (hS : kWF S) : Met l yX6_identify (zws yX6_identify cX6_identify 1 (some .int)) (zrm 7 0 0 156) (zPc G 68 (pic G S) [.ref (zad G 7 0)]) (zQi G 68 (zIdent (S 0) 0 3) (pic G (up (zRec S) 0 (zIdent (S 0))))) 0 0 (zA G) := by
  refine zMet npX6_identify rfl (Nat.le_of_ble_eq_true rfl) ?_
  intro p e s m args below meth cd hargs cx hr hin0
  have cx : Cx p s m args meth cd cX6_identify 1 RX6 G := cx
  refine x_ls (ls' := [some (.ref (zad G 7 0))]) rfl (fun _ h => h) ?_
  refine x_aload_n cx dX6_identify_0 rfl rfl ?_
  refine x_getX6 cx 4 (by decide) (fl_X6_29 cx) (zok_7 (by decide)) (by decide) (p_SC) rfl dX6_identify_1 ?_
  refine x_aload_n cx dX6_identify_4 rfl rfl ?_
  refine x_getX6 cx 0 (by decide) (fl_X6_10 cx) (zok_7 (by decide)) (by decide) (p_SC) rfl dX6_identify_5 ?_
  refine x_Vv (C := RX3) (T := TX3) (N := 2) (rest := []) cx (c_X3_record l G _ hS.2.1 hS.1) gV_X6_52 ndX3_record rfl ⟨Nat.le_of_ble_eq_true rfl, Nat.le_of_ble_eq_true rfl⟩ (zok_7 (by decide)) (by decide) (p_hist) rfl rfl rfl (Nat.le_of_ble_eq_true rfl) dX6_identify_8 ⟨Nat.le_of_ble_eq_true rfl, Nat.le_of_ble_eq_true rfl⟩ ?_
  refine x_S (S' := up (zRec S) 0 (S 0)) (by rw [← zRec_0 hS.2.1, up_self]) ?_
  refine x_aload_n cx dX6_identify_11 rfl rfl ?_
  refine x_getX6 cx 0 (by decide) (fl_X6_10 cx) (zok_7 (by decide)) (by decide) (p_SC) rfl dX6_identify_12 ?_
  refine x_Si (rest := []) cx (c_X4_readIdentities l G _ 0 h07 _ hS.1) gS_X6_98 ndX4_readIdentities ⟨Nat.le_of_ble_eq_true rfl, Nat.le_of_ble_eq_true rfl⟩ rfl rfl (Nat.le_of_ble_eq_true rfl) dX6_identify_15 ⟨Nat.le_of_ble_eq_true rfl, Nat.le_of_ble_eq_true rfl⟩ ?_
  exact x_iret cx hr rfl (fun _ _ _ _ => rfl) dX6_identify_18

set_option maxHeartbeats 4000000 in
set_option maxRecDepth 100000 in
theorem c_X6_load (l : Launch) (G : zG) (S : zS) (hS : kWF S) (q v : Int32) : Met l yX6_load (zws yX6_load cX6_load 3 (some .int)) (zrm 7 0 0 160) (zPc G 68 (pic G S) [.ref (zad G 7 0), .int q, .int v]) (zQi G 68 (if eArg (S 0) q v 63 = 0 then zBits (zLoad (S 0) (tn q) v (tn q + 3)) else eArg (S 0) q v 63) (pic G (if eArg (S 0) q v 63 = 0 then up (zRec S) 0 (zLoad (S 0) (tn q) v) else S))) 0 0 (zA G) := by
  refine zMet npX6_load rfl (Nat.le_of_ble_eq_true rfl) ?_
  intro p e s m args below meth cd hargs cx hr hin0
  have cx : Cx p s m args meth cd cX6_load 3 RX6 G := cx
  refine x_ls (ls' := [some (.ref (zad G 7 0)), some (.int q), some (.int v)]) rfl (fun _ h => h) ?_
  refine x_aload_n cx dX6_load_0 rfl rfl ?_
  refine x_getX6 cx 0 (by decide) (fl_X6_10 cx) (zok_7 (by decide)) (by decide) (p_SC) rfl dX6_load_1 ?_
  refine x_iload_n cx dX6_load_4 rfl rfl ?_
  refine x_S (up_self S 0).symm ?_
  refine x_Vi (C := RX0) (T := TX0) (N := 6) (rest := []) cx (c_X0_has l G _ 0 h07 _ hS.1 _) gV_X6_60 ndX0_has rfl ⟨Nat.le_of_ble_eq_true rfl, Nat.le_of_ble_eq_true rfl⟩ (zok_c h07 (by decide)) (zix_c h07 (by decide)) (pcOg h07) rfl rfl rfl (Nat.le_of_ble_eq_true rfl) dX6_load_5 ⟨Nat.le_of_ble_eq_true rfl, Nat.le_of_ble_eq_true rfl⟩ ?_
  refine x_S (up_self S 0) ?_
  refine x_if_ne (tgt := 13) cx dX6_load_8 (by decide) (fun hb8 => ?_) (fun hb8 => ?_)
  · refine x_iload_n cx dX6_load_13 rfl rfl ?_
    refine x_iconst (v := 0) cx dX6_load_14 (by decide) ?_
    refine x_bipush (v := 63) cx dX6_load_15 (by decide) ?_
    refine x_Si (rest := []) cx (c_X6_isWithin l G _ _ _ _ _) gS_X6_40 ndX6_isWithin ⟨Nat.le_of_ble_eq_true rfl, Nat.le_of_ble_eq_true rfl⟩ rfl rfl (Nat.le_of_ble_eq_true rfl) dX6_load_17 ⟨Nat.le_of_ble_eq_true rfl, Nat.le_of_ble_eq_true rfl⟩ ?_
    refine x_if_ne (tgt := 26) cx dX6_load_20 (by decide) (fun hb20 => ?_) (fun hb20 => ?_)
    · obtain ⟨t, ht, rfl⟩ := has_ix hS.1 hb8
      have h6 := hS.1.n6
      have htn : tn (nI t) = t := nI_clamp (by omega)
      try simp only [htn]
      refine x_aload_n cx dX6_load_26 rfl rfl ?_
      refine x_getX6 cx 4 (by decide) (fl_X6_29 cx) (zok_7 (by decide)) (by decide) (p_SC) rfl dX6_load_27 ?_
      refine x_aload_n cx dX6_load_30 rfl rfl ?_
      refine x_getX6 cx 0 (by decide) (fl_X6_10 cx) (zok_7 (by decide)) (by decide) (p_SC) rfl dX6_load_31 ?_
      refine x_Vv (C := RX3) (T := TX3) (N := 2) (rest := []) cx (c_X3_record l G _ hS.2.1 hS.1) gV_X6_52 ndX3_record rfl ⟨Nat.le_of_ble_eq_true rfl, Nat.le_of_ble_eq_true rfl⟩ (zok_7 (by decide)) (by decide) (p_hist) rfl rfl rfl (Nat.le_of_ble_eq_true rfl) dX6_load_34 ⟨Nat.le_of_ble_eq_true rfl, Nat.le_of_ble_eq_true rfl⟩ ?_
      refine x_S (S' := up (zRec S) 0 (S 0)) (by rw [← zRec_0 hS.2.1, up_self]) ?_
      refine x_aload_n cx dX6_load_37 rfl rfl ?_
      refine x_getX6 cx 0 (by decide) (fl_X6_10 cx) (zok_7 (by decide)) (by decide) (p_SC) rfl dX6_load_38 ?_
      refine x_iload_n cx dX6_load_41 rfl rfl ?_
      refine x_iload_n cx dX6_load_42 rfl rfl ?_
      refine x_Sv (rest := []) cx (c_X4_loadInstruction l G _ 0 h07 _ hS.1 t ht _) gS_X6_102 ndX4_loadInstruction ⟨Nat.le_of_ble_eq_true rfl, Nat.le_of_ble_eq_true rfl⟩ rfl rfl (Nat.le_of_ble_eq_true rfl) dX6_load_43 ⟨Nat.le_of_ble_eq_true rfl, Nat.le_of_ble_eq_true rfl⟩ ?_
      refine x_aload_n cx dX6_load_46 rfl rfl ?_
      refine x_getX6 cx 0 (by decide) (fl_X6_10 cx) (zok_7 (by decide)) (by decide) (p_SC) rfl dX6_load_47 ?_
      refine x_getX0 cx 0 (by decide) (fl_X6_67 cx) (zok_c h07 (by decide)) (zix_c h07 (by decide)) (pcOg h07) rfl dX6_load_50 ?_
      refine x_iload_n cx dX6_load_53 rfl rfl ?_
      refine x_aald (t := t) cx 2 rfl (zok_c h07 (by decide)) (zix_c h07 (by decide)) (pcA h07) rfl (by omega) (by decide) rfl dX6_load_54 ?_
      refine x_chip t ?_
      refine x_Vi (C := RX1) (T := TX1) (N := 9) (rest := []) cx (c_X1_dataBits l G _ 0 t h07 (by omega) _ _) gV_X6_106 ndX1_dataBits rfl ⟨Nat.le_of_ble_eq_true rfl, Nat.le_of_ble_eq_true rfl⟩ (zok_c h07 (by omega)) (zix_c h07 (by omega)) (pcCc h07 _) rfl rfl rfl (Nat.le_of_ble_eq_true rfl) dX6_load_55 ⟨Nat.le_of_ble_eq_true rfl, Nat.le_of_ble_eq_true rfl⟩ ?_
      refine x_unchip ?_
      have he : eArg (S 0) (nI t) v 63 = 0 := by unfold eArg; rw [if_neg hb8, if_neg hb20]
      exact x_iret cx hr (by rw [if_pos he]) (by rw [if_pos he]; exact fun _ _ _ _ => rfl) dX6_load_58
    · refine x_bipush (v := (-2)) cx dX6_load_23 (by decide) ?_
      have he : eArg (S 0) q v 63 = -2 := by unfold eArg; rw [if_neg hb8, if_pos hb20]
      exact x_iret cx hr (by rw [he, if_neg (by decide)]) (by intro _ _ _ _; rw [he, if_neg (by decide)]) dX6_load_25
  · refine x_iconst (v := (-1)) cx dX6_load_11 (by decide) ?_
    have he : eArg (S 0) q v 63 = -1 := by unfold eArg; rw [if_pos hb8]
    exact x_iret cx hr (by rw [he, if_neg (by decide)]) (by intro _ _ _ _; rw [he, if_neg (by decide)]) dX6_load_12

set_option maxHeartbeats 4000000 in
set_option maxRecDepth 100000 in
theorem c_X6_exchangeError (l : Launch) (G : zG) (S : zS) (hS : kWF S) (q v : Int32) : Met l yX6_exchangeError (zws yX6_exchangeError cX6_exchangeError 3 (some .int)) (zrm 1 0 0 22) (zPc G 68 (pic G S) [.ref (zad G 7 0), .int q, .int v]) (zQi G 68 (eArg (S 0) q v 255) (pic G (S))) 0 0 (zA G) := by
  refine zMet npX6_exchangeError rfl (Nat.le_of_ble_eq_true rfl) ?_
  intro p e s m args below meth cd hargs cx hr hin0
  have cx : Cx p s m args meth cd cX6_exchangeError 3 RX6 G := cx
  refine x_ls (ls' := [some (.ref (zad G 7 0)), some (.int q), some (.int v)]) rfl (fun _ h => h) ?_
  refine x_aload_n cx dX6_exchangeError_0 rfl rfl ?_
  refine x_getX6 cx 0 (by decide) (fl_X6_10 cx) (zok_7 (by decide)) (by decide) (p_SC) rfl dX6_exchangeError_1 ?_
  refine x_iload_n cx dX6_exchangeError_4 rfl rfl ?_
  refine x_S (up_self S 0).symm ?_
  refine x_Vi (C := RX0) (T := TX0) (N := 6) (rest := []) cx (c_X0_has l G _ 0 h07 _ hS.1 _) gV_X6_60 ndX0_has rfl ⟨Nat.le_of_ble_eq_true rfl, Nat.le_of_ble_eq_true rfl⟩ (zok_c h07 (by decide)) (zix_c h07 (by decide)) (pcOg h07) rfl rfl rfl (Nat.le_of_ble_eq_true rfl) dX6_exchangeError_5 ⟨Nat.le_of_ble_eq_true rfl, Nat.le_of_ble_eq_true rfl⟩ ?_
  refine x_S (up_self S 0) ?_
  refine x_if_ne (tgt := 13) cx dX6_exchangeError_8 (by decide) (fun hb8 => ?_) (fun hb8 => ?_)
  · refine x_iload_n cx dX6_exchangeError_13 rfl rfl ?_
    refine x_iconst (v := 0) cx dX6_exchangeError_14 (by decide) ?_
    refine x_sipush (v := 255) cx dX6_exchangeError_15 (by decide) ?_
    refine x_Si (rest := []) cx (c_X6_isWithin l G _ _ _ _ _) gS_X6_40 ndX6_isWithin ⟨Nat.le_of_ble_eq_true rfl, Nat.le_of_ble_eq_true rfl⟩ rfl rfl (Nat.le_of_ble_eq_true rfl) dX6_exchangeError_18 ⟨Nat.le_of_ble_eq_true rfl, Nat.le_of_ble_eq_true rfl⟩ ?_
    refine x_if_eq (tgt := 28) cx dX6_exchangeError_21 (by decide) (fun hb21 => ?_) (fun hb21 => ?_)
    · refine x_bipush (v := (-2)) cx dX6_exchangeError_28 (by decide) ?_
      exact x_iret cx hr (by unfold eArg; rw [if_neg hb8, if_pos hb21]) (fun _ _ _ _ => rfl) dX6_exchangeError_30
    · refine x_iconst (v := 0) cx dX6_exchangeError_24 (by decide) ?_
      refine x_goto (tgt := 30) cx dX6_exchangeError_25 (by decide) ?_
      exact x_iret cx hr (by unfold eArg; rw [if_neg hb8, if_neg hb21]) (fun _ _ _ _ => rfl) dX6_exchangeError_30
  · refine x_iconst (v := (-1)) cx dX6_exchangeError_11 (by decide) ?_
    exact x_iret cx hr (by unfold eArg; rw [if_pos hb8]) (fun _ _ _ _ => rfl) dX6_exchangeError_12

set_option maxHeartbeats 4000000 in
set_option maxRecDepth 100000 in
theorem c_X6_exchange (l : Launch) (G : zG) (S : zS) (hS : kWF S) (q v : Int32) : Met l yX6_exchange (zws yX6_exchange cX6_exchange 4 (some .int)) (zrm 7 0 0 161) (zPc G 68 (pic G S) [.ref (zad G 7 0), .int q, .int v]) (zQi G 68 (if eArg (S 0) q v 255 = 0 then zExchO (S 0) (tn q) v else eArg (S 0) q v 255) (pic G (if eArg (S 0) q v 255 = 0 then up (zRec S) 0 (zExch (S 0) (tn q) v) else S))) 0 0 (zA G) := by
  refine zMet npX6_exchange rfl (Nat.le_of_ble_eq_true rfl) ?_
  intro p e s m args below meth cd hargs cx hr hin0
  have cx : Cx p s m args meth cd cX6_exchange 4 RX6 G := cx
  refine x_ls (ls' := [some (.ref (zad G 7 0)), some (.int q), some (.int v), none]) rfl (fun _ h => h) ?_
  refine x_aload_n cx dX6_exchange_0 rfl rfl ?_
  refine x_iload_n cx dX6_exchange_1 rfl rfl ?_
  refine x_iload_n cx dX6_exchange_2 rfl rfl ?_
  refine x_Vi (C := RX6) (T := TX6) (N := 6) (rest := []) cx (c_X6_exchangeError l G _ hS _ _) gV_X6_109 ndX6_exchangeError rfl ⟨Nat.le_of_ble_eq_true rfl, Nat.le_of_ble_eq_true rfl⟩ (zok_7 (by decide)) (by decide) (p_SC) rfl rfl rfl (Nat.le_of_ble_eq_true rfl) dX6_exchange_3 ⟨Nat.le_of_ble_eq_true rfl, Nat.le_of_ble_eq_true rfl⟩ ?_
  refine x_istore_n (ls' := [_, _, _, _]) cx dX6_exchange_6 rfl (by decide) rfl ?_
  refine x_iload_n cx dX6_exchange_7 rfl rfl ?_
  refine x_if_eq (tgt := 13) cx dX6_exchange_8 (by decide) (fun hb8 => ?_) (fun hb8 => ?_)
  · have hh8 : ¬ zHas (S 0) q = 0 := fun z => by unfold eArg at hb8; rw [if_pos z] at hb8; exact absurd hb8 (by decide)
    obtain ⟨t, ht, rfl⟩ := has_ix hS.1 hh8
    have h6 := hS.1.n6
    have htn : tn (nI t) = t := nI_clamp (by omega)
    try simp only [htn]
    refine x_aload_n cx dX6_exchange_13 rfl rfl ?_
    refine x_getX6 cx 4 (by decide) (fl_X6_29 cx) (zok_7 (by decide)) (by decide) (p_SC) rfl dX6_exchange_14 ?_
    refine x_aload_n cx dX6_exchange_17 rfl rfl ?_
    refine x_getX6 cx 0 (by decide) (fl_X6_10 cx) (zok_7 (by decide)) (by decide) (p_SC) rfl dX6_exchange_18 ?_
    refine x_Vv (C := RX3) (T := TX3) (N := 2) (rest := []) cx (c_X3_record l G _ hS.2.1 hS.1) gV_X6_52 ndX3_record rfl ⟨Nat.le_of_ble_eq_true rfl, Nat.le_of_ble_eq_true rfl⟩ (zok_7 (by decide)) (by decide) (p_hist) rfl rfl rfl (Nat.le_of_ble_eq_true rfl) dX6_exchange_21 ⟨Nat.le_of_ble_eq_true rfl, Nat.le_of_ble_eq_true rfl⟩ ?_
    refine x_S (S' := up (zRec S) 0 (S 0)) (by rw [← zRec_0 hS.2.1, up_self]) ?_
    refine x_aload_n cx dX6_exchange_24 rfl rfl ?_
    refine x_getX6 cx 0 (by decide) (fl_X6_10 cx) (zok_7 (by decide)) (by decide) (p_SC) rfl dX6_exchange_25 ?_
    refine x_iload_n cx dX6_exchange_28 rfl rfl ?_
    refine x_iload_n cx dX6_exchange_29 rfl rfl ?_
    refine x_Si (rest := []) cx (c_X4_exchangeData l G _ 0 h07 _ hS.1 t ht _) gS_X6_112 ndX4_exchangeData ⟨Nat.le_of_ble_eq_true rfl, Nat.le_of_ble_eq_true rfl⟩ rfl rfl (Nat.le_of_ble_eq_true rfl) dX6_exchange_30 ⟨Nat.le_of_ble_eq_true rfl, Nat.le_of_ble_eq_true rfl⟩ ?_
    exact x_iret cx hr (by rw [if_pos hb8]) (by rw [if_pos hb8]; exact fun _ _ _ _ => rfl) dX6_exchange_33
  · refine x_iload_n cx dX6_exchange_11 rfl rfl ?_
    exact x_iret cx hr (by rw [if_neg hb8]) (by intro _ _ _ _; rw [if_neg hb8]) dX6_exchange_12

set_option maxHeartbeats 4000000 in
set_option maxRecDepth 100000 in
theorem c_X6_append (l : Launch) (G : zG) (S : zS) (hS : kWF S) (L : Nat) (hL : S 7 0 2 = nI L) (h80 : L ≤ 80) (x : Int32) : Met l yX6_append (zws yX6_append cX6_append 2 (some .int)) (zrm 1 0 0 22) (zPc G 68 (pic G S) [.ref (zad G 7 0), .int x]) (zQi G 68 (if eApp L x = 0 then nI (L + 1) else eApp L x) (pic G (if eApp L x = 0 then up S 7 (uj (uj (S 7) 2 (upd (S 7 2) L (zCh x))) 0 (upd (S 7 0) 2 (nI (L + 1)))) else S))) 0 0 (zA G) := by
  refine zMet npX6_append rfl (Nat.le_of_ble_eq_true rfl) ?_
  intro p e s m args below meth cd hargs cx hr hin0
  have cx : Cx p s m args meth cd cX6_append 2 RX6 G := cx
  refine x_ls (ls' := [some (.ref (zad G 7 0)), some (.int x)]) rfl (fun _ h => h) ?_
  refine x_iload_n cx dX6_append_0 rfl rfl ?_
  refine x_bipush (v := 32) cx dX6_append_1 (by decide) ?_
  refine x_bipush (v := 126) cx dX6_append_3 (by decide) ?_
  refine x_Si (rest := []) cx (c_X6_isWithin l G _ _ _ _ _) gS_X6_40 ndX6_isWithin ⟨Nat.le_of_ble_eq_true rfl, Nat.le_of_ble_eq_true rfl⟩ rfl rfl (Nat.le_of_ble_eq_true rfl) dX6_append_5 ⟨Nat.le_of_ble_eq_true rfl, Nat.le_of_ble_eq_true rfl⟩ ?_
  refine x_if_ne (tgt := 14) cx dX6_append_8 (by decide) (fun hb8 => ?_) (fun hb8 => ?_)
  · refine x_aload_n cx dX6_append_14 rfl rfl ?_
    refine x_getX6 cx 5 (by decide) (fl_X6_36 cx) (zok_7 (by decide)) (by decide) (p_SC) rfl dX6_append_15 ?_
    refine x_getX5 cx 1 (by decide) (fl_X6_116 cx) (zok_7 (by decide)) (by decide) (p_script) rfl dX6_append_18 ?_
    refine x_eqi hL ?_
    refine x_bipush (v := 80) cx dX6_append_21 (by decide) ?_
    refine x_icmp_lt (tgt := 29) cx dX6_append_23 (by decide) (fun hb23 => ?_) (fun hb23 => ?_)
    · refine x_aload_n cx dX6_append_29 rfl rfl ?_
      refine x_getX6 cx 5 (by decide) (fl_X6_36 cx) (zok_7 (by decide)) (by decide) (p_SC) rfl dX6_append_30 ?_
      refine x_iload_n cx dX6_append_33 rfl rfl ?_
      refine x_Vi (C := RX5) (T := TX5) (N := 2) (rest := []) cx (c_X5_write l G _ L hL ((nI_ltI (b := 80) (by omega) (by decide)).mp hb23) _) gV_X6_119 ndX5_write rfl ⟨Nat.le_of_ble_eq_true rfl, Nat.le_of_ble_eq_true rfl⟩ (zok_7 (by decide)) (by decide) (p_script) rfl rfl rfl (Nat.le_of_ble_eq_true rfl) dX6_append_34 ⟨Nat.le_of_ble_eq_true rfl, Nat.le_of_ble_eq_true rfl⟩ ?_
      have he : eApp L x = 0 := by unfold eApp; rw [if_neg hb8, if_pos hb23]
      exact x_iret cx hr (by rw [if_pos he]) (by rw [if_pos he]; exact fun _ _ _ _ => rfl) dX6_append_37
    · refine x_bipush (v := (-3)) cx dX6_append_26 (by decide) ?_
      have he : eApp L x = -3 := by unfold eApp; rw [if_neg hb8, if_neg hb23]
      exact x_iret cx hr (by rw [he, if_neg (by decide)]) (by intro _ _ _ _; rw [he, if_neg (by decide)]) dX6_append_28
  · refine x_bipush (v := (-2)) cx dX6_append_11 (by decide) ?_
    have he : eApp L x = -2 := by unfold eApp; rw [if_pos hb8]
    exact x_iret cx hr (by rw [he, if_neg (by decide)]) (by intro _ _ _ _; rw [he, if_neg (by decide)]) dX6_append_13

set_option maxHeartbeats 4000000 in
set_option maxRecDepth 100000 in
theorem c_X6_clearText (l : Launch) (G : zG) (S : zS) (hS : kWF S) : Met l yX6_clearText (zws yX6_clearText cX6_clearText 1 (some .int)) (zrm 1 0 0 21) (zPc G 68 (pic G S) [.ref (zad G 7 0)]) (zQi G 68 (S 7 0 2) (pic G (up S 7 (uj (S 7) 0 (upd (S 7 0) 2 0))))) 0 0 (zA G) := by
  refine zMet npX6_clearText rfl (Nat.le_of_ble_eq_true rfl) ?_
  intro p e s m args below meth cd hargs cx hr hin0
  have cx : Cx p s m args meth cd cX6_clearText 1 RX6 G := cx
  refine x_ls (ls' := [some (.ref (zad G 7 0))]) rfl (fun _ h => h) ?_
  refine x_aload_n cx dX6_clearText_0 rfl rfl ?_
  refine x_getX6 cx 5 (by decide) (fl_X6_36 cx) (zok_7 (by decide)) (by decide) (p_SC) rfl dX6_clearText_1 ?_
  refine x_Vi (C := RX5) (T := TX5) (N := 2) (rest := []) cx (c_X5_wipe l G _) gV_X6_122 ndX5_wipe rfl ⟨Nat.le_of_ble_eq_true rfl, Nat.le_of_ble_eq_true rfl⟩ (zok_7 (by decide)) (by decide) (p_script) rfl rfl rfl (Nat.le_of_ble_eq_true rfl) dX6_clearText_4 ⟨Nat.le_of_ble_eq_true rfl, Nat.le_of_ble_eq_true rfl⟩ ?_
  exact x_iret cx hr rfl (fun _ _ _ _ => rfl) dX6_clearText_7

set_option maxHeartbeats 4000000 in
set_option maxRecDepth 100000 in
theorem c_X6_fault (l : Launch) (G : zG) (S : zS) (hS : kWF S) (L : Nat) (hL : S 7 0 2 = nI L) (h80 : L ≤ 80) : Met l yX6_fault (zws yX6_fault cX6_fault 1 (some .int)) (zrm 2 0 0 44) (zPc G 68 (pic G S) [.ref (zad G 7 0)]) (zQi G 68 (zFault (S 7 2) L) (pic G (S))) 0 0 (zA G) := by
  refine zMet npX6_fault rfl (Nat.le_of_ble_eq_true rfl) ?_
  intro p e s m args below meth cd hargs cx hr hin0
  have cx : Cx p s m args meth cd cX6_fault 1 RX6 G := cx
  refine x_ls (ls' := [some (.ref (zad G 7 0))]) rfl (fun _ h => h) ?_
  refine x_aload_n cx dX6_fault_0 rfl rfl ?_
  refine x_getX6 cx 5 (by decide) (fl_X6_36 cx) (zok_7 (by decide)) (by decide) (p_SC) rfl dX6_fault_1 ?_
  refine x_Vi (C := RX5) (T := TX5) (N := 2) (rest := []) cx (c_X5_firstFault l G _ L hL h80) gV_X6_125 ndX5_firstFault rfl ⟨Nat.le_of_ble_eq_true rfl, Nat.le_of_ble_eq_true rfl⟩ (zok_7 (by decide)) (by decide) (p_script) rfl rfl rfl (Nat.le_of_ble_eq_true rfl) dX6_fault_4 ⟨Nat.le_of_ble_eq_true rfl, Nat.le_of_ble_eq_true rfl⟩ ?_
  exact x_iret cx hr rfl (fun _ _ _ _ => rfl) dX6_fault_7

set_option maxHeartbeats 4000000 in
set_option maxRecDepth 100000 in
theorem c_X6_run (l : Launch) (G : zG) (S : zS) (hS : kWF S) (L : Nat) (hL : S 7 0 2 = nI L) (h80 : L ≤ 80) : Met l yX6_run (zws yX6_run cX6_run 2 (some .int)) (zrm 7 0 0 160) (zPc G 68 (pic G S) [.ref (zad G 7 0)]) (zQi G 68 (if zFault (S 7 2) L = -4 then zRunO (S 7 2) L L 0 0 0 (S 0) else -100 - zFault (S 7 2) L) (pic G (if zFault (S 7 2) L = -4 then up (zRec S) 0 (zRunX (S 7 2) L L 0 (S 0)) else S))) 0 0 (zA G) := by
  refine zMet npX6_run rfl (Nat.le_of_ble_eq_true rfl) ?_
  intro p e s m args below meth cd hargs cx hr hin0
  have cx : Cx p s m args meth cd cX6_run 2 RX6 G := cx
  refine x_ls (ls' := [some (.ref (zad G 7 0)), none]) rfl (fun _ h => h) ?_
  refine x_aload_n cx dX6_run_0 rfl rfl ?_
  refine x_getX6 cx 5 (by decide) (fl_X6_36 cx) (zok_7 (by decide)) (by decide) (p_SC) rfl dX6_run_1 ?_
  refine x_Vi (C := RX5) (T := TX5) (N := 2) (rest := []) cx (c_X5_firstFault l G _ L hL h80) gV_X6_125 ndX5_firstFault rfl ⟨Nat.le_of_ble_eq_true rfl, Nat.le_of_ble_eq_true rfl⟩ (zok_7 (by decide)) (by decide) (p_script) rfl rfl rfl (Nat.le_of_ble_eq_true rfl) dX6_run_4 ⟨Nat.le_of_ble_eq_true rfl, Nat.le_of_ble_eq_true rfl⟩ ?_
  refine x_istore_n (ls' := [_, _]) cx dX6_run_7 rfl (by decide) rfl ?_
  refine x_iload_n cx dX6_run_8 rfl rfl ?_
  refine x_bipush (v := (-4)) cx dX6_run_9 (by decide) ?_
  refine x_icmp_eq (tgt := 19) cx dX6_run_11 (by decide) (fun hb11 => ?_) (fun hb11 => ?_)
  · have hT : zRec S 7 2 = S 7 2 := funext fun k => zRec_7 2 (Or.inl rfl) k (fun z => absurd z (by decide))
    refine x_aload_n cx dX6_run_19 rfl rfl ?_
    refine x_getX6 cx 4 (by decide) (fl_X6_29 cx) (zok_7 (by decide)) (by decide) (p_SC) rfl dX6_run_20 ?_
    refine x_aload_n cx dX6_run_23 rfl rfl ?_
    refine x_getX6 cx 0 (by decide) (fl_X6_10 cx) (zok_7 (by decide)) (by decide) (p_SC) rfl dX6_run_24 ?_
    refine x_Vv (C := RX3) (T := TX3) (N := 2) (rest := []) cx (c_X3_record l G _ hS.2.1 hS.1) gV_X6_52 ndX3_record rfl ⟨Nat.le_of_ble_eq_true rfl, Nat.le_of_ble_eq_true rfl⟩ (zok_7 (by decide)) (by decide) (p_hist) rfl rfl rfl (Nat.le_of_ble_eq_true rfl) dX6_run_27 ⟨Nat.le_of_ble_eq_true rfl, Nat.le_of_ble_eq_true rfl⟩ ?_
    refine x_S (S' := up (zRec S) 0 (S 0)) (by rw [← zRec_0 hS.2.1, up_self]) ?_
    refine x_aload_n cx dX6_run_30 rfl rfl ?_
    refine x_getX6 cx 0 (by decide) (fl_X6_10 cx) (zok_7 (by decide)) (by decide) (p_SC) rfl dX6_run_31 ?_
    refine x_aload_n cx dX6_run_34 rfl rfl ?_
    refine x_getX6 cx 5 (by decide) (fl_X6_36 cx) (zok_7 (by decide)) (by decide) (p_SC) rfl dX6_run_35 ?_
    refine x_Si (rest := []) cx (c_X4_carryOut l G _ 0 h07 _ hS.1 L (by rw [zRec_7 0 (Or.inr rfl) 2 (fun _ => by decide)]; exact hL) h80 (by rw [hT]; exact hb11)) gS_X6_128 ndX4_carryOut ⟨Nat.le_of_ble_eq_true rfl, Nat.le_of_ble_eq_true rfl⟩ rfl rfl (Nat.le_of_ble_eq_true rfl) dX6_run_38 ⟨Nat.le_of_ble_eq_true rfl, Nat.le_of_ble_eq_true rfl⟩ ?_
    exact x_iret cx hr (by rw [if_pos hb11, hT]) (by rw [if_pos hb11, hT]; exact fun _ _ _ _ => rfl) dX6_run_41
  · refine x_bipush (v := (-100)) cx dX6_run_14 (by decide) ?_
    refine x_iload_n cx dX6_run_16 rfl rfl ?_
    refine x_isub cx dX6_run_17 ?_
    exact x_iret cx hr (by rw [if_neg hb11]) (by intro _ _ _ _; rw [if_neg hb11]) dX6_run_18

set_option maxHeartbeats 4000000 in
set_option maxRecDepth 100000 in
theorem c_X6_undo (l : Launch) (G : zG) (S : zS) (hS : kWF S) : Met l yX6_undo (zws yX6_undo cX6_undo 1 (some .int)) (zrm 3 0 0 64) (zPc G 68 (pic G S) [.ref (zad G 7 0)]) (zQi G 68 (if hsz S = 0 then -4 else nI (hsz S - 1)) (pic G (if hsz S = 0 then S else zBack S))) 0 0 (zA G) := by
  refine zMet npX6_undo rfl (Nat.le_of_ble_eq_true rfl) ?_
  intro p e s m args below meth cd hargs cx hr hin0
  have cx : Cx p s m args meth cd cX6_undo 1 RX6 G := cx
  refine x_ls (ls' := [some (.ref (zad G 7 0))]) rfl (fun _ h => h) ?_
  refine x_aload_n cx dX6_undo_0 rfl rfl ?_
  refine x_getX6 cx 4 (by decide) (fl_X6_29 cx) (zok_7 (by decide)) (by decide) (p_SC) rfl dX6_undo_1 ?_
  refine x_aload_n cx dX6_undo_4 rfl rfl ?_
  refine x_getX6 cx 0 (by decide) (fl_X6_10 cx) (zok_7 (by decide)) (by decide) (p_SC) rfl dX6_undo_5 ?_
  refine x_Vi (C := RX3) (T := TX3) (N := 2) (rest := []) cx (c_X3_takeBack l G _ hS.2.1 hS.2.2.1) gV_X6_132 ndX3_takeBack rfl ⟨Nat.le_of_ble_eq_true rfl, Nat.le_of_ble_eq_true rfl⟩ (zok_7 (by decide)) (by decide) (p_hist) rfl rfl rfl (Nat.le_of_ble_eq_true rfl) dX6_undo_8 ⟨Nat.le_of_ble_eq_true rfl, Nat.le_of_ble_eq_true rfl⟩ ?_
  exact x_iret cx hr rfl (fun _ _ _ _ => rfl) dX6_undo_11

set_option maxHeartbeats 4000000 in
set_option maxRecDepth 100000 in
theorem c_X6_save (l : Launch) (G : zG) (S : zS) (hS : kWF S) : Met l yX6_save (zws yX6_save cX6_save 1 (some .int)) (zrm 2 0 0 43) (zPc G 68 (pic G S) [.ref (zad G 7 0)]) (zQi G 68 (S 0 0 0) (pic G (up (up S 2 (zCopy (S 2) (S 0))) 7 (uj (S 7) 0 (upd (S 7 0) 1 1))))) 0 0 (zA G) := by
  refine zMet npX6_save rfl (Nat.le_of_ble_eq_true rfl) ?_
  intro p e s m args below meth cd hargs cx hr hin0
  have cx : Cx p s m args meth cd cX6_save 1 RX6 G := cx
  refine x_ls (ls' := [some (.ref (zad G 7 0))]) rfl (fun _ h => h) ?_
  refine x_aload_n cx dX6_save_0 rfl rfl ?_
  refine x_getX6 cx 2 (by decide) (fl_X6_19 cx) (zok_7 (by decide)) (by decide) (p_SC) rfl dX6_save_1 ?_
  refine x_aload_n cx dX6_save_4 rfl rfl ?_
  refine x_getX6 cx 0 (by decide) (fl_X6_10 cx) (zok_7 (by decide)) (by decide) (p_SC) rfl dX6_save_5 ?_
  refine x_Vv (C := RX0) (T := TX0) (N := 6) (rest := []) cx (c_X0_becomeCopyOf l G _ 2 0 h27 h07 (by decide) hS.1) gV_X6_135 ndX0_becomeCopyOf rfl ⟨Nat.le_of_ble_eq_true rfl, Nat.le_of_ble_eq_true rfl⟩ (zok_c h27 (by decide)) (zix_c h27 (by decide)) (pcOg h27) rfl rfl rfl (Nat.le_of_ble_eq_true rfl) dX6_save_8 ⟨Nat.le_of_ble_eq_true rfl, Nat.le_of_ble_eq_true rfl⟩ ?_
  refine x_aload_n cx dX6_save_11 rfl rfl ?_
  refine x_iconst (v := 1) cx dX6_save_12 (by decide) ?_
  refine x_putX6 cx 3 (by decide) (fl_X6_22 cx) (zok_7 (by decide)) (by decide) (p_SC) rfl rfl rfl (Nat.le_of_ble_eq_true rfl) pp_SC_hasSnapshot dX6_save_13 ?_
  refine x_aload_n cx dX6_save_16 rfl rfl ?_
  refine x_getX6 cx 0 (by decide) (fl_X6_10 cx) (zok_7 (by decide)) (by decide) (p_SC) rfl dX6_save_17 ?_
  refine x_getX0 cx 1 (by decide) (fl_X6_48 cx) (zok_c h07 (by decide)) (zix_c h07 (by decide)) (pcOg h07) rfl dX6_save_20 ?_
  exact x_iret cx hr rfl (fun _ _ _ _ => rfl) dX6_save_23

set_option maxHeartbeats 4000000 in
set_option maxRecDepth 100000 in
theorem c_X6_restore (l : Launch) (G : zG) (S : zS) (hS : kWF S) : Met l yX6_restore (zws yX6_restore cX6_restore 1 (some .int)) (zrm 3 0 0 64) (zPc G 68 (pic G S) [.ref (zad G 7 0)]) (zQi G 68 (if S 7 0 1 = 0 then -1 else S 2 0 0) (pic G (if S 7 0 1 = 0 then S else up (zRec S) 0 (zCopy (S 0) (S 2))))) 0 0 (zA G) := by
  refine zMet npX6_restore rfl (Nat.le_of_ble_eq_true rfl) ?_
  intro p e s m args below meth cd hargs cx hr hin0
  have cx : Cx p s m args meth cd cX6_restore 1 RX6 G := cx
  refine x_ls (ls' := [some (.ref (zad G 7 0))]) rfl (fun _ h => h) ?_
  refine x_aload_n cx dX6_restore_0 rfl rfl ?_
  refine x_getX6 cx 3 (by decide) (fl_X6_22 cx) (zok_7 (by decide)) (by decide) (p_SC) rfl dX6_restore_1 ?_
  refine x_if_ne (tgt := 9) cx dX6_restore_4 (by decide) (fun hb4 => ?_) (fun hb4 => ?_)
  · refine x_aload_n cx dX6_restore_9 rfl rfl ?_
    refine x_getX6 cx 4 (by decide) (fl_X6_29 cx) (zok_7 (by decide)) (by decide) (p_SC) rfl dX6_restore_10 ?_
    refine x_aload_n cx dX6_restore_13 rfl rfl ?_
    refine x_getX6 cx 0 (by decide) (fl_X6_10 cx) (zok_7 (by decide)) (by decide) (p_SC) rfl dX6_restore_14 ?_
    refine x_Vv (C := RX3) (T := TX3) (N := 2) (rest := []) cx (c_X3_record l G _ hS.2.1 hS.1) gV_X6_52 ndX3_record rfl ⟨Nat.le_of_ble_eq_true rfl, Nat.le_of_ble_eq_true rfl⟩ (zok_7 (by decide)) (by decide) (p_hist) rfl rfl rfl (Nat.le_of_ble_eq_true rfl) dX6_restore_17 ⟨Nat.le_of_ble_eq_true rfl, Nat.le_of_ble_eq_true rfl⟩ ?_
    refine x_aload_n cx dX6_restore_20 rfl rfl ?_
    refine x_getX6 cx 0 (by decide) (fl_X6_10 cx) (zok_7 (by decide)) (by decide) (p_SC) rfl dX6_restore_21 ?_
    refine x_aload_n cx dX6_restore_24 rfl rfl ?_
    refine x_getX6 cx 2 (by decide) (fl_X6_19 cx) (zok_7 (by decide)) (by decide) (p_SC) rfl dX6_restore_25 ?_
    refine x_Vv (C := RX0) (T := TX0) (N := 6) (rest := []) cx (c_X0_becomeCopyOf l G _ 0 2 h07 h27 (by decide) (by rw [zRec_low hS.2.1 (by decide)]; exact hS.2.2.2.2.2 (hS.2.2.2.2.1.resolve_left hb4))) gV_X6_135 ndX0_becomeCopyOf rfl ⟨Nat.le_of_ble_eq_true rfl, Nat.le_of_ble_eq_true rfl⟩ (zok_c h07 (by decide)) (zix_c h07 (by decide)) (pcOg h07) rfl rfl rfl (Nat.le_of_ble_eq_true rfl) dX6_restore_28 ⟨Nat.le_of_ble_eq_true rfl, Nat.le_of_ble_eq_true rfl⟩ ?_
    refine x_aload_n cx dX6_restore_31 rfl rfl ?_
    refine x_getX6 cx 0 (by decide) (fl_X6_10 cx) (zok_7 (by decide)) (by decide) (p_SC) rfl dX6_restore_32 ?_
    refine x_getX0 cx 1 (by decide) (fl_X6_48 cx) (zok_c h07 (by decide)) (zix_c h07 (by decide)) (pcOg h07) rfl dX6_restore_35 ?_
    exact x_iret cx hr (by rw [if_neg hb4, up_same, zCopy_0, zRec_low hS.2.1 (by decide)]) (by rw [if_neg hb4, zRec_low hS.2.1 (show 0 < 3 by decide), zRec_low hS.2.1 (show 2 < 3 by decide)]; exact fun _ _ _ _ => rfl) dX6_restore_38
  · refine x_iconst (v := (-1)) cx dX6_restore_7 (by decide) ?_
    exact x_iret cx hr (by rw [if_pos hb4]) (by intro _ _ _ _; rw [if_pos hb4]) dX6_restore_8

set_option maxHeartbeats 4000000 in
set_option maxRecDepth 100000 in
theorem c_X6_chip (l : Launch) (G : zG) (S : zS) (hS : kWF S) (q v : Int32) : Met l yX6_chip (zws yX6_chip cX6_chip 3 (some .int)) (zrm 3 0 0 61) (zPc G 68 (pic G S) [.ref (zad G 7 0), .int q, .int v]) (zQi G 68 (zTellX (S 0) q v) (pic G (S))) 0 0 (zA G) := by
  refine zMet npX6_chip rfl (Nat.le_of_ble_eq_true rfl) ?_
  intro p e s m args below meth cd hargs cx hr hin0
  have cx : Cx p s m args meth cd cX6_chip 3 RX6 G := cx
  refine x_ls (ls' := [some (.ref (zad G 7 0)), some (.int q), some (.int v)]) rfl (fun _ h => h) ?_
  refine x_aload_n cx dX6_chip_0 rfl rfl ?_
  refine x_getX6 cx 0 (by decide) (fl_X6_10 cx) (zok_7 (by decide)) (by decide) (p_SC) rfl dX6_chip_1 ?_
  refine x_iload_n cx dX6_chip_4 rfl rfl ?_
  refine x_S (up_self S 0).symm ?_
  refine x_Vi (C := RX0) (T := TX0) (N := 6) (rest := []) cx (c_X0_has l G _ 0 h07 _ hS.1 _) gV_X6_60 ndX0_has rfl ⟨Nat.le_of_ble_eq_true rfl, Nat.le_of_ble_eq_true rfl⟩ (zok_c h07 (by decide)) (zix_c h07 (by decide)) (pcOg h07) rfl rfl rfl (Nat.le_of_ble_eq_true rfl) dX6_chip_5 ⟨Nat.le_of_ble_eq_true rfl, Nat.le_of_ble_eq_true rfl⟩ ?_
  refine x_S (up_self S 0) ?_
  refine x_if_ne (tgt := 13) cx dX6_chip_8 (by decide) (fun hb8 => ?_) (fun hb8 => ?_)
  · obtain ⟨t, ht, rfl⟩ := has_ix hS.1 hb8
    have h6 := hS.1.n6
    have htn : tn (nI t) = t := nI_clamp (by omega)
    try simp only [htn]
    refine x_aload_n cx dX6_chip_13 rfl rfl ?_
    refine x_getX6 cx 0 (by decide) (fl_X6_10 cx) (zok_7 (by decide)) (by decide) (p_SC) rfl dX6_chip_14 ?_
    refine x_getX0 cx 0 (by decide) (fl_X6_67 cx) (zok_c h07 (by decide)) (zix_c h07 (by decide)) (pcOg h07) rfl dX6_chip_17 ?_
    refine x_iload_n cx dX6_chip_20 rfl rfl ?_
    refine x_aald (t := t) cx 2 rfl (zok_c h07 (by decide)) (zix_c h07 (by decide)) (pcA h07) rfl (by omega) (by decide) rfl dX6_chip_21 ?_
    refine x_iload_n cx dX6_chip_22 rfl rfl ?_
    refine x_S (up_self S 0).symm ?_
    refine x_chip t ?_
    refine x_Vi (C := RX1) (T := TX1) (N := 9) (rest := []) cx (c_X1_tell l G _ 0 t h07 (by omega) _ _ _) gV_X6_138 ndX1_tell rfl ⟨Nat.le_of_ble_eq_true rfl, Nat.le_of_ble_eq_true rfl⟩ (zok_c h07 (by omega)) (zix_c h07 (by omega)) (pcCc h07 _) rfl rfl rfl (Nat.le_of_ble_eq_true rfl) dX6_chip_23 ⟨Nat.le_of_ble_eq_true rfl, Nat.le_of_ble_eq_true rfl⟩ ?_
    refine x_unchip ?_
    refine x_S (up_self S 0) ?_
    exact x_iret cx hr (by unfold zTellX; rw [if_neg hb8, htn]) (fun _ _ _ _ => rfl) dX6_chip_26
  · refine x_iconst (v := (-1)) cx dX6_chip_11 (by decide) ?_
    exact x_iret cx hr (by unfold zTellX; rw [if_pos hb8]) (fun _ _ _ _ => rfl) dX6_chip_12

theorem zCount_out {X : zCV} {hl tl x : Int32} (h : x.toInt < 0 ∨ (8 : Int) < x.toInt) : zCount X hl tl x = -2 := by
  have key : ∀ k : Nat, k ≤ 8 → ¬ x = nI k := by
    intro k hk he
    rw [he, nI_toInt (by omega)] at h
    omega
  unfold zCount
  rw [if_neg (show ¬ x = 0 from key 0 (by decide)), if_neg (show ¬ x = 1 from key 1 (by decide)), if_neg (show ¬ x = 2 from key 2 (by decide)), if_neg (show ¬ x = 3 from key 3 (by decide)), if_neg (show ¬ x = 4 from key 4 (by decide)), if_neg (show ¬ x = 5 from key 5 (by decide)), if_neg (show ¬ x = 6 from key 6 (by decide)), if_neg (show ¬ x = 7 from key 7 (by decide)), if_neg (show ¬ x = 8 from key 8 (by decide))]
theorem zCount_in {X : zCV} {hl tl : Int32} : zCount X hl tl (nI 0) = X 0 0 ∧ zCount X hl tl (nI 1) = zSum zBrk X ∧ zCount X hl tl (nI 2) = X 0 1 ∧ zCount X hl tl (nI 3) = X 0 2 ∧ zCount X hl tl (nI 4) = zSum (fun c => c 0) X ∧ zCount X hl tl (nI 5) = zSum zBits X ∧ zCount X hl tl (nI 6) = X 0 3 ∧ zCount X hl tl (nI 7) = hl ∧ zCount X hl tl (nI 8) = tl := ⟨rfl, rfl, rfl, rfl, rfl, rfl, rfl, rfl, rfl⟩

set_option maxHeartbeats 4000000 in
set_option maxRecDepth 100000 in
theorem c_X6_count (l : Launch) (G : zG) (S : zS) (hS : kWF S) (x : Int32) : Met l yX6_count (zws yX6_count cX6_count 2 (some .int)) (zrm 3 0 0 62) (zPc G 68 (pic G S) [.ref (zad G 7 0), .int x]) (zQi G 68 (zCount (S 0) (S 7 0 0) (S 7 0 2) x) (pic G (S))) 0 0 (zA G) := by
  refine zMet npX6_count rfl (Nat.le_of_ble_eq_true rfl) ?_
  intro p e s m args below meth cd hargs cx hr hin0
  have cx : Cx p s m args meth cd cX6_count 2 RX6 G := cx
  refine x_ls (ls' := [some (.ref (zad G 7 0)), some (.int x)]) rfl (fun _ h => h) ?_
  refine x_iload_n cx dX6_count_0 rfl rfl ?_
  rcases sw_cases x 8 (by decide) with hsw | hsw | ⟨w, hw, rfl⟩
  · refine x_tableOut (tgt := 124) cx dX6_count_1 (Or.inl hsw) (by decide) ?_
    refine x_bipush (v := (-2)) cx dX6_count_124 (by decide) ?_
    exact x_iret cx hr (zCount_out (by first | exact Or.inl hsw | exact Or.inr hsw)).symm (fun _ _ _ _ => rfl) dX6_count_126
  · refine x_tableOut (tgt := 124) cx dX6_count_1 (Or.inr hsw) (by decide) ?_
    refine x_bipush (v := (-2)) cx dX6_count_124 (by decide) ?_
    exact x_iret cx hr (zCount_out (by first | exact Or.inl hsw | exact Or.inr hsw)).symm (fun _ _ _ _ => rfl) dX6_count_126
  · rcases (show w = 0 ∨ w = 1 ∨ w = 2 ∨ w = 3 ∨ w = 4 ∨ w = 5 ∨ w = 6 ∨ w = 7 ∨ w = 8 by omega) with rfl | rfl | rfl | rfl | rfl | rfl | rfl | rfl | rfl
    · refine x_tableIn (tgt := 52) (off := 51) cx dX6_count_1 (by decide +kernel) (by decide +kernel) (by decide +kernel) (by decide) ?_
      refine x_aload_n cx dX6_count_52 rfl rfl ?_
      refine x_getX6 cx 0 (by decide) (fl_X6_10 cx) (zok_7 (by decide)) (by decide) (p_SC) rfl dX6_count_53 ?_
      refine x_getX0 cx 1 (by decide) (fl_X6_48 cx) (zok_c h07 (by decide)) (zix_c h07 (by decide)) (pcOg h07) rfl dX6_count_56 ?_
      exact x_iret cx hr (zCount_in.1).symm (fun _ _ _ _ => rfl) dX6_count_59
    · refine x_tableIn (tgt := 60) (off := 59) cx dX6_count_1 (by decide +kernel) (by decide +kernel) (by decide +kernel) (by decide) ?_
      refine x_aload_n cx dX6_count_60 rfl rfl ?_
      refine x_getX6 cx 0 (by decide) (fl_X6_10 cx) (zok_7 (by decide)) (by decide) (p_SC) rfl dX6_count_61 ?_
      refine x_S (up_self S 0).symm ?_
      refine x_Vi (C := RX0) (T := TX0) (N := 6) (rest := []) cx (c_X0_brokenChips l G _ 0 h07 _ hS.1) gV_X6_79 ndX0_brokenChips rfl ⟨Nat.le_of_ble_eq_true rfl, Nat.le_of_ble_eq_true rfl⟩ (zok_c h07 (by decide)) (zix_c h07 (by decide)) (pcOg h07) rfl rfl rfl (Nat.le_of_ble_eq_true rfl) dX6_count_64 ⟨Nat.le_of_ble_eq_true rfl, Nat.le_of_ble_eq_true rfl⟩ ?_
      refine x_S (up_self S 0) ?_
      exact x_iret cx hr (zCount_in.2.1).symm (fun _ _ _ _ => rfl) dX6_count_67
    · refine x_tableIn (tgt := 68) (off := 67) cx dX6_count_1 (by decide +kernel) (by decide +kernel) (by decide +kernel) (by decide) ?_
      refine x_aload_n cx dX6_count_68 rfl rfl ?_
      refine x_getX6 cx 0 (by decide) (fl_X6_10 cx) (zok_7 (by decide)) (by decide) (p_SC) rfl dX6_count_69 ?_
      refine x_getX0 cx 2 (by decide) (fl_X6_141 cx) (zok_c h07 (by decide)) (zix_c h07 (by decide)) (pcOg h07) rfl dX6_count_72 ?_
      exact x_iret cx hr (zCount_in.2.2.1).symm (fun _ _ _ _ => rfl) dX6_count_75
    · refine x_tableIn (tgt := 76) (off := 75) cx dX6_count_1 (by decide +kernel) (by decide +kernel) (by decide +kernel) (by decide) ?_
      refine x_aload_n cx dX6_count_76 rfl rfl ?_
      refine x_getX6 cx 0 (by decide) (fl_X6_10 cx) (zok_7 (by decide)) (by decide) (p_SC) rfl dX6_count_77 ?_
      refine x_getX0 cx 3 (by decide) (fl_X6_144 cx) (zok_c h07 (by decide)) (zix_c h07 (by decide)) (pcOg h07) rfl dX6_count_80 ?_
      exact x_iret cx hr (zCount_in.2.2.2.1).symm (fun _ _ _ _ => rfl) dX6_count_83
    · refine x_tableIn (tgt := 84) (off := 83) cx dX6_count_1 (by decide +kernel) (by decide +kernel) (by decide +kernel) (by decide) ?_
      refine x_aload_n cx dX6_count_84 rfl rfl ?_
      refine x_getX6 cx 0 (by decide) (fl_X6_10 cx) (zok_7 (by decide)) (by decide) (p_SC) rfl dX6_count_85 ?_
      refine x_S (up_self S 0).symm ?_
      refine x_Vi (C := RX0) (T := TX0) (N := 6) (rest := []) cx (c_X0_sumOfCodeLengths l G _ 0 h07 _ hS.1) gV_X6_147 ndX0_sumOfCodeLengths rfl ⟨Nat.le_of_ble_eq_true rfl, Nat.le_of_ble_eq_true rfl⟩ (zok_c h07 (by decide)) (zix_c h07 (by decide)) (pcOg h07) rfl rfl rfl (Nat.le_of_ble_eq_true rfl) dX6_count_88 ⟨Nat.le_of_ble_eq_true rfl, Nat.le_of_ble_eq_true rfl⟩ ?_
      refine x_S (up_self S 0) ?_
      exact x_iret cx hr (zCount_in.2.2.2.2.1).symm (fun _ _ _ _ => rfl) dX6_count_91
    · refine x_tableIn (tgt := 92) (off := 91) cx dX6_count_1 (by decide +kernel) (by decide +kernel) (by decide +kernel) (by decide) ?_
      refine x_aload_n cx dX6_count_92 rfl rfl ?_
      refine x_getX6 cx 0 (by decide) (fl_X6_10 cx) (zok_7 (by decide)) (by decide) (p_SC) rfl dX6_count_93 ?_
      refine x_S (up_self S 0).symm ?_
      refine x_Vi (C := RX0) (T := TX0) (N := 6) (rest := []) cx (c_X0_sumOfDataBits l G _ 0 h07 _ hS.1) gV_X6_150 ndX0_sumOfDataBits rfl ⟨Nat.le_of_ble_eq_true rfl, Nat.le_of_ble_eq_true rfl⟩ (zok_c h07 (by decide)) (zix_c h07 (by decide)) (pcOg h07) rfl rfl rfl (Nat.le_of_ble_eq_true rfl) dX6_count_96 ⟨Nat.le_of_ble_eq_true rfl, Nat.le_of_ble_eq_true rfl⟩ ?_
      refine x_S (up_self S 0) ?_
      exact x_iret cx hr (zCount_in.2.2.2.2.2.1).symm (fun _ _ _ _ => rfl) dX6_count_99
    · refine x_tableIn (tgt := 100) (off := 99) cx dX6_count_1 (by decide +kernel) (by decide +kernel) (by decide +kernel) (by decide) ?_
      refine x_aload_n cx dX6_count_100 rfl rfl ?_
      refine x_getX6 cx 0 (by decide) (fl_X6_10 cx) (zok_7 (by decide)) (by decide) (p_SC) rfl dX6_count_101 ?_
      refine x_getX0 cx 5 (by decide) (fl_X6_153 cx) (zok_c h07 (by decide)) (zix_c h07 (by decide)) (pcOg h07) rfl dX6_count_104 ?_
      exact x_iret cx hr (zCount_in.2.2.2.2.2.2.1).symm (fun _ _ _ _ => rfl) dX6_count_107
    · refine x_tableIn (tgt := 108) (off := 107) cx dX6_count_1 (by decide +kernel) (by decide +kernel) (by decide +kernel) (by decide) ?_
      refine x_aload_n cx dX6_count_108 rfl rfl ?_
      refine x_getX6 cx 4 (by decide) (fl_X6_29 cx) (zok_7 (by decide)) (by decide) (p_SC) rfl dX6_count_109 ?_
      refine x_getX3 cx 1 (by decide) (fl_X6_156 cx) (zok_7 (by decide)) (by decide) (p_hist) rfl dX6_count_112 ?_
      exact x_iret cx hr (zCount_in.2.2.2.2.2.2.2.1).symm (fun _ _ _ _ => rfl) dX6_count_115
    · refine x_tableIn (tgt := 116) (off := 115) cx dX6_count_1 (by decide +kernel) (by decide +kernel) (by decide +kernel) (by decide) ?_
      refine x_aload_n cx dX6_count_116 rfl rfl ?_
      refine x_getX6 cx 5 (by decide) (fl_X6_36 cx) (zok_7 (by decide)) (by decide) (p_SC) rfl dX6_count_117 ?_
      refine x_getX5 cx 1 (by decide) (fl_X6_116 cx) (zok_7 (by decide)) (by decide) (p_script) rfl dX6_count_120 ?_
      exact x_iret cx hr (zCount_in.2.2.2.2.2.2.2.2).symm (fun _ _ _ _ => rfl) dX6_count_123

theorem pcIg {G : zG} {S : zS} {i : Nat} (hi : i < 7) : pic G S i 2 = .inl (G.2.1 0, 8, .inl (tr 8 (S i 2))) := by
  rw [pic_c hi]; rfl

set_option maxHeartbeats 4000000 in
set_option maxRecDepth 100000 in
theorem c_X6_found (l : Launch) (G : zG) (S : zS) (hS : kWF S) (q : Int32) : Met l yX6_found (zws yX6_found cX6_found 2 (some .int)) (zrm 0 0 0 0) (zPc G 68 (pic G S) [.ref (zad G 7 0), .int q]) (zQi G 68 (zFound (S 0) q) (pic G (S))) 0 0 (zA G) := by
  refine zMet npX6_found rfl (Nat.le_of_ble_eq_true rfl) ?_
  intro p e s m args below meth cd hargs cx hr hin0
  have cx : Cx p s m args meth cd cX6_found 2 RX6 G := cx
  refine x_ls (ls' := [some (.ref (zad G 7 0)), some (.int q)]) rfl (fun _ h => h) ?_
  refine x_iload_n cx dX6_found_0 rfl rfl ?_
  refine x_if_ge (tgt := 7) cx dX6_found_1 (by decide) (fun hb1 => ?_) (fun hb1 => ?_)
  · refine x_iload_n cx dX6_found_7 rfl rfl ?_
    refine x_aload_n cx dX6_found_8 rfl rfl ?_
    refine x_getX6 cx 0 (by decide) (fl_X6_10 cx) (zok_7 (by decide)) (by decide) (p_SC) rfl dX6_found_9 ?_
    refine x_getX0 cx 5 (by decide) (fl_X6_153 cx) (zok_c h07 (by decide)) (zix_c h07 (by decide)) (pcOg h07) rfl dX6_found_12 ?_
    refine x_icmp_lt (tgt := 21) cx dX6_found_15 (by decide) (fun hb15 => ?_) (fun hb15 => ?_)
    · have h8 := hS.1.c8
      obtain ⟨t, ht, rfl⟩ := ix_lt (Int32.not_lt.mpr hb1) (by rw [← hS.1.c3]; exact hb15) (by omega)
      have htn : tn (nI t) = t := nI_clamp (by omega)
      refine x_aload_n cx dX6_found_21 rfl rfl ?_
      refine x_getX6 cx 0 (by decide) (fl_X6_10 cx) (zok_7 (by decide)) (by decide) (p_SC) rfl dX6_found_22 ?_
      refine x_getX0 cx 4 (by decide) (fl_X6_157 cx) (zok_c h07 (by decide)) (zix_c h07 (by decide)) (pcOg h07) rfl dX6_found_25 ?_
      refine x_iload_n cx dX6_found_28 rfl rfl ?_
      refine x_iald (t := t) cx (zok_c h07 (by decide)) (zix_c h07 (by decide)) (pcIg h07) rfl (by omega) (by decide) (tr_lt (by omega)) dX6_found_29 ?_
      exact x_iret cx hr (by unfold zFound; rw [if_neg (Int32.not_lt.mpr hb1), if_pos hb15, htn]) (fun _ _ _ _ => rfl) dX6_found_30
    · refine x_bipush (v := (-4)) cx dX6_found_18 (by decide) ?_
      exact x_iret cx hr (by unfold zFound; rw [if_neg (Int32.not_lt.mpr hb1), if_neg hb15]) (fun _ _ _ _ => rfl) dX6_found_20
  · refine x_bipush (v := (-2)) cx dX6_found_4 (by decide) ?_
    exact x_iret cx hr (by unfold zFound; rw [if_pos (Int32.not_le.mp hb1)]) (fun _ _ _ _ => rfl) dX6_found_6

set_option maxHeartbeats 4000000 in
set_option maxRecDepth 100000 in
theorem c_X6_distance (l : Launch) (G : zG) (S : zS) (hS : kWF S) (a b : Int32) : Met l yX6_distance (zws yX6_distance cX6_distance 3 (some .int)) (zrm 4 0 0 86) (zPc G 68 (pic G S) [.ref (zad G 7 0), .int a, .int b]) (zQi G 68 (zDist a b) (pic G (S))) 0 0 (zA G) := by
  refine zMet npX6_distance rfl (Nat.le_of_ble_eq_true rfl) ?_
  intro p e s m args below meth cd hargs cx hr hin0
  have cx : Cx p s m args meth cd cX6_distance 3 RX6 G := cx
  refine x_ls (ls' := [some (.ref (zad G 7 0)), some (.int a), some (.int b)]) rfl (fun _ h => h) ?_
  refine x_iload_n cx dX6_distance_0 rfl rfl ?_
  refine x_Si (rest := []) cx (c_X2_isState l G _ _ _) gS_X6_87 ndX2_isState ⟨Nat.le_of_ble_eq_true rfl, Nat.le_of_ble_eq_true rfl⟩ rfl rfl (Nat.le_of_ble_eq_true rfl) dX6_distance_1 ⟨Nat.le_of_ble_eq_true rfl, Nat.le_of_ble_eq_true rfl⟩ ?_
  refine x_if_eq (tgt := 14) cx dX6_distance_4 (by decide) (fun hb4 => ?_) (fun hb4 => ?_)
  · refine x_bipush (v := (-2)) cx dX6_distance_14 (by decide) ?_
    exact x_iret cx hr (by unfold zDist; rw [if_pos hb4]) (fun _ _ _ _ => rfl) dX6_distance_16
  · refine x_iload_n cx dX6_distance_7 rfl rfl ?_
    refine x_Si (rest := []) cx (c_X2_isState l G _ _ _) gS_X6_87 ndX2_isState ⟨Nat.le_of_ble_eq_true rfl, Nat.le_of_ble_eq_true rfl⟩ rfl rfl (Nat.le_of_ble_eq_true rfl) dX6_distance_8 ⟨Nat.le_of_ble_eq_true rfl, Nat.le_of_ble_eq_true rfl⟩ ?_
    refine x_if_ne (tgt := 17) cx dX6_distance_11 (by decide) (fun hb11 => ?_) (fun hb11 => ?_)
    · obtain ⟨t, ht, rfl⟩ := is_ix hb4
      obtain ⟨u, hu, rfl⟩ := is_ix hb11
      have htn : tn (nI t) = t := nI_clamp (by omega)
      have hun : tn (nI u) = u := nI_clamp (by omega)
      refine x_iload_n cx dX6_distance_17 rfl rfl ?_
      refine x_iload_n cx dX6_distance_18 rfl rfl ?_
      refine x_Si (rest := []) cx (c_X2_clocksBetween l G _ _ t u ht hu) gS_X6_161 ndX2_clocksBetween ⟨Nat.le_of_ble_eq_true rfl, Nat.le_of_ble_eq_true rfl⟩ rfl rfl (Nat.le_of_ble_eq_true rfl) dX6_distance_19 ⟨Nat.le_of_ble_eq_true rfl, Nat.le_of_ble_eq_true rfl⟩ ?_
      exact x_iret cx hr (by unfold zDist; rw [if_neg hb4, if_neg hb11, htn, hun]) (fun _ _ _ _ => rfl) dX6_distance_22
    · refine x_bipush (v := (-2)) cx dX6_distance_14 (by decide) ?_
      exact x_iret cx hr (by unfold zDist; rw [if_neg hb4, if_pos hb11]) (fun _ _ _ _ => rfl) dX6_distance_16

set_option maxHeartbeats 4000000 in
set_option maxRecDepth 100000 in
theorem c_X6_peek (l : Launch) (G : zG) (S : zS) (hS : kWF S) (x : Int32) : Met l yX6_peek (zws yX6_peek cX6_peek 2 (some .int)) (zrm 2 0 0 42) (zPc G 68 (pic G S) [.ref (zad G 7 0), .int x]) (zQi G 68 (zPeek (S 0) x) (pic G (S))) 0 0 (zA G) := by
  refine zMet npX6_peek rfl (Nat.le_of_ble_eq_true rfl) ?_
  intro p e s m args below meth cd hargs cx hr hin0
  have cx : Cx p s m args meth cd cX6_peek 2 RX6 G := cx
  refine x_ls (ls' := [some (.ref (zad G 7 0)), some (.int x)]) rfl (fun _ h => h) ?_
  refine x_iload_n cx dX6_peek_0 rfl rfl ?_
  refine x_iconst (v := 0) cx dX6_peek_1 (by decide) ?_
  refine x_iconst (v := 1) cx dX6_peek_2 (by decide) ?_
  refine x_Si (rest := []) cx (c_X6_isWithin l G _ _ _ _ _) gS_X6_40 ndX6_isWithin ⟨Nat.le_of_ble_eq_true rfl, Nat.le_of_ble_eq_true rfl⟩ rfl rfl (Nat.le_of_ble_eq_true rfl) dX6_peek_3 ⟨Nat.le_of_ble_eq_true rfl, Nat.le_of_ble_eq_true rfl⟩ ?_
  refine x_if_ne (tgt := 12) cx dX6_peek_6 (by decide) (fun hb6 => ?_) (fun hb6 => ?_)
  · refine x_aload_n cx dX6_peek_12 rfl rfl ?_
    refine x_getX6 cx 0 (by decide) (fl_X6_10 cx) (zok_7 (by decide)) (by decide) (p_SC) rfl dX6_peek_13 ?_
    refine x_iload_n cx dX6_peek_16 rfl rfl ?_
    refine x_S (up_self S 0).symm ?_
    refine x_Vi (C := RX0) (T := TX0) (N := 6) (rest := []) cx (c_X0_outputWith l G _ 0 h07 _ hS.1 _) gV_X6_164 ndX0_outputWith rfl ⟨Nat.le_of_ble_eq_true rfl, Nat.le_of_ble_eq_true rfl⟩ (zok_c h07 (by decide)) (zix_c h07 (by decide)) (pcOg h07) rfl rfl rfl (Nat.le_of_ble_eq_true rfl) dX6_peek_17 ⟨Nat.le_of_ble_eq_true rfl, Nat.le_of_ble_eq_true rfl⟩ ?_
    refine x_S (up_self S 0) ?_
    exact x_iret cx hr (by unfold zPeek; rw [if_neg hb6]) (fun _ _ _ _ => rfl) dX6_peek_20
  · refine x_bipush (v := (-2)) cx dX6_peek_9 (by decide) ?_
    exact x_iret cx hr (by unfold zPeek; rw [if_pos hb6]) (fun _ _ _ _ => rfl) dX6_peek_11

set_option maxHeartbeats 4000000 in
set_option maxRecDepth 100000 in
theorem c_X6_ifIdentified (l : Launch) (G : zG) (S : zS) (hS : kWF S) : Met l yX6_ifIdentified (zws yX6_ifIdentified cX6_ifIdentified 1 (some .int)) (zrm 7 0 0 156) (zPc G 68 (pic G S) [.ref (zad G 7 0)]) (zQi G 68 (zIdent (zCopy (S 1) (S 0)) 0 3) (pic G (up S 1 (zIdent (zCopy (S 1) (S 0)))))) 0 0 (zA G) := by
  refine zMet npX6_ifIdentified rfl (Nat.le_of_ble_eq_true rfl) ?_
  intro p e s m args below meth cd hargs cx hr hin0
  have cx : Cx p s m args meth cd cX6_ifIdentified 1 RX6 G := cx
  refine x_ls (ls' := [some (.ref (zad G 7 0))]) rfl (fun _ h => h) ?_
  refine x_aload_n cx dX6_ifIdentified_0 rfl rfl ?_
  refine x_getX6 cx 1 (by decide) (fl_X6_16 cx) (zok_7 (by decide)) (by decide) (p_SC) rfl dX6_ifIdentified_1 ?_
  refine x_aload_n cx dX6_ifIdentified_4 rfl rfl ?_
  refine x_getX6 cx 0 (by decide) (fl_X6_10 cx) (zok_7 (by decide)) (by decide) (p_SC) rfl dX6_ifIdentified_5 ?_
  refine x_Vv (C := RX0) (T := TX0) (N := 6) (rest := []) cx (c_X0_becomeCopyOf l G _ 1 0 h17 h07 (by decide) hS.1) gV_X6_135 ndX0_becomeCopyOf rfl ⟨Nat.le_of_ble_eq_true rfl, Nat.le_of_ble_eq_true rfl⟩ (zok_c h17 (by decide)) (zix_c h17 (by decide)) (pcOg h17) rfl rfl rfl (Nat.le_of_ble_eq_true rfl) dX6_ifIdentified_8 ⟨Nat.le_of_ble_eq_true rfl, Nat.le_of_ble_eq_true rfl⟩ ?_
  refine x_aload_n cx dX6_ifIdentified_11 rfl rfl ?_
  refine x_getX6 cx 1 (by decide) (fl_X6_16 cx) (zok_7 (by decide)) (by decide) (p_SC) rfl dX6_ifIdentified_12 ?_
  refine x_Si (rest := []) cx (c_X4_readIdentities l G _ 1 h17 _ (zCopy_WF hS.1)) gS_X6_98 ndX4_readIdentities ⟨Nat.le_of_ble_eq_true rfl, Nat.le_of_ble_eq_true rfl⟩ rfl rfl (Nat.le_of_ble_eq_true rfl) dX6_ifIdentified_15 ⟨Nat.le_of_ble_eq_true rfl, Nat.le_of_ble_eq_true rfl⟩ ?_
  exact x_iret cx hr rfl (fun _ _ _ _ => rfl) dX6_ifIdentified_18

set_option maxHeartbeats 4000000 in
set_option maxRecDepth 100000 in
theorem c_X6_ifExchanged (l : Launch) (G : zG) (S : zS) (hS : kWF S) (q v : Int32) : Met l yX6_ifExchanged (zws yX6_ifExchanged cX6_ifExchanged 4 (some .int)) (zrm 7 0 0 161) (zPc G 68 (pic G S) [.ref (zad G 7 0), .int q, .int v]) (zQi G 68 (if eArg (S 0) q v 255 = 0 then zExchO (zCopy (S 1) (S 0)) (tn q) v else eArg (S 0) q v 255) (pic G (if eArg (S 0) q v 255 = 0 then up S 1 (zExch (zCopy (S 1) (S 0)) (tn q) v) else S))) 0 0 (zA G) := by
  refine zMet npX6_ifExchanged rfl (Nat.le_of_ble_eq_true rfl) ?_
  intro p e s m args below meth cd hargs cx hr hin0
  have cx : Cx p s m args meth cd cX6_ifExchanged 4 RX6 G := cx
  refine x_ls (ls' := [some (.ref (zad G 7 0)), some (.int q), some (.int v), none]) rfl (fun _ h => h) ?_
  refine x_aload_n cx dX6_ifExchanged_0 rfl rfl ?_
  refine x_iload_n cx dX6_ifExchanged_1 rfl rfl ?_
  refine x_iload_n cx dX6_ifExchanged_2 rfl rfl ?_
  refine x_Vi (C := RX6) (T := TX6) (N := 6) (rest := []) cx (c_X6_exchangeError l G _ hS _ _) gV_X6_109 ndX6_exchangeError rfl ⟨Nat.le_of_ble_eq_true rfl, Nat.le_of_ble_eq_true rfl⟩ (zok_7 (by decide)) (by decide) (p_SC) rfl rfl rfl (Nat.le_of_ble_eq_true rfl) dX6_ifExchanged_3 ⟨Nat.le_of_ble_eq_true rfl, Nat.le_of_ble_eq_true rfl⟩ ?_
  refine x_istore_n (ls' := [_, _, _, _]) cx dX6_ifExchanged_6 rfl (by decide) rfl ?_
  refine x_iload_n cx dX6_ifExchanged_7 rfl rfl ?_
  refine x_if_eq (tgt := 13) cx dX6_ifExchanged_8 (by decide) (fun hb8 => ?_) (fun hb8 => ?_)
  · have hh8 : ¬ zHas (S 0) q = 0 := fun z => by unfold eArg at hb8; rw [if_pos z] at hb8; exact absurd hb8 (by decide)
    obtain ⟨t, ht, rfl⟩ := has_ix hS.1 hh8
    have h6 := hS.1.n6
    have htn : tn (nI t) = t := nI_clamp (by omega)
    try simp only [htn]
    refine x_aload_n cx dX6_ifExchanged_13 rfl rfl ?_
    refine x_getX6 cx 1 (by decide) (fl_X6_16 cx) (zok_7 (by decide)) (by decide) (p_SC) rfl dX6_ifExchanged_14 ?_
    refine x_aload_n cx dX6_ifExchanged_17 rfl rfl ?_
    refine x_getX6 cx 0 (by decide) (fl_X6_10 cx) (zok_7 (by decide)) (by decide) (p_SC) rfl dX6_ifExchanged_18 ?_
    refine x_Vv (C := RX0) (T := TX0) (N := 6) (rest := []) cx (c_X0_becomeCopyOf l G _ 1 0 h17 h07 (by decide) hS.1) gV_X6_135 ndX0_becomeCopyOf rfl ⟨Nat.le_of_ble_eq_true rfl, Nat.le_of_ble_eq_true rfl⟩ (zok_c h17 (by decide)) (zix_c h17 (by decide)) (pcOg h17) rfl rfl rfl (Nat.le_of_ble_eq_true rfl) dX6_ifExchanged_21 ⟨Nat.le_of_ble_eq_true rfl, Nat.le_of_ble_eq_true rfl⟩ ?_
    refine x_aload_n cx dX6_ifExchanged_24 rfl rfl ?_
    refine x_getX6 cx 1 (by decide) (fl_X6_16 cx) (zok_7 (by decide)) (by decide) (p_SC) rfl dX6_ifExchanged_25 ?_
    refine x_iload_n cx dX6_ifExchanged_28 rfl rfl ?_
    refine x_iload_n cx dX6_ifExchanged_29 rfl rfl ?_
    refine x_Si (rest := []) cx (c_X4_exchangeData l G _ 1 h17 _ (zCopy_WF hS.1) t (by rw [num_copy]; exact ht) _) gS_X6_112 ndX4_exchangeData ⟨Nat.le_of_ble_eq_true rfl, Nat.le_of_ble_eq_true rfl⟩ rfl rfl (Nat.le_of_ble_eq_true rfl) dX6_ifExchanged_30 ⟨Nat.le_of_ble_eq_true rfl, Nat.le_of_ble_eq_true rfl⟩ ?_
    exact x_iret cx hr (by rw [if_pos hb8]) (by rw [if_pos hb8]; exact fun _ _ _ _ => rfl) dX6_ifExchanged_33
  · refine x_iload_n cx dX6_ifExchanged_11 rfl rfl ?_
    exact x_iret cx hr (by rw [if_neg hb8]) (by intro _ _ _ _; rw [if_neg hb8]) dX6_ifExchanged_12

set_option maxHeartbeats 4000000 in
set_option maxRecDepth 100000 in
theorem c_X6_bypassed (l : Launch) (G : zG) (S : zS) (hS : kWF S) : Met l yX6_bypassed (zws yX6_bypassed cX6_bypassed 1 (some .float)) (zrm 3 0 0 62) (zPc G 68 (pic G S) [.ref (zad G 7 0)]) (zQf G 68 (zFB (S 0)) (pic G (S))) 0 0 (zA G) := by
  refine zMet npX6_bypassed rfl (Nat.le_of_ble_eq_true rfl) ?_
  intro p e s m args below meth cd hargs cx hr hin0
  have cx : Cx p s m args meth cd cX6_bypassed 1 RX6 G := cx
  refine x_ls (ls' := [some (.ref (zad G 7 0))]) rfl (fun _ h => h) ?_
  have h6 := hS.1.n6
  have hz : 0 < S 0 0 0 ↔ 0 < num (S 0) := by rw [hS.1.sz]; exact nI_ltI (a := 0) (by decide) (by omega)
  refine x_aload_n cx dX6_bypassed_0 rfl rfl ?_
  refine x_getX6 cx 0 (by decide) (fl_X6_10 cx) (zok_7 (by decide)) (by decide) (p_SC) rfl dX6_bypassed_1 ?_
  refine x_getX0 cx 1 (by decide) (fl_X6_48 cx) (zok_c h07 (by decide)) (zix_c h07 (by decide)) (pcOg h07) rfl dX6_bypassed_4 ?_
  refine x_if_gt (tgt := 12) cx dX6_bypassed_7 (by decide) (fun hb7 => ?_) (fun hb7 => ?_)
  · refine x_aload_n cx dX6_bypassed_12 rfl rfl ?_
    refine x_getX6 cx 0 (by decide) (fl_X6_10 cx) (zok_7 (by decide)) (by decide) (p_SC) rfl dX6_bypassed_13 ?_
    refine x_S (up_self S 0).symm ?_
    refine x_Vi (C := RX0) (T := TX0) (N := 6) (rest := []) cx (c_X0_bypassedChips l G _ 0 h07 _ hS.1) gV_X6_167 ndX0_bypassedChips rfl ⟨Nat.le_of_ble_eq_true rfl, Nat.le_of_ble_eq_true rfl⟩ (zok_c h07 (by decide)) (zix_c h07 (by decide)) (pcOg h07) rfl rfl rfl (Nat.le_of_ble_eq_true rfl) dX6_bypassed_16 ⟨Nat.le_of_ble_eq_true rfl, Nat.le_of_ble_eq_true rfl⟩ ?_
    refine x_S (up_self S 0) ?_
    refine x_i2f cx dX6_bypassed_19 ?_
    refine x_aload_n cx dX6_bypassed_20 rfl rfl ?_
    refine x_getX6 cx 0 (by decide) (fl_X6_10 cx) (zok_7 (by decide)) (by decide) (p_SC) rfl dX6_bypassed_21 ?_
    refine x_getX0 cx 1 (by decide) (fl_X6_48 cx) (zok_c h07 (by decide)) (zix_c h07 (by decide)) (pcOg h07) rfl dX6_bypassed_24 ?_
    refine x_i2f cx dX6_bypassed_27 ?_
    refine x_fdiv cx dX6_bypassed_28 (zFB_ok hS.1 (by rw [hz] at hb7; omega)) ?_
    exact x_fret cx hr (by unfold zFB; rw [if_neg (show ¬ num (S 0) = 0 by rw [hz] at hb7; omega)]) (fun _ _ _ _ => rfl) dX6_bypassed_29
  · refine x_fconst0 cx dX6_bypassed_10 ?_
    exact x_fret cx hr (by unfold zFB; rw [if_pos (show num (S 0) = 0 by rw [hz] at hb7; omega)]) (fun _ _ _ _ => rfl) dX6_bypassed_11

