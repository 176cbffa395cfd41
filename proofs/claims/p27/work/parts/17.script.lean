set_option maxHeartbeats 4000000 in
set_option maxRecDepth 100000 in
theorem c_X5_startsItem (l : Launch) (G : zG) (n : Nat) (h : zH) (c : Int32) : Met l yX5_startsItem (zws yX5_startsItem cX5_startsItem 1 (some .boolean)) (zrm 0 0 0 0) (zPc G n (h) [.int c]) (zQi G n (zItem c) (h)) 0 0 (zA G) := by
  refine zMet npX5_startsItem rfl (Nat.le_of_ble_eq_true rfl) ?_
  intro p e s m args below meth cd hargs cx hr hin0
  have cx : Cx p s m args meth cd cX5_startsItem 1 RX5 G := cx
  refine x_ls (ls' := [some (.int c)]) rfl (fun _ h => h) ?_
  refine x_iload_n cx dX5_startsItem_0 rfl rfl ?_
  refine x_bipush (v := 48) cx dX5_startsItem_1 (by decide) ?_
  refine x_icmp_eq (tgt := 36) cx dX5_startsItem_3 (by decide) (fun hb3 => ?_) (fun hb3 => ?_)
  · refine x_iconst (v := 1) cx dX5_startsItem_36 (by decide) ?_
    refine x_goto (tgt := 41) cx dX5_startsItem_37 (by decide) ?_
    exact x_zret cx hr (by simp [zItem, hb3]) (by first | exact Or.inl rfl | exact Or.inr rfl) (fun _ _ _ _ => rfl) dX5_startsItem_41
  · refine x_iload_n cx dX5_startsItem_6 rfl rfl ?_
    refine x_bipush (v := 49) cx dX5_startsItem_7 (by decide) ?_
    refine x_icmp_eq (tgt := 36) cx dX5_startsItem_9 (by decide) (fun hb9 => ?_) (fun hb9 => ?_)
    · refine x_iconst (v := 1) cx dX5_startsItem_36 (by decide) ?_
      refine x_goto (tgt := 41) cx dX5_startsItem_37 (by decide) ?_
      exact x_zret cx hr (by simp [zItem, hb3, hb9]) (by first | exact Or.inl rfl | exact Or.inr rfl) (fun _ _ _ _ => rfl) dX5_startsItem_41
    · refine x_iload_n cx dX5_startsItem_12 rfl rfl ?_
      refine x_bipush (v := 97) cx dX5_startsItem_13 (by decide) ?_
      refine x_icmp_eq (tgt := 36) cx dX5_startsItem_15 (by decide) (fun hb15 => ?_) (fun hb15 => ?_)
      · refine x_iconst (v := 1) cx dX5_startsItem_36 (by decide) ?_
        refine x_goto (tgt := 41) cx dX5_startsItem_37 (by decide) ?_
        exact x_zret cx hr (by simp [zItem, hb3, hb9, hb15]) (by first | exact Or.inl rfl | exact Or.inr rfl) (fun _ _ _ _ => rfl) dX5_startsItem_41
      · refine x_iload_n cx dX5_startsItem_18 rfl rfl ?_
        refine x_bipush (v := 98) cx dX5_startsItem_19 (by decide) ?_
        refine x_icmp_eq (tgt := 36) cx dX5_startsItem_21 (by decide) (fun hb21 => ?_) (fun hb21 => ?_)
        · refine x_iconst (v := 1) cx dX5_startsItem_36 (by decide) ?_
          refine x_goto (tgt := 41) cx dX5_startsItem_37 (by decide) ?_
          exact x_zret cx hr (by simp [zItem, hb3, hb9, hb15, hb21]) (by first | exact Or.inl rfl | exact Or.inr rfl) (fun _ _ _ _ => rfl) dX5_startsItem_41
        · refine x_iload_n cx dX5_startsItem_24 rfl rfl ?_
          refine x_bipush (v := 63) cx dX5_startsItem_25 (by decide) ?_
          refine x_icmp_eq (tgt := 36) cx dX5_startsItem_27 (by decide) (fun hb27 => ?_) (fun hb27 => ?_)
          · refine x_iconst (v := 1) cx dX5_startsItem_36 (by decide) ?_
            refine x_goto (tgt := 41) cx dX5_startsItem_37 (by decide) ?_
            exact x_zret cx hr (by simp [zItem, hb3, hb9, hb15, hb21, hb27]) (by first | exact Or.inl rfl | exact Or.inr rfl) (fun _ _ _ _ => rfl) dX5_startsItem_41
          · refine x_iload_n cx dX5_startsItem_30 rfl rfl ?_
            refine x_bipush (v := 64) cx dX5_startsItem_31 (by decide) ?_
            refine x_icmp_ne (tgt := 40) cx dX5_startsItem_33 (by decide) (fun hb33 => ?_) (fun hb33 => ?_)
            · refine x_iconst (v := 0) cx dX5_startsItem_40 (by decide) ?_
              exact x_zret cx hr (by simp [zItem, hb3, hb9, hb15, hb21, hb27, hb33]) (by first | exact Or.inl rfl | exact Or.inr rfl) (fun _ _ _ _ => rfl) dX5_startsItem_41
            · refine x_iconst (v := 1) cx dX5_startsItem_36 (by decide) ?_
              refine x_goto (tgt := 41) cx dX5_startsItem_37 (by decide) ?_
              exact x_zret cx hr (by simp [zItem, hb3, hb9, hb15, hb21, hb27, hb33]) (by first | exact Or.inl rfl | exact Or.inr rfl) (fun _ _ _ _ => rfl) dX5_startsItem_41

set_option maxHeartbeats 4000000 in
set_option maxRecDepth 100000 in
theorem c_X5_hexValue (l : Launch) (G : zG) (n : Nat) (h : zH) (c : Int32) : Met l yX5_hexValue (zws yX5_hexValue cX5_hexValue 1 (some .int)) (zrm 0 0 0 0) (zPc G n (h) [.int c]) (zQi G n (zHex c) (h)) 0 0 (zA G) := by
  refine zMet npX5_hexValue rfl (Nat.le_of_ble_eq_true rfl) ?_
  intro p e s m args below meth cd hargs cx hr hin0
  have cx : Cx p s m args meth cd cX5_hexValue 1 RX5 G := cx
  refine x_ls (ls' := [some (.int c)]) rfl (fun _ h => h) ?_
  refine x_iload_n cx dX5_hexValue_0 rfl rfl ?_
  refine x_bipush (v := 48) cx dX5_hexValue_1 (by decide) ?_
  refine x_icmp_lt (tgt := 17) cx dX5_hexValue_3 (by decide) (fun hb3 => ?_) (fun hb3 => ?_)
  · refine x_iload_n cx dX5_hexValue_17 rfl rfl ?_
    refine x_bipush (v := 97) cx dX5_hexValue_18 (by decide) ?_
    refine x_icmp_lt (tgt := 37) cx dX5_hexValue_20 (by decide) (fun hb20 => ?_) (fun hb20 => ?_)
    · refine x_iconst (v := (-1)) cx dX5_hexValue_37 (by decide) ?_
      exact x_iret cx hr (by simp [zHex, zHex2, hb3, hb20]) (fun _ _ _ _ => rfl) dX5_hexValue_38
    · refine x_iload_n cx dX5_hexValue_23 rfl rfl ?_
      refine x_bipush (v := 102) cx dX5_hexValue_24 (by decide) ?_
      refine x_icmp_gt (tgt := 37) cx dX5_hexValue_26 (by decide) (fun hb26 => ?_) (fun hb26 => ?_)
      · refine x_iconst (v := (-1)) cx dX5_hexValue_37 (by decide) ?_
        exact x_iret cx hr (by simp [zHex, zHex2, hb3, hb20, hb26]) (fun _ _ _ _ => rfl) dX5_hexValue_38
      · refine x_iload_n cx dX5_hexValue_29 rfl rfl ?_
        refine x_bipush (v := 97) cx dX5_hexValue_30 (by decide) ?_
        refine x_isub cx dX5_hexValue_32 ?_
        refine x_bipush (v := 10) cx dX5_hexValue_33 (by decide) ?_
        refine x_iadd cx dX5_hexValue_35 ?_
        exact x_iret cx hr (by simp [zHex, zHex2, hb3, hb20, hb26]) (fun _ _ _ _ => rfl) dX5_hexValue_36
  · refine x_iload_n cx dX5_hexValue_6 rfl rfl ?_
    refine x_bipush (v := 57) cx dX5_hexValue_7 (by decide) ?_
    refine x_icmp_gt (tgt := 17) cx dX5_hexValue_9 (by decide) (fun hb9 => ?_) (fun hb9 => ?_)
    · refine x_iload_n cx dX5_hexValue_17 rfl rfl ?_
      refine x_bipush (v := 97) cx dX5_hexValue_18 (by decide) ?_
      refine x_icmp_lt (tgt := 37) cx dX5_hexValue_20 (by decide) (fun hb20 => ?_) (fun hb20 => ?_)
      · refine x_iconst (v := (-1)) cx dX5_hexValue_37 (by decide) ?_
        exact x_iret cx hr (by simp [zHex, zHex2, hb3, hb9, hb20]) (fun _ _ _ _ => rfl) dX5_hexValue_38
      · refine x_iload_n cx dX5_hexValue_23 rfl rfl ?_
        refine x_bipush (v := 102) cx dX5_hexValue_24 (by decide) ?_
        refine x_icmp_gt (tgt := 37) cx dX5_hexValue_26 (by decide) (fun hb26 => ?_) (fun hb26 => ?_)
        · refine x_iconst (v := (-1)) cx dX5_hexValue_37 (by decide) ?_
          exact x_iret cx hr (by simp [zHex, zHex2, hb3, hb9, hb20, hb26]) (fun _ _ _ _ => rfl) dX5_hexValue_38
        · refine x_iload_n cx dX5_hexValue_29 rfl rfl ?_
          refine x_bipush (v := 97) cx dX5_hexValue_30 (by decide) ?_
          refine x_isub cx dX5_hexValue_32 ?_
          refine x_bipush (v := 10) cx dX5_hexValue_33 (by decide) ?_
          refine x_iadd cx dX5_hexValue_35 ?_
          exact x_iret cx hr (by simp [zHex, zHex2, hb3, hb9, hb20, hb26]) (fun _ _ _ _ => rfl) dX5_hexValue_36
    · refine x_iload_n cx dX5_hexValue_12 rfl rfl ?_
      refine x_bipush (v := 48) cx dX5_hexValue_13 (by decide) ?_
      refine x_isub cx dX5_hexValue_15 ?_
      exact x_iret cx hr (by simp [zHex, zHex2, hb3, hb9]) (fun _ _ _ _ => rfl) dX5_hexValue_16

set_option maxHeartbeats 4000000 in
set_option maxRecDepth 100000 in
theorem c_X5_write (l : Launch) (G : zG) (S : zS) (L : Nat) (hL : S 7 0 2 = nI L) (h80 : L < 80) (x : Int32) : Met l yX5_write (zws yX5_write cX5_write 2 (some .int)) (zrm 0 0 0 0) (zPc G 68 (pic G S) [.ref (zad G 7 3), .int x]) (zQi G 68 (nI (L + 1)) (pic G (up S 7 (uj (uj (S 7) 2 (upd (S 7 2) L (zCh x))) 0 (upd (S 7 0) 2 (nI (L + 1))))))) 0 0 (zA G) := by
  refine zMet npX5_write rfl (Nat.le_of_ble_eq_true rfl) ?_
  intro p e s m args below meth cd hargs cx hr hin0
  have cx : Cx p s m args meth cd cX5_write 2 RX5 G := cx
  refine x_ls (ls' := [some (.ref (zad G 7 3)), some (.int x)]) rfl (fun _ h => h) ?_
  refine x_aload_n cx dX5_write_0 rfl rfl ?_
  refine x_getX5 cx 1 (by decide) (fl_X5_15 cx) (zok_7 (by decide)) (by decide) (p_script) rfl dX5_write_1 ?_
  refine x_eqi hL ?_
  refine x_aload_n cx dX5_write_4 rfl rfl ?_
  refine x_getX5 cx 0 (by decide) (fl_X5_9 cx) (zok_7 (by decide)) (by decide) (p_script) rfl dX5_write_5 ?_
  refine x_aleni cx 1 rfl (zok_7 (by decide)) (by decide) (p_chars) dX5_write_8 ?_
  refine x_icmp_ge_f (tgt := 33) cx dX5_write_9 (by decide) (nI_ge (b := 80) h80 (by decide)) ?_
  refine x_aload_n cx dX5_write_12 rfl rfl ?_
  refine x_getX5 cx 0 (by decide) (fl_X5_9 cx) (zok_7 (by decide)) (by decide) (p_script) rfl dX5_write_13 ?_
  refine x_aload_n cx dX5_write_16 rfl rfl ?_
  refine x_getX5 cx 1 (by decide) (fl_X5_15 cx) (zok_7 (by decide)) (by decide) (p_script) rfl dX5_write_17 ?_
  refine x_iload_n cx dX5_write_20 rfl rfl ?_
  refine x_i2c cx dX5_write_21 rfl ?_
  refine x_cast (t := L) cx (zok_7 (by decide)) (by decide) (p_chars) hL h80 (by decide) (pp_chars h80) dX5_write_22 ?_
  refine x_aload_n cx dX5_write_23 rfl rfl ?_
  refine x_dup cx dX5_write_24 rfl ?_
  refine x_getX5 cx 1 (by decide) (fl_X5_15 cx) (zok_7 (by decide)) (by decide) (p_script) rfl dX5_write_25 ?_
  refine x_eqi (show _ = nI L from hL) ?_
  refine x_iconst (v := 1) cx dX5_write_28 (by decide) ?_
  refine x_iadd cx dX5_write_29 ?_
  refine x_eqi (nI_1 L) ?_
  refine x_putX5 cx 1 (by decide) (fl_X5_15 cx) (zok_7 (by decide)) (by decide) (p_script) rfl rfl rfl (Nat.le_of_ble_eq_true rfl) (pp_script_length) dX5_write_30 ?_
  refine x_aload_n cx dX5_write_33 rfl rfl ?_
  refine x_getX5 cx 1 (by decide) (fl_X5_15 cx) (zok_7 (by decide)) (by decide) (p_script) rfl dX5_write_34 ?_
  exact x_iret cx hr rfl (by intro _ _ _ _; rw [up_up, up_same]; rfl) dX5_write_37

set_option maxHeartbeats 4000000 in
set_option maxRecDepth 100000 in
theorem c_X5_wipe (l : Launch) (G : zG) (S : zS) : Met l yX5_wipe (zws yX5_wipe cX5_wipe 2 (some .int)) (zrm 0 0 0 0) (zPc G 68 (pic G S) [.ref (zad G 7 3)]) (zQi G 68 (S 7 0 2) (pic G (up S 7 (uj (S 7) 0 (upd (S 7 0) 2 0))))) 0 0 (zA G) := by
  refine zMet npX5_wipe rfl (Nat.le_of_ble_eq_true rfl) ?_
  intro p e s m args below meth cd hargs cx hr hin0
  have cx : Cx p s m args meth cd cX5_wipe 2 RX5 G := cx
  refine x_ls (ls' := [some (.ref (zad G 7 3)), none]) rfl (fun _ h => h) ?_
  refine x_aload_n cx dX5_wipe_0 rfl rfl ?_
  refine x_getX5 cx 1 (by decide) (fl_X5_15 cx) (zok_7 (by decide)) (by decide) (p_script) rfl dX5_wipe_1 ?_
  refine x_istore_n (ls' := [_, _]) cx dX5_wipe_4 rfl (by decide) rfl ?_
  refine x_aload_n cx dX5_wipe_5 rfl rfl ?_
  refine x_iconst (v := 0) cx dX5_wipe_6 (by decide) ?_
  refine x_putX5 cx 1 (by decide) (fl_X5_15 cx) (zok_7 (by decide)) (by decide) (p_script) rfl rfl rfl (Nat.le_of_ble_eq_true rfl) (pp_script_length) dX5_wipe_7 ?_
  refine x_iload_n cx dX5_wipe_10 rfl rfl ?_
  exact x_iret cx hr rfl (fun _ _ _ _ => rfl) dX5_wipe_11

set_option maxHeartbeats 4000000 in
set_option maxRecDepth 100000 in
theorem c_X5_hexAt (l : Launch) (G : zG) (S : zS) (i : Nat) (hi : i < 7) (X : zCV) (L k : Nat) (hL : S 7 0 2 = nI L) (h80 : L ≤ 80) (hk : k < L) : Met l yX5_hexAt (zws yX5_hexAt cX5_hexAt 2 (some .int)) (zrm 1 0 0 20) (zPc G 68 (pic G (up S i X)) [.ref (zad G 7 3), .int (nI k)]) (zQi G 68 (zHex (S 7 2 k)) (pic G (up S i X))) 0 0 (zA G) := by
  refine zMet npX5_hexAt rfl (Nat.le_of_ble_eq_true rfl) ?_
  intro p e s m args below meth cd hargs cx hr hin0
  have cx : Cx p s m args meth cd cX5_hexAt 2 RX5 G := cx
  refine x_ls (ls' := [some (.ref (zad G 7 3)), some (.int (nI k))]) rfl (fun _ h => h) ?_
  refine x_iload_n cx dX5_hexAt_0 rfl rfl ?_
  refine x_if_lt_f (tgt := 24) cx dX5_hexAt_1 (by decide) (nI_pos (by omega)) ?_
  refine x_iload_n cx dX5_hexAt_4 rfl rfl ?_
  refine x_aload_n cx dX5_hexAt_5 rfl rfl ?_
  refine x_getX5 cx 1 (by decide) (fl_X5_15 cx) (zok_7 (by decide)) (by decide) (p_script' hi) rfl dX5_hexAt_6 ?_
  refine x_eqi hL ?_
  refine x_icmp_ge_f (tgt := 24) cx dX5_hexAt_9 (by decide) (nI_ge hk (by omega)) ?_
  refine x_aload_n cx dX5_hexAt_12 rfl rfl ?_
  refine x_getX5 cx 0 (by decide) (fl_X5_9 cx) (zok_7 (by decide)) (by decide) (p_script' hi) rfl dX5_hexAt_13 ?_
  refine x_iload_n cx dX5_hexAt_16 rfl rfl ?_
  refine x_cald (t := k) cx (zok_7 (by decide)) (by decide) (p_chars' hi) rfl (by omega) (by decide) (tr_lt (by omega)) dX5_hexAt_17 ?_
  refine x_Si (rest := []) cx (c_X5_hexValue l G _ _ _) gS_X5_19 ndX5_hexValue ⟨Nat.le_of_ble_eq_true rfl, Nat.le_of_ble_eq_true rfl⟩ rfl rfl (Nat.le_of_ble_eq_true rfl) dX5_hexAt_18 ⟨Nat.le_of_ble_eq_true rfl, Nat.le_of_ble_eq_true rfl⟩ ?_
  refine x_goto (tgt := 25) cx dX5_hexAt_21 (by decide) ?_
  exact x_iret cx hr rfl (fun _ _ _ _ => rfl) dX5_hexAt_25

set_option maxHeartbeats 4000000 in
set_option maxRecDepth 100000 in
theorem c_X5_firstFault (l : Launch) (G : zG) (S : zS) (L : Nat) (hL : S 7 0 2 = nI L) (h80 : L ≤ 80) : Met l yX5_firstFault (zws yX5_firstFault cX5_firstFault 5 (some .int)) (zrm 1 0 0 20) (zPc G 68 (pic G S) [.ref (zad G 7 3)]) (zQi G 68 (zFault (S 7 2) L) (pic G S)) 0 0 (zA G) := by
  refine zMet npX5_firstFault rfl (Nat.le_of_ble_eq_true rfl) ?_
  intro p e s m args below meth cd hargs cx hr hin0
  have cx : Cx p s m args meth cd cX5_firstFault 5 RX5 G := cx
  refine x_ls (ls' := [some (.ref (zad G 7 3)), none, none, none, none]) rfl (fun _ h => h) ?_
  refine x_iconst (v := 0) cx dX5_firstFault_0 (by decide) ?_
  refine x_istore_n (ls' := [_, _, _, _, _]) cx dX5_firstFault_1 rfl (by decide) rfl ?_
  refine x_iconst (v := 0) cx dX5_firstFault_2 (by decide) ?_
  refine x_istore_n (ls' := [_, _, _, _, _]) cx dX5_firstFault_3 rfl (by decide) rfl ?_
  unfold zFault
  suffices K : ∀ (f k : Nat) (w : Int32), k + f = L → Xh p l e _ s m args below meth cd 5 G (MQ below (zQi G 68 (zFltL (S 7 2) f k w) (pic G S)) args s 0 0 (zA G)) 0 0 68 (pic G S) 4 [some (.ref (zad G 7 3)), some (.int w), some (.int (nI k)), none, none] [] from K L 0 0 (by omega)
  intro f
  induction f with
  | zero =>
    intro k w hk
    obtain rfl : k = L := by omega
    have hz : 0 < nI k ↔ 0 < k := nI_ltI (a := 0) (by decide) (by omega)
    refine x_iload_n cx dX5_firstFault_4 rfl rfl ?_
    refine x_aload_n cx dX5_firstFault_5 rfl rfl ?_
    refine x_getX5 cx 1 (by decide) (fl_X5_15 cx) (zok_7 (by decide)) (by decide) (p_script) rfl dX5_firstFault_6 ?_
    refine x_eqi hL ?_
    refine x_icmp_ge_t (tgt := 74) cx dX5_firstFault_9 (by decide) (nI_le (Nat.le_refl _) (by omega)) ?_
    refine x_aload_n cx dX5_firstFault_74 rfl rfl ?_
    refine x_getX5 cx 1 (by decide) (fl_X5_15 cx) (zok_7 (by decide)) (by decide) (p_script) rfl dX5_firstFault_75 ?_
    refine x_eqi hL ?_
    refine x_if_le (tgt := 89) cx dX5_firstFault_78 (by decide) (fun hb78 => ?_) (fun hb78 => ?_)
    · refine x_iconst (v := 0) cx dX5_firstFault_89 (by decide) ?_
      refine x_istore_n (ls' := [_, _, _, _, _]) cx dX5_firstFault_90 rfl (by decide) rfl ?_
      refine x_iload_n cx dX5_firstFault_91 rfl rfl ?_
      refine x_if_eq_t (tgt := 100) cx dX5_firstFault_92 (by decide) (by decide) ?_
      refine x_aload_n cx dX5_firstFault_100 rfl rfl ?_
      refine x_getX5 cx 1 (by decide) (fl_X5_15 cx) (zok_7 (by decide)) (by decide) (p_script) rfl dX5_firstFault_101 ?_
      refine x_eqi hL ?_
      exact x_iret cx hr (by unfold zFltL; rw [if_neg (fun z => absurd (hz.mpr z) (Int32.not_lt.mpr hb78))]) (fun _ _ _ _ => rfl) dX5_firstFault_104
    · refine x_iload_n cx dX5_firstFault_81 rfl rfl ?_
      refine x_if_ne (tgt := 89) cx dX5_firstFault_82 (by decide) (fun hb82 => ?_) (fun hb82 => ?_)
      · refine x_iconst (v := 0) cx dX5_firstFault_89 (by decide) ?_
        refine x_istore_n (ls' := [_, _, _, _, _]) cx dX5_firstFault_90 rfl (by decide) rfl ?_
        refine x_iload_n cx dX5_firstFault_91 rfl rfl ?_
        refine x_if_eq_t (tgt := 100) cx dX5_firstFault_92 (by decide) (by decide) ?_
        refine x_aload_n cx dX5_firstFault_100 rfl rfl ?_
        refine x_getX5 cx 1 (by decide) (fl_X5_15 cx) (zok_7 (by decide)) (by decide) (p_script) rfl dX5_firstFault_101 ?_
        refine x_eqi hL ?_
        exact x_iret cx hr (by unfold zFltL; have hk0 : 0 < k := (hz.mp (Int32.not_le.mp hb78)); rw [if_pos hk0, if_neg hb82]) (fun _ _ _ _ => rfl) dX5_firstFault_104
      · refine x_iconst (v := 1) cx dX5_firstFault_85 (by decide) ?_
        refine x_goto (tgt := 90) cx dX5_firstFault_86 (by decide) ?_
        refine x_istore_n (ls' := [_, _, _, _, _]) cx dX5_firstFault_90 rfl (by decide) rfl ?_
        refine x_iload_n cx dX5_firstFault_91 rfl rfl ?_
        refine x_if_eq_f (tgt := 100) cx dX5_firstFault_92 (by decide) (by decide) ?_
        refine x_bipush (v := (-4)) cx dX5_firstFault_95 (by decide) ?_
        refine x_goto (tgt := 104) cx dX5_firstFault_97 (by decide) ?_
        exact x_iret cx hr (by unfold zFltL; have hk0 : 0 < k := (hz.mp (Int32.not_le.mp hb78)); rw [if_pos hk0, if_pos hb82]) (fun _ _ _ _ => rfl) dX5_firstFault_104
  | succ f ih =>
    intro k w hk
    refine x_iload_n cx dX5_firstFault_4 rfl rfl ?_
    refine x_aload_n cx dX5_firstFault_5 rfl rfl ?_
    refine x_getX5 cx 1 (by decide) (fl_X5_15 cx) (zok_7 (by decide)) (by decide) (p_script) rfl dX5_firstFault_6 ?_
    refine x_eqi hL ?_
    refine x_icmp_ge_f (tgt := 74) cx dX5_firstFault_9 (by decide) (nI_ge (by omega) (by omega)) ?_
    refine x_aload_n cx dX5_firstFault_12 rfl rfl ?_
    refine x_getX5 cx 0 (by decide) (fl_X5_9 cx) (zok_7 (by decide)) (by decide) (p_script) rfl dX5_firstFault_13 ?_
    refine x_iload_n cx dX5_firstFault_16 rfl rfl ?_
    refine x_cald (t := k) cx (zok_7 (by decide)) (by decide) (p_chars) rfl (by omega) (by decide) (tr_lt (by omega)) dX5_firstFault_17 ?_
    refine x_istore_n (ls' := [_, _, _, _, _]) cx dX5_firstFault_18 rfl (by decide) rfl ?_
    refine x_iload_n cx dX5_firstFault_19 rfl rfl ?_
    refine x_if_eq (tgt := 39) cx dX5_firstFault_20 (by decide) (fun hb20 => ?_) (fun hb20 => ?_)
    · refine x_iload_n cx dX5_firstFault_39 rfl rfl ?_
      refine x_Si (rest := []) cx (c_X5_startsItem l G _ _ _) gS_X5_23 ndX5_startsItem ⟨Nat.le_of_ble_eq_true rfl, Nat.le_of_ble_eq_true rfl⟩ rfl rfl (Nat.le_of_ble_eq_true rfl) dX5_firstFault_40 ⟨Nat.le_of_ble_eq_true rfl, Nat.le_of_ble_eq_true rfl⟩ ?_
      refine x_istore (ls' := [_, _, _, _, _]) cx dX5_firstFault_43 (by decide) rfl ?_
      refine x_iload cx dX5_firstFault_45 rfl ?_
      refine x_if_ne (tgt := 52) cx dX5_firstFault_47 (by decide) (fun hb47 => ?_) (fun hb47 => ?_)
      · refine x_iload_n cx dX5_firstFault_52 rfl rfl ?_
        refine x_if_ne (tgt := 66) cx dX5_firstFault_53 (by decide) (fun hb53 => ?_) (fun hb53 => ?_)
        · refine x_iconst (v := 0) cx dX5_firstFault_66 (by decide) ?_
          refine x_istore_n (ls' := [_, _, _, _, _]) cx dX5_firstFault_67 rfl (by decide) rfl ?_
          refine x_iinc (v := nI (k + 1)) (ls' := [_, _, _, _, _]) cx dX5_firstFault_68 rfl (nI_inc _) (by decide) rfl ?_
          refine x_goto (tgt := 4) cx dX5_firstFault_71 (by decide) ?_
          have h9 := ih (k + 1) (zNw w (S 7 2 k)) (by omega)
          exact absurd hb20 hb53
        · refine x_iload_n cx dX5_firstFault_56 rfl rfl ?_
          refine x_bipush (v := 64) cx dX5_firstFault_57 (by decide) ?_
          refine x_icmp_ne (tgt := 66) cx dX5_firstFault_59 (by decide) (fun hb59 => ?_) (fun hb59 => ?_)
          · refine x_iconst (v := 0) cx dX5_firstFault_66 (by decide) ?_
            refine x_istore_n (ls' := [_, _, _, _, _]) cx dX5_firstFault_67 rfl (by decide) rfl ?_
            refine x_iinc (v := nI (k + 1)) (ls' := [_, _, _, _, _]) cx dX5_firstFault_68 rfl (nI_inc _) (by decide) rfl ?_
            refine x_goto (tgt := 4) cx dX5_firstFault_71 (by decide) ?_
            have h9 := ih (k + 1) (zNw w (S 7 2 k)) (by omega)
            have hw1 : zNw w (S 7 2 k) = 0 := by unfold zNw; rw [if_pos hb20, if_neg hb59]
            have hf : ¬ zFit w (S 7 2 k) = 0 := by unfold zFit; rw [if_pos hb20]; exact hb47
            unfold zFltL
            rw [if_neg hf, hw1]
            rw [hw1] at h9
            exact x_ls rfl (by simp [lo]) h9
          · refine x_iconst (v := 1) cx dX5_firstFault_62 (by decide) ?_
            refine x_goto (tgt := 67) cx dX5_firstFault_63 (by decide) ?_
            refine x_istore_n (ls' := [_, _, _, _, _]) cx dX5_firstFault_67 rfl (by decide) rfl ?_
            refine x_iinc (v := nI (k + 1)) (ls' := [_, _, _, _, _]) cx dX5_firstFault_68 rfl (nI_inc _) (by decide) rfl ?_
            refine x_goto (tgt := 4) cx dX5_firstFault_71 (by decide) ?_
            have h9 := ih (k + 1) (zNw w (S 7 2 k)) (by omega)
            have hw1 : zNw w (S 7 2 k) = 1 := by unfold zNw; rw [if_pos hb20, if_pos hb59]
            have hf : ¬ zFit w (S 7 2 k) = 0 := by unfold zFit; rw [if_pos hb20]; exact hb47
            unfold zFltL
            rw [if_neg hf, hw1]
            rw [hw1] at h9
            exact x_ls rfl (by simp [lo]) h9
      · refine x_iload_n cx dX5_firstFault_50 rfl rfl ?_
        exact x_iret cx hr (by unfold zFltL; rw [if_pos (show zFit w (S 7 2 k) = 0 by unfold zFit; rw [if_pos hb20]; exact hb47)]) (fun _ _ _ _ => rfl) dX5_firstFault_51
    · refine x_iload_n cx dX5_firstFault_23 rfl rfl ?_
      refine x_Si (rest := []) cx (c_X5_hexValue l G _ _ _) gS_X5_19 ndX5_hexValue ⟨Nat.le_of_ble_eq_true rfl, Nat.le_of_ble_eq_true rfl⟩ rfl rfl (Nat.le_of_ble_eq_true rfl) dX5_firstFault_24 ⟨Nat.le_of_ble_eq_true rfl, Nat.le_of_ble_eq_true rfl⟩ ?_
      refine x_iconst (v := (-1)) cx dX5_firstFault_27 (by decide) ?_
      refine x_icmp_eq (tgt := 35) cx dX5_firstFault_28 (by decide) (fun hb28 => ?_) (fun hb28 => ?_)
      · refine x_iconst (v := 0) cx dX5_firstFault_35 (by decide) ?_
        refine x_goto (tgt := 43) cx dX5_firstFault_36 (by decide) ?_
        refine x_istore (ls' := [_, _, _, _, _]) cx dX5_firstFault_43 (by decide) rfl ?_
        refine x_iload cx dX5_firstFault_45 rfl ?_
        refine x_if_ne_f (tgt := 52) cx dX5_firstFault_47 (by decide) (by decide) ?_
        refine x_iload_n cx dX5_firstFault_50 rfl rfl ?_
        exact x_iret cx hr (by unfold zFltL; rw [if_pos (show zFit w (S 7 2 k) = 0 by unfold zFit; rw [if_neg hb20, if_pos hb28])]) (fun _ _ _ _ => rfl) dX5_firstFault_51
      · refine x_iconst (v := 1) cx dX5_firstFault_31 (by decide) ?_
        refine x_goto (tgt := 43) cx dX5_firstFault_32 (by decide) ?_
        refine x_istore (ls' := [_, _, _, _, _]) cx dX5_firstFault_43 (by decide) rfl ?_
        refine x_iload cx dX5_firstFault_45 rfl ?_
        refine x_if_ne_t (tgt := 52) cx dX5_firstFault_47 (by decide) (by decide) ?_
        refine x_iload_n cx dX5_firstFault_52 rfl rfl ?_
        refine x_if_ne (tgt := 66) cx dX5_firstFault_53 (by decide) (fun hb53 => ?_) (fun hb53 => ?_)
        · refine x_iconst (v := 0) cx dX5_firstFault_66 (by decide) ?_
          refine x_istore_n (ls' := [_, _, _, _, _]) cx dX5_firstFault_67 rfl (by decide) rfl ?_
          refine x_iinc (v := nI (k + 1)) (ls' := [_, _, _, _, _]) cx dX5_firstFault_68 rfl (nI_inc _) (by decide) rfl ?_
          refine x_goto (tgt := 4) cx dX5_firstFault_71 (by decide) ?_
          have h9 := ih (k + 1) (zNw w (S 7 2 k)) (by omega)
          have hw1 : zNw w (S 7 2 k) = 0 := by unfold zNw; rw [if_neg hb20]
          have hf : ¬ zFit w (S 7 2 k) = 0 := by unfold zFit; rw [if_neg hb20, if_neg hb28]; decide
          unfold zFltL
          rw [if_neg hf, hw1]
          rw [hw1] at h9
          exact x_ls rfl (by simp [lo]) h9
        · refine x_iload_n cx dX5_firstFault_56 rfl rfl ?_
          refine x_bipush (v := 64) cx dX5_firstFault_57 (by decide) ?_
          refine x_icmp_ne (tgt := 66) cx dX5_firstFault_59 (by decide) (fun hb59 => ?_) (fun hb59 => ?_)
          · refine x_iconst (v := 0) cx dX5_firstFault_66 (by decide) ?_
            refine x_istore_n (ls' := [_, _, _, _, _]) cx dX5_firstFault_67 rfl (by decide) rfl ?_
            refine x_iinc (v := nI (k + 1)) (ls' := [_, _, _, _, _]) cx dX5_firstFault_68 rfl (nI_inc _) (by decide) rfl ?_
            refine x_goto (tgt := 4) cx dX5_firstFault_71 (by decide) ?_
            have h9 := ih (k + 1) (zNw w (S 7 2 k)) (by omega)
            exact absurd hb53 hb20
          · refine x_iconst (v := 1) cx dX5_firstFault_62 (by decide) ?_
            refine x_goto (tgt := 67) cx dX5_firstFault_63 (by decide) ?_
            refine x_istore_n (ls' := [_, _, _, _, _]) cx dX5_firstFault_67 rfl (by decide) rfl ?_
            refine x_iinc (v := nI (k + 1)) (ls' := [_, _, _, _, _]) cx dX5_firstFault_68 rfl (nI_inc _) (by decide) rfl ?_
            refine x_goto (tgt := 4) cx dX5_firstFault_71 (by decide) ?_
            have h9 := ih (k + 1) (zNw w (S 7 2 k)) (by omega)
            exact absurd hb53 hb20

