set_option maxHeartbeats 4000000 in
set_option maxRecDepth 100000 in
theorem c_L_seen (l : Launch) (G : zG) (S : zS) (hS : kWF S) : Met l yL_seen (zws yL_seen cL_seen 4 (some .long)) (zrm 4 0 0 83) (zPc G 68 (pic G S) [.ref (zad G 7 0)]) (zQl G 68 (zSeen (S 0)) (pic G S)) 0 0 (zA G) := by
  refine zMet npL_seen rfl (Nat.le_of_ble_eq_true rfl) ?_
  intro p e s m args below meth cd hargs cx hr hin0
  have cx : Cx p s m args meth cd cL_seen 4 RL G := cx
  refine x_ls (ls' := [some (.ref (zad G 7 0)), none, none, none]) rfl (fun _ h => h) ?_
  refine x_ldc2 cx dL_seen_0 zt221 ?_
  refine x_lstore_n (ls' := [_, _, _, _]) cx dL_seen_3 rfl (by decide) rfl ?_
  refine x_iconst (v := nI 0) cx dL_seen_4 (by decide) ?_
  refine x_istore_n (ls' := [_, _, _, _]) cx dL_seen_5 rfl (by decide) rfl ?_
  suffices K : ∀ f k : Nat, k + f = 7 → Xh p l e _ s m args below meth cd 4 G _ 0 0 68 (pic G S) 6 [some (.ref (zad G 7 0)), some (.long (sn1 (S 0) k)), none, some (.int (nI k))] [] from K 7 0 rfl
  intro f
  induction f with
  | zero =>
    intro k hk
    obtain rfl : k = 7 := by omega
    refine x_iload_n cx dL_seen_6 rfl rfl ?_
    refine x_bipush (v := nI 7) cx dL_seen_7 (by decide) ?_
    refine x_icmp_ge_t (tgt := 31) cx dL_seen_9 (by decide) (nI_le (by omega) (by omega)) ?_
    refine x_iconst (v := nI 0) cx dL_seen_31 (by decide) ?_
    refine x_istore_n (ls' := [_, _, _, _]) cx dL_seen_32 rfl (by decide) rfl ?_
    suffices K : ∀ f k : Nat, k + f = 60 → Xh p l e _ s m args below meth cd 4 G _ 0 0 68 (pic G S) 33 [some (.ref (zad G 7 0)), some (.long (sn2 (S 0) k)), none, some (.int (nI k))] [] from K 60 0 rfl
    intro f
    induction f with
    | zero =>
      intro k hk
      obtain rfl : k = 60 := by omega
      refine x_iload_n cx dL_seen_33 rfl rfl ?_
      refine x_bipush (v := nI 60) cx dL_seen_34 (by decide) ?_
      refine x_icmp_ge_t (tgt := 65) cx dL_seen_36 (by decide) (nI_le (by omega) (by omega)) ?_
      refine x_iconst (v := nI 0) cx dL_seen_65 (by decide) ?_
      refine x_istore_n (ls' := [_, _, _, _]) cx dL_seen_66 rfl (by decide) rfl ?_
      suffices K : ∀ f k : Nat, k + f = 8 → Xh p l e _ s m args below meth cd 4 G _ 0 0 68 (pic G S) 67 [some (.ref (zad G 7 0)), some (.long (sn3 (S 0) k)), none, some (.int (nI k))] [] from K 8 0 rfl
      intro f
      induction f with
      | zero =>
        intro k hk
        obtain rfl : k = 8 := by omega
        refine x_iload_n cx dL_seen_67 rfl rfl ?_
        refine x_bipush (v := nI 8) cx dL_seen_68 (by decide) ?_
        refine x_icmp_ge_t (tgt := 92) cx dL_seen_70 (by decide) (nI_le (by omega) (by omega)) ?_
        refine x_lload_n cx dL_seen_92 rfl rfl ?_
        exact x_lret cx hr rfl (fun _ _ _ _ => rfl) dL_seen_93
      | succ f ih =>
        intro k hk
        refine x_iload_n cx dL_seen_67 rfl rfl ?_
        refine x_bipush (v := nI 8) cx dL_seen_68 (by decide) ?_
        refine x_icmp_ge_f (tgt := 92) cx dL_seen_70 (by decide) (nI_ge (by omega) (by omega)) ?_
        refine x_ldc2 cx dL_seen_73 zt222 ?_
        refine x_lload_n cx dL_seen_76 rfl rfl ?_
        refine x_lmul cx dL_seen_77 ?_
        refine x_aload_n cx dL_seen_78 rfl rfl ?_
        refine x_iload_n cx dL_seen_79 rfl rfl ?_
        refine x_Vi (C := RX6) (T := TX6) (N := 6) (rest := [_]) cx (c_X6_found l G _ hS _) gV_L_24 ndX6_found rfl ⟨Nat.le_of_ble_eq_true rfl, Nat.le_of_ble_eq_true rfl⟩ (zok_7 (by decide)) (by decide) (p_SC) rfl rfl rfl (Nat.le_of_ble_eq_true rfl) dL_seen_80 ⟨Nat.le_of_ble_eq_true rfl, Nat.le_of_ble_eq_true rfl⟩ ?_
        refine x_i2l cx dL_seen_83 ?_
        refine x_ladd cx dL_seen_84 ?_
        refine x_lstore_n (ls' := [_, _, _, _]) cx dL_seen_85 rfl (by decide) rfl ?_
        refine x_iinc (v := nI (k + 1)) (ls' := [_, _, _, _]) cx dL_seen_86 rfl (nI_inc _) (by decide) rfl ?_
        refine x_goto (tgt := 67) cx dL_seen_89 (by decide) ?_
        exact ih (k + 1) (by omega)
    | succ f ih =>
      intro k hk
      refine x_iload_n cx dL_seen_33 rfl rfl ?_
      refine x_bipush (v := nI 60) cx dL_seen_34 (by decide) ?_
      refine x_icmp_ge_f (tgt := 65) cx dL_seen_36 (by decide) (nI_ge (by omega) (by omega)) ?_
      refine x_ldc2 cx dL_seen_39 zt222 ?_
      refine x_lload_n cx dL_seen_42 rfl rfl ?_
      refine x_lmul cx dL_seen_43 ?_
      refine x_aload_n cx dL_seen_44 rfl rfl ?_
      refine x_iload_n cx dL_seen_45 rfl rfl ?_
      refine x_bipush (v := nI 10) cx dL_seen_46 (by decide) ?_
      refine x_idiv cx dL_seen_48 (by decide) ?_
      refine x_eqi (pk_div (by omega) (by omega) (by omega)) ?_
      refine x_iload_n cx dL_seen_49 rfl rfl ?_
      refine x_bipush (v := nI 10) cx dL_seen_50 (by decide) ?_
      refine x_irem cx dL_seen_52 (by decide) ?_
      refine x_eqi (pk_rem (by omega) (by omega) (by omega)) ?_
      refine x_Vi (C := RX6) (T := TX6) (N := 6) (rest := [_]) cx (c_X6_chip l G _ hS _ _) gV_L_20 ndX6_chip rfl ⟨Nat.le_of_ble_eq_true rfl, Nat.le_of_ble_eq_true rfl⟩ (zok_7 (by decide)) (by decide) (p_SC) rfl rfl rfl (Nat.le_of_ble_eq_true rfl) dL_seen_53 ⟨Nat.le_of_ble_eq_true rfl, Nat.le_of_ble_eq_true rfl⟩ ?_
      refine x_i2l cx dL_seen_56 ?_
      refine x_ladd cx dL_seen_57 ?_
      refine x_lstore_n (ls' := [_, _, _, _]) cx dL_seen_58 rfl (by decide) rfl ?_
      refine x_iinc (v := nI (k + 1)) (ls' := [_, _, _, _]) cx dL_seen_59 rfl (nI_inc _) (by decide) rfl ?_
      refine x_goto (tgt := 33) cx dL_seen_62 (by decide) ?_
      exact ih (k + 1) (by omega)
  | succ f ih =>
    intro k hk
    refine x_iload_n cx dL_seen_6 rfl rfl ?_
    refine x_bipush (v := nI 7) cx dL_seen_7 (by decide) ?_
    refine x_icmp_ge_f (tgt := 31) cx dL_seen_9 (by decide) (nI_ge (by omega) (by omega)) ?_
    refine x_ldc2 cx dL_seen_12 zt222 ?_
    refine x_lload_n cx dL_seen_15 rfl rfl ?_
    refine x_lmul cx dL_seen_16 ?_
    refine x_aload_n cx dL_seen_17 rfl rfl ?_
    refine x_iload_n cx dL_seen_18 rfl rfl ?_
    refine x_Vi (C := RX6) (T := TX6) (N := 6) (rest := [_]) cx (c_X6_count l G _ hS _) gV_L_14 ndX6_count rfl ⟨Nat.le_of_ble_eq_true rfl, Nat.le_of_ble_eq_true rfl⟩ (zok_7 (by decide)) (by decide) (p_SC) rfl rfl rfl (Nat.le_of_ble_eq_true rfl) dL_seen_19 ⟨Nat.le_of_ble_eq_true rfl, Nat.le_of_ble_eq_true rfl⟩ ?_
    refine x_eqi (cn_lt (by omega)) ?_
    refine x_i2l cx dL_seen_22 ?_
    refine x_ladd cx dL_seen_23 ?_
    refine x_lstore_n (ls' := [_, _, _, _]) cx dL_seen_24 rfl (by decide) rfl ?_
    refine x_iinc (v := nI (k + 1)) (ls' := [_, _, _, _]) cx dL_seen_25 rfl (nI_inc _) (by decide) rfl ?_
    refine x_goto (tgt := 6) cx dL_seen_28 (by decide) ?_
    exact ih (k + 1) (by omega)

set_option maxHeartbeats 4000000 in
set_option maxRecDepth 100000 in
theorem c_L_cell (l : Launch) (G : zG) (n : Nat) (h : zH) (b L : Nat) (xs : Nat → Int32) (hL : L ≤ 2048) (hbG : b < G.2.2) (k : Nat) (hk : k < 1000) : Met l yL_cell (zws yL_cell cL_cell 2 (some .int)) (zrm 0 0 0 0) (zPX G n h b L xs [.ref b, .int (nI k)]) (zQi G n (zcl L xs k) (h)) 0 0 (zA G) := by
  refine zMetX npL_cell rfl (Nat.le_of_ble_eq_true rfl) ?_
  intro p e s m args below meth cd hargs cx hr hX hbl
  have cx : Cx p s m args meth cd cL_cell 2 RL G := cx
  refine x_ls (ls' := [some (.ref b), some (.int (nI k))]) rfl (fun _ h => h) ?_
  refine x_iload_n cx dL_cell_0 rfl rfl ?_
  refine x_aload_n cx dL_cell_1 rfl rfl ?_
  refine x_slen cx hX hbl hbG dL_cell_2 ?_
  refine x_icmp_ge (tgt := 12) cx dL_cell_3 (by decide) (fun hb3 => ?_) (fun hb3 => ?_)
  · refine x_ldc cx dL_cell_12 zt215 ?_
    refine x_iload_n cx dL_cell_14 rfl rfl ?_
    refine x_sipush (v := nI 173) cx dL_cell_15 (by decide) ?_
    refine x_iadd cx dL_cell_18 ?_
    refine x_imul cx dL_cell_19 ?_
    refine x_ldc cx dL_cell_20 zt216 ?_
    refine x_iadd cx dL_cell_22 ?_
    refine x_ldc cx dL_cell_23 zt217 ?_
    refine x_iand cx dL_cell_25 ?_
    exact x_iret cx hr (by unfold zcl; rw [if_neg (fun z => absurd hb3 (nI_ge z (by omega)))]) (fun _ _ _ _ => rfl) dL_cell_26
  · refine x_aload_n cx dL_cell_6 rfl rfl ?_
    refine x_iload_n cx dL_cell_7 rfl rfl ?_
    refine x_sld (t := k) cx hX hbl hbG rfl ((nI_ltI (by omega) (by omega)).mp (Int32.not_le.mp hb3)) hL dL_cell_8 ?_
    refine x_goto (tgt := 23) cx dL_cell_9 (by decide) ?_
    refine x_ldc cx dL_cell_23 zt217 ?_
    refine x_iand cx dL_cell_25 ?_
    exact x_iret cx hr (by unfold zcl; rw [if_pos ((nI_ltI (by omega) (by omega)).mp (Int32.not_le.mp hb3))]) (fun _ _ _ _ => rfl) dL_cell_26

set_option maxHeartbeats 4000000 in
set_option maxRecDepth 100000 in
theorem c_L_areWays (l : Launch) (G : zG) (S : zS) (hS : kWF S) (b : Nat) (hb : b < 16) : Met l yL_areWays (zws yL_areWays cL_areWays 5 (some .boolean)) (zrm 5 0 0 108) (zPc G 68 (pic G S) [.ref (zad G 7 0), .int (nI b)]) (zQi G 68 (1) (pic G S)) 0 0 (zA G) := by
  refine zMet npL_areWays rfl (Nat.le_of_ble_eq_true rfl) ?_
  intro p e s m args below meth cd hargs cx hr hin0
  have cx : Cx p s m args meth cd cL_areWays 5 RL G := cx
  refine x_ls (ls' := [some (.ref (zad G 7 0)), some (.int (nI b)), none, none, none]) rfl (fun _ h => h) ?_
  have hd0 : dst b b = 0 := (dst_0 b hb b hb).mpr rfl
  refine x_aload_n cx dL_areWays_0 rfl rfl ?_
  refine x_iload_n cx dL_areWays_1 rfl rfl ?_
  refine x_iload_n cx dL_areWays_2 rfl rfl ?_
  refine x_Vi (C := RX6) (T := TX6) (N := 6) (rest := []) cx (c_X6_distance l G _ hS _ _) gV_L_62 ndX6_distance rfl ⟨Nat.le_of_ble_eq_true rfl, Nat.le_of_ble_eq_true rfl⟩ (zok_7 (by decide)) (by decide) (p_SC) rfl rfl rfl (Nat.le_of_ble_eq_true rfl) dL_areWays_3 ⟨Nat.le_of_ble_eq_true rfl, Nat.le_of_ble_eq_true rfl⟩ ?_
  refine x_eqi (zd (by omega) (by omega)) ?_
  refine x_if_ne_f (tgt := 13) cx dL_areWays_6 (by decide) (nI_ig (b := 0) (by omega)) ?_
  refine x_iconst (v := nI 1) cx dL_areWays_9 (by decide) ?_
  refine x_goto (tgt := 14) cx dL_areWays_10 (by decide) ?_
  refine x_istore_n (ls' := [_, _, _, _, _]) cx dL_areWays_14 rfl (by decide) rfl ?_
  refine x_iconst (v := nI 0) cx dL_areWays_15 (by decide) ?_
  refine x_istore_n (ls' := [_, _, _, _, _]) cx dL_areWays_16 rfl (by decide) rfl ?_
  suffices K : ∀ f k : Nat, k + f = 16 → Xh p l e _ s m args below meth cd 5 G _ 0 0 68 (pic G S) 17 [some (.ref (zad G 7 0)), some (.int (nI b)), some (.int (nI 1)), some (.int (nI k)), none] [] from K 16 0 rfl
  intro f
  induction f with
  | zero =>
    intro k hk
    obtain rfl : k = 16 := by omega
    refine x_iload_n cx dL_areWays_17 rfl rfl ?_
    refine x_bipush (v := nI 16) cx dL_areWays_18 (by decide) ?_
    refine x_icmp_ge_t (tgt := 104) cx dL_areWays_20 (by decide) (nI_le (by omega) (by omega)) ?_
    refine x_iload_n cx dL_areWays_104 rfl rfl ?_
    exact x_zret cx hr rfl (by first | exact Or.inl rfl | exact Or.inr rfl) (fun _ _ _ _ => rfl) dL_areWays_105
  | succ f ih =>
    intro k hk
    have ht := dt_t k (by omega) b hb
    have hl1 := dst_lt k (by omega) b hb
    have hl2 := dst_lt 0 (by omega) b hb
    have hl3 := dst_0 k (by omega) b hb
    by_cases hkb : k = b
    · have hz := hl3.mpr hkb
      refine x_iload_n cx dL_areWays_17 rfl rfl ?_
      refine x_bipush (v := nI 16) cx dL_areWays_18 (by decide) ?_
      refine x_icmp_ge_f (tgt := 104) cx dL_areWays_20 (by decide) (nI_ge (by omega) (by omega)) ?_
      refine x_iload_n cx dL_areWays_23 rfl rfl ?_
      refine x_if_eq_f (tgt := 104) cx dL_areWays_24 (by decide) (by decide) ?_
      refine x_aload_n cx dL_areWays_27 rfl rfl ?_
      refine x_iload_n cx dL_areWays_28 rfl rfl ?_
      refine x_iload_n cx dL_areWays_29 rfl rfl ?_
      refine x_Vi (C := RX6) (T := TX6) (N := 6) (rest := []) cx (c_X6_distance l G _ hS _ _) gV_L_62 ndX6_distance rfl ⟨Nat.le_of_ble_eq_true rfl, Nat.le_of_ble_eq_true rfl⟩ (zok_7 (by decide)) (by decide) (p_SC) rfl rfl rfl (Nat.le_of_ble_eq_true rfl) dL_areWays_30 ⟨Nat.le_of_ble_eq_true rfl, Nat.le_of_ble_eq_true rfl⟩ ?_
      refine x_eqi (zd (by omega) (by omega)) ?_
      refine x_istore (ls' := [_, _, _, _, _]) cx dL_areWays_33 (by decide) rfl ?_
      refine x_iload cx dL_areWays_35 rfl ?_
      refine x_if_lt_f (tgt := 96) cx dL_areWays_37 (by decide) (nI_pos (by omega)) ?_
      refine x_iload cx dL_areWays_40 rfl ?_
      refine x_if_ne_f (tgt := 49) cx dL_areWays_42 (by decide) (nI_ig (b := 0) (by omega)) ?_
      refine x_iconst (v := nI 1) cx dL_areWays_45 (by decide) ?_
      refine x_goto (tgt := 50) cx dL_areWays_46 (by decide) ?_
      refine x_iload_n cx dL_areWays_50 rfl rfl ?_
      refine x_iload_n cx dL_areWays_51 rfl rfl ?_
      refine x_icmp_ne_f (tgt := 59) cx dL_areWays_52 (by decide) (nI_ig (by omega)) ?_
      refine x_iconst (v := nI 1) cx dL_areWays_55 (by decide) ?_
      refine x_goto (tgt := 60) cx dL_areWays_56 (by decide) ?_
      refine x_icmp_ne_f (tgt := 96) cx dL_areWays_60 (by decide) (by decide) ?_
      refine x_iload cx dL_areWays_63 rfl ?_
      refine x_aload_n cx dL_areWays_65 rfl rfl ?_
      refine x_iload_n cx dL_areWays_66 rfl rfl ?_
      refine x_iconst (v := nI 0) cx dL_areWays_67 (by decide) ?_
      refine x_Vi (C := RX6) (T := TX6) (N := 6) (rest := [_]) cx (c_X6_distance l G _ hS _ _) gV_L_62 ndX6_distance rfl ⟨Nat.le_of_ble_eq_true rfl, Nat.le_of_ble_eq_true rfl⟩ (zok_7 (by decide)) (by decide) (p_SC) rfl rfl rfl (Nat.le_of_ble_eq_true rfl) dL_areWays_68 ⟨Nat.le_of_ble_eq_true rfl, Nat.le_of_ble_eq_true rfl⟩ ?_
      refine x_eqi (zd (by omega) (by omega)) ?_
      refine x_aload_n cx dL_areWays_71 rfl rfl ?_
      refine x_iconst (v := nI 0) cx dL_areWays_72 (by decide) ?_
      refine x_iload_n cx dL_areWays_73 rfl rfl ?_
      refine x_Vi (C := RX6) (T := TX6) (N := 6) (rest := [_, _]) cx (c_X6_distance l G _ hS _ _) gV_L_62 ndX6_distance rfl ⟨Nat.le_of_ble_eq_true rfl, Nat.le_of_ble_eq_true rfl⟩ (zok_7 (by decide)) (by decide) (p_SC) rfl rfl rfl (Nat.le_of_ble_eq_true rfl) dL_areWays_74 ⟨Nat.le_of_ble_eq_true rfl, Nat.le_of_ble_eq_true rfl⟩ ?_
      refine x_eqi (zd (by omega) (by omega)) ?_
      refine x_iadd cx dL_areWays_77 ?_
      refine x_eqi (nI_add _ _) ?_
      refine x_icmp_gt_f (tgt := 96) cx dL_areWays_78 (by decide) (nI_nlt (by omega) (by omega)) ?_
      refine x_aload_n cx dL_areWays_81 rfl rfl ?_
      refine x_iload_n cx dL_areWays_82 rfl rfl ?_
      refine x_iconst (v := nI 0) cx dL_areWays_83 (by decide) ?_
      refine x_Vi (C := RX6) (T := TX6) (N := 6) (rest := []) cx (c_X6_distance l G _ hS _ _) gV_L_62 ndX6_distance rfl ⟨Nat.le_of_ble_eq_true rfl, Nat.le_of_ble_eq_true rfl⟩ (zok_7 (by decide)) (by decide) (p_SC) rfl rfl rfl (Nat.le_of_ble_eq_true rfl) dL_areWays_84 ⟨Nat.le_of_ble_eq_true rfl, Nat.le_of_ble_eq_true rfl⟩ ?_
      refine x_eqi (zd (by omega) (by omega)) ?_
      refine x_bipush (v := nI 6) cx dL_areWays_87 (by decide) ?_
      refine x_icmp_ge_f (tgt := 96) cx dL_areWays_89 (by decide) (nI_ge (by omega) (by omega)) ?_
      refine x_iconst (v := nI 1) cx dL_areWays_92 (by decide) ?_
      refine x_goto (tgt := 97) cx dL_areWays_93 (by decide) ?_
      refine x_istore_n (ls' := [_, _, _, _, _]) cx dL_areWays_97 rfl (by decide) rfl ?_
      refine x_iinc (v := nI (k + 1)) (ls' := [_, _, _, _, _]) cx dL_areWays_98 rfl (nI_inc _) (by decide) rfl ?_
      refine x_goto (tgt := 17) cx dL_areWays_101 (by decide) ?_
      exact x_ls rfl (by simp [lo]) (ih (k + 1) (by omega))
    · have hz : dst k b ≠ 0 := fun z => hkb (hl3.mp z)
      refine x_iload_n cx dL_areWays_17 rfl rfl ?_
      refine x_bipush (v := nI 16) cx dL_areWays_18 (by decide) ?_
      refine x_icmp_ge_f (tgt := 104) cx dL_areWays_20 (by decide) (nI_ge (by omega) (by omega)) ?_
      refine x_iload_n cx dL_areWays_23 rfl rfl ?_
      refine x_if_eq_f (tgt := 104) cx dL_areWays_24 (by decide) (by decide) ?_
      refine x_aload_n cx dL_areWays_27 rfl rfl ?_
      refine x_iload_n cx dL_areWays_28 rfl rfl ?_
      refine x_iload_n cx dL_areWays_29 rfl rfl ?_
      refine x_Vi (C := RX6) (T := TX6) (N := 6) (rest := []) cx (c_X6_distance l G _ hS _ _) gV_L_62 ndX6_distance rfl ⟨Nat.le_of_ble_eq_true rfl, Nat.le_of_ble_eq_true rfl⟩ (zok_7 (by decide)) (by decide) (p_SC) rfl rfl rfl (Nat.le_of_ble_eq_true rfl) dL_areWays_30 ⟨Nat.le_of_ble_eq_true rfl, Nat.le_of_ble_eq_true rfl⟩ ?_
      refine x_eqi (zd (by omega) (by omega)) ?_
      refine x_istore (ls' := [_, _, _, _, _]) cx dL_areWays_33 (by decide) rfl ?_
      refine x_iload cx dL_areWays_35 rfl ?_
      refine x_if_lt_f (tgt := 96) cx dL_areWays_37 (by decide) (nI_pos (by omega)) ?_
      refine x_iload cx dL_areWays_40 rfl ?_
      refine x_if_ne_t (tgt := 49) cx dL_areWays_42 (by decide) (nI_ne0 (by omega) (by omega)) ?_
      refine x_iconst (v := nI 0) cx dL_areWays_49 (by decide) ?_
      refine x_iload_n cx dL_areWays_50 rfl rfl ?_
      refine x_iload_n cx dL_areWays_51 rfl rfl ?_
      refine x_icmp_ne_t (tgt := 59) cx dL_areWays_52 (by decide) (nI_nq (by omega) (by omega) (by omega)) ?_
      refine x_iconst (v := nI 0) cx dL_areWays_59 (by decide) ?_
      refine x_icmp_ne_f (tgt := 96) cx dL_areWays_60 (by decide) (by decide) ?_
      refine x_iload cx dL_areWays_63 rfl ?_
      refine x_aload_n cx dL_areWays_65 rfl rfl ?_
      refine x_iload_n cx dL_areWays_66 rfl rfl ?_
      refine x_iconst (v := nI 0) cx dL_areWays_67 (by decide) ?_
      refine x_Vi (C := RX6) (T := TX6) (N := 6) (rest := [_]) cx (c_X6_distance l G _ hS _ _) gV_L_62 ndX6_distance rfl ⟨Nat.le_of_ble_eq_true rfl, Nat.le_of_ble_eq_true rfl⟩ (zok_7 (by decide)) (by decide) (p_SC) rfl rfl rfl (Nat.le_of_ble_eq_true rfl) dL_areWays_68 ⟨Nat.le_of_ble_eq_true rfl, Nat.le_of_ble_eq_true rfl⟩ ?_
      refine x_eqi (zd (by omega) (by omega)) ?_
      refine x_aload_n cx dL_areWays_71 rfl rfl ?_
      refine x_iconst (v := nI 0) cx dL_areWays_72 (by decide) ?_
      refine x_iload_n cx dL_areWays_73 rfl rfl ?_
      refine x_Vi (C := RX6) (T := TX6) (N := 6) (rest := [_, _]) cx (c_X6_distance l G _ hS _ _) gV_L_62 ndX6_distance rfl ⟨Nat.le_of_ble_eq_true rfl, Nat.le_of_ble_eq_true rfl⟩ (zok_7 (by decide)) (by decide) (p_SC) rfl rfl rfl (Nat.le_of_ble_eq_true rfl) dL_areWays_74 ⟨Nat.le_of_ble_eq_true rfl, Nat.le_of_ble_eq_true rfl⟩ ?_
      refine x_eqi (zd (by omega) (by omega)) ?_
      refine x_iadd cx dL_areWays_77 ?_
      refine x_eqi (nI_add _ _) ?_
      refine x_icmp_gt_f (tgt := 96) cx dL_areWays_78 (by decide) (nI_nlt (by omega) (by omega)) ?_
      refine x_aload_n cx dL_areWays_81 rfl rfl ?_
      refine x_iload_n cx dL_areWays_82 rfl rfl ?_
      refine x_iconst (v := nI 0) cx dL_areWays_83 (by decide) ?_
      refine x_Vi (C := RX6) (T := TX6) (N := 6) (rest := []) cx (c_X6_distance l G _ hS _ _) gV_L_62 ndX6_distance rfl ⟨Nat.le_of_ble_eq_true rfl, Nat.le_of_ble_eq_true rfl⟩ (zok_7 (by decide)) (by decide) (p_SC) rfl rfl rfl (Nat.le_of_ble_eq_true rfl) dL_areWays_84 ⟨Nat.le_of_ble_eq_true rfl, Nat.le_of_ble_eq_true rfl⟩ ?_
      refine x_eqi (zd (by omega) (by omega)) ?_
      refine x_bipush (v := nI 6) cx dL_areWays_87 (by decide) ?_
      refine x_icmp_ge_f (tgt := 96) cx dL_areWays_89 (by decide) (nI_ge (by omega) (by omega)) ?_
      refine x_iconst (v := nI 1) cx dL_areWays_92 (by decide) ?_
      refine x_goto (tgt := 97) cx dL_areWays_93 (by decide) ?_
      refine x_istore_n (ls' := [_, _, _, _, _]) cx dL_areWays_97 rfl (by decide) rfl ?_
      refine x_iinc (v := nI (k + 1)) (ls' := [_, _, _, _, _]) cx dL_areWays_98 rfl (nI_inc _) (by decide) rfl ?_
      refine x_goto (tgt := 17) cx dL_areWays_101 (by decide) ?_
      exact x_ls rfl (by simp [lo]) (ih (k + 1) (by omega))

