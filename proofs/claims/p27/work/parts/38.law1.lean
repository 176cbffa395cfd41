set_option maxHeartbeats 4000000 in
set_option maxRecDepth 100000 in
theorem c_L_seen (l : Launch) (G : zG) (S : zS) (hS : kWF S) : Met l yL_seen (zws yL_seen cL_seen 4 (some .long)) (zrm 4 0 0 83) (zPc G 68 (pic G S) [.ref (zad G 7 0)]) (zQl G 68 (zSeen (S 0)) (pic G S)) 0 0 (zA G) := by
  refine zMet npL_seen rfl (Nat.le_of_ble_eq_true rfl) ?_
  intro p e s m args below meth cd hargs cx hr hin0
  have cx : Cx p s m args meth cd cL_seen 4 RL G := cx
  refine x_ls (ls' := [some (.ref (zad G 7 0)), none, none, none]) rfl (fun _ h => h) ?_
  refine x_ldc2 cx dL_seen_0 zt221 ?_
  refine x_lstore_n (ls' := [_, _, _, _]) cx dL_seen_3 rfl (by decide) rfl ?_
  refine x_iconst (v := nI 0) cx dL_seen_4 (by decide) ?_
  refine x_istore_n (ls' := [_, _, _, _]) cx dL_seen_5 rfl (by decide) rfl ?_
  suffices K : ∀ f k : Nat, k + f = 7 → Xh p l e _ s m args below meth cd 4 G _ 0 0 68 (pic G S) 6 [some (.ref (zad G 7 0)), some (.long (sn1 (S 0) k)), none, some (.int (nI k))] [] from K 7 0 rfl
  intro f
  induction f with
  | zero =>
    intro k hk
    obtain rfl : k = 7 := by omega
    refine x_iload_n cx dL_seen_6 rfl rfl ?_
    refine x_bipush (v := nI 7) cx dL_seen_7 (by decide) ?_
    refine x_icmp_ge_t (tgt := 31) cx dL_seen_9 (by decide) (nI_le (by omega) (by omega)) ?_
    refine x_iconst (v := nI 0) cx dL_seen_31 (by decide) ?_
    refine x_istore_n (ls' := [_, _, _, _]) cx dL_seen_32 rfl (by decide) rfl ?_
    suffices K : ∀ f k : Nat, k + f = 60 → Xh p l e _ s m args below meth cd 4 G _ 0 0 68 (pic G S) 33 [some (.ref (zad G 7 0)), some (.long (sn2 (S 0) k)), none, some (.int (nI k))] [] from K 60 0 rfl
    intro f
    induction f with
    | zero =>
      intro k hk
      obtain rfl : k = 60 := by omega
      refine x_iload_n cx dL_seen_33 rfl rfl ?_
      refine x_bipush (v := nI 60) cx dL_seen_34 (by decide) ?_
      refine x_icmp_ge_t (tgt := 65) cx dL_seen_36 (by decide) (nI_le (by omega) (by omega)) ?_
      refine x_iconst (v := nI 0) cx dL_seen_65 (by decide) ?_
      refine x_istore_n (ls' := [_, _, _, _]) cx dL_seen_66 rfl (by decide) rfl ?_
      suffices K : ∀ f k : Nat, k + f = 8 → Xh p l e _ s m args below meth cd 4 G _ 0 0 68 (pic G S) 67 [some (.ref (zad G 7 0)), some (.long (sn3 (S 0) k)), none, some (.int (nI k))] [] from K 8 0 rfl
      intro f
      induction f with
      | zero =>
        intro k hk
        obtain rfl : k = 8 := by omega
        refine x_iload_n cx dL_seen_67 rfl rfl ?_
        refine x_bipush (v := nI 8) cx dL_seen_68 (by decide) ?_
        refine x_icmp_ge_t (tgt := 92) cx dL_seen_70 (by decide) (nI_le (by omega) (by omega)) ?_
        refine x_lload_n cx dL_seen_92 rfl rfl ?_
        exact x_lret cx hr rfl (fun _ _ _ _ => rfl) dL_seen_93
      | succ f ih =>
        intro k hk
        refine x_iload_n cx dL_seen_67 rfl rfl ?_
        refine x_bipush (v := nI 8) cx dL_seen_68 (by decide) ?_
        refine x_icmp_ge_f (tgt := 92) cx dL_seen_70 (by decide) (nI_ge (by omega) (by omega)) ?_
        refine x_ldc2 cx dL_seen_73 zt222 ?_
        refine x_lload_n cx dL_seen_76 rfl rfl ?_
        refine x_lmul cx dL_seen_77 ?_
        refine x_aload_n cx dL_seen_78 rfl rfl ?_
        refine x_iload_n cx dL_seen_79 rfl rfl ?_
        refine x_Vi (C := RX6) (T := TX6) (N := 6) (rest := [_]) cx (c_X6_found l G _ hS _) gV_L_24 ndX6_found rfl ⟨Nat.le_of_ble_eq_true rfl, Nat.le_of_ble_eq_true rfl⟩ (zok_7 (by decide)) (by decide) (p_SC) rfl rfl rfl (Nat.le_of_ble_eq_true rfl) dL_seen_80 ⟨Nat.le_of_ble_eq_true rfl, Nat.le_of_ble_eq_true rfl⟩ ?_
        refine x_i2l cx dL_seen_83 ?_
        refine x_ladd cx dL_seen_84 ?_
        refine x_lstore_n (ls' := [_, _, _, _]) cx dL_seen_85 rfl (by decide) rfl ?_
        refine x_iinc (v := nI (k + 1)) (ls' := [_, _, _, _]) cx dL_seen_86 rfl (nI_inc _) (by decide) rfl ?_
        refine x_goto (tgt := 67) cx dL_seen_89 (by decide) ?_
        exact ih (k + 1) (by omega)
    | succ f ih =>
      intro k hk
      refine x_iload_n cx dL_seen_33 rfl rfl ?_
      refine x_bipush (v := nI 60) cx dL_seen_34 (by decide) ?_
      refine x_icmp_ge_f (tgt := 65) cx dL_seen_36 (by decide) (nI_ge (by omega) (by omega)) ?_
      refine x_ldc2 cx dL_seen_39 zt222 ?_
      refine x_lload_n cx dL_seen_42 rfl rfl ?_
      refine x_lmul cx dL_seen_43 ?_
      refine x_aload_n cx dL_seen_44 rfl rfl ?_
      refine x_iload_n cx dL_seen_45 rfl rfl ?_
      refine x_bipush (v := nI 10) cx dL_seen_46 (by decide) ?_
      refine x_idiv cx dL_seen_48 (by decide) ?_
      refine x_eqi (pk_div (by omega) (by omega) (by omega)) ?_
      refine x_iload_n cx dL_seen_49 rfl rfl ?_
      refine x_bipush (v := nI 10) cx dL_seen_50 (by decide) ?_
      refine x_irem cx dL_seen_52 (by decide) ?_
      refine x_eqi (pk_rem (by omega) (by omega) (by omega)) ?_
      refine x_Vi (C := RX6) (T := TX6) (N := 6) (rest := [_]) cx (c_X6_chip l G _ hS _ _) gV_L_20 ndX6_chip rfl ⟨Nat.le_of_ble_eq_true rfl, Nat.le_of_ble_eq_true rfl⟩ (zok_7 (by decide)) (by decide) (p_SC) rfl rfl rfl (Nat.le_of_ble_eq_true rfl) dL_seen_53 ⟨Nat.le_of_ble_eq_true rfl, Nat.le_of_ble_eq_true rfl⟩ ?_
      refine x_i2l cx dL_seen_56 ?_
      refine x_ladd cx dL_seen_57 ?_
      refine x_lstore_n (ls' := [_, _, _, _]) cx dL_seen_58 rfl (by decide) rfl ?_
      refine x_iinc (v := nI (k + 1)) (ls' := [_, _, _, _]) cx dL_seen_59 rfl (nI_inc _) (by decide) rfl ?_
      refine x_goto (tgt := 33) cx dL_seen_62 (by decide) ?_
      exact ih (k + 1) (by omega)
  | succ f ih =>
    intro k hk
    refine x_iload_n cx dL_seen_6 rfl rfl ?_
    refine x_bipush (v := nI 7) cx dL_seen_7 (by decide) ?_
    refine x_icmp_ge_f (tgt := 31) cx dL_seen_9 (by decide) (nI_ge (by omega) (by omega)) ?_
    refine x_ldc2 cx dL_seen_12 zt222 ?_
    refine x_lload_n cx dL_seen_15 rfl rfl ?_
    refine x_lmul cx dL_seen_16 ?_
    refine x_aload_n cx dL_seen_17 rfl rfl ?_
    refine x_iload_n cx dL_seen_18 rfl rfl ?_
    refine x_Vi (C := RX6) (T := TX6) (N := 6) (rest := [_]) cx (c_X6_count l G _ hS _) gV_L_14 ndX6_count rfl ⟨Nat.le_of_ble_eq_true rfl, Nat.le_of_ble_eq_true rfl⟩ (zok_7 (by decide)) (by decide) (p_SC) rfl rfl rfl (Nat.le_of_ble_eq_true rfl) dL_seen_19 ⟨Nat.le_of_ble_eq_true rfl, Nat.le_of_ble_eq_true rfl⟩ ?_
    refine x_eqi (cn_lt (by omega)) ?_
    refine x_i2l cx dL_seen_22 ?_
    refine x_ladd cx dL_seen_23 ?_
    refine x_lstore_n (ls' := [_, _, _, _]) cx dL_seen_24 rfl (by decide) rfl ?_
    refine x_iinc (v := nI (k + 1)) (ls' := [_, _, _, _]) cx dL_seen_25 rfl (nI_inc _) (by decide) rfl ?_
    refine x_goto (tgt := 6) cx dL_seen_28 (by decide) ?_
    exact ih (k + 1) (by omega)

set_option maxHeartbeats 4000000 in
set_option maxRecDepth 100000 in
theorem c_L_cell (l : Launch) (G : zG) (n : Nat) (h : zH) (b L : Nat) (xs : Nat → Int32) (hL : L ≤ 2048) (hbG : b < G.2.2) (k : Nat) (hk : k < 1000) : Met l yL_cell (zws yL_cell cL_cell 2 (some .int)) (zrm 0 0 0 0) (zPX G n h b L xs [.ref b, .int (nI k)]) (zQi G n (zcl L xs k) (h)) 0 0 (zA G) := by
  refine zMetX npL_cell rfl (Nat.le_of_ble_eq_true rfl) ?_
  intro p e s m args below meth cd hargs cx hr hX hbl
  have cx : Cx p s m args meth cd cL_cell 2 RL G := cx
  refine x_ls (ls' := [some (.ref b), some (.int (nI k))]) rfl (fun _ h => h) ?_
  refine x_iload_n cx dL_cell_0 rfl rfl ?_
  refine x_aload_n cx dL_cell_1 rfl rfl ?_
  refine x_slen cx hX hbl hbG dL_cell_2 ?_
  refine x_icmp_ge (tgt := 12) cx dL_cell_3 (by decide) (fun hb3 => ?_) (fun hb3 => ?_)
  · refine x_ldc cx dL_cell_12 zt215 ?_
    refine x_iload_n cx dL_cell_14 rfl rfl ?_
    refine x_sipush (v := nI 173) cx dL_cell_15 (by decide) ?_
    refine x_iadd cx dL_cell_18 ?_
    refine x_imul cx dL_cell_19 ?_
    refine x_ldc cx dL_cell_20 zt216 ?_
    refine x_iadd cx dL_cell_22 ?_
    refine x_ldc cx dL_cell_23 zt217 ?_
    refine x_iand cx dL_cell_25 ?_
    exact x_iret cx hr (by unfold zcl; rw [if_neg (fun z => absurd hb3 (nI_ge z (by omega)))]) (fun _ _ _ _ => rfl) dL_cell_26
  · refine x_aload_n cx dL_cell_6 rfl rfl ?_
    refine x_iload_n cx dL_cell_7 rfl rfl ?_
    refine x_sld (t := k) cx hX hbl hbG rfl ((nI_ltI (by omega) (by omega)).mp (Int32.not_le.mp hb3)) hL dL_cell_8 ?_
    refine x_goto (tgt := 23) cx dL_cell_9 (by decide) ?_
    refine x_ldc cx dL_cell_23 zt217 ?_
    refine x_iand cx dL_cell_25 ?_
    exact x_iret cx hr (by unfold zcl; rw [if_pos ((nI_ltI (by omega) (by omega)).mp (Int32.not_le.mp hb3))]) (fun _ _ _ _ => rfl) dL_cell_26

set_option maxHeartbeats 4000000 in
set_option maxRecDepth 100000 in
theorem c_L_areWays (l : Launch) (G : zG) (S : zS) (hS : kWF S) (b : Nat) (hb : b < 16) : Met l yL_areWays (zws yL_areWays cL_areWays 5 (some .boolean)) (zrm 5 0 0 108) (zPc G 68 (pic G S) [.ref (zad G 7 0), .int (nI b)]) (zQi G 68 (1) (pic G S)) 0 0 (zA G) := by
  refine zMet npL_areWays rfl (Nat.le_of_ble_eq_true rfl) ?_
  intro p e s m args below meth cd hargs cx hr hin0
  have cx : Cx p s m args meth cd cL_areWays 5 RL G := cx
  refine x_ls (ls' := [some (.ref (zad G 7 0)), some (.int (nI b)), none, none, none]) rfl (fun _ h => h) ?_
  have hd0 : dst b b = 0 := (dst_0 b hb b hb).mpr rfl
  refine x_aload_n cx dL_areWays_0 rfl rfl ?_
  refine x_iload_n cx dL_areWays_1 rfl rfl ?_
  refine x_iload_n cx dL_areWays_2 rfl rfl ?_
  refine x_Vi (C := RX6) (T := TX6) (N := 6) (rest := []) cx (c_X6_distance l G _ hS _ _) gV_L_62 ndX6_distance rfl ⟨Nat.le_of_ble_eq_true rfl, Nat.le_of_ble_eq_true rfl⟩ (zok_7 (by decide)) (by decide) (p_SC) rfl rfl rfl (Nat.le_of_ble_eq_true rfl) dL_areWays_3 ⟨Nat.le_of_ble_eq_true rfl, Nat.le_of_ble_eq_true rfl⟩ ?_
  refine x_eqi (zd (by omega) (by omega)) ?_
  refine x_if_ne_f (tgt := 13) cx dL_areWays_6 (by decide) (nI_ig (b := 0) (by omega)) ?_
  refine x_iconst (v := nI 1) cx dL_areWays_9 (by decide) ?_
  refine x_goto (tgt := 14) cx dL_areWays_10 (by decide) ?_
  refine x_istore_n (ls' := [_, _, _, _, _]) cx dL_areWays_14 rfl (by decide) rfl ?_
  refine x_iconst (v := nI 0) cx dL_areWays_15 (by decide) ?_
  refine x_istore_n (ls' := [_, _, _, _, _]) cx dL_areWays_16 rfl (by decide) rfl ?_
  suffices K : ∀ f k : Nat, k + f = 16 → Xh p l e _ s m args below meth cd 5 G _ 0 0 68 (pic G S) 17 [some (.ref (zad G 7 0)), some (.int (nI b)), some (.int (nI 1)), some (.int (nI k)), none] [] from K 16 0 rfl
  intro f
  induction f with
  | zero =>
    intro k hk
    obtain rfl : k = 16 := by omega
    refine x_iload_n cx dL_areWays_17 rfl rfl ?_
    refine x_bipush (v := nI 16) cx dL_areWays_18 (by decide) ?_
    refine x_icmp_ge_t (tgt := 104) cx dL_areWays_20 (by decide) (nI_le (by omega) (by omega)) ?_
    refine x_iload_n cx dL_areWays_104 rfl rfl ?_
    exact x_zret cx hr rfl (by first | exact Or.inl rfl | exact Or.inr rfl) (fun _ _ _ _ => rfl) dL_areWays_105
  | succ f ih =>
    intro k hk
    have ht := dt_t k (by omega) b hb
    have hl1 := dst_lt k (by omega) b hb
    have hl2 := dst_lt 0 (by omega) b hb
    have hl3 := dst_0 k (by omega) b hb
    by_cases hkb : k = b
    · have hz := hl3.mpr hkb
      refine x_iload_n cx dL_areWays_17 rfl rfl ?_
      refine x_bipush (v := nI 16) cx dL_areWays_18 (by decide) ?_
      refine x_icmp_ge_f (tgt := 104) cx dL_areWays_20 (by decide) (nI_ge (by omega) (by omega)) ?_
      refine x_iload_n cx dL_areWays_23 rfl rfl ?_
      refine x_if_eq_f (tgt := 104) cx dL_areWays_24 (by decide) (by decide) ?_
      refine x_aload_n cx dL_areWays_27 rfl rfl ?_
      refine x_iload_n cx dL_areWays_28 rfl rfl ?_
      refine x_iload_n cx dL_areWays_29 rfl rfl ?_
      refine x_Vi (C := RX6) (T := TX6) (N := 6) (rest := []) cx (c_X6_distance l G _ hS _ _) gV_L_62 ndX6_distance rfl ⟨Nat.le_of_ble_eq_true rfl, Nat.le_of_ble_eq_true rfl⟩ (zok_7 (by decide)) (by decide) (p_SC) rfl rfl rfl (Nat.le_of_ble_eq_true rfl) dL_areWays_30 ⟨Nat.le_of_ble_eq_true rfl, Nat.le_of_ble_eq_true rfl⟩ ?_
      refine x_eqi (zd (by omega) (by omega)) ?_
      refine x_istore (ls' := [_, _, _, _, _]) cx dL_areWays_33 (by decide) rfl ?_
      refine x_iload cx dL_areWays_35 rfl ?_
      refine x_if_lt_f (tgt := 96) cx dL_areWays_37 (by decide) (nI_pos (by omega)) ?_
      refine x_iload cx dL_areWays_40 rfl ?_
      refine x_if_ne_f (tgt := 49) cx dL_areWays_42 (by decide) (nI_ig (b := 0) (by omega)) ?_
      refine x_iconst (v := nI 1) cx dL_areWays_45 (by decide) ?_
      refine x_goto (tgt := 50) cx dL_areWays_46 (by decide) ?_
      refine x_iload_n cx dL_areWays_50 rfl rfl ?_
      refine x_iload_n cx dL_areWays_51 rfl rfl ?_
      refine x_icmp_ne_f (tgt := 59) cx dL_areWays_52 (by decide) (nI_ig (by omega)) ?_
      refine x_iconst (v := nI 1) cx dL_areWays_55 (by decide) ?_
      refine x_goto (tgt := 60) cx dL_areWays_56 (by decide) ?_
      refine x_icmp_ne_f (tgt := 96) cx dL_areWays_60 (by decide) (by decide) ?_
      refine x_iload cx dL_areWays_63 rfl ?_
      refine x_aload_n cx dL_areWays_65 rfl rfl ?_
      refine x_iload_n cx dL_areWays_66 rfl rfl ?_
      refine x_iconst (v := nI 0) cx dL_areWays_67 (by decide) ?_
      refine x_Vi (C := RX6) (T := TX6) (N := 6) (rest := [_]) cx (c_X6_distance l G _ hS _ _) gV_L_62 ndX6_distance rfl ⟨Nat.le_of_ble_eq_true rfl, Nat.le_of_ble_eq_true rfl⟩ (zok_7 (by decide)) (by decide) (p_SC) rfl rfl rfl (Nat.le_of_ble_eq_true rfl) dL_areWays_68 ⟨Nat.le_of_ble_eq_true rfl, Nat.le_of_ble_eq_true rfl⟩ ?_
      refine x_eqi (zd (by omega) (by omega)) ?_
      refine x_aload_n cx dL_areWays_71 rfl rfl ?_
      refine x_iconst (v := nI 0) cx dL_areWays_72 (by decide) ?_
      refine x_iload_n cx dL_areWays_73 rfl rfl ?_
      refine x_Vi (C := RX6) (T := TX6) (N := 6) (rest := [_, _]) cx (c_X6_distance l G _ hS _ _) gV_L_62 ndX6_distance rfl ⟨Nat.le_of_ble_eq_true rfl, Nat.le_of_ble_eq_true rfl⟩ (zok_7 (by decide)) (by decide) (p_SC) rfl rfl rfl (Nat.le_of_ble_eq_true rfl) dL_areWays_74 ⟨Nat.le_of_ble_eq_true rfl, Nat.le_of_ble_eq_true rfl⟩ ?_
      refine x_eqi (zd (by omega) (by omega)) ?_
      refine x_iadd cx dL_areWays_77 ?_
      refine x_eqi (nI_add _ _) ?_
      refine x_icmp_gt_f (tgt := 96) cx dL_areWays_78 (by decide) (nI_nlt (by omega) (by omega)) ?_
      refine x_aload_n cx dL_areWays_81 rfl rfl ?_
      refine x_iload_n cx dL_areWays_82 rfl rfl ?_
      refine x_iconst (v := nI 0) cx dL_areWays_83 (by decide) ?_
      refine x_Vi (C := RX6) (T := TX6) (N := 6) (rest := []) cx (c_X6_distance l G _ hS _ _) gV_L_62 ndX6_distance rfl ⟨Nat.le_of_ble_eq_true rfl, Nat.le_of_ble_eq_true rfl⟩ (zok_7 (by decide)) (by decide) (p_SC) rfl rfl rfl (Nat.le_of_ble_eq_true rfl) dL_areWays_84 ⟨Nat.le_of_ble_eq_true rfl, Nat.le_of_ble_eq_true rfl⟩ ?_
      refine x_eqi (zd (by omega) (by omega)) ?_
      refine x_bipush (v := nI 6) cx dL_areWays_87 (by decide) ?_
      refine x_icmp_ge_f (tgt := 96) cx dL_areWays_89 (by decide) (nI_ge (by omega) (by omega)) ?_
      refine x_iconst (v := nI 1) cx dL_areWays_92 (by decide) ?_
      refine x_goto (tgt := 97) cx dL_areWays_93 (by decide) ?_
      refine x_istore_n (ls' := [_, _, _, _, _]) cx dL_areWays_97 rfl (by decide) rfl ?_
      refine x_iinc (v := nI (k + 1)) (ls' := [_, _, _, _, _]) cx dL_areWays_98 rfl (nI_inc _) (by decide) rfl ?_
      refine x_goto (tgt := 17) cx dL_areWays_101 (by decide) ?_
      exact x_ls rfl (by simp [lo]) (ih (k + 1) (by omega))
    · have hz : dst k b ≠ 0 := fun z => hkb (hl3.mp z)
      refine x_iload_n cx dL_areWays_17 rfl rfl ?_
      refine x_bipush (v := nI 16) cx dL_areWays_18 (by decide) ?_
      refine x_icmp_ge_f (tgt := 104) cx dL_areWays_20 (by decide) (nI_ge (by omega) (by omega)) ?_
      refine x_iload_n cx dL_areWays_23 rfl rfl ?_
      refine x_if_eq_f (tgt := 104) cx dL_areWays_24 (by decide) (by decide) ?_
      refine x_aload_n cx dL_areWays_27 rfl rfl ?_
      refine x_iload_n cx dL_areWays_28 rfl rfl ?_
      refine x_iload_n cx dL_areWays_29 rfl rfl ?_
      refine x_Vi (C := RX6) (T := TX6) (N := 6) (rest := []) cx (c_X6_distance l G _ hS _ _) gV_L_62 ndX6_distance rfl ⟨Nat.le_of_ble_eq_true rfl, Nat.le_of_ble_eq_true rfl⟩ (zok_7 (by decide)) (by decide) (p_SC) rfl rfl rfl (Nat.le_of_ble_eq_true rfl) dL_areWays_30 ⟨Nat.le_of_ble_eq_true rfl, Nat.le_of_ble_eq_true rfl⟩ ?_
      refine x_eqi (zd (by omega) (by omega)) ?_
      refine x_istore (ls' := [_, _, _, _, _]) cx dL_areWays_33 (by decide) rfl ?_
      refine x_iload cx dL_areWays_35 rfl ?_
      refine x_if_lt_f (tgt := 96) cx dL_areWays_37 (by decide) (nI_pos (by omega)) ?_
      refine x_iload cx dL_areWays_40 rfl ?_
      refine x_if_ne_t (tgt := 49) cx dL_areWays_42 (by decide) (nI_ne0 (by omega) (by omega)) ?_
      refine x_iconst (v := nI 0) cx dL_areWays_49 (by decide) ?_
      refine x_iload_n cx dL_areWays_50 rfl rfl ?_
      refine x_iload_n cx dL_areWays_51 rfl rfl ?_
      refine x_icmp_ne_t (tgt := 59) cx dL_areWays_52 (by decide) (nI_nq (by omega) (by omega) (by omega)) ?_
      refine x_iconst (v := nI 0) cx dL_areWays_59 (by decide) ?_
      refine x_icmp_ne_f (tgt := 96) cx dL_areWays_60 (by decide) (by decide) ?_
      refine x_iload cx dL_areWays_63 rfl ?_
      refine x_aload_n cx dL_areWays_65 rfl rfl ?_
      refine x_iload_n cx dL_areWays_66 rfl rfl ?_
      refine x_iconst (v := nI 0) cx dL_areWays_67 (by decide) ?_
      refine x_Vi (C := RX6) (T := TX6) (N := 6) (rest := [_]) cx (c_X6_distance l G _ hS _ _) gV_L_62 ndX6_distance rfl ⟨Nat.le_of_ble_eq_true rfl, Nat.le_of_ble_eq_true rfl⟩ (zok_7 (by decide)) (by decide) (p_SC) rfl rfl rfl (Nat.le_of_ble_eq_true rfl) dL_areWays_68 ⟨Nat.le_of_ble_eq_true rfl, Nat.le_of_ble_eq_true rfl⟩ ?_
      refine x_eqi (zd (by omega) (by omega)) ?_
      refine x_aload_n cx dL_areWays_71 rfl rfl ?_
      refine x_iconst (v := nI 0) cx dL_areWays_72 (by decide) ?_
      refine x_iload_n cx dL_areWays_73 rfl rfl ?_
      refine x_Vi (C := RX6) (T := TX6) (N := 6) (rest := [_, _]) cx (c_X6_distance l G _ hS _ _) gV_L_62 ndX6_distance rfl ⟨Nat.le_of_ble_eq_true rfl, Nat.le_of_ble_eq_true rfl⟩ (zok_7 (by decide)) (by decide) (p_SC) rfl rfl rfl (Nat.le_of_ble_eq_true rfl) dL_areWays_74 ⟨Nat.le_of_ble_eq_true rfl, Nat.le_of_ble_eq_true rfl⟩ ?_
      refine x_eqi (zd (by omega) (by omega)) ?_
      refine x_iadd cx dL_areWays_77 ?_
      refine x_eqi (nI_add _ _) ?_
      refine x_icmp_gt_f (tgt := 96) cx dL_areWays_78 (by decide) (nI_nlt (by omega) (by omega)) ?_
      refine x_aload_n cx dL_areWays_81 rfl rfl ?_
      refine x_iload_n cx dL_areWays_82 rfl rfl ?_
      refine x_iconst (v := nI 0) cx dL_areWays_83 (by decide) ?_
      refine x_Vi (C := RX6) (T := TX6) (N := 6) (rest := []) cx (c_X6_distance l G _ hS _ _) gV_L_62 ndX6_distance rfl ⟨Nat.le_of_ble_eq_true rfl, Nat.le_of_ble_eq_true rfl⟩ (zok_7 (by decide)) (by decide) (p_SC) rfl rfl rfl (Nat.le_of_ble_eq_true rfl) dL_areWays_84 ⟨Nat.le_of_ble_eq_true rfl, Nat.le_of_ble_eq_true rfl⟩ ?_
      refine x_eqi (zd (by omega) (by omega)) ?_
      refine x_bipush (v := nI 6) cx dL_areWays_87 (by decide) ?_
      refine x_icmp_ge_f (tgt := 96) cx dL_areWays_89 (by decide) (nI_ge (by omega) (by omega)) ?_
      refine x_iconst (v := nI 1) cx dL_areWays_92 (by decide) ?_
      refine x_goto (tgt := 97) cx dL_areWays_93 (by decide) ?_
      refine x_istore_n (ls' := [_, _, _, _, _]) cx dL_areWays_97 rfl (by decide) rfl ?_
      refine x_iinc (v := nI (k + 1)) (ls' := [_, _, _, _, _]) cx dL_areWays_98 rfl (nI_inc _) (by decide) rfl ?_
      refine x_goto (tgt := 17) cx dL_areWays_101 (by decide) ?_
      exact x_ls rfl (by simp [lo]) (ih (k + 1) (by omega))

set_option maxHeartbeats 4000000 in
set_option maxRecDepth 100000 in
theorem c_L_refusesAny (l : Launch) (G : zG) (S : zS) (hS : kWF S) (hT : S 7 0 2 = 0) (x : Nat) (hx : x < 2 ^ 31) : Met l yL_refusesAny (zws yL_refusesAny cL_refusesAny 7 (some .boolean)) (zrm 8 0 0 184) (zPc G 68 (pic G S) [.ref (zad G 7 0), .int (nI x)]) (zQi G 68 (1) (pic G S)) 0 0 (zA G) := by
  refine zMet npL_refusesAny rfl (Nat.le_of_ble_eq_true rfl) ?_
  intro p e s m args below meth cd hargs cx hr hin0
  have cx : Cx p s m args meth cd cL_refusesAny 7 RL G := cx
  refine x_ls (ls' := [some (.ref (zad G 7 0)), some (.int (nI x)), none, none, none, none, none]) rfl (fun _ h => h) ?_
  by_cases hx2 : x % 2 = 0
  · have h6 := hS.1.n6
    refine x_iload_n cx dL_refusesAny_0 rfl rfl ?_
    refine x_iconst (v := nI 2) cx dL_refusesAny_1 (by decide) ?_
    refine x_irem cx dL_refusesAny_2 (by decide) ?_
    refine x_eqi (pk_rem (by omega) (by omega) (by omega)) ?_
    refine x_if_ne_f (tgt := 15) cx dL_refusesAny_3 (by decide) (nI_ig (b := 0) (by omega)) ?_
    refine x_iconst (v := (-1)) cx dL_refusesAny_6 (by decide) ?_
    refine x_iload_n cx dL_refusesAny_7 rfl rfl ?_
    refine x_bipush (v := nI 99) cx dL_refusesAny_8 (by decide) ?_
    refine x_irem cx dL_refusesAny_10 (by decide) ?_
    refine x_eqi (pk_rem (by omega) (by omega) (by omega)) ?_
    refine x_isub cx dL_refusesAny_11 ?_
    refine x_goto (tgt := 22) cx dL_refusesAny_12 (by decide) ?_
    refine x_topi fun no hno => ?_
    have no0 : no < 0 := by rw [hno]; exact ng_t _ (Nat.mod_lt _ (by decide))
    have hno1 : zHas (S 0) no = 0 := has_neg no0
    refine x_istore_n (ls' := [_, _, _, _, _, _, _]) cx dL_refusesAny_22 rfl (by decide) rfl ?_
    refine x_iload_n cx dL_refusesAny_23 rfl rfl ?_
    refine x_iconst (v := nI 2) cx dL_refusesAny_24 (by decide) ?_
    refine x_irem cx dL_refusesAny_25 (by decide) ?_
    refine x_eqi (pk_rem (by omega) (by omega) (by omega)) ?_
    refine x_if_ne_f (tgt := 38) cx dL_refusesAny_26 (by decide) (nI_ig (b := 0) (by omega)) ?_
    refine x_iconst (v := (-1)) cx dL_refusesAny_29 (by decide) ?_
    refine x_iload_n cx dL_refusesAny_30 rfl rfl ?_
    refine x_bipush (v := nI 99) cx dL_refusesAny_31 (by decide) ?_
    refine x_irem cx dL_refusesAny_33 (by decide) ?_
    refine x_eqi (pk_rem (by omega) (by omega) (by omega)) ?_
    refine x_isub cx dL_refusesAny_34 ?_
    refine x_goto (tgt := 46) cx dL_refusesAny_35 (by decide) ?_
    refine x_topi fun fr hfr => ?_
    have fr0 : fr < 0 := by rw [hfr]; exact ng_t _ (Nat.mod_lt _ (by decide))
    have hfr1 : zin fr 0 255 = 0 := zin_lo fr0
    refine x_istore_n (ls' := [_, _, _, _, _, _, _]) cx dL_refusesAny_46 rfl (by decide) rfl ?_
    refine x_iload_n cx dL_refusesAny_47 rfl rfl ?_
    refine x_iconst (v := nI 2) cx dL_refusesAny_48 (by decide) ?_
    refine x_irem cx dL_refusesAny_49 (by decide) ?_
    refine x_eqi (pk_rem (by omega) (by omega) (by omega)) ?_
    refine x_if_ne_f (tgt := 62) cx dL_refusesAny_50 (by decide) (nI_ig (b := 0) (by omega)) ?_
    refine x_iconst (v := (-1)) cx dL_refusesAny_53 (by decide) ?_
    refine x_iload_n cx dL_refusesAny_54 rfl rfl ?_
    refine x_bipush (v := nI 99) cx dL_refusesAny_55 (by decide) ?_
    refine x_irem cx dL_refusesAny_57 (by decide) ?_
    refine x_eqi (pk_rem (by omega) (by omega) (by omega)) ?_
    refine x_isub cx dL_refusesAny_58 ?_
    refine x_goto (tgt := 68) cx dL_refusesAny_59 (by decide) ?_
    refine x_topi fun bt hbt => ?_
    have bt0 : bt < 0 := by rw [hbt]; exact ng_t _ (Nat.mod_lt _ (by decide))
    have hbt1 : zin bt 0 1 = 0 := zin_lo bt0
    refine x_istore (ls' := [_, _, _, _, _, _, _]) cx dL_refusesAny_68 (by decide) rfl ?_
    refine x_iload_n cx dL_refusesAny_70 rfl rfl ?_
    refine x_iconst (v := nI 2) cx dL_refusesAny_71 (by decide) ?_
    refine x_irem cx dL_refusesAny_72 (by decide) ?_
    refine x_eqi (pk_rem (by omega) (by omega) (by omega)) ?_
    refine x_if_ne_f (tgt := 85) cx dL_refusesAny_73 (by decide) (nI_ig (b := 0) (by omega)) ?_
    refine x_iconst (v := (-1)) cx dL_refusesAny_76 (by decide) ?_
    refine x_iload_n cx dL_refusesAny_77 rfl rfl ?_
    refine x_bipush (v := nI 99) cx dL_refusesAny_78 (by decide) ?_
    refine x_irem cx dL_refusesAny_80 (by decide) ?_
    refine x_eqi (pk_rem (by omega) (by omega) (by omega)) ?_
    refine x_isub cx dL_refusesAny_81 ?_
    refine x_goto (tgt := 92) cx dL_refusesAny_82 (by decide) ?_
    refine x_topi fun sx hsx => ?_
    have sx0 : sx < 0 := by rw [hsx]; exact ng_t _ (Nat.mod_lt _ (by decide))
    have hsx1 : zis sx = 0 := zis_lo sx0
    refine x_istore (ls' := [_, _, _, _, _, _, _]) cx dL_refusesAny_92 (by decide) rfl ?_
    refine x_aload_n cx dL_refusesAny_94 rfl rfl ?_
    refine x_iload_n cx dL_refusesAny_95 rfl rfl ?_
    refine x_iconst (v := nI 2) cx dL_refusesAny_96 (by decide) ?_
    refine x_irem cx dL_refusesAny_97 (by decide) ?_
    refine x_eqi (pk_rem (by omega) (by omega) (by omega)) ?_
    refine x_if_ne_f (tgt := 105) cx dL_refusesAny_98 (by decide) (nI_ig (b := 0) (by omega)) ?_
    refine x_iconst (v := nI 1) cx dL_refusesAny_101 (by decide) ?_
    refine x_goto (tgt := 107) cx dL_refusesAny_102 (by decide) ?_
    refine x_iconst (v := nI 0) cx dL_refusesAny_107 (by decide) ?_
    refine x_iconst (v := nI 1) cx dL_refusesAny_108 (by decide) ?_
    refine x_Vi (C := RX6) (T := TX6) (N := 6) (rest := []) cx (c_X6_add l G _ hS _ _ _) gV_L_34 ndX6_add rfl ⟨Nat.le_of_ble_eq_true rfl, Nat.le_of_ble_eq_true rfl⟩ (zok_7 (by decide)) (by decide) (p_SC) rfl rfl rfl (Nat.le_of_ble_eq_true rfl) dL_refusesAny_109 ⟨Nat.le_of_ble_eq_true rfl, Nat.le_of_ble_eq_true rfl⟩ ?_
    have he : eAdd (S 0) (nI 1) (nI 0) (nI 1) = -2 := by unfold eAdd; rw [if_pos (by decide)]
    refine x_eqi (er he (by decide)) ?_
    refine x_S (erS he (by decide)) ?_
    refine x_bipush (v := (-2)) cx dL_refusesAny_112 (by decide) ?_
    refine x_icmp_ne_f (tgt := 374) cx dL_refusesAny_114 (by decide) rfl ?_
    refine x_aload_n cx dL_refusesAny_117 rfl rfl ?_
    refine x_iconst (v := nI 2) cx dL_refusesAny_118 (by decide) ?_
    refine x_iload_n cx dL_refusesAny_119 rfl rfl ?_
    refine x_iconst (v := nI 3) cx dL_refusesAny_120 (by decide) ?_
    refine x_irem cx dL_refusesAny_121 (by decide) ?_
    refine x_eqi (pk_rem (by omega) (by omega) (by omega)) ?_
    have K150 : ∀ v : Int32, zisId v = 0 → Xh p l e (zrm 8 0 0 184) s m args below meth cd 7 G (MQ below (zQi G 68 (1) (pic G S)) args s 0 0 (zA G)) 0 0 68 (pic G S) 150 [some (.ref (zad G 7 0)), some (.int (nI x)), some (.int no), some (.int fr), some (.int bt), some (.int sx), none] [.int v, .int (nI 2), .ref (zad G 7 0)] := by
      intro v hv
      refine x_iconst (v := nI 1) cx dL_refusesAny_150 (by decide) ?_
      refine x_Vi (C := RX6) (T := TX6) (N := 6) (rest := []) cx (c_X6_add l G _ hS _ _ _) gV_L_34 ndX6_add rfl ⟨Nat.le_of_ble_eq_true rfl, Nat.le_of_ble_eq_true rfl⟩ (zok_7 (by decide)) (by decide) (p_SC) rfl rfl rfl (Nat.le_of_ble_eq_true rfl) dL_refusesAny_151 ⟨Nat.le_of_ble_eq_true rfl, Nat.le_of_ble_eq_true rfl⟩ ?_
      have he : eAdd (S 0) (nI 2) (v) (nI 1) = -2 := by unfold eAdd; rw [if_neg (by decide), if_pos hv]
      refine x_eqi (er he (by decide)) ?_
      refine x_S (erS he (by decide)) ?_
      refine x_bipush (v := (-2)) cx dL_refusesAny_154 (by decide) ?_
      refine x_icmp_ne_f (tgt := 374) cx dL_refusesAny_156 (by decide) rfl ?_
      refine x_aload_n cx dL_refusesAny_159 rfl rfl ?_
      refine x_iconst (v := nI 2) cx dL_refusesAny_160 (by decide) ?_
      refine x_iconst (v := nI 0) cx dL_refusesAny_161 (by decide) ?_
      refine x_iload_n cx dL_refusesAny_162 rfl rfl ?_
      refine x_iconst (v := nI 2) cx dL_refusesAny_163 (by decide) ?_
      refine x_irem cx dL_refusesAny_164 (by decide) ?_
      refine x_eqi (pk_rem (by omega) (by omega) (by omega)) ?_
      refine x_if_ne_f (tgt := 172) cx dL_refusesAny_165 (by decide) (nI_ig (b := 0) (by omega)) ?_
      refine x_iconst (v := nI 0) cx dL_refusesAny_168 (by decide) ?_
      refine x_goto (tgt := 174) cx dL_refusesAny_169 (by decide) ?_
      refine x_Vi (C := RX6) (T := TX6) (N := 6) (rest := []) cx (c_X6_add l G _ hS _ _ _) gV_L_34 ndX6_add rfl ⟨Nat.le_of_ble_eq_true rfl, Nat.le_of_ble_eq_true rfl⟩ (zok_7 (by decide)) (by decide) (p_SC) rfl rfl rfl (Nat.le_of_ble_eq_true rfl) dL_refusesAny_174 ⟨Nat.le_of_ble_eq_true rfl, Nat.le_of_ble_eq_true rfl⟩ ?_
      have he : eAdd (S 0) (nI 2) (nI 0) (nI 0) = -2 := by unfold eAdd; rw [if_neg (by decide), if_neg (by decide), if_pos (by decide)]
      refine x_eqi (er he (by decide)) ?_
      refine x_S (erS he (by decide)) ?_
      refine x_bipush (v := (-2)) cx dL_refusesAny_177 (by decide) ?_
      refine x_icmp_ne_f (tgt := 374) cx dL_refusesAny_179 (by decide) rfl ?_
      refine x_aload_n cx dL_refusesAny_182 rfl rfl ?_
      refine x_iconst (v := nI 0) cx dL_refusesAny_183 (by decide) ?_
      refine x_Vi (C := RX6) (T := TX6) (N := 6) (rest := []) cx (c_X6_count l G _ hS _) gV_L_14 ndX6_count rfl ⟨Nat.le_of_ble_eq_true rfl, Nat.le_of_ble_eq_true rfl⟩ (zok_7 (by decide)) (by decide) (p_SC) rfl rfl rfl (Nat.le_of_ble_eq_true rfl) dL_refusesAny_184 ⟨Nat.le_of_ble_eq_true rfl, Nat.le_of_ble_eq_true rfl⟩ ?_
      refine x_eqi (cn0 hS.1) ?_
      refine x_bipush (v := nI 6) cx dL_refusesAny_187 (by decide) ?_
      have K204 : Xh p l e (zrm 8 0 0 184) s m args below meth cd 7 G (MQ below (zQi G 68 (1) (pic G S)) args s 0 0 (zA G)) 0 0 68 (pic G S) 204 [some (.ref (zad G 7 0)), some (.int (nI x)), some (.int no), some (.int fr), some (.int bt), some (.int sx), none] [] := by
        refine x_aload_n cx dL_refusesAny_204 rfl rfl ?_
        refine x_iload_n cx dL_refusesAny_205 rfl rfl ?_
        refine x_Vi (C := RX6) (T := TX6) (N := 6) (rest := []) cx (c_X6_take l G _ hS _) gV_L_40 ndX6_take rfl ⟨Nat.le_of_ble_eq_true rfl, Nat.le_of_ble_eq_true rfl⟩ (zok_7 (by decide)) (by decide) (p_SC) rfl rfl rfl (Nat.le_of_ble_eq_true rfl) dL_refusesAny_206 ⟨Nat.le_of_ble_eq_true rfl, Nat.le_of_ble_eq_true rfl⟩ ?_
        have he : eHas (S 0) no = -1 := by unfold eHas; rw [if_pos hno1]
        refine x_eqi (er he (by decide)) ?_
        refine x_S (erS he (by decide)) ?_
        refine x_iconst (v := (-1)) cx dL_refusesAny_209 (by decide) ?_
        refine x_icmp_ne_f (tgt := 374) cx dL_refusesAny_210 (by decide) rfl ?_
        refine x_aload_n cx dL_refusesAny_213 rfl rfl ?_
        refine x_aload_n cx dL_refusesAny_214 rfl rfl ?_
        refine x_iconst (v := nI 0) cx dL_refusesAny_215 (by decide) ?_
        refine x_Vi (C := RX6) (T := TX6) (N := 6) (rest := [_]) cx (c_X6_count l G _ hS _) gV_L_14 ndX6_count rfl ⟨Nat.le_of_ble_eq_true rfl, Nat.le_of_ble_eq_true rfl⟩ (zok_7 (by decide)) (by decide) (p_SC) rfl rfl rfl (Nat.le_of_ble_eq_true rfl) dL_refusesAny_216 ⟨Nat.le_of_ble_eq_true rfl, Nat.le_of_ble_eq_true rfl⟩ ?_
        refine x_eqi (cn0 hS.1) ?_
        refine x_Vi (C := RX6) (T := TX6) (N := 6) (rest := []) cx (c_X6_take l G _ hS _) gV_L_40 ndX6_take rfl ⟨Nat.le_of_ble_eq_true rfl, Nat.le_of_ble_eq_true rfl⟩ (zok_7 (by decide)) (by decide) (p_SC) rfl rfl rfl (Nat.le_of_ble_eq_true rfl) dL_refusesAny_219 ⟨Nat.le_of_ble_eq_true rfl, Nat.le_of_ble_eq_true rfl⟩ ?_
        have he : eHas (S 0) (nI (num (S 0))) = -1 := by unfold eHas; rw [if_pos (has_out hS.1 (Nat.le_refl _) (by omega))]
        refine x_eqi (er he (by decide)) ?_
        refine x_S (erS he (by decide)) ?_
        refine x_iconst (v := (-1)) cx dL_refusesAny_222 (by decide) ?_
        refine x_icmp_ne_f (tgt := 374) cx dL_refusesAny_223 (by decide) rfl ?_
        refine x_aload_n cx dL_refusesAny_226 rfl rfl ?_
        refine x_iload_n cx dL_refusesAny_227 rfl rfl ?_
        refine x_iload_n cx dL_refusesAny_228 rfl rfl ?_
        refine x_Vi (C := RX6) (T := TX6) (N := 6) (rest := []) cx (c_X6_setPins l G _ hS _ _) gV_L_43 ndX6_setPins rfl ⟨Nat.le_of_ble_eq_true rfl, Nat.le_of_ble_eq_true rfl⟩ (zok_7 (by decide)) (by decide) (p_SC) rfl rfl rfl (Nat.le_of_ble_eq_true rfl) dL_refusesAny_229 ⟨Nat.le_of_ble_eq_true rfl, Nat.le_of_ble_eq_true rfl⟩ ?_
        have he : eArg (S 0) no fr 255 = -1 := by unfold eArg; rw [if_pos hno1]
        refine x_eqi (er he (by decide)) ?_
        refine x_S (erS he (by decide)) ?_
        refine x_iconst (v := (-1)) cx dL_refusesAny_232 (by decide) ?_
        refine x_icmp_ne_f (tgt := 374) cx dL_refusesAny_233 (by decide) rfl ?_
        refine x_aload_n cx dL_refusesAny_236 rfl rfl ?_
        refine x_iconst (v := nI 0) cx dL_refusesAny_237 (by decide) ?_
        refine x_Vi (C := RX6) (T := TX6) (N := 6) (rest := []) cx (c_X6_count l G _ hS _) gV_L_14 ndX6_count rfl ⟨Nat.le_of_ble_eq_true rfl, Nat.le_of_ble_eq_true rfl⟩ (zok_7 (by decide)) (by decide) (p_SC) rfl rfl rfl (Nat.le_of_ble_eq_true rfl) dL_refusesAny_238 ⟨Nat.le_of_ble_eq_true rfl, Nat.le_of_ble_eq_true rfl⟩ ?_
        refine x_eqi (cn0 hS.1) ?_
        have K255 : Xh p l e (zrm 8 0 0 184) s m args below meth cd 7 G (MQ below (zQi G 68 (1) (pic G S)) args s 0 0 (zA G)) 0 0 68 (pic G S) 255 [some (.ref (zad G 7 0)), some (.int (nI x)), some (.int no), some (.int fr), some (.int bt), some (.int sx), none] [] := by
          refine x_aload_n cx dL_refusesAny_255 rfl rfl ?_
          refine x_iload_n cx dL_refusesAny_256 rfl rfl ?_
          refine x_iconst (v := nI 1) cx dL_refusesAny_257 (by decide) ?_
          refine x_Vi (C := RX6) (T := TX6) (N := 6) (rest := []) cx (c_X6_breakChip l G _ hS _ _ (Or.inr rfl)) gV_L_46 ndX6_breakChip rfl ⟨Nat.le_of_ble_eq_true rfl, Nat.le_of_ble_eq_true rfl⟩ (zok_7 (by decide)) (by decide) (p_SC) rfl rfl rfl (Nat.le_of_ble_eq_true rfl) dL_refusesAny_258 ⟨Nat.le_of_ble_eq_true rfl, Nat.le_of_ble_eq_true rfl⟩ ?_
          have he : eHas (S 0) no = -1 := by unfold eHas; rw [if_pos hno1]
          refine x_eqi (er he (by decide)) ?_
          refine x_S (erS he (by decide)) ?_
          refine x_iconst (v := (-1)) cx dL_refusesAny_261 (by decide) ?_
          refine x_icmp_ne_f (tgt := 374) cx dL_refusesAny_262 (by decide) rfl ?_
          refine x_aload_n cx dL_refusesAny_265 rfl rfl ?_
          refine x_iload cx dL_refusesAny_266 rfl ?_
          refine x_iconst (v := nI 0) cx dL_refusesAny_268 (by decide) ?_
          refine x_Vi (C := RX6) (T := TX6) (N := 6) (rest := []) cx (c_X6_clock l G _ hS _ _) gV_L_50 ndX6_clock rfl ⟨Nat.le_of_ble_eq_true rfl, Nat.le_of_ble_eq_true rfl⟩ (zok_7 (by decide)) (by decide) (p_SC) rfl rfl rfl (Nat.le_of_ble_eq_true rfl) dL_refusesAny_269 ⟨Nat.le_of_ble_eq_true rfl, Nat.le_of_ble_eq_true rfl⟩ ?_
          have he : eClk bt (nI 0) = -2 := by unfold eClk; rw [if_pos hbt1]
          refine x_eqi (er he (by decide)) ?_
          refine x_S (erS he (by decide)) ?_
          refine x_bipush (v := (-2)) cx dL_refusesAny_272 (by decide) ?_
          refine x_icmp_ne_f (tgt := 374) cx dL_refusesAny_274 (by decide) rfl ?_
          refine x_aload_n cx dL_refusesAny_277 rfl rfl ?_
          refine x_iconst (v := nI 0) cx dL_refusesAny_278 (by decide) ?_
          refine x_iload cx dL_refusesAny_279 rfl ?_
          refine x_Vi (C := RX6) (T := TX6) (N := 6) (rest := []) cx (c_X6_clock l G _ hS _ _) gV_L_50 ndX6_clock rfl ⟨Nat.le_of_ble_eq_true rfl, Nat.le_of_ble_eq_true rfl⟩ (zok_7 (by decide)) (by decide) (p_SC) rfl rfl rfl (Nat.le_of_ble_eq_true rfl) dL_refusesAny_281 ⟨Nat.le_of_ble_eq_true rfl, Nat.le_of_ble_eq_true rfl⟩ ?_
          have he : eClk (nI 0) bt = -2 := by unfold eClk; rw [if_neg (by decide), if_pos hbt1]
          refine x_eqi (er he (by decide)) ?_
          refine x_S (erS he (by decide)) ?_
          refine x_bipush (v := (-2)) cx dL_refusesAny_284 (by decide) ?_
          refine x_icmp_ne_f (tgt := 374) cx dL_refusesAny_286 (by decide) rfl ?_
          refine x_aload_n cx dL_refusesAny_289 rfl rfl ?_
          refine x_iload cx dL_refusesAny_290 rfl ?_
          refine x_Vi (C := RX6) (T := TX6) (N := 6) (rest := []) cx (c_X6_move l G _ hS _) gV_L_53 ndX6_move rfl ⟨Nat.le_of_ble_eq_true rfl, Nat.le_of_ble_eq_true rfl⟩ (zok_7 (by decide)) (by decide) (p_SC) rfl rfl rfl (Nat.le_of_ble_eq_true rfl) dL_refusesAny_292 ⟨Nat.le_of_ble_eq_true rfl, Nat.le_of_ble_eq_true rfl⟩ ?_
          have he : eMov sx = -2 := by unfold eMov; rw [if_pos hsx1]
          refine x_eqi (er he (by decide)) ?_
          refine x_S (erS he (by decide)) ?_
          refine x_bipush (v := (-2)) cx dL_refusesAny_295 (by decide) ?_
          refine x_icmp_ne_f (tgt := 374) cx dL_refusesAny_297 (by decide) rfl ?_
          refine x_aload_n cx dL_refusesAny_300 rfl rfl ?_
          refine x_iload_n cx dL_refusesAny_301 rfl rfl ?_
          refine x_bipush (v := nI 99) cx dL_refusesAny_302 (by decide) ?_
          refine x_Vi (C := RX6) (T := TX6) (N := 6) (rest := []) cx (c_X6_load l G _ hS _ _) gV_L_56 ndX6_load rfl ⟨Nat.le_of_ble_eq_true rfl, Nat.le_of_ble_eq_true rfl⟩ (zok_7 (by decide)) (by decide) (p_SC) rfl rfl rfl (Nat.le_of_ble_eq_true rfl) dL_refusesAny_304 ⟨Nat.le_of_ble_eq_true rfl, Nat.le_of_ble_eq_true rfl⟩ ?_
          have he : eArg (S 0) no (nI 99) 63 = -1 := by unfold eArg; rw [if_pos hno1]
          refine x_eqi (er he (by decide)) ?_
          refine x_S (erS he (by decide)) ?_
          refine x_iconst (v := (-1)) cx dL_refusesAny_307 (by decide) ?_
          refine x_icmp_ne_f (tgt := 374) cx dL_refusesAny_308 (by decide) rfl ?_
          refine x_aload_n cx dL_refusesAny_311 rfl rfl ?_
          refine x_iconst (v := nI 0) cx dL_refusesAny_312 (by decide) ?_
          refine x_Vi (C := RX6) (T := TX6) (N := 6) (rest := []) cx (c_X6_count l G _ hS _) gV_L_14 ndX6_count rfl ⟨Nat.le_of_ble_eq_true rfl, Nat.le_of_ble_eq_true rfl⟩ (zok_7 (by decide)) (by decide) (p_SC) rfl rfl rfl (Nat.le_of_ble_eq_true rfl) dL_refusesAny_313 ⟨Nat.le_of_ble_eq_true rfl, Nat.le_of_ble_eq_true rfl⟩ ?_
          refine x_eqi (cn0 hS.1) ?_
          have K341 : Xh p l e (zrm 8 0 0 184) s m args below meth cd 7 G (MQ below (zQi G 68 (1) (pic G S)) args s 0 0 (zA G)) 0 0 68 (pic G S) 341 [some (.ref (zad G 7 0)), some (.int (nI x)), some (.int no), some (.int fr), some (.int bt), some (.int sx), none] [] := by
            refine x_aload_n cx dL_refusesAny_341 rfl rfl ?_
            refine x_iload_n cx dL_refusesAny_342 rfl rfl ?_
            refine x_iload_n cx dL_refusesAny_343 rfl rfl ?_
            refine x_Vi (C := RX6) (T := TX6) (N := 6) (rest := []) cx (c_X6_exchange l G _ hS _ _) gV_L_59 ndX6_exchange rfl ⟨Nat.le_of_ble_eq_true rfl, Nat.le_of_ble_eq_true rfl⟩ (zok_7 (by decide)) (by decide) (p_SC) rfl rfl rfl (Nat.le_of_ble_eq_true rfl) dL_refusesAny_344 ⟨Nat.le_of_ble_eq_true rfl, Nat.le_of_ble_eq_true rfl⟩ ?_
            have he : eArg (S 0) no fr 255 = -1 := by unfold eArg; rw [if_pos hno1]
            refine x_eqi (er he (by decide)) ?_
            refine x_S (erS he (by decide)) ?_
            refine x_iconst (v := (-1)) cx dL_refusesAny_347 (by decide) ?_
            refine x_icmp_ne_f (tgt := 374) cx dL_refusesAny_348 (by decide) rfl ?_
            refine x_aload_n cx dL_refusesAny_351 rfl rfl ?_
            refine x_iconst (v := nI 0) cx dL_refusesAny_352 (by decide) ?_
            refine x_Vi (C := RX6) (T := TX6) (N := 6) (rest := []) cx (c_X6_count l G _ hS _) gV_L_14 ndX6_count rfl ⟨Nat.le_of_ble_eq_true rfl, Nat.le_of_ble_eq_true rfl⟩ (zok_7 (by decide)) (by decide) (p_SC) rfl rfl rfl (Nat.le_of_ble_eq_true rfl) dL_refusesAny_353 ⟨Nat.le_of_ble_eq_true rfl, Nat.le_of_ble_eq_true rfl⟩ ?_
            refine x_eqi (cn0 hS.1) ?_
            have K370 : Xh p l e (zrm 8 0 0 184) s m args below meth cd 7 G (MQ below (zQi G 68 (1) (pic G S)) args s 0 0 (zA G)) 0 0 68 (pic G S) 370 [some (.ref (zad G 7 0)), some (.int (nI x)), some (.int no), some (.int fr), some (.int bt), some (.int sx), none] [] := by
              refine x_iconst (v := nI 1) cx dL_refusesAny_370 (by decide) ?_
              refine x_goto (tgt := 375) cx dL_refusesAny_371 (by decide) ?_
              refine x_istore (ls' := [_, _, _, _, _, _, _]) cx dL_refusesAny_375 (by decide) rfl ?_
              refine x_iload cx dL_refusesAny_377 rfl ?_
              refine x_if_eq_f (tgt := 560) cx dL_refusesAny_379 (by decide) (by decide) ?_
              refine x_aload_n cx dL_refusesAny_382 rfl rfl ?_
              refine x_iload_n cx dL_refusesAny_383 rfl rfl ?_
              refine x_bipush (v := nI 99) cx dL_refusesAny_384 (by decide) ?_
              refine x_Vi (C := RX6) (T := TX6) (N := 6) (rest := []) cx (c_X6_chip l G _ hS _ _) gV_L_20 ndX6_chip rfl ⟨Nat.le_of_ble_eq_true rfl, Nat.le_of_ble_eq_true rfl⟩ (zok_7 (by decide)) (by decide) (p_SC) rfl rfl rfl (Nat.le_of_ble_eq_true rfl) dL_refusesAny_386 ⟨Nat.le_of_ble_eq_true rfl, Nat.le_of_ble_eq_true rfl⟩ ?_
              refine x_eqi (show _ = (-1 : Int32) from tl_out hno1 _) ?_
              refine x_iconst (v := (-1)) cx dL_refusesAny_389 (by decide) ?_
              refine x_icmp_ne_f (tgt := 560) cx dL_refusesAny_390 (by decide) rfl ?_
              refine x_aload_n cx dL_refusesAny_393 rfl rfl ?_
              refine x_iconst (v := nI 0) cx dL_refusesAny_394 (by decide) ?_
              refine x_Vi (C := RX6) (T := TX6) (N := 6) (rest := []) cx (c_X6_count l G _ hS _) gV_L_14 ndX6_count rfl ⟨Nat.le_of_ble_eq_true rfl, Nat.le_of_ble_eq_true rfl⟩ (zok_7 (by decide)) (by decide) (p_SC) rfl rfl rfl (Nat.le_of_ble_eq_true rfl) dL_refusesAny_395 ⟨Nat.le_of_ble_eq_true rfl, Nat.le_of_ble_eq_true rfl⟩ ?_
              refine x_eqi (cn0 hS.1) ?_
              have K423 : Xh p l e (zrm 8 0 0 184) s m args below meth cd 7 G (MQ below (zQi G 68 (1) (pic G S)) args s 0 0 (zA G)) 0 0 68 (pic G S) 423 [some (.ref (zad G 7 0)), some (.int (nI x)), some (.int no), some (.int fr), some (.int bt), some (.int sx), some (.int (nI 1))] [] := by
                refine x_aload_n cx dL_refusesAny_423 rfl rfl ?_
                refine x_iload_n cx dL_refusesAny_424 rfl rfl ?_
                refine x_iconst (v := nI 2) cx dL_refusesAny_425 (by decide) ?_
                refine x_irem cx dL_refusesAny_426 (by decide) ?_
                refine x_eqi (pk_rem (by omega) (by omega) (by omega)) ?_
                refine x_if_ne_f (tgt := 434) cx dL_refusesAny_427 (by decide) (nI_ig (b := 0) (by omega)) ?_
                refine x_iconst (v := (-1)) cx dL_refusesAny_430 (by decide) ?_
                refine x_goto (tgt := 436) cx dL_refusesAny_431 (by decide) ?_
                refine x_Vi (C := RX6) (T := TX6) (N := 6) (rest := []) cx (c_X6_count l G _ hS _) gV_L_14 ndX6_count rfl ⟨Nat.le_of_ble_eq_true rfl, Nat.le_of_ble_eq_true rfl⟩ (zok_7 (by decide)) (by decide) (p_SC) rfl rfl rfl (Nat.le_of_ble_eq_true rfl) dL_refusesAny_436 ⟨Nat.le_of_ble_eq_true rfl, Nat.le_of_ble_eq_true rfl⟩ ?_
                refine x_eqi (show _ = (-2 : Int32) from zCount_out (by decide)) ?_
                refine x_bipush (v := (-2)) cx dL_refusesAny_439 (by decide) ?_
                refine x_icmp_ne_f (tgt := 560) cx dL_refusesAny_441 (by decide) rfl ?_
                refine x_aload_n cx dL_refusesAny_444 rfl rfl ?_
                refine x_iconst (v := (-1)) cx dL_refusesAny_445 (by decide) ?_
                refine x_iload_n cx dL_refusesAny_446 rfl rfl ?_
                refine x_bipush (v := nI 99) cx dL_refusesAny_447 (by decide) ?_
                refine x_irem cx dL_refusesAny_449 (by decide) ?_
                refine x_eqi (pk_rem (by omega) (by omega) (by omega)) ?_
                refine x_isub cx dL_refusesAny_450 ?_
                refine x_Vi (C := RX6) (T := TX6) (N := 6) (rest := []) cx (c_X6_found l G _ hS _) gV_L_24 ndX6_found rfl ⟨Nat.le_of_ble_eq_true rfl, Nat.le_of_ble_eq_true rfl⟩ (zok_7 (by decide)) (by decide) (p_SC) rfl rfl rfl (Nat.le_of_ble_eq_true rfl) dL_refusesAny_451 ⟨Nat.le_of_ble_eq_true rfl, Nat.le_of_ble_eq_true rfl⟩ ?_
                refine x_eqi (show _ = (-2 : Int32) from fd_neg (ng_t _ (Nat.mod_lt _ (by decide)))) ?_
                refine x_bipush (v := (-2)) cx dL_refusesAny_454 (by decide) ?_
                refine x_icmp_ne_f (tgt := 560) cx dL_refusesAny_456 (by decide) rfl ?_
                refine x_aload_n cx dL_refusesAny_459 rfl rfl ?_
                refine x_bipush (v := nI 8) cx dL_refusesAny_460 (by decide) ?_
                refine x_Vi (C := RX6) (T := TX6) (N := 6) (rest := []) cx (c_X6_found l G _ hS _) gV_L_24 ndX6_found rfl ⟨Nat.le_of_ble_eq_true rfl, Nat.le_of_ble_eq_true rfl⟩ (zok_7 (by decide)) (by decide) (p_SC) rfl rfl rfl (Nat.le_of_ble_eq_true rfl) dL_refusesAny_462 ⟨Nat.le_of_ble_eq_true rfl, Nat.le_of_ble_eq_true rfl⟩ ?_
                refine x_eqi (show _ = (-4 : Int32) from fd_out hS.1 hS.1.c8 (by decide)) ?_
                refine x_bipush (v := (-4)) cx dL_refusesAny_465 (by decide) ?_
                refine x_icmp_ne_f (tgt := 560) cx dL_refusesAny_467 (by decide) rfl ?_
                refine x_aload_n cx dL_refusesAny_470 rfl rfl ?_
                refine x_iload cx dL_refusesAny_471 rfl ?_
                refine x_iconst (v := nI 0) cx dL_refusesAny_473 (by decide) ?_
                refine x_Vi (C := RX6) (T := TX6) (N := 6) (rest := []) cx (c_X6_distance l G _ hS _ _) gV_L_62 ndX6_distance rfl ⟨Nat.le_of_ble_eq_true rfl, Nat.le_of_ble_eq_true rfl⟩ (zok_7 (by decide)) (by decide) (p_SC) rfl rfl rfl (Nat.le_of_ble_eq_true rfl) dL_refusesAny_474 ⟨Nat.le_of_ble_eq_true rfl, Nat.le_of_ble_eq_true rfl⟩ ?_
                refine x_eqi (show _ = (-2 : Int32) from (by unfold zDist; rw [if_pos hsx1])) ?_
                refine x_bipush (v := (-2)) cx dL_refusesAny_477 (by decide) ?_
                refine x_icmp_ne_f (tgt := 560) cx dL_refusesAny_479 (by decide) rfl ?_
                refine x_aload_n cx dL_refusesAny_482 rfl rfl ?_
                refine x_iconst (v := nI 0) cx dL_refusesAny_483 (by decide) ?_
                refine x_iload cx dL_refusesAny_484 rfl ?_
                refine x_Vi (C := RX6) (T := TX6) (N := 6) (rest := []) cx (c_X6_distance l G _ hS _ _) gV_L_62 ndX6_distance rfl ⟨Nat.le_of_ble_eq_true rfl, Nat.le_of_ble_eq_true rfl⟩ (zok_7 (by decide)) (by decide) (p_SC) rfl rfl rfl (Nat.le_of_ble_eq_true rfl) dL_refusesAny_486 ⟨Nat.le_of_ble_eq_true rfl, Nat.le_of_ble_eq_true rfl⟩ ?_
                refine x_eqi (show _ = (-2 : Int32) from (by unfold zDist; rw [if_neg (by decide), if_pos hsx1])) ?_
                refine x_bipush (v := (-2)) cx dL_refusesAny_489 (by decide) ?_
                refine x_icmp_ne_f (tgt := 560) cx dL_refusesAny_491 (by decide) rfl ?_
                refine x_aload_n cx dL_refusesAny_494 rfl rfl ?_
                refine x_iload cx dL_refusesAny_495 rfl ?_
                refine x_Vi (C := RX6) (T := TX6) (N := 6) (rest := []) cx (c_X6_peek l G _ hS _) gV_L_27 ndX6_peek rfl ⟨Nat.le_of_ble_eq_true rfl, Nat.le_of_ble_eq_true rfl⟩ (zok_7 (by decide)) (by decide) (p_SC) rfl rfl rfl (Nat.le_of_ble_eq_true rfl) dL_refusesAny_497 ⟨Nat.le_of_ble_eq_true rfl, Nat.le_of_ble_eq_true rfl⟩ ?_
                refine x_eqi (show _ = (-2 : Int32) from (by unfold zPeek; rw [if_pos hbt1])) ?_
                refine x_bipush (v := (-2)) cx dL_refusesAny_500 (by decide) ?_
                refine x_icmp_ne_f (tgt := 560) cx dL_refusesAny_502 (by decide) rfl ?_
                refine x_aload_n cx dL_refusesAny_505 rfl rfl ?_
                refine x_iload_n cx dL_refusesAny_506 rfl rfl ?_
                refine x_iload_n cx dL_refusesAny_507 rfl rfl ?_
                refine x_Vi (C := RX6) (T := TX6) (N := 6) (rest := []) cx (c_X6_ifExchanged l G _ hS _ _) gV_L_65 ndX6_ifExchanged rfl ⟨Nat.le_of_ble_eq_true rfl, Nat.le_of_ble_eq_true rfl⟩ (zok_7 (by decide)) (by decide) (p_SC) rfl rfl rfl (Nat.le_of_ble_eq_true rfl) dL_refusesAny_508 ⟨Nat.le_of_ble_eq_true rfl, Nat.le_of_ble_eq_true rfl⟩ ?_
                have he : eArg (S 0) no fr 255 = -1 := by unfold eArg; rw [if_pos hno1]
                refine x_eqi (er he (by decide)) ?_
                refine x_S (erS he (by decide)) ?_
                refine x_iconst (v := (-1)) cx dL_refusesAny_511 (by decide) ?_
                refine x_icmp_ne_f (tgt := 560) cx dL_refusesAny_512 (by decide) rfl ?_
                refine x_aload_n cx dL_refusesAny_515 rfl rfl ?_
                refine x_iconst (v := nI 0) cx dL_refusesAny_516 (by decide) ?_
                refine x_Vi (C := RX6) (T := TX6) (N := 6) (rest := []) cx (c_X6_count l G _ hS _) gV_L_14 ndX6_count rfl ⟨Nat.le_of_ble_eq_true rfl, Nat.le_of_ble_eq_true rfl⟩ (zok_7 (by decide)) (by decide) (p_SC) rfl rfl rfl (Nat.le_of_ble_eq_true rfl) dL_refusesAny_517 ⟨Nat.le_of_ble_eq_true rfl, Nat.le_of_ble_eq_true rfl⟩ ?_
                refine x_eqi (cn0 hS.1) ?_
                have K534 : Xh p l e (zrm 8 0 0 184) s m args below meth cd 7 G (MQ below (zQi G 68 (1) (pic G S)) args s 0 0 (zA G)) 0 0 68 (pic G S) 534 [some (.ref (zad G 7 0)), some (.int (nI x)), some (.int no), some (.int fr), some (.int bt), some (.int sx), some (.int (nI 1))] [] := by
                  refine x_aload_n cx dL_refusesAny_534 rfl rfl ?_
                  refine x_iload_n cx dL_refusesAny_535 rfl rfl ?_
                  refine x_iconst (v := nI 2) cx dL_refusesAny_536 (by decide) ?_
                  refine x_irem cx dL_refusesAny_537 (by decide) ?_
                  refine x_eqi (pk_rem (by omega) (by omega) (by omega)) ?_
                  refine x_if_ne_f (tgt := 546) cx dL_refusesAny_538 (by decide) (nI_ig (b := 0) (by omega)) ?_
                  refine x_bipush (v := nI 31) cx dL_refusesAny_541 (by decide) ?_
                  refine x_goto (tgt := 548) cx dL_refusesAny_543 (by decide) ?_
                  refine x_Vi (C := RX6) (T := TX6) (N := 6) (rest := []) cx (c_X6_append l G _ hS 0 hT (by decide) _) gV_L_68 ndX6_append rfl ⟨Nat.le_of_ble_eq_true rfl, Nat.le_of_ble_eq_true rfl⟩ (zok_7 (by decide)) (by decide) (p_SC) rfl rfl rfl (Nat.le_of_ble_eq_true rfl) dL_refusesAny_548 ⟨Nat.le_of_ble_eq_true rfl, Nat.le_of_ble_eq_true rfl⟩ ?_
                  have he : eApp 0 (nI 31) = -2 := by unfold eApp; rw [if_pos (by decide)]
                  refine x_eqi (er he (by decide)) ?_
                  refine x_S (erS he (by decide)) ?_
                  refine x_bipush (v := (-2)) cx dL_refusesAny_551 (by decide) ?_
                  refine x_icmp_ne_f (tgt := 560) cx dL_refusesAny_553 (by decide) rfl ?_
                  refine x_iconst (v := nI 1) cx dL_refusesAny_556 (by decide) ?_
                  refine x_goto (tgt := 561) cx dL_refusesAny_557 (by decide) ?_
                  refine x_istore (ls' := [_, _, _, _, _, _, _]) cx dL_refusesAny_561 (by decide) rfl ?_
                  refine x_iload cx dL_refusesAny_563 rfl ?_
                  refine x_if_eq_f (tgt := 595) cx dL_refusesAny_565 (by decide) (by decide) ?_
                  refine x_aload_n cx dL_refusesAny_568 rfl rfl ?_
                  refine x_Vi (C := RX6) (T := TX6) (N := 6) (rest := []) cx (c_X6_clearText l G _ hS) gV_L_71 ndX6_clearText rfl ⟨Nat.le_of_ble_eq_true rfl, Nat.le_of_ble_eq_true rfl⟩ (zok_7 (by decide)) (by decide) (p_SC) rfl rfl rfl (Nat.le_of_ble_eq_true rfl) dL_refusesAny_569 ⟨Nat.le_of_ble_eq_true rfl, Nat.le_of_ble_eq_true rfl⟩ ?_
                  refine x_eqi (hT : _ = nI 0) ?_
                  refine x_S (clr_S hT) ?_
                  refine x_if_ne_f (tgt := 595) cx dL_refusesAny_572 (by decide) (by decide) ?_
                  refine x_aload_n cx dL_refusesAny_575 rfl rfl ?_
                  refine x_Vi (C := RX6) (T := TX6) (N := 6) (rest := []) cx (c_X6_fault l G _ hS 0 hT (by decide)) gV_L_75 ndX6_fault rfl ⟨Nat.le_of_ble_eq_true rfl, Nat.le_of_ble_eq_true rfl⟩ (zok_7 (by decide)) (by decide) (p_SC) rfl rfl rfl (Nat.le_of_ble_eq_true rfl) dL_refusesAny_576 ⟨Nat.le_of_ble_eq_true rfl, Nat.le_of_ble_eq_true rfl⟩ ?_
                  refine x_eqi (show _ = nI 0 from rfl) ?_
                  refine x_if_ne_f (tgt := 595) cx dL_refusesAny_579 (by decide) (by decide) ?_
                  refine x_aload_n cx dL_refusesAny_582 rfl rfl ?_
                  refine x_Vi (C := RX6) (T := TX6) (N := 6) (rest := []) cx (c_X6_run l G _ hS 0 hT (by decide)) gV_L_78 ndX6_run rfl ⟨Nat.le_of_ble_eq_true rfl, Nat.le_of_ble_eq_true rfl⟩ (zok_7 (by decide)) (by decide) (p_SC) rfl rfl rfl (Nat.le_of_ble_eq_true rfl) dL_refusesAny_583 ⟨Nat.le_of_ble_eq_true rfl, Nat.le_of_ble_eq_true rfl⟩ ?_
                  refine x_eqi (rn_a _) ?_
                  refine x_S (rn_S _) ?_
                  refine x_bipush (v := (-100)) cx dL_refusesAny_586 (by decide) ?_
                  refine x_icmp_ne_f (tgt := 595) cx dL_refusesAny_588 (by decide) rfl ?_
                  refine x_iconst (v := nI 1) cx dL_refusesAny_591 (by decide) ?_
                  refine x_goto (tgt := 596) cx dL_refusesAny_592 (by decide) ?_
                  exact x_zret cx hr rfl (by first | exact Or.inl rfl | exact Or.inr rfl) (fun _ _ _ _ => rfl) dL_refusesAny_596
                refine x_if_eq (tgt := 534) cx dL_refusesAny_520 (by decide) (fun hb520 => ?_) (fun hb520 => ?_)
                · exact K534
                · refine x_aload_n cx dL_refusesAny_523 rfl rfl ?_
                  refine x_iconst (v := nI 0) cx dL_refusesAny_524 (by decide) ?_
                  refine x_iload_n cx dL_refusesAny_525 rfl rfl ?_
                  refine x_Vi (C := RX6) (T := TX6) (N := 6) (rest := []) cx (c_X6_ifExchanged l G _ hS _ _) gV_L_65 ndX6_ifExchanged rfl ⟨Nat.le_of_ble_eq_true rfl, Nat.le_of_ble_eq_true rfl⟩ (zok_7 (by decide)) (by decide) (p_SC) rfl rfl rfl (Nat.le_of_ble_eq_true rfl) dL_refusesAny_526 ⟨Nat.le_of_ble_eq_true rfl, Nat.le_of_ble_eq_true rfl⟩ ?_
                  have he : eArg (S 0) (nI 0) fr 255 = -2 := by unfold eArg; rw [if_neg (has_in hS.1 (t := 0) (Nat.pos_of_ne_zero fun z => hb520 (nI_ig z))), if_pos hfr1]
                  refine x_eqi (er he (by decide)) ?_
                  refine x_S (erS he (by decide)) ?_
                  refine x_bipush (v := (-2)) cx dL_refusesAny_529 (by decide) ?_
                  refine x_icmp_ne_f (tgt := 560) cx dL_refusesAny_531 (by decide) rfl ?_
                  exact K534
              refine x_if_eq (tgt := 423) cx dL_refusesAny_398 (by decide) (fun hb398 => ?_) (fun hb398 => ?_)
              · exact K423
              · refine x_aload_n cx dL_refusesAny_401 rfl rfl ?_
                refine x_iconst (v := nI 0) cx dL_refusesAny_402 (by decide) ?_
                refine x_iload_n cx dL_refusesAny_403 rfl rfl ?_
                refine x_iconst (v := nI 2) cx dL_refusesAny_404 (by decide) ?_
                refine x_irem cx dL_refusesAny_405 (by decide) ?_
                refine x_eqi (pk_rem (by omega) (by omega) (by omega)) ?_
                refine x_if_ne_f (tgt := 413) cx dL_refusesAny_406 (by decide) (nI_ig (b := 0) (by omega)) ?_
                refine x_iconst (v := (-1)) cx dL_refusesAny_409 (by decide) ?_
                refine x_goto (tgt := 415) cx dL_refusesAny_410 (by decide) ?_
                refine x_Vi (C := RX6) (T := TX6) (N := 6) (rest := []) cx (c_X6_chip l G _ hS _ _) gV_L_20 ndX6_chip rfl ⟨Nat.le_of_ble_eq_true rfl, Nat.le_of_ble_eq_true rfl⟩ (zok_7 (by decide)) (by decide) (p_SC) rfl rfl rfl (Nat.le_of_ble_eq_true rfl) dL_refusesAny_415 ⟨Nat.le_of_ble_eq_true rfl, Nat.le_of_ble_eq_true rfl⟩ ?_
                refine x_eqi (show _ = (-2 : Int32) from (tl_in hS.1 (t := 0) (Nat.pos_of_ne_zero fun z => hb398 (nI_ig z)) _).trans (zTell_out (by decide))) ?_
                refine x_bipush (v := (-2)) cx dL_refusesAny_418 (by decide) ?_
                refine x_icmp_ne_f (tgt := 560) cx dL_refusesAny_420 (by decide) rfl ?_
                exact K423
            refine x_if_eq (tgt := 370) cx dL_refusesAny_356 (by decide) (fun hb356 => ?_) (fun hb356 => ?_)
            · exact K370
            · refine x_aload_n cx dL_refusesAny_359 rfl rfl ?_
              refine x_iconst (v := nI 0) cx dL_refusesAny_360 (by decide) ?_
              refine x_iload_n cx dL_refusesAny_361 rfl rfl ?_
              refine x_Vi (C := RX6) (T := TX6) (N := 6) (rest := []) cx (c_X6_exchange l G _ hS _ _) gV_L_59 ndX6_exchange rfl ⟨Nat.le_of_ble_eq_true rfl, Nat.le_of_ble_eq_true rfl⟩ (zok_7 (by decide)) (by decide) (p_SC) rfl rfl rfl (Nat.le_of_ble_eq_true rfl) dL_refusesAny_362 ⟨Nat.le_of_ble_eq_true rfl, Nat.le_of_ble_eq_true rfl⟩ ?_
              have he : eArg (S 0) (nI 0) fr 255 = -2 := by unfold eArg; rw [if_neg (has_in hS.1 (t := 0) (Nat.pos_of_ne_zero fun z => hb356 (nI_ig z))), if_pos hfr1]
              refine x_eqi (er he (by decide)) ?_
              refine x_S (erS he (by decide)) ?_
              refine x_bipush (v := (-2)) cx dL_refusesAny_365 (by decide) ?_
              refine x_icmp_ne_f (tgt := 374) cx dL_refusesAny_367 (by decide) rfl ?_
              exact K370
          refine x_if_eq (tgt := 341) cx dL_refusesAny_316 (by decide) (fun hb316 => ?_) (fun hb316 => ?_)
          · exact K341
          · refine x_aload_n cx dL_refusesAny_319 rfl rfl ?_
            refine x_iconst (v := nI 0) cx dL_refusesAny_320 (by decide) ?_
            refine x_iload_n cx dL_refusesAny_321 rfl rfl ?_
            refine x_iconst (v := nI 2) cx dL_refusesAny_322 (by decide) ?_
            refine x_irem cx dL_refusesAny_323 (by decide) ?_
            refine x_eqi (pk_rem (by omega) (by omega) (by omega)) ?_
            refine x_if_ne_f (tgt := 331) cx dL_refusesAny_324 (by decide) (nI_ig (b := 0) (by omega)) ?_
            refine x_iconst (v := (-1)) cx dL_refusesAny_327 (by decide) ?_
            refine x_goto (tgt := 333) cx dL_refusesAny_328 (by decide) ?_
            refine x_Vi (C := RX6) (T := TX6) (N := 6) (rest := []) cx (c_X6_load l G _ hS _ _) gV_L_56 ndX6_load rfl ⟨Nat.le_of_ble_eq_true rfl, Nat.le_of_ble_eq_true rfl⟩ (zok_7 (by decide)) (by decide) (p_SC) rfl rfl rfl (Nat.le_of_ble_eq_true rfl) dL_refusesAny_333 ⟨Nat.le_of_ble_eq_true rfl, Nat.le_of_ble_eq_true rfl⟩ ?_
            have he : eArg (S 0) (nI 0) (-1) 63 = -2 := by unfold eArg; rw [if_neg (has_in hS.1 (t := 0) (Nat.pos_of_ne_zero fun z => hb316 (nI_ig z))), if_pos (by decide)]
            refine x_eqi (er he (by decide)) ?_
            refine x_S (erS he (by decide)) ?_
            refine x_bipush (v := (-2)) cx dL_refusesAny_336 (by decide) ?_
            refine x_icmp_ne_f (tgt := 374) cx dL_refusesAny_338 (by decide) rfl ?_
            exact K341
        refine x_if_eq (tgt := 255) cx dL_refusesAny_241 (by decide) (fun hb241 => ?_) (fun hb241 => ?_)
        · exact K255
        · refine x_aload_n cx dL_refusesAny_244 rfl rfl ?_
          refine x_iconst (v := nI 0) cx dL_refusesAny_245 (by decide) ?_
          refine x_iload_n cx dL_refusesAny_246 rfl rfl ?_
          refine x_Vi (C := RX6) (T := TX6) (N := 6) (rest := []) cx (c_X6_setPins l G _ hS _ _) gV_L_43 ndX6_setPins rfl ⟨Nat.le_of_ble_eq_true rfl, Nat.le_of_ble_eq_true rfl⟩ (zok_7 (by decide)) (by decide) (p_SC) rfl rfl rfl (Nat.le_of_ble_eq_true rfl) dL_refusesAny_247 ⟨Nat.le_of_ble_eq_true rfl, Nat.le_of_ble_eq_true rfl⟩ ?_
          have he : eArg (S 0) (nI 0) fr 255 = -2 := by unfold eArg; rw [if_neg (has_in hS.1 (t := 0) (Nat.pos_of_ne_zero fun z => hb241 (nI_ig z))), if_pos hfr1]
          refine x_eqi (er he (by decide)) ?_
          refine x_S (erS he (by decide)) ?_
          refine x_bipush (v := (-2)) cx dL_refusesAny_250 (by decide) ?_
          refine x_icmp_ne_f (tgt := 374) cx dL_refusesAny_252 (by decide) rfl ?_
          exact K255
      refine x_icmp_lt (tgt := 204) cx dL_refusesAny_189 (by decide) (fun hb189 => ?_) (fun hb189 => ?_)
      · exact K204
      · refine x_aload_n cx dL_refusesAny_192 rfl rfl ?_
        refine x_iconst (v := nI 2) cx dL_refusesAny_193 (by decide) ?_
        refine x_iconst (v := nI 0) cx dL_refusesAny_194 (by decide) ?_
        refine x_iconst (v := nI 1) cx dL_refusesAny_195 (by decide) ?_
        refine x_Vi (C := RX6) (T := TX6) (N := 6) (rest := []) cx (c_X6_add l G _ hS _ _ _) gV_L_34 ndX6_add rfl ⟨Nat.le_of_ble_eq_true rfl, Nat.le_of_ble_eq_true rfl⟩ (zok_7 (by decide)) (by decide) (p_SC) rfl rfl rfl (Nat.le_of_ble_eq_true rfl) dL_refusesAny_196 ⟨Nat.le_of_ble_eq_true rfl, Nat.le_of_ble_eq_true rfl⟩ ?_
        have he : eAdd (S 0) (nI 2) (nI 0) (nI 1) = -3 := ad_full hS.1 (Nat.not_lt.mp fun z => hb189 (nI_lt z (by decide))) (by decide) (by decide) (by decide)
        refine x_eqi (er he (by decide)) ?_
        refine x_S (erS he (by decide)) ?_
        refine x_bipush (v := (-3)) cx dL_refusesAny_199 (by decide) ?_
        refine x_icmp_ne_f (tgt := 374) cx dL_refusesAny_201 (by decide) rfl ?_
        exact K204
    refine x_if_ne (tgt := 136) cx dL_refusesAny_122 (by decide) (fun hb122 => ?_) (fun hb122 => ?_)
    · refine x_iload_n cx dL_refusesAny_136 rfl rfl ?_
      refine x_iconst (v := nI 3) cx dL_refusesAny_137 (by decide) ?_
      refine x_irem cx dL_refusesAny_138 (by decide) ?_
      refine x_eqi (pk_rem (by omega) (by omega) (by omega)) ?_
      refine x_iconst (v := nI 1) cx dL_refusesAny_139 (by decide) ?_
      refine x_icmp_ne (tgt := 149) cx dL_refusesAny_140 (by decide) (fun hb140 => ?_) (fun hb140 => ?_)
      · refine x_iconst (v := (-1)) cx dL_refusesAny_149 (by decide) ?_
        exact K150 _ (by decide)
      · refine x_sipush (v := nI 255) cx dL_refusesAny_143 (by decide) ?_
        refine x_goto (tgt := 150) cx dL_refusesAny_146 (by decide) ?_
        exact K150 _ (by decide)
    · refine x_iconst (v := nI 2) cx dL_refusesAny_125 (by decide) ?_
      refine x_iload_n cx dL_refusesAny_126 rfl rfl ?_
      refine x_bipush (v := nI 126) cx dL_refusesAny_127 (by decide) ?_
      refine x_irem cx dL_refusesAny_129 (by decide) ?_
      refine x_eqi (pk_rem (by omega) (by omega) (by omega)) ?_
      refine x_iconst (v := nI 2) cx dL_refusesAny_130 (by decide) ?_
      refine x_imul cx dL_refusesAny_131 ?_
      refine x_eqi (nI_mulN _ _) ?_
      refine x_iadd cx dL_refusesAny_132 ?_
      refine x_eqi (nI_add _ _) ?_
      refine x_goto (tgt := 150) cx dL_refusesAny_133 (by decide) ?_
      exact K150 _ (id_t _ (Nat.mod_lt _ (by decide)))
  · have h6 := hS.1.n6
    refine x_iload_n cx dL_refusesAny_0 rfl rfl ?_
    refine x_iconst (v := nI 2) cx dL_refusesAny_1 (by decide) ?_
    refine x_irem cx dL_refusesAny_2 (by decide) ?_
    refine x_eqi (pk_rem (by omega) (by omega) (by omega)) ?_
    refine x_if_ne_t (tgt := 15) cx dL_refusesAny_3 (by decide) (nI_ne0 (by omega) (by omega)) ?_
    refine x_bipush (v := nI 6) cx dL_refusesAny_15 (by decide) ?_
    refine x_iload_n cx dL_refusesAny_17 rfl rfl ?_
    refine x_bipush (v := nI 99) cx dL_refusesAny_18 (by decide) ?_
    refine x_irem cx dL_refusesAny_20 (by decide) ?_
    refine x_eqi (pk_rem (by omega) (by omega) (by omega)) ?_
    refine x_iadd cx dL_refusesAny_21 ?_
    refine x_eqi (nI_add _ _) ?_
    refine x_topi fun no hno => ?_
    have hno1 : zHas (S 0) no = 0 := by rw [hno]; exact has_out hS.1 (by omega) (by omega)
    refine x_istore_n (ls' := [_, _, _, _, _, _, _]) cx dL_refusesAny_22 rfl (by decide) rfl ?_
    refine x_iload_n cx dL_refusesAny_23 rfl rfl ?_
    refine x_iconst (v := nI 2) cx dL_refusesAny_24 (by decide) ?_
    refine x_irem cx dL_refusesAny_25 (by decide) ?_
    refine x_eqi (pk_rem (by omega) (by omega) (by omega)) ?_
    refine x_if_ne_t (tgt := 38) cx dL_refusesAny_26 (by decide) (nI_ne0 (by omega) (by omega)) ?_
    refine x_sipush (v := nI 256) cx dL_refusesAny_38 (by decide) ?_
    refine x_iload_n cx dL_refusesAny_41 rfl rfl ?_
    refine x_bipush (v := nI 99) cx dL_refusesAny_42 (by decide) ?_
    refine x_irem cx dL_refusesAny_44 (by decide) ?_
    refine x_eqi (pk_rem (by omega) (by omega) (by omega)) ?_
    refine x_iadd cx dL_refusesAny_45 ?_
    refine x_eqi (nI_add _ _) ?_
    refine x_topi fun fr hfr => ?_
    have hfr1 : zin fr 0 255 = 0 := by rw [hfr]; exact zin_hi (nI_lt (a := 255) (by omega) (by omega))
    refine x_istore_n (ls' := [_, _, _, _, _, _, _]) cx dL_refusesAny_46 rfl (by decide) rfl ?_
    refine x_iload_n cx dL_refusesAny_47 rfl rfl ?_
    refine x_iconst (v := nI 2) cx dL_refusesAny_48 (by decide) ?_
    refine x_irem cx dL_refusesAny_49 (by decide) ?_
    refine x_eqi (pk_rem (by omega) (by omega) (by omega)) ?_
    refine x_if_ne_t (tgt := 62) cx dL_refusesAny_50 (by decide) (nI_ne0 (by omega) (by omega)) ?_
    refine x_iconst (v := nI 2) cx dL_refusesAny_62 (by decide) ?_
    refine x_iload_n cx dL_refusesAny_63 rfl rfl ?_
    refine x_bipush (v := nI 99) cx dL_refusesAny_64 (by decide) ?_
    refine x_irem cx dL_refusesAny_66 (by decide) ?_
    refine x_eqi (pk_rem (by omega) (by omega) (by omega)) ?_
    refine x_iadd cx dL_refusesAny_67 ?_
    refine x_eqi (nI_add _ _) ?_
    refine x_topi fun bt hbt => ?_
    have hbt1 : zin bt 0 1 = 0 := by rw [hbt]; exact zin_hi (nI_lt (a := 1) (by omega) (by omega))
    refine x_istore (ls' := [_, _, _, _, _, _, _]) cx dL_refusesAny_68 (by decide) rfl ?_
    refine x_iload_n cx dL_refusesAny_70 rfl rfl ?_
    refine x_iconst (v := nI 2) cx dL_refusesAny_71 (by decide) ?_
    refine x_irem cx dL_refusesAny_72 (by decide) ?_
    refine x_eqi (pk_rem (by omega) (by omega) (by omega)) ?_
    refine x_if_ne_t (tgt := 85) cx dL_refusesAny_73 (by decide) (nI_ne0 (by omega) (by omega)) ?_
    refine x_bipush (v := nI 16) cx dL_refusesAny_85 (by decide) ?_
    refine x_iload_n cx dL_refusesAny_87 rfl rfl ?_
    refine x_bipush (v := nI 99) cx dL_refusesAny_88 (by decide) ?_
    refine x_irem cx dL_refusesAny_90 (by decide) ?_
    refine x_eqi (pk_rem (by omega) (by omega) (by omega)) ?_
    refine x_iadd cx dL_refusesAny_91 ?_
    refine x_eqi (nI_add _ _) ?_
    refine x_topi fun sx hsx => ?_
    have hsx1 : zis sx = 0 := by rw [hsx]; exact zis_hi (nI_le (a := 16) (by omega) (by omega))
    refine x_istore (ls' := [_, _, _, _, _, _, _]) cx dL_refusesAny_92 (by decide) rfl ?_
    refine x_aload_n cx dL_refusesAny_94 rfl rfl ?_
    refine x_iload_n cx dL_refusesAny_95 rfl rfl ?_
    refine x_iconst (v := nI 2) cx dL_refusesAny_96 (by decide) ?_
    refine x_irem cx dL_refusesAny_97 (by decide) ?_
    refine x_eqi (pk_rem (by omega) (by omega) (by omega)) ?_
    refine x_if_ne_t (tgt := 105) cx dL_refusesAny_98 (by decide) (nI_ne0 (by omega) (by omega)) ?_
    refine x_bipush (v := nI 7) cx dL_refusesAny_105 (by decide) ?_
    refine x_iconst (v := nI 0) cx dL_refusesAny_107 (by decide) ?_
    refine x_iconst (v := nI 1) cx dL_refusesAny_108 (by decide) ?_
    refine x_Vi (C := RX6) (T := TX6) (N := 6) (rest := []) cx (c_X6_add l G _ hS _ _ _) gV_L_34 ndX6_add rfl ⟨Nat.le_of_ble_eq_true rfl, Nat.le_of_ble_eq_true rfl⟩ (zok_7 (by decide)) (by decide) (p_SC) rfl rfl rfl (Nat.le_of_ble_eq_true rfl) dL_refusesAny_109 ⟨Nat.le_of_ble_eq_true rfl, Nat.le_of_ble_eq_true rfl⟩ ?_
    have he : eAdd (S 0) (nI 7) (nI 0) (nI 1) = -2 := by unfold eAdd; rw [if_pos (by decide)]
    refine x_eqi (er he (by decide)) ?_
    refine x_S (erS he (by decide)) ?_
    refine x_bipush (v := (-2)) cx dL_refusesAny_112 (by decide) ?_
    refine x_icmp_ne_f (tgt := 374) cx dL_refusesAny_114 (by decide) rfl ?_
    refine x_aload_n cx dL_refusesAny_117 rfl rfl ?_
    refine x_iconst (v := nI 2) cx dL_refusesAny_118 (by decide) ?_
    refine x_iload_n cx dL_refusesAny_119 rfl rfl ?_
    refine x_iconst (v := nI 3) cx dL_refusesAny_120 (by decide) ?_
    refine x_irem cx dL_refusesAny_121 (by decide) ?_
    refine x_eqi (pk_rem (by omega) (by omega) (by omega)) ?_
    have K150 : ∀ v : Int32, zisId v = 0 → Xh p l e (zrm 8 0 0 184) s m args below meth cd 7 G (MQ below (zQi G 68 (1) (pic G S)) args s 0 0 (zA G)) 0 0 68 (pic G S) 150 [some (.ref (zad G 7 0)), some (.int (nI x)), some (.int no), some (.int fr), some (.int bt), some (.int sx), none] [.int v, .int (nI 2), .ref (zad G 7 0)] := by
      intro v hv
      refine x_iconst (v := nI 1) cx dL_refusesAny_150 (by decide) ?_
      refine x_Vi (C := RX6) (T := TX6) (N := 6) (rest := []) cx (c_X6_add l G _ hS _ _ _) gV_L_34 ndX6_add rfl ⟨Nat.le_of_ble_eq_true rfl, Nat.le_of_ble_eq_true rfl⟩ (zok_7 (by decide)) (by decide) (p_SC) rfl rfl rfl (Nat.le_of_ble_eq_true rfl) dL_refusesAny_151 ⟨Nat.le_of_ble_eq_true rfl, Nat.le_of_ble_eq_true rfl⟩ ?_
      have he : eAdd (S 0) (nI 2) (v) (nI 1) = -2 := by unfold eAdd; rw [if_neg (by decide), if_pos hv]
      refine x_eqi (er he (by decide)) ?_
      refine x_S (erS he (by decide)) ?_
      refine x_bipush (v := (-2)) cx dL_refusesAny_154 (by decide) ?_
      refine x_icmp_ne_f (tgt := 374) cx dL_refusesAny_156 (by decide) rfl ?_
      refine x_aload_n cx dL_refusesAny_159 rfl rfl ?_
      refine x_iconst (v := nI 2) cx dL_refusesAny_160 (by decide) ?_
      refine x_iconst (v := nI 0) cx dL_refusesAny_161 (by decide) ?_
      refine x_iload_n cx dL_refusesAny_162 rfl rfl ?_
      refine x_iconst (v := nI 2) cx dL_refusesAny_163 (by decide) ?_
      refine x_irem cx dL_refusesAny_164 (by decide) ?_
      refine x_eqi (pk_rem (by omega) (by omega) (by omega)) ?_
      refine x_if_ne_t (tgt := 172) cx dL_refusesAny_165 (by decide) (nI_ne0 (by omega) (by omega)) ?_
      refine x_bipush (v := nI 9) cx dL_refusesAny_172 (by decide) ?_
      refine x_Vi (C := RX6) (T := TX6) (N := 6) (rest := []) cx (c_X6_add l G _ hS _ _ _) gV_L_34 ndX6_add rfl ⟨Nat.le_of_ble_eq_true rfl, Nat.le_of_ble_eq_true rfl⟩ (zok_7 (by decide)) (by decide) (p_SC) rfl rfl rfl (Nat.le_of_ble_eq_true rfl) dL_refusesAny_174 ⟨Nat.le_of_ble_eq_true rfl, Nat.le_of_ble_eq_true rfl⟩ ?_
      have he : eAdd (S 0) (nI 2) (nI 0) (nI 9) = -2 := by unfold eAdd; rw [if_neg (by decide), if_neg (by decide), if_pos (by decide)]
      refine x_eqi (er he (by decide)) ?_
      refine x_S (erS he (by decide)) ?_
      refine x_bipush (v := (-2)) cx dL_refusesAny_177 (by decide) ?_
      refine x_icmp_ne_f (tgt := 374) cx dL_refusesAny_179 (by decide) rfl ?_
      refine x_aload_n cx dL_refusesAny_182 rfl rfl ?_
      refine x_iconst (v := nI 0) cx dL_refusesAny_183 (by decide) ?_
      refine x_Vi (C := RX6) (T := TX6) (N := 6) (rest := []) cx (c_X6_count l G _ hS _) gV_L_14 ndX6_count rfl ⟨Nat.le_of_ble_eq_true rfl, Nat.le_of_ble_eq_true rfl⟩ (zok_7 (by decide)) (by decide) (p_SC) rfl rfl rfl (Nat.le_of_ble_eq_true rfl) dL_refusesAny_184 ⟨Nat.le_of_ble_eq_true rfl, Nat.le_of_ble_eq_true rfl⟩ ?_
      refine x_eqi (cn0 hS.1) ?_
      refine x_bipush (v := nI 6) cx dL_refusesAny_187 (by decide) ?_
      have K204 : Xh p l e (zrm 8 0 0 184) s m args below meth cd 7 G (MQ below (zQi G 68 (1) (pic G S)) args s 0 0 (zA G)) 0 0 68 (pic G S) 204 [some (.ref (zad G 7 0)), some (.int (nI x)), some (.int no), some (.int fr), some (.int bt), some (.int sx), none] [] := by
        refine x_aload_n cx dL_refusesAny_204 rfl rfl ?_
        refine x_iload_n cx dL_refusesAny_205 rfl rfl ?_
        refine x_Vi (C := RX6) (T := TX6) (N := 6) (rest := []) cx (c_X6_take l G _ hS _) gV_L_40 ndX6_take rfl ⟨Nat.le_of_ble_eq_true rfl, Nat.le_of_ble_eq_true rfl⟩ (zok_7 (by decide)) (by decide) (p_SC) rfl rfl rfl (Nat.le_of_ble_eq_true rfl) dL_refusesAny_206 ⟨Nat.le_of_ble_eq_true rfl, Nat.le_of_ble_eq_true rfl⟩ ?_
        have he : eHas (S 0) no = -1 := by unfold eHas; rw [if_pos hno1]
        refine x_eqi (er he (by decide)) ?_
        refine x_S (erS he (by decide)) ?_
        refine x_iconst (v := (-1)) cx dL_refusesAny_209 (by decide) ?_
        refine x_icmp_ne_f (tgt := 374) cx dL_refusesAny_210 (by decide) rfl ?_
        refine x_aload_n cx dL_refusesAny_213 rfl rfl ?_
        refine x_aload_n cx dL_refusesAny_214 rfl rfl ?_
        refine x_iconst (v := nI 0) cx dL_refusesAny_215 (by decide) ?_
        refine x_Vi (C := RX6) (T := TX6) (N := 6) (rest := [_]) cx (c_X6_count l G _ hS _) gV_L_14 ndX6_count rfl ⟨Nat.le_of_ble_eq_true rfl, Nat.le_of_ble_eq_true rfl⟩ (zok_7 (by decide)) (by decide) (p_SC) rfl rfl rfl (Nat.le_of_ble_eq_true rfl) dL_refusesAny_216 ⟨Nat.le_of_ble_eq_true rfl, Nat.le_of_ble_eq_true rfl⟩ ?_
        refine x_eqi (cn0 hS.1) ?_
        refine x_Vi (C := RX6) (T := TX6) (N := 6) (rest := []) cx (c_X6_take l G _ hS _) gV_L_40 ndX6_take rfl ⟨Nat.le_of_ble_eq_true rfl, Nat.le_of_ble_eq_true rfl⟩ (zok_7 (by decide)) (by decide) (p_SC) rfl rfl rfl (Nat.le_of_ble_eq_true rfl) dL_refusesAny_219 ⟨Nat.le_of_ble_eq_true rfl, Nat.le_of_ble_eq_true rfl⟩ ?_
        have he : eHas (S 0) (nI (num (S 0))) = -1 := by unfold eHas; rw [if_pos (has_out hS.1 (Nat.le_refl _) (by omega))]
        refine x_eqi (er he (by decide)) ?_
        refine x_S (erS he (by decide)) ?_
        refine x_iconst (v := (-1)) cx dL_refusesAny_222 (by decide) ?_
        refine x_icmp_ne_f (tgt := 374) cx dL_refusesAny_223 (by decide) rfl ?_
        refine x_aload_n cx dL_refusesAny_226 rfl rfl ?_
        refine x_iload_n cx dL_refusesAny_227 rfl rfl ?_
        refine x_iload_n cx dL_refusesAny_228 rfl rfl ?_
        refine x_Vi (C := RX6) (T := TX6) (N := 6) (rest := []) cx (c_X6_setPins l G _ hS _ _) gV_L_43 ndX6_setPins rfl ⟨Nat.le_of_ble_eq_true rfl, Nat.le_of_ble_eq_true rfl⟩ (zok_7 (by decide)) (by decide) (p_SC) rfl rfl rfl (Nat.le_of_ble_eq_true rfl) dL_refusesAny_229 ⟨Nat.le_of_ble_eq_true rfl, Nat.le_of_ble_eq_true rfl⟩ ?_
        have he : eArg (S 0) no fr 255 = -1 := by unfold eArg; rw [if_pos hno1]
        refine x_eqi (er he (by decide)) ?_
        refine x_S (erS he (by decide)) ?_
        refine x_iconst (v := (-1)) cx dL_refusesAny_232 (by decide) ?_
        refine x_icmp_ne_f (tgt := 374) cx dL_refusesAny_233 (by decide) rfl ?_
        refine x_aload_n cx dL_refusesAny_236 rfl rfl ?_
        refine x_iconst (v := nI 0) cx dL_refusesAny_237 (by decide) ?_
        refine x_Vi (C := RX6) (T := TX6) (N := 6) (rest := []) cx (c_X6_count l G _ hS _) gV_L_14 ndX6_count rfl ⟨Nat.le_of_ble_eq_true rfl, Nat.le_of_ble_eq_true rfl⟩ (zok_7 (by decide)) (by decide) (p_SC) rfl rfl rfl (Nat.le_of_ble_eq_true rfl) dL_refusesAny_238 ⟨Nat.le_of_ble_eq_true rfl, Nat.le_of_ble_eq_true rfl⟩ ?_
        refine x_eqi (cn0 hS.1) ?_
        have K255 : Xh p l e (zrm 8 0 0 184) s m args below meth cd 7 G (MQ below (zQi G 68 (1) (pic G S)) args s 0 0 (zA G)) 0 0 68 (pic G S) 255 [some (.ref (zad G 7 0)), some (.int (nI x)), some (.int no), some (.int fr), some (.int bt), some (.int sx), none] [] := by
          refine x_aload_n cx dL_refusesAny_255 rfl rfl ?_
          refine x_iload_n cx dL_refusesAny_256 rfl rfl ?_
          refine x_iconst (v := nI 1) cx dL_refusesAny_257 (by decide) ?_
          refine x_Vi (C := RX6) (T := TX6) (N := 6) (rest := []) cx (c_X6_breakChip l G _ hS _ _ (Or.inr rfl)) gV_L_46 ndX6_breakChip rfl ⟨Nat.le_of_ble_eq_true rfl, Nat.le_of_ble_eq_true rfl⟩ (zok_7 (by decide)) (by decide) (p_SC) rfl rfl rfl (Nat.le_of_ble_eq_true rfl) dL_refusesAny_258 ⟨Nat.le_of_ble_eq_true rfl, Nat.le_of_ble_eq_true rfl⟩ ?_
          have he : eHas (S 0) no = -1 := by unfold eHas; rw [if_pos hno1]
          refine x_eqi (er he (by decide)) ?_
          refine x_S (erS he (by decide)) ?_
          refine x_iconst (v := (-1)) cx dL_refusesAny_261 (by decide) ?_
          refine x_icmp_ne_f (tgt := 374) cx dL_refusesAny_262 (by decide) rfl ?_
          refine x_aload_n cx dL_refusesAny_265 rfl rfl ?_
          refine x_iload cx dL_refusesAny_266 rfl ?_
          refine x_iconst (v := nI 0) cx dL_refusesAny_268 (by decide) ?_
          refine x_Vi (C := RX6) (T := TX6) (N := 6) (rest := []) cx (c_X6_clock l G _ hS _ _) gV_L_50 ndX6_clock rfl ⟨Nat.le_of_ble_eq_true rfl, Nat.le_of_ble_eq_true rfl⟩ (zok_7 (by decide)) (by decide) (p_SC) rfl rfl rfl (Nat.le_of_ble_eq_true rfl) dL_refusesAny_269 ⟨Nat.le_of_ble_eq_true rfl, Nat.le_of_ble_eq_true rfl⟩ ?_
          have he : eClk bt (nI 0) = -2 := by unfold eClk; rw [if_pos hbt1]
          refine x_eqi (er he (by decide)) ?_
          refine x_S (erS he (by decide)) ?_
          refine x_bipush (v := (-2)) cx dL_refusesAny_272 (by decide) ?_
          refine x_icmp_ne_f (tgt := 374) cx dL_refusesAny_274 (by decide) rfl ?_
          refine x_aload_n cx dL_refusesAny_277 rfl rfl ?_
          refine x_iconst (v := nI 0) cx dL_refusesAny_278 (by decide) ?_
          refine x_iload cx dL_refusesAny_279 rfl ?_
          refine x_Vi (C := RX6) (T := TX6) (N := 6) (rest := []) cx (c_X6_clock l G _ hS _ _) gV_L_50 ndX6_clock rfl ⟨Nat.le_of_ble_eq_true rfl, Nat.le_of_ble_eq_true rfl⟩ (zok_7 (by decide)) (by decide) (p_SC) rfl rfl rfl (Nat.le_of_ble_eq_true rfl) dL_refusesAny_281 ⟨Nat.le_of_ble_eq_true rfl, Nat.le_of_ble_eq_true rfl⟩ ?_
          have he : eClk (nI 0) bt = -2 := by unfold eClk; rw [if_neg (by decide), if_pos hbt1]
          refine x_eqi (er he (by decide)) ?_
          refine x_S (erS he (by decide)) ?_
          refine x_bipush (v := (-2)) cx dL_refusesAny_284 (by decide) ?_
          refine x_icmp_ne_f (tgt := 374) cx dL_refusesAny_286 (by decide) rfl ?_
          refine x_aload_n cx dL_refusesAny_289 rfl rfl ?_
          refine x_iload cx dL_refusesAny_290 rfl ?_
          refine x_Vi (C := RX6) (T := TX6) (N := 6) (rest := []) cx (c_X6_move l G _ hS _) gV_L_53 ndX6_move rfl ⟨Nat.le_of_ble_eq_true rfl, Nat.le_of_ble_eq_true rfl⟩ (zok_7 (by decide)) (by decide) (p_SC) rfl rfl rfl (Nat.le_of_ble_eq_true rfl) dL_refusesAny_292 ⟨Nat.le_of_ble_eq_true rfl, Nat.le_of_ble_eq_true rfl⟩ ?_
          have he : eMov sx = -2 := by unfold eMov; rw [if_pos hsx1]
          refine x_eqi (er he (by decide)) ?_
          refine x_S (erS he (by decide)) ?_
          refine x_bipush (v := (-2)) cx dL_refusesAny_295 (by decide) ?_
          refine x_icmp_ne_f (tgt := 374) cx dL_refusesAny_297 (by decide) rfl ?_
          refine x_aload_n cx dL_refusesAny_300 rfl rfl ?_
          refine x_iload_n cx dL_refusesAny_301 rfl rfl ?_
          refine x_bipush (v := nI 99) cx dL_refusesAny_302 (by decide) ?_
          refine x_Vi (C := RX6) (T := TX6) (N := 6) (rest := []) cx (c_X6_load l G _ hS _ _) gV_L_56 ndX6_load rfl ⟨Nat.le_of_ble_eq_true rfl, Nat.le_of_ble_eq_true rfl⟩ (zok_7 (by decide)) (by decide) (p_SC) rfl rfl rfl (Nat.le_of_ble_eq_true rfl) dL_refusesAny_304 ⟨Nat.le_of_ble_eq_true rfl, Nat.le_of_ble_eq_true rfl⟩ ?_
          have he : eArg (S 0) no (nI 99) 63 = -1 := by unfold eArg; rw [if_pos hno1]
          refine x_eqi (er he (by decide)) ?_
          refine x_S (erS he (by decide)) ?_
          refine x_iconst (v := (-1)) cx dL_refusesAny_307 (by decide) ?_
          refine x_icmp_ne_f (tgt := 374) cx dL_refusesAny_308 (by decide) rfl ?_
          refine x_aload_n cx dL_refusesAny_311 rfl rfl ?_
          refine x_iconst (v := nI 0) cx dL_refusesAny_312 (by decide) ?_
          refine x_Vi (C := RX6) (T := TX6) (N := 6) (rest := []) cx (c_X6_count l G _ hS _) gV_L_14 ndX6_count rfl ⟨Nat.le_of_ble_eq_true rfl, Nat.le_of_ble_eq_true rfl⟩ (zok_7 (by decide)) (by decide) (p_SC) rfl rfl rfl (Nat.le_of_ble_eq_true rfl) dL_refusesAny_313 ⟨Nat.le_of_ble_eq_true rfl, Nat.le_of_ble_eq_true rfl⟩ ?_
          refine x_eqi (cn0 hS.1) ?_
          have K341 : Xh p l e (zrm 8 0 0 184) s m args below meth cd 7 G (MQ below (zQi G 68 (1) (pic G S)) args s 0 0 (zA G)) 0 0 68 (pic G S) 341 [some (.ref (zad G 7 0)), some (.int (nI x)), some (.int no), some (.int fr), some (.int bt), some (.int sx), none] [] := by
            refine x_aload_n cx dL_refusesAny_341 rfl rfl ?_
            refine x_iload_n cx dL_refusesAny_342 rfl rfl ?_
            refine x_iload_n cx dL_refusesAny_343 rfl rfl ?_
            refine x_Vi (C := RX6) (T := TX6) (N := 6) (rest := []) cx (c_X6_exchange l G _ hS _ _) gV_L_59 ndX6_exchange rfl ⟨Nat.le_of_ble_eq_true rfl, Nat.le_of_ble_eq_true rfl⟩ (zok_7 (by decide)) (by decide) (p_SC) rfl rfl rfl (Nat.le_of_ble_eq_true rfl) dL_refusesAny_344 ⟨Nat.le_of_ble_eq_true rfl, Nat.le_of_ble_eq_true rfl⟩ ?_
            have he : eArg (S 0) no fr 255 = -1 := by unfold eArg; rw [if_pos hno1]
            refine x_eqi (er he (by decide)) ?_
            refine x_S (erS he (by decide)) ?_
            refine x_iconst (v := (-1)) cx dL_refusesAny_347 (by decide) ?_
            refine x_icmp_ne_f (tgt := 374) cx dL_refusesAny_348 (by decide) rfl ?_
            refine x_aload_n cx dL_refusesAny_351 rfl rfl ?_
            refine x_iconst (v := nI 0) cx dL_refusesAny_352 (by decide) ?_
            refine x_Vi (C := RX6) (T := TX6) (N := 6) (rest := []) cx (c_X6_count l G _ hS _) gV_L_14 ndX6_count rfl ⟨Nat.le_of_ble_eq_true rfl, Nat.le_of_ble_eq_true rfl⟩ (zok_7 (by decide)) (by decide) (p_SC) rfl rfl rfl (Nat.le_of_ble_eq_true rfl) dL_refusesAny_353 ⟨Nat.le_of_ble_eq_true rfl, Nat.le_of_ble_eq_true rfl⟩ ?_
            refine x_eqi (cn0 hS.1) ?_
            have K370 : Xh p l e (zrm 8 0 0 184) s m args below meth cd 7 G (MQ below (zQi G 68 (1) (pic G S)) args s 0 0 (zA G)) 0 0 68 (pic G S) 370 [some (.ref (zad G 7 0)), some (.int (nI x)), some (.int no), some (.int fr), some (.int bt), some (.int sx), none] [] := by
              refine x_iconst (v := nI 1) cx dL_refusesAny_370 (by decide) ?_
              refine x_goto (tgt := 375) cx dL_refusesAny_371 (by decide) ?_
              refine x_istore (ls' := [_, _, _, _, _, _, _]) cx dL_refusesAny_375 (by decide) rfl ?_
              refine x_iload cx dL_refusesAny_377 rfl ?_
              refine x_if_eq_f (tgt := 560) cx dL_refusesAny_379 (by decide) (by decide) ?_
              refine x_aload_n cx dL_refusesAny_382 rfl rfl ?_
              refine x_iload_n cx dL_refusesAny_383 rfl rfl ?_
              refine x_bipush (v := nI 99) cx dL_refusesAny_384 (by decide) ?_
              refine x_Vi (C := RX6) (T := TX6) (N := 6) (rest := []) cx (c_X6_chip l G _ hS _ _) gV_L_20 ndX6_chip rfl ⟨Nat.le_of_ble_eq_true rfl, Nat.le_of_ble_eq_true rfl⟩ (zok_7 (by decide)) (by decide) (p_SC) rfl rfl rfl (Nat.le_of_ble_eq_true rfl) dL_refusesAny_386 ⟨Nat.le_of_ble_eq_true rfl, Nat.le_of_ble_eq_true rfl⟩ ?_
              refine x_eqi (show _ = (-1 : Int32) from tl_out hno1 _) ?_
              refine x_iconst (v := (-1)) cx dL_refusesAny_389 (by decide) ?_
              refine x_icmp_ne_f (tgt := 560) cx dL_refusesAny_390 (by decide) rfl ?_
              refine x_aload_n cx dL_refusesAny_393 rfl rfl ?_
              refine x_iconst (v := nI 0) cx dL_refusesAny_394 (by decide) ?_
              refine x_Vi (C := RX6) (T := TX6) (N := 6) (rest := []) cx (c_X6_count l G _ hS _) gV_L_14 ndX6_count rfl ⟨Nat.le_of_ble_eq_true rfl, Nat.le_of_ble_eq_true rfl⟩ (zok_7 (by decide)) (by decide) (p_SC) rfl rfl rfl (Nat.le_of_ble_eq_true rfl) dL_refusesAny_395 ⟨Nat.le_of_ble_eq_true rfl, Nat.le_of_ble_eq_true rfl⟩ ?_
              refine x_eqi (cn0 hS.1) ?_
              have K423 : Xh p l e (zrm 8 0 0 184) s m args below meth cd 7 G (MQ below (zQi G 68 (1) (pic G S)) args s 0 0 (zA G)) 0 0 68 (pic G S) 423 [some (.ref (zad G 7 0)), some (.int (nI x)), some (.int no), some (.int fr), some (.int bt), some (.int sx), some (.int (nI 1))] [] := by
                refine x_aload_n cx dL_refusesAny_423 rfl rfl ?_
                refine x_iload_n cx dL_refusesAny_424 rfl rfl ?_
                refine x_iconst (v := nI 2) cx dL_refusesAny_425 (by decide) ?_
                refine x_irem cx dL_refusesAny_426 (by decide) ?_
                refine x_eqi (pk_rem (by omega) (by omega) (by omega)) ?_
                refine x_if_ne_t (tgt := 434) cx dL_refusesAny_427 (by decide) (nI_ne0 (by omega) (by omega)) ?_
                refine x_bipush (v := nI 9) cx dL_refusesAny_434 (by decide) ?_
                refine x_Vi (C := RX6) (T := TX6) (N := 6) (rest := []) cx (c_X6_count l G _ hS _) gV_L_14 ndX6_count rfl ⟨Nat.le_of_ble_eq_true rfl, Nat.le_of_ble_eq_true rfl⟩ (zok_7 (by decide)) (by decide) (p_SC) rfl rfl rfl (Nat.le_of_ble_eq_true rfl) dL_refusesAny_436 ⟨Nat.le_of_ble_eq_true rfl, Nat.le_of_ble_eq_true rfl⟩ ?_
                refine x_eqi (show _ = (-2 : Int32) from zCount_out (by decide)) ?_
                refine x_bipush (v := (-2)) cx dL_refusesAny_439 (by decide) ?_
                refine x_icmp_ne_f (tgt := 560) cx dL_refusesAny_441 (by decide) rfl ?_
                refine x_aload_n cx dL_refusesAny_444 rfl rfl ?_
                refine x_iconst (v := (-1)) cx dL_refusesAny_445 (by decide) ?_
                refine x_iload_n cx dL_refusesAny_446 rfl rfl ?_
                refine x_bipush (v := nI 99) cx dL_refusesAny_447 (by decide) ?_
                refine x_irem cx dL_refusesAny_449 (by decide) ?_
                refine x_eqi (pk_rem (by omega) (by omega) (by omega)) ?_
                refine x_isub cx dL_refusesAny_450 ?_
                refine x_Vi (C := RX6) (T := TX6) (N := 6) (rest := []) cx (c_X6_found l G _ hS _) gV_L_24 ndX6_found rfl ⟨Nat.le_of_ble_eq_true rfl, Nat.le_of_ble_eq_true rfl⟩ (zok_7 (by decide)) (by decide) (p_SC) rfl rfl rfl (Nat.le_of_ble_eq_true rfl) dL_refusesAny_451 ⟨Nat.le_of_ble_eq_true rfl, Nat.le_of_ble_eq_true rfl⟩ ?_
                refine x_eqi (show _ = (-2 : Int32) from fd_neg (ng_t _ (Nat.mod_lt _ (by decide)))) ?_
                refine x_bipush (v := (-2)) cx dL_refusesAny_454 (by decide) ?_
                refine x_icmp_ne_f (tgt := 560) cx dL_refusesAny_456 (by decide) rfl ?_
                refine x_aload_n cx dL_refusesAny_459 rfl rfl ?_
                refine x_bipush (v := nI 8) cx dL_refusesAny_460 (by decide) ?_
                refine x_Vi (C := RX6) (T := TX6) (N := 6) (rest := []) cx (c_X6_found l G _ hS _) gV_L_24 ndX6_found rfl ⟨Nat.le_of_ble_eq_true rfl, Nat.le_of_ble_eq_true rfl⟩ (zok_7 (by decide)) (by decide) (p_SC) rfl rfl rfl (Nat.le_of_ble_eq_true rfl) dL_refusesAny_462 ⟨Nat.le_of_ble_eq_true rfl, Nat.le_of_ble_eq_true rfl⟩ ?_
                refine x_eqi (show _ = (-4 : Int32) from fd_out hS.1 hS.1.c8 (by decide)) ?_
                refine x_bipush (v := (-4)) cx dL_refusesAny_465 (by decide) ?_
                refine x_icmp_ne_f (tgt := 560) cx dL_refusesAny_467 (by decide) rfl ?_
                refine x_aload_n cx dL_refusesAny_470 rfl rfl ?_
                refine x_iload cx dL_refusesAny_471 rfl ?_
                refine x_iconst (v := nI 0) cx dL_refusesAny_473 (by decide) ?_
                refine x_Vi (C := RX6) (T := TX6) (N := 6) (rest := []) cx (c_X6_distance l G _ hS _ _) gV_L_62 ndX6_distance rfl ⟨Nat.le_of_ble_eq_true rfl, Nat.le_of_ble_eq_true rfl⟩ (zok_7 (by decide)) (by decide) (p_SC) rfl rfl rfl (Nat.le_of_ble_eq_true rfl) dL_refusesAny_474 ⟨Nat.le_of_ble_eq_true rfl, Nat.le_of_ble_eq_true rfl⟩ ?_
                refine x_eqi (show _ = (-2 : Int32) from (by unfold zDist; rw [if_pos hsx1])) ?_
                refine x_bipush (v := (-2)) cx dL_refusesAny_477 (by decide) ?_
                refine x_icmp_ne_f (tgt := 560) cx dL_refusesAny_479 (by decide) rfl ?_
                refine x_aload_n cx dL_refusesAny_482 rfl rfl ?_
                refine x_iconst (v := nI 0) cx dL_refusesAny_483 (by decide) ?_
                refine x_iload cx dL_refusesAny_484 rfl ?_
                refine x_Vi (C := RX6) (T := TX6) (N := 6) (rest := []) cx (c_X6_distance l G _ hS _ _) gV_L_62 ndX6_distance rfl ⟨Nat.le_of_ble_eq_true rfl, Nat.le_of_ble_eq_true rfl⟩ (zok_7 (by decide)) (by decide) (p_SC) rfl rfl rfl (Nat.le_of_ble_eq_true rfl) dL_refusesAny_486 ⟨Nat.le_of_ble_eq_true rfl, Nat.le_of_ble_eq_true rfl⟩ ?_
                refine x_eqi (show _ = (-2 : Int32) from (by unfold zDist; rw [if_neg (by decide), if_pos hsx1])) ?_
                refine x_bipush (v := (-2)) cx dL_refusesAny_489 (by decide) ?_
                refine x_icmp_ne_f (tgt := 560) cx dL_refusesAny_491 (by decide) rfl ?_
                refine x_aload_n cx dL_refusesAny_494 rfl rfl ?_
                refine x_iload cx dL_refusesAny_495 rfl ?_
                refine x_Vi (C := RX6) (T := TX6) (N := 6) (rest := []) cx (c_X6_peek l G _ hS _) gV_L_27 ndX6_peek rfl ⟨Nat.le_of_ble_eq_true rfl, Nat.le_of_ble_eq_true rfl⟩ (zok_7 (by decide)) (by decide) (p_SC) rfl rfl rfl (Nat.le_of_ble_eq_true rfl) dL_refusesAny_497 ⟨Nat.le_of_ble_eq_true rfl, Nat.le_of_ble_eq_true rfl⟩ ?_
                refine x_eqi (show _ = (-2 : Int32) from (by unfold zPeek; rw [if_pos hbt1])) ?_
                refine x_bipush (v := (-2)) cx dL_refusesAny_500 (by decide) ?_
                refine x_icmp_ne_f (tgt := 560) cx dL_refusesAny_502 (by decide) rfl ?_
                refine x_aload_n cx dL_refusesAny_505 rfl rfl ?_
                refine x_iload_n cx dL_refusesAny_506 rfl rfl ?_
                refine x_iload_n cx dL_refusesAny_507 rfl rfl ?_
                refine x_Vi (C := RX6) (T := TX6) (N := 6) (rest := []) cx (c_X6_ifExchanged l G _ hS _ _) gV_L_65 ndX6_ifExchanged rfl ⟨Nat.le_of_ble_eq_true rfl, Nat.le_of_ble_eq_true rfl⟩ (zok_7 (by decide)) (by decide) (p_SC) rfl rfl rfl (Nat.le_of_ble_eq_true rfl) dL_refusesAny_508 ⟨Nat.le_of_ble_eq_true rfl, Nat.le_of_ble_eq_true rfl⟩ ?_
                have he : eArg (S 0) no fr 255 = -1 := by unfold eArg; rw [if_pos hno1]
                refine x_eqi (er he (by decide)) ?_
                refine x_S (erS he (by decide)) ?_
                refine x_iconst (v := (-1)) cx dL_refusesAny_511 (by decide) ?_
                refine x_icmp_ne_f (tgt := 560) cx dL_refusesAny_512 (by decide) rfl ?_
                refine x_aload_n cx dL_refusesAny_515 rfl rfl ?_
                refine x_iconst (v := nI 0) cx dL_refusesAny_516 (by decide) ?_
                refine x_Vi (C := RX6) (T := TX6) (N := 6) (rest := []) cx (c_X6_count l G _ hS _) gV_L_14 ndX6_count rfl ⟨Nat.le_of_ble_eq_true rfl, Nat.le_of_ble_eq_true rfl⟩ (zok_7 (by decide)) (by decide) (p_SC) rfl rfl rfl (Nat.le_of_ble_eq_true rfl) dL_refusesAny_517 ⟨Nat.le_of_ble_eq_true rfl, Nat.le_of_ble_eq_true rfl⟩ ?_
                refine x_eqi (cn0 hS.1) ?_
                have K534 : Xh p l e (zrm 8 0 0 184) s m args below meth cd 7 G (MQ below (zQi G 68 (1) (pic G S)) args s 0 0 (zA G)) 0 0 68 (pic G S) 534 [some (.ref (zad G 7 0)), some (.int (nI x)), some (.int no), some (.int fr), some (.int bt), some (.int sx), some (.int (nI 1))] [] := by
                  refine x_aload_n cx dL_refusesAny_534 rfl rfl ?_
                  refine x_iload_n cx dL_refusesAny_535 rfl rfl ?_
                  refine x_iconst (v := nI 2) cx dL_refusesAny_536 (by decide) ?_
                  refine x_irem cx dL_refusesAny_537 (by decide) ?_
                  refine x_eqi (pk_rem (by omega) (by omega) (by omega)) ?_
                  refine x_if_ne_t (tgt := 546) cx dL_refusesAny_538 (by decide) (nI_ne0 (by omega) (by omega)) ?_
                  refine x_bipush (v := nI 127) cx dL_refusesAny_546 (by decide) ?_
                  refine x_Vi (C := RX6) (T := TX6) (N := 6) (rest := []) cx (c_X6_append l G _ hS 0 hT (by decide) _) gV_L_68 ndX6_append rfl ⟨Nat.le_of_ble_eq_true rfl, Nat.le_of_ble_eq_true rfl⟩ (zok_7 (by decide)) (by decide) (p_SC) rfl rfl rfl (Nat.le_of_ble_eq_true rfl) dL_refusesAny_548 ⟨Nat.le_of_ble_eq_true rfl, Nat.le_of_ble_eq_true rfl⟩ ?_
                  have he : eApp 0 (nI 127) = -2 := by unfold eApp; rw [if_pos (by decide)]
                  refine x_eqi (er he (by decide)) ?_
                  refine x_S (erS he (by decide)) ?_
                  refine x_bipush (v := (-2)) cx dL_refusesAny_551 (by decide) ?_
                  refine x_icmp_ne_f (tgt := 560) cx dL_refusesAny_553 (by decide) rfl ?_
                  refine x_iconst (v := nI 1) cx dL_refusesAny_556 (by decide) ?_
                  refine x_goto (tgt := 561) cx dL_refusesAny_557 (by decide) ?_
                  refine x_istore (ls' := [_, _, _, _, _, _, _]) cx dL_refusesAny_561 (by decide) rfl ?_
                  refine x_iload cx dL_refusesAny_563 rfl ?_
                  refine x_if_eq_f (tgt := 595) cx dL_refusesAny_565 (by decide) (by decide) ?_
                  refine x_aload_n cx dL_refusesAny_568 rfl rfl ?_
                  refine x_Vi (C := RX6) (T := TX6) (N := 6) (rest := []) cx (c_X6_clearText l G _ hS) gV_L_71 ndX6_clearText rfl ⟨Nat.le_of_ble_eq_true rfl, Nat.le_of_ble_eq_true rfl⟩ (zok_7 (by decide)) (by decide) (p_SC) rfl rfl rfl (Nat.le_of_ble_eq_true rfl) dL_refusesAny_569 ⟨Nat.le_of_ble_eq_true rfl, Nat.le_of_ble_eq_true rfl⟩ ?_
                  refine x_eqi (hT : _ = nI 0) ?_
                  refine x_S (clr_S hT) ?_
                  refine x_if_ne_f (tgt := 595) cx dL_refusesAny_572 (by decide) (by decide) ?_
                  refine x_aload_n cx dL_refusesAny_575 rfl rfl ?_
                  refine x_Vi (C := RX6) (T := TX6) (N := 6) (rest := []) cx (c_X6_fault l G _ hS 0 hT (by decide)) gV_L_75 ndX6_fault rfl ⟨Nat.le_of_ble_eq_true rfl, Nat.le_of_ble_eq_true rfl⟩ (zok_7 (by decide)) (by decide) (p_SC) rfl rfl rfl (Nat.le_of_ble_eq_true rfl) dL_refusesAny_576 ⟨Nat.le_of_ble_eq_true rfl, Nat.le_of_ble_eq_true rfl⟩ ?_
                  refine x_eqi (show _ = nI 0 from rfl) ?_
                  refine x_if_ne_f (tgt := 595) cx dL_refusesAny_579 (by decide) (by decide) ?_
                  refine x_aload_n cx dL_refusesAny_582 rfl rfl ?_
                  refine x_Vi (C := RX6) (T := TX6) (N := 6) (rest := []) cx (c_X6_run l G _ hS 0 hT (by decide)) gV_L_78 ndX6_run rfl ⟨Nat.le_of_ble_eq_true rfl, Nat.le_of_ble_eq_true rfl⟩ (zok_7 (by decide)) (by decide) (p_SC) rfl rfl rfl (Nat.le_of_ble_eq_true rfl) dL_refusesAny_583 ⟨Nat.le_of_ble_eq_true rfl, Nat.le_of_ble_eq_true rfl⟩ ?_
                  refine x_eqi (rn_a _) ?_
                  refine x_S (rn_S _) ?_
                  refine x_bipush (v := (-100)) cx dL_refusesAny_586 (by decide) ?_
                  refine x_icmp_ne_f (tgt := 595) cx dL_refusesAny_588 (by decide) rfl ?_
                  refine x_iconst (v := nI 1) cx dL_refusesAny_591 (by decide) ?_
                  refine x_goto (tgt := 596) cx dL_refusesAny_592 (by decide) ?_
                  exact x_zret cx hr rfl (by first | exact Or.inl rfl | exact Or.inr rfl) (fun _ _ _ _ => rfl) dL_refusesAny_596
                refine x_if_eq (tgt := 534) cx dL_refusesAny_520 (by decide) (fun hb520 => ?_) (fun hb520 => ?_)
                · exact K534
                · refine x_aload_n cx dL_refusesAny_523 rfl rfl ?_
                  refine x_iconst (v := nI 0) cx dL_refusesAny_524 (by decide) ?_
                  refine x_iload_n cx dL_refusesAny_525 rfl rfl ?_
                  refine x_Vi (C := RX6) (T := TX6) (N := 6) (rest := []) cx (c_X6_ifExchanged l G _ hS _ _) gV_L_65 ndX6_ifExchanged rfl ⟨Nat.le_of_ble_eq_true rfl, Nat.le_of_ble_eq_true rfl⟩ (zok_7 (by decide)) (by decide) (p_SC) rfl rfl rfl (Nat.le_of_ble_eq_true rfl) dL_refusesAny_526 ⟨Nat.le_of_ble_eq_true rfl, Nat.le_of_ble_eq_true rfl⟩ ?_
                  have he : eArg (S 0) (nI 0) fr 255 = -2 := by unfold eArg; rw [if_neg (has_in hS.1 (t := 0) (Nat.pos_of_ne_zero fun z => hb520 (nI_ig z))), if_pos hfr1]
                  refine x_eqi (er he (by decide)) ?_
                  refine x_S (erS he (by decide)) ?_
                  refine x_bipush (v := (-2)) cx dL_refusesAny_529 (by decide) ?_
                  refine x_icmp_ne_f (tgt := 560) cx dL_refusesAny_531 (by decide) rfl ?_
                  exact K534
              refine x_if_eq (tgt := 423) cx dL_refusesAny_398 (by decide) (fun hb398 => ?_) (fun hb398 => ?_)
              · exact K423
              · refine x_aload_n cx dL_refusesAny_401 rfl rfl ?_
                refine x_iconst (v := nI 0) cx dL_refusesAny_402 (by decide) ?_
                refine x_iload_n cx dL_refusesAny_403 rfl rfl ?_
                refine x_iconst (v := nI 2) cx dL_refusesAny_404 (by decide) ?_
                refine x_irem cx dL_refusesAny_405 (by decide) ?_
                refine x_eqi (pk_rem (by omega) (by omega) (by omega)) ?_
                refine x_if_ne_t (tgt := 413) cx dL_refusesAny_406 (by decide) (nI_ne0 (by omega) (by omega)) ?_
                refine x_bipush (v := nI 10) cx dL_refusesAny_413 (by decide) ?_
                refine x_Vi (C := RX6) (T := TX6) (N := 6) (rest := []) cx (c_X6_chip l G _ hS _ _) gV_L_20 ndX6_chip rfl ⟨Nat.le_of_ble_eq_true rfl, Nat.le_of_ble_eq_true rfl⟩ (zok_7 (by decide)) (by decide) (p_SC) rfl rfl rfl (Nat.le_of_ble_eq_true rfl) dL_refusesAny_415 ⟨Nat.le_of_ble_eq_true rfl, Nat.le_of_ble_eq_true rfl⟩ ?_
                refine x_eqi (show _ = (-2 : Int32) from (tl_in hS.1 (t := 0) (Nat.pos_of_ne_zero fun z => hb398 (nI_ig z)) _).trans (zTell_out (by decide))) ?_
                refine x_bipush (v := (-2)) cx dL_refusesAny_418 (by decide) ?_
                refine x_icmp_ne_f (tgt := 560) cx dL_refusesAny_420 (by decide) rfl ?_
                exact K423
            refine x_if_eq (tgt := 370) cx dL_refusesAny_356 (by decide) (fun hb356 => ?_) (fun hb356 => ?_)
            · exact K370
            · refine x_aload_n cx dL_refusesAny_359 rfl rfl ?_
              refine x_iconst (v := nI 0) cx dL_refusesAny_360 (by decide) ?_
              refine x_iload_n cx dL_refusesAny_361 rfl rfl ?_
              refine x_Vi (C := RX6) (T := TX6) (N := 6) (rest := []) cx (c_X6_exchange l G _ hS _ _) gV_L_59 ndX6_exchange rfl ⟨Nat.le_of_ble_eq_true rfl, Nat.le_of_ble_eq_true rfl⟩ (zok_7 (by decide)) (by decide) (p_SC) rfl rfl rfl (Nat.le_of_ble_eq_true rfl) dL_refusesAny_362 ⟨Nat.le_of_ble_eq_true rfl, Nat.le_of_ble_eq_true rfl⟩ ?_
              have he : eArg (S 0) (nI 0) fr 255 = -2 := by unfold eArg; rw [if_neg (has_in hS.1 (t := 0) (Nat.pos_of_ne_zero fun z => hb356 (nI_ig z))), if_pos hfr1]
              refine x_eqi (er he (by decide)) ?_
              refine x_S (erS he (by decide)) ?_
              refine x_bipush (v := (-2)) cx dL_refusesAny_365 (by decide) ?_
              refine x_icmp_ne_f (tgt := 374) cx dL_refusesAny_367 (by decide) rfl ?_
              exact K370
          refine x_if_eq (tgt := 341) cx dL_refusesAny_316 (by decide) (fun hb316 => ?_) (fun hb316 => ?_)
          · exact K341
          · refine x_aload_n cx dL_refusesAny_319 rfl rfl ?_
            refine x_iconst (v := nI 0) cx dL_refusesAny_320 (by decide) ?_
            refine x_iload_n cx dL_refusesAny_321 rfl rfl ?_
            refine x_iconst (v := nI 2) cx dL_refusesAny_322 (by decide) ?_
            refine x_irem cx dL_refusesAny_323 (by decide) ?_
            refine x_eqi (pk_rem (by omega) (by omega) (by omega)) ?_
            refine x_if_ne_t (tgt := 331) cx dL_refusesAny_324 (by decide) (nI_ne0 (by omega) (by omega)) ?_
            refine x_bipush (v := nI 64) cx dL_refusesAny_331 (by decide) ?_
            refine x_Vi (C := RX6) (T := TX6) (N := 6) (rest := []) cx (c_X6_load l G _ hS _ _) gV_L_56 ndX6_load rfl ⟨Nat.le_of_ble_eq_true rfl, Nat.le_of_ble_eq_true rfl⟩ (zok_7 (by decide)) (by decide) (p_SC) rfl rfl rfl (Nat.le_of_ble_eq_true rfl) dL_refusesAny_333 ⟨Nat.le_of_ble_eq_true rfl, Nat.le_of_ble_eq_true rfl⟩ ?_
            have he : eArg (S 0) (nI 0) (nI 64) 63 = -2 := by unfold eArg; rw [if_neg (has_in hS.1 (t := 0) (Nat.pos_of_ne_zero fun z => hb316 (nI_ig z))), if_pos (by decide)]
            refine x_eqi (er he (by decide)) ?_
            refine x_S (erS he (by decide)) ?_
            refine x_bipush (v := (-2)) cx dL_refusesAny_336 (by decide) ?_
            refine x_icmp_ne_f (tgt := 374) cx dL_refusesAny_338 (by decide) rfl ?_
            exact K341
        refine x_if_eq (tgt := 255) cx dL_refusesAny_241 (by decide) (fun hb241 => ?_) (fun hb241 => ?_)
        · exact K255
        · refine x_aload_n cx dL_refusesAny_244 rfl rfl ?_
          refine x_iconst (v := nI 0) cx dL_refusesAny_245 (by decide) ?_
          refine x_iload_n cx dL_refusesAny_246 rfl rfl ?_
          refine x_Vi (C := RX6) (T := TX6) (N := 6) (rest := []) cx (c_X6_setPins l G _ hS _ _) gV_L_43 ndX6_setPins rfl ⟨Nat.le_of_ble_eq_true rfl, Nat.le_of_ble_eq_true rfl⟩ (zok_7 (by decide)) (by decide) (p_SC) rfl rfl rfl (Nat.le_of_ble_eq_true rfl) dL_refusesAny_247 ⟨Nat.le_of_ble_eq_true rfl, Nat.le_of_ble_eq_true rfl⟩ ?_
          have he : eArg (S 0) (nI 0) fr 255 = -2 := by unfold eArg; rw [if_neg (has_in hS.1 (t := 0) (Nat.pos_of_ne_zero fun z => hb241 (nI_ig z))), if_pos hfr1]
          refine x_eqi (er he (by decide)) ?_
          refine x_S (erS he (by decide)) ?_
          refine x_bipush (v := (-2)) cx dL_refusesAny_250 (by decide) ?_
          refine x_icmp_ne_f (tgt := 374) cx dL_refusesAny_252 (by decide) rfl ?_
          exact K255
      refine x_icmp_lt (tgt := 204) cx dL_refusesAny_189 (by decide) (fun hb189 => ?_) (fun hb189 => ?_)
      · exact K204
      · refine x_aload_n cx dL_refusesAny_192 rfl rfl ?_
        refine x_iconst (v := nI 2) cx dL_refusesAny_193 (by decide) ?_
        refine x_iconst (v := nI 0) cx dL_refusesAny_194 (by decide) ?_
        refine x_iconst (v := nI 1) cx dL_refusesAny_195 (by decide) ?_
        refine x_Vi (C := RX6) (T := TX6) (N := 6) (rest := []) cx (c_X6_add l G _ hS _ _ _) gV_L_34 ndX6_add rfl ⟨Nat.le_of_ble_eq_true rfl, Nat.le_of_ble_eq_true rfl⟩ (zok_7 (by decide)) (by decide) (p_SC) rfl rfl rfl (Nat.le_of_ble_eq_true rfl) dL_refusesAny_196 ⟨Nat.le_of_ble_eq_true rfl, Nat.le_of_ble_eq_true rfl⟩ ?_
        have he : eAdd (S 0) (nI 2) (nI 0) (nI 1) = -3 := ad_full hS.1 (Nat.not_lt.mp fun z => hb189 (nI_lt z (by decide))) (by decide) (by decide) (by decide)
        refine x_eqi (er he (by decide)) ?_
        refine x_S (erS he (by decide)) ?_
        refine x_bipush (v := (-3)) cx dL_refusesAny_199 (by decide) ?_
        refine x_icmp_ne_f (tgt := 374) cx dL_refusesAny_201 (by decide) rfl ?_
        exact K204
    refine x_if_ne (tgt := 136) cx dL_refusesAny_122 (by decide) (fun hb122 => ?_) (fun hb122 => ?_)
    · refine x_iload_n cx dL_refusesAny_136 rfl rfl ?_
      refine x_iconst (v := nI 3) cx dL_refusesAny_137 (by decide) ?_
      refine x_irem cx dL_refusesAny_138 (by decide) ?_
      refine x_eqi (pk_rem (by omega) (by omega) (by omega)) ?_
      refine x_iconst (v := nI 1) cx dL_refusesAny_139 (by decide) ?_
      refine x_icmp_ne (tgt := 149) cx dL_refusesAny_140 (by decide) (fun hb140 => ?_) (fun hb140 => ?_)
      · refine x_iconst (v := (-1)) cx dL_refusesAny_149 (by decide) ?_
        exact K150 _ (by decide)
      · refine x_sipush (v := nI 255) cx dL_refusesAny_143 (by decide) ?_
        refine x_goto (tgt := 150) cx dL_refusesAny_146 (by decide) ?_
        exact K150 _ (by decide)
    · refine x_iconst (v := nI 2) cx dL_refusesAny_125 (by decide) ?_
      refine x_iload_n cx dL_refusesAny_126 rfl rfl ?_
      refine x_bipush (v := nI 126) cx dL_refusesAny_127 (by decide) ?_
      refine x_irem cx dL_refusesAny_129 (by decide) ?_
      refine x_eqi (pk_rem (by omega) (by omega) (by omega)) ?_
      refine x_iconst (v := nI 2) cx dL_refusesAny_130 (by decide) ?_
      refine x_imul cx dL_refusesAny_131 ?_
      refine x_eqi (nI_mulN _ _) ?_
      refine x_iadd cx dL_refusesAny_132 ?_
      refine x_eqi (nI_add _ _) ?_
      refine x_goto (tgt := 150) cx dL_refusesAny_133 (by decide) ?_
      exact K150 _ (id_t _ (Nat.mod_lt _ (by decide)))

set_option maxHeartbeats 4000000 in
set_option maxRecDepth 100000 in
theorem c_L_refuses (l : Launch) (G : zG) (S : zS) (hS : kWF S) (hT : S 7 0 2 = 0) (x : Nat) (hx : x < 2 ^ 31) : Met l yL_refuses (zws yL_refuses cL_refuses 5 (some .boolean)) (zrm 9 0 0 210) (zPc G 68 (pic G S) [.ref (zad G 7 0), .int (nI x)]) (zQi G 68 (1) (pic G S)) 0 0 (zA G) := by
  refine zMet npL_refuses rfl (Nat.le_of_ble_eq_true rfl) ?_
  intro p e s m args below meth cd hargs cx hr hin0
  have cx : Cx p s m args meth cd cL_refuses 5 RL G := cx
  refine x_ls (ls' := [some (.ref (zad G 7 0)), some (.int (nI x)), none, none, none]) rfl (fun _ h => h) ?_
  refine x_aload_n cx dL_refuses_0 rfl rfl ?_
  refine x_Sl (rest := []) cx (c_L_seen l G _ hS) gS_L_81 ndL_seen ⟨Nat.le_of_ble_eq_true rfl, Nat.le_of_ble_eq_true rfl⟩ rfl rfl (Nat.le_of_ble_eq_true rfl) dL_refuses_1 ⟨Nat.le_of_ble_eq_true rfl, Nat.le_of_ble_eq_true rfl⟩ ?_
  refine x_lstore_n (ls' := [_, _, _, _, _]) cx dL_refuses_4 rfl (by decide) rfl ?_
  refine x_aload_n cx dL_refuses_5 rfl rfl ?_
  refine x_bipush (v := nI 7) cx dL_refuses_6 (by decide) ?_
  refine x_Vi (C := RX6) (T := TX6) (N := 6) (rest := []) cx (c_X6_count l G _ hS _) gV_L_14 ndX6_count rfl ⟨Nat.le_of_ble_eq_true rfl, Nat.le_of_ble_eq_true rfl⟩ (zok_7 (by decide)) (by decide) (p_SC) rfl rfl rfl (Nat.le_of_ble_eq_true rfl) dL_refuses_8 ⟨Nat.le_of_ble_eq_true rfl, Nat.le_of_ble_eq_true rfl⟩ ?_
  refine x_eqi (cn7 hS) ?_
  refine x_istore (ls' := [_, _, _, _, _]) cx dL_refuses_11 (by decide) rfl ?_
  refine x_aload_n cx dL_refuses_13 rfl rfl ?_
  refine x_iload_n cx dL_refuses_14 rfl rfl ?_
  refine x_Si (rest := []) cx (c_L_refusesAny l G _ hS hT _ (by omega)) gS_L_85 ndL_refusesAny ⟨Nat.le_of_ble_eq_true rfl, Nat.le_of_ble_eq_true rfl⟩ rfl rfl (Nat.le_of_ble_eq_true rfl) dL_refuses_15 ⟨Nat.le_of_ble_eq_true rfl, Nat.le_of_ble_eq_true rfl⟩ ?_
  refine x_if_eq_f (tgt := 45) cx dL_refuses_18 (by decide) (by decide) ?_
  refine x_aload_n cx dL_refuses_21 rfl rfl ?_
  refine x_Sl (rest := []) cx (c_L_seen l G _ hS) gS_L_81 ndL_seen ⟨Nat.le_of_ble_eq_true rfl, Nat.le_of_ble_eq_true rfl⟩ rfl rfl (Nat.le_of_ble_eq_true rfl) dL_refuses_22 ⟨Nat.le_of_ble_eq_true rfl, Nat.le_of_ble_eq_true rfl⟩ ?_
  refine x_lload_n cx dL_refuses_25 rfl rfl ?_
  refine x_lcmp cx dL_refuses_26 ?_
  refine x_eqi (cmp_self _) ?_
  refine x_if_ne_f (tgt := 45) cx dL_refuses_27 (by decide) (by decide) ?_
  refine x_aload_n cx dL_refuses_30 rfl rfl ?_
  refine x_bipush (v := nI 7) cx dL_refuses_31 (by decide) ?_
  refine x_Vi (C := RX6) (T := TX6) (N := 6) (rest := []) cx (c_X6_count l G _ hS _) gV_L_14 ndX6_count rfl ⟨Nat.le_of_ble_eq_true rfl, Nat.le_of_ble_eq_true rfl⟩ (zok_7 (by decide)) (by decide) (p_SC) rfl rfl rfl (Nat.le_of_ble_eq_true rfl) dL_refuses_33 ⟨Nat.le_of_ble_eq_true rfl, Nat.le_of_ble_eq_true rfl⟩ ?_
  refine x_eqi (cn7 hS) ?_
  refine x_iload cx dL_refuses_36 rfl ?_
  refine x_icmp_ne_f (tgt := 45) cx dL_refuses_38 (by decide) (nI_ig (by omega)) ?_
  refine x_iconst (v := nI 1) cx dL_refuses_41 (by decide) ?_
  refine x_goto (tgt := 46) cx dL_refuses_42 (by decide) ?_
  exact x_zret cx hr rfl (by first | exact Or.inl rfl | exact Or.inr rfl) (fun _ _ _ _ => rfl) dL_refuses_46

