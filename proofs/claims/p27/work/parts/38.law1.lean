set_option maxHeartbeats 4000000 in
set_option maxRecDepth 100000 in
theorem c_L_seen (l : Launch) (G : zG) (S : zS) (hS : kWF S) : Met l yL_seen (zws yL_seen cL_seen 4 (some .long)) (zrm 4 0 0 83) (zPc G 68 (pic G S) [.ref (zad G 7 0)]) (zQl G 68 (zSeen (S 0)) (pic G S)) 0 0 (zA G) := by
  refine zMet npL_seen rfl (Nat.le_of_ble_eq_true rfl) ?_
  intro p e s m args below meth cd hargs cx hr hin0
  have cx : Cx p s m args meth cd cL_seen 4 RL G := cx
  refine x_ls (ls' := [some (.ref (zad G 7 0)), none, none, none]) rfl (fun _ h => h) ?_
  refine x_ldc2 cx dL_seen_0 zt221 ?_
  refine x_lstore_n (ls' := [_, _, _, _]) cx dL_seen_3 rfl (by decide) rfl ?_
  refine x_iconst (v := nI 0) cx dL_seen_4 (by decide) ?_
  refine x_istore_n (ls' := [_, _, _, _]) cx dL_seen_5 rfl (by decide) rfl ?_
  suffices K : ∀ f k : Nat, k + f = 7 → Xh p l e _ s m args below meth cd 4 G _ 0 0 68 (pic G S) 6 [some (.ref (zad G 7 0)), some (.long (sn1 (S 0) k)), none, some (.int (nI k))] [] from K 7 0 rfl
  intro f
  induction f with
  | zero =>
    intro k hk
    obtain rfl : k = 7 := by omega
    refine x_iload_n cx dL_seen_6 rfl rfl ?_
    refine x_bipush (v := nI 7) cx dL_seen_7 (by decide) ?_
    refine x_icmp_ge_t (tgt := 31) cx dL_seen_9 (by decide) (nI_le (by omega) (by omega)) ?_
    refine x_iconst (v := nI 0) cx dL_seen_31 (by decide) ?_
    refine x_istore_n (ls' := [_, _, _, _]) cx dL_seen_32 rfl (by decide) rfl ?_
    suffices K : ∀ f k : Nat, k + f = 60 → Xh p l e _ s m args below meth cd 4 G _ 0 0 68 (pic G S) 33 [some (.ref (zad G 7 0)), some (.long (sn2 (S 0) k)), none, some (.int (nI k))] [] from K 60 0 rfl
    intro f
    induction f with
    | zero =>
      intro k hk
      obtain rfl : k = 60 := by omega
      refine x_iload_n cx dL_seen_33 rfl rfl ?_
      refine x_bipush (v := nI 60) cx dL_seen_34 (by decide) ?_
      refine x_icmp_ge_t (tgt := 65) cx dL_seen_36 (by decide) (nI_le (by omega) (by omega)) ?_
      refine x_iconst (v := nI 0) cx dL_seen_65 (by decide) ?_
      refine x_istore_n (ls' := [_, _, _, _]) cx dL_seen_66 rfl (by decide) rfl ?_
      suffices K : ∀ f k : Nat, k + f = 8 → Xh p l e _ s m args below meth cd 4 G _ 0 0 68 (pic G S) 67 [some (.ref (zad G 7 0)), some (.long (sn3 (S 0) k)), none, some (.int (nI k))] [] from K 8 0 rfl
      intro f
      induction f with
      | zero =>
        intro k hk
        obtain rfl : k = 8 := by omega
        refine x_iload_n cx dL_seen_67 rfl rfl ?_
        refine x_bipush (v := nI 8) cx dL_seen_68 (by decide) ?_
        refine x_icmp_ge_t (tgt := 92) cx dL_seen_70 (by decide) (nI_le (by omega) (by omega)) ?_
        refine x_lload_n cx dL_seen_92 rfl rfl ?_
        exact x_lret cx hr rfl (fun _ _ _ _ => rfl) dL_seen_93
      | succ f ih =>
        intro k hk
        refine x_iload_n cx dL_seen_67 rfl rfl ?_
        refine x_bipush (v := nI 8) cx dL_seen_68 (by decide) ?_
        refine x_icmp_ge_f (tgt := 92) cx dL_seen_70 (by decide) (nI_ge (by omega) (by omega)) ?_
        refine x_ldc2 cx dL_seen_73 zt222 ?_
        refine x_lload_n cx dL_seen_76 rfl rfl ?_
        refine x_lmul cx dL_seen_77 ?_
        refine x_aload_n cx dL_seen_78 rfl rfl ?_
        refine x_iload_n cx dL_seen_79 rfl rfl ?_
        refine x_Vi (C := RX6) (T := TX6) (N := 6) (rest := [_]) cx (c_X6_found l G _ hS _) gV_L_24 ndX6_found rfl ⟨Nat.le_of_ble_eq_true rfl, Nat.le_of_ble_eq_true rfl⟩ (zok_7 (by decide)) (by decide) (p_SC) rfl rfl rfl (Nat.le_of_ble_eq_true rfl) dL_seen_80 ⟨Nat.le_of_ble_eq_true rfl, Nat.le_of_ble_eq_true rfl⟩ ?_
        refine x_i2l cx dL_seen_83 ?_
        refine x_ladd cx dL_seen_84 ?_
        refine x_lstore_n (ls' := [_, _, _, _]) cx dL_seen_85 rfl (by decide) rfl ?_
        refine x_iinc (v := nI (k + 1)) (ls' := [_, _, _, _]) cx dL_seen_86 rfl (nI_inc _) (by decide) rfl ?_
        refine x_goto (tgt := 67) cx dL_seen_89 (by decide) ?_
        exact ih (k + 1) (by omega)
    | succ f ih =>
      intro k hk
      refine x_iload_n cx dL_seen_33 rfl rfl ?_
      refine x_bipush (v := nI 60) cx dL_seen_34 (by decide) ?_
      refine x_icmp_ge_f (tgt := 65) cx dL_seen_36 (by decide) (nI_ge (by omega) (by omega)) ?_
      refine x_ldc2 cx dL_seen_39 zt222 ?_
      refine x_lload_n cx dL_seen_42 rfl rfl ?_
      refine x_lmul cx dL_seen_43 ?_
      refine x_aload_n cx dL_seen_44 rfl rfl ?_
      refine x_iload_n cx dL_seen_45 rfl rfl ?_
      refine x_bipush (v := nI 10) cx dL_seen_46 (by decide) ?_
      refine x_idiv cx dL_seen_48 (by decide) ?_
      refine x_eqi (pk_div (by omega) (by omega) (by omega)) ?_
      refine x_iload_n cx dL_seen_49 rfl rfl ?_
      refine x_bipush (v := nI 10) cx dL_seen_50 (by decide) ?_
      refine x_irem cx dL_seen_52 (by decide) ?_
      refine x_eqi (pk_rem (by omega) (by omega) (by omega)) ?_
      refine x_Vi (C := RX6) (T := TX6) (N := 6) (rest := [_]) cx (c_X6_chip l G _ hS _ _) gV_L_20 ndX6_chip rfl ⟨Nat.le_of_ble_eq_true rfl, Nat.le_of_ble_eq_true rfl⟩ (zok_7 (by decide)) (by decide) (p_SC) rfl rfl rfl (Nat.le_of_ble_eq_true rfl) dL_seen_53 ⟨Nat.le_of_ble_eq_true rfl, Nat.le_of_ble_eq_true rfl⟩ ?_
      refine x_i2l cx dL_seen_56 ?_
      refine x_ladd cx dL_seen_57 ?_
      refine x_lstore_n (ls' := [_, _, _, _]) cx dL_seen_58 rfl (by decide) rfl ?_
      refine x_iinc (v := nI (k + 1)) (ls' := [_, _, _, _]) cx dL_seen_59 rfl (nI_inc _) (by decide) rfl ?_
      refine x_goto (tgt := 33) cx dL_seen_62 (by decide) ?_
      exact ih (k + 1) (by omega)
  | succ f ih =>
    intro k hk
    refine x_iload_n cx dL_seen_6 rfl rfl ?_
    refine x_bipush (v := nI 7) cx dL_seen_7 (by decide) ?_
    refine x_icmp_ge_f (tgt := 31) cx dL_seen_9 (by decide) (nI_ge (by omega) (by omega)) ?_
    refine x_ldc2 cx dL_seen_12 zt222 ?_
    refine x_lload_n cx dL_seen_15 rfl rfl ?_
    refine x_lmul cx dL_seen_16 ?_
    refine x_aload_n cx dL_seen_17 rfl rfl ?_
    refine x_iload_n cx dL_seen_18 rfl rfl ?_
    refine x_Vi (C := RX6) (T := TX6) (N := 6) (rest := [_]) cx (c_X6_count l G _ hS _) gV_L_14 ndX6_count rfl ⟨Nat.le_of_ble_eq_true rfl, Nat.le_of_ble_eq_true rfl⟩ (zok_7 (by decide)) (by decide) (p_SC) rfl rfl rfl (Nat.le_of_ble_eq_true rfl) dL_seen_19 ⟨Nat.le_of_ble_eq_true rfl, Nat.le_of_ble_eq_true rfl⟩ ?_
    refine x_eqi (cn_lt (by omega)) ?_
    refine x_i2l cx dL_seen_22 ?_
    refine x_ladd cx dL_seen_23 ?_
    refine x_lstore_n (ls' := [_, _, _, _]) cx dL_seen_24 rfl (by decide) rfl ?_
    refine x_iinc (v := nI (k + 1)) (ls' := [_, _, _, _]) cx dL_seen_25 rfl (nI_inc _) (by decide) rfl ?_
    refine x_goto (tgt := 6) cx dL_seen_28 (by decide) ?_
    exact ih (k + 1) (by omega)

