set_option maxHeartbeats 4000000 in
set_option maxRecDepth 100000 in
theorem c_L_isWhole (l : Launch) (G : zG) (S : zS) (hS : kWF S) (hX : XOK (S 0)) : Met l yL_isWhole (zws yL_isWhole cL_isWhole 15 (some .boolean)) (zrm 4 0 0 83) (zPc G 68 (pic G S) [.ref (zad G 7 0)]) (zQi G 68 (1) (pic G S)) 0 0 (zA G) := by
  refine zMet npL_isWhole rfl (Nat.le_of_ble_eq_true rfl) ?_
  intro p e s m args below meth cd hargs cx hr hin0
  have cx : Cx p s m args meth cd cL_isWhole 15 RL G := cx
  refine x_ls (ls' := [some (.ref (zad G 7 0)), none, none, none, none, none, none, none, none, none, none, none, none, none, none]) rfl (fun _ h => h) ?_
  have h6 := hS.1.n6
  have h16 := hS.1.s16
  have h8 := hS.1.c8
  refine x_iconst (v := nI 0) cx dL_isWhole_0 (by decide) ?_
  refine x_istore_n (ls' := [_, _, _, _, _, _, _, _, _, _, _, _, _, _, _]) cx dL_isWhole_1 rfl (by decide) rfl ?_
  refine x_iconst (v := nI 0) cx dL_isWhole_2 (by decide) ?_
  refine x_istore_n (ls' := [_, _, _, _, _, _, _, _, _, _, _, _, _, _, _]) cx dL_isWhole_3 rfl (by decide) rfl ?_
  refine x_iconst (v := nI 0) cx dL_isWhole_4 (by decide) ?_
  refine x_istore_n (ls' := [_, _, _, _, _, _, _, _, _, _, _, _, _, _, _]) cx dL_isWhole_5 rfl (by decide) rfl ?_
  refine x_iconst (v := nI 0) cx dL_isWhole_6 (by decide) ?_
  refine x_istore (ls' := [_, _, _, _, _, _, _, _, _, _, _, _, _, _, _]) cx dL_isWhole_7 (by decide) rfl ?_
  refine x_aload_n cx dL_isWhole_9 rfl rfl ?_
  refine x_iconst (v := nI 0) cx dL_isWhole_10 (by decide) ?_
  refine x_Vi (C := RX6) (T := TX6) (N := 6) (rest := []) cx (c_X6_count l G _ hS _) gV_L_14 ndX6_count rfl ⟨Nat.le_of_ble_eq_true rfl, Nat.le_of_ble_eq_true rfl⟩ (zok_7 (by decide)) (by decide) (p_SC) rfl rfl rfl (Nat.le_of_ble_eq_true rfl) dL_isWhole_11 ⟨Nat.le_of_ble_eq_true rfl, Nat.le_of_ble_eq_true rfl⟩ ?_
  refine x_eqi (cn0 hS.1) ?_
  refine x_istore (ls' := [_, _, _, _, _, _, _, _, _, _, _, _, _, _, _]) cx dL_isWhole_14 (by decide) rfl ?_
  refine x_iload cx dL_isWhole_16 rfl ?_
  refine x_if_lt_f (tgt := 50) cx dL_isWhole_18 (by decide) (nI_pos (by omega)) ?_
  refine x_iload cx dL_isWhole_21 rfl ?_
  refine x_bipush (v := nI 7) cx dL_isWhole_23 (by decide) ?_
  refine x_icmp_ge_f (tgt := 50) cx dL_isWhole_25 (by decide) (nI_ge (by omega) (by omega)) ?_
  refine x_aload_n cx dL_isWhole_28 rfl rfl ?_
  refine x_iconst (v := nI 2) cx dL_isWhole_29 (by decide) ?_
  refine x_Vi (C := RX6) (T := TX6) (N := 6) (rest := []) cx (c_X6_count l G _ hS _) gV_L_14 ndX6_count rfl ⟨Nat.le_of_ble_eq_true rfl, Nat.le_of_ble_eq_true rfl⟩ (zok_7 (by decide)) (by decide) (p_SC) rfl rfl rfl (Nat.le_of_ble_eq_true rfl) dL_isWhole_30 ⟨Nat.le_of_ble_eq_true rfl, Nat.le_of_ble_eq_true rfl⟩ ?_
  refine x_eqi (cn2 hS.1) ?_
  refine x_if_lt_f (tgt := 50) cx dL_isWhole_33 (by decide) (nI_pos (by omega)) ?_
  refine x_aload_n cx dL_isWhole_36 rfl rfl ?_
  refine x_iconst (v := nI 2) cx dL_isWhole_37 (by decide) ?_
  refine x_Vi (C := RX6) (T := TX6) (N := 6) (rest := []) cx (c_X6_count l G _ hS _) gV_L_14 ndX6_count rfl ⟨Nat.le_of_ble_eq_true rfl, Nat.le_of_ble_eq_true rfl⟩ (zok_7 (by decide)) (by decide) (p_SC) rfl rfl rfl (Nat.le_of_ble_eq_true rfl) dL_isWhole_38 ⟨Nat.le_of_ble_eq_true rfl, Nat.le_of_ble_eq_true rfl⟩ ?_
  refine x_eqi (cn2 hS.1) ?_
  refine x_bipush (v := nI 16) cx dL_isWhole_41 (by decide) ?_
  refine x_icmp_ge_f (tgt := 50) cx dL_isWhole_43 (by decide) (nI_ge (by omega) (by omega)) ?_
  refine x_iconst (v := nI 1) cx dL_isWhole_46 (by decide) ?_
  refine x_goto (tgt := 51) cx dL_isWhole_47 (by decide) ?_
  refine x_istore (ls' := [_, _, _, _, _, _, _, _, _, _, _, _, _, _, _]) cx dL_isWhole_51 (by decide) rfl ?_
  refine x_iconst (v := nI 0) cx dL_isWhole_53 (by decide) ?_
  refine x_istore (ls' := [_, _, _, _, _, _, _, _, _, _, _, _, _, _, _]) cx dL_isWhole_54 (by decide) rfl ?_
  suffices K : ∀ f k : Nat, k + f = num (S 0) → Xh p l e (zrm 4 0 0 83) s m args below meth cd 15 G (MQ below (zQi G 68 (1) (pic G S)) args s 0 0 (zA G)) 0 0 68 (pic G S) 56 [some (.ref (zad G 7 0)), some (.int (zSumL zBrk (S 0) k)), some (.int (zSumL (fun c => c 0) (S 0) k)), some (.int (zSumL zBits (S 0) k)), some (.int (zSumL zByp (S 0) k)), some (.int (nI (num (S 0)))), some (.int (nI 1)), some (.int (nI k)), none, none, none, none, none, none, none] [] from K (num (S 0)) 0 (by omega)
  intro f
  induction f with
  | zero =>
    intro k hk
    obtain rfl : k = num (S 0) := by omega
    have K500 : Xh p l e (zrm 4 0 0 83) s m args below meth cd 15 G (MQ below (zQi G 68 (1) (pic G S)) args s 0 0 (zA G)) 0 0 68 (pic G S) 500 [some (.ref (zad G 7 0)), some (.int (zSumL zBrk (S 0) (num (S 0)))), some (.int (zSumL (fun c => c 0) (S 0) (num (S 0)))), some (.int (zSumL zBits (S 0) (num (S 0)))), some (.int (zSumL zByp (S 0) (num (S 0)))), some (.int (nI (num (S 0)))), some (.int (nI 1)), none, none, none, none, none, none, none, none] [.int (nI 1)] := by
      refine x_istore (ls' := [_, _, _, _, _, _, _, _, _, _, _, _, _, _, _]) cx dL_isWhole_500 (by decide) rfl ?_
      refine x_iconst (v := nI 0) cx dL_isWhole_502 (by decide) ?_
      refine x_istore (ls' := [_, _, _, _, _, _, _, _, _, _, _, _, _, _, _]) cx dL_isWhole_503 (by decide) rfl ?_
      suffices K2 : ∀ f k : Nat, k + f = cnt (S 0) → Xh p l e (zrm 4 0 0 83) s m args below meth cd 15 G (MQ below (zQi G 68 (1) (pic G S)) args s 0 0 (zA G)) 0 0 68 (pic G S) 505 [some (.ref (zad G 7 0)), some (.int (zSumL zBrk (S 0) (num (S 0)))), some (.int (zSumL (fun c => c 0) (S 0) (num (S 0)))), some (.int (zSumL zBits (S 0) (num (S 0)))), some (.int (zSumL zByp (S 0) (num (S 0)))), some (.int (nI (num (S 0)))), some (.int (nI 1)), none, none, none, some (.int (nI k)), none, none, none, none] [] from K2 (cnt (S 0)) 0 (by omega)
      intro f
      induction f with
      | zero =>
        intro k hk
        obtain rfl : k = cnt (S 0) := by omega
        obtain ⟨bm, hbm, ebm⟩ := zByp_le (S 0) (num (S 0))
        by_cases hn0 : num (S 0) = 0
        · refine x_iload cx dL_isWhole_505 rfl ?_
          refine x_aload_n cx dL_isWhole_507 rfl rfl ?_
          refine x_bipush (v := nI 6) cx dL_isWhole_508 (by decide) ?_
          refine x_Vi (C := RX6) (T := TX6) (N := 6) (rest := [_]) cx (c_X6_count l G _ hS _) gV_L_14 ndX6_count rfl ⟨Nat.le_of_ble_eq_true rfl, Nat.le_of_ble_eq_true rfl⟩ (zok_7 (by decide)) (by decide) (p_SC) rfl rfl rfl (Nat.le_of_ble_eq_true rfl) dL_isWhole_510 ⟨Nat.le_of_ble_eq_true rfl, Nat.le_of_ble_eq_true rfl⟩ ?_
          refine x_eqi (cn6 hS.1) ?_
          refine x_icmp_ge_t (tgt := 567) cx dL_isWhole_513 (by decide) (nI_le (by omega) (by omega)) ?_
          refine x_iload cx dL_isWhole_567 rfl ?_
          refine x_if_eq_f (tgt := 705) cx dL_isWhole_569 (by decide) (by decide) ?_
          refine x_aload_n cx dL_isWhole_572 rfl rfl ?_
          refine x_bipush (v := nI 6) cx dL_isWhole_573 (by decide) ?_
          refine x_Vi (C := RX6) (T := TX6) (N := 6) (rest := []) cx (c_X6_count l G _ hS _) gV_L_14 ndX6_count rfl ⟨Nat.le_of_ble_eq_true rfl, Nat.le_of_ble_eq_true rfl⟩ (zok_7 (by decide)) (by decide) (p_SC) rfl rfl rfl (Nat.le_of_ble_eq_true rfl) dL_isWhole_575 ⟨Nat.le_of_ble_eq_true rfl, Nat.le_of_ble_eq_true rfl⟩ ?_
          refine x_eqi (cn6 hS.1) ?_
          refine x_bipush (v := nI 9) cx dL_isWhole_578 (by decide) ?_
          refine x_icmp_ge_f (tgt := 705) cx dL_isWhole_580 (by decide) (nI_ge (by omega) (by omega)) ?_
          refine x_iload_n cx dL_isWhole_583 rfl rfl ?_
          refine x_aload_n cx dL_isWhole_584 rfl rfl ?_
          refine x_iconst (v := nI 1) cx dL_isWhole_585 (by decide) ?_
          refine x_Vi (C := RX6) (T := TX6) (N := 6) (rest := [_]) cx (c_X6_count l G _ hS _) gV_L_14 ndX6_count rfl ⟨Nat.le_of_ble_eq_true rfl, Nat.le_of_ble_eq_true rfl⟩ (zok_7 (by decide)) (by decide) (p_SC) rfl rfl rfl (Nat.le_of_ble_eq_true rfl) dL_isWhole_586 ⟨Nat.le_of_ble_eq_true rfl, Nat.le_of_ble_eq_true rfl⟩ ?_
          refine x_eqi cn1 ?_
          refine x_icmp_ne_f (tgt := 705) cx dL_isWhole_589 (by decide) rfl ?_
          refine x_iload_n cx dL_isWhole_592 rfl rfl ?_
          refine x_aload_n cx dL_isWhole_593 rfl rfl ?_
          refine x_iconst (v := nI 4) cx dL_isWhole_594 (by decide) ?_
          refine x_Vi (C := RX6) (T := TX6) (N := 6) (rest := [_]) cx (c_X6_count l G _ hS _) gV_L_14 ndX6_count rfl ⟨Nat.le_of_ble_eq_true rfl, Nat.le_of_ble_eq_true rfl⟩ (zok_7 (by decide)) (by decide) (p_SC) rfl rfl rfl (Nat.le_of_ble_eq_true rfl) dL_isWhole_595 ⟨Nat.le_of_ble_eq_true rfl, Nat.le_of_ble_eq_true rfl⟩ ?_
          refine x_eqi cn4 ?_
          refine x_icmp_ne_f (tgt := 705) cx dL_isWhole_598 (by decide) rfl ?_
          refine x_iload_n cx dL_isWhole_601 rfl rfl ?_
          refine x_aload_n cx dL_isWhole_602 rfl rfl ?_
          refine x_iconst (v := nI 5) cx dL_isWhole_603 (by decide) ?_
          refine x_Vi (C := RX6) (T := TX6) (N := 6) (rest := [_]) cx (c_X6_count l G _ hS _) gV_L_14 ndX6_count rfl ⟨Nat.le_of_ble_eq_true rfl, Nat.le_of_ble_eq_true rfl⟩ (zok_7 (by decide)) (by decide) (p_SC) rfl rfl rfl (Nat.le_of_ble_eq_true rfl) dL_isWhole_604 ⟨Nat.le_of_ble_eq_true rfl, Nat.le_of_ble_eq_true rfl⟩ ?_
          refine x_eqi cn5 ?_
          refine x_icmp_ne_f (tgt := 705) cx dL_isWhole_607 (by decide) rfl ?_
          refine x_iload cx dL_isWhole_610 rfl ?_
          refine x_if_ne_f (tgt := 627) cx dL_isWhole_612 (by decide) (nI_ig (b := 0) (by omega)) ?_
          refine x_aload_n cx dL_isWhole_615 rfl rfl ?_
          refine x_Vf (C := RX6) (T := TX6) (N := 6) (rest := []) cx (c_X6_bypassed l G _ hS) gV_L_30 ndX6_bypassed rfl ⟨Nat.le_of_ble_eq_true rfl, Nat.le_of_ble_eq_true rfl⟩ (zok_7 (by decide)) (by decide) (p_SC) rfl rfl rfl (Nat.le_of_ble_eq_true rfl) dL_isWhole_616 ⟨Nat.le_of_ble_eq_true rfl, Nat.le_of_ble_eq_true rfl⟩ ?_
          refine x_eqf (FB_0 hn0) ?_
          refine x_fconst0 cx dL_isWhole_619 ?_
          refine x_fcmp cx dL_isWhole_620 ?_
          refine x_if_ne_f (tgt := 705) cx dL_isWhole_621 (by decide) fb_0 ?_
          refine x_goto (tgt := 701) cx dL_isWhole_624 (by decide) ?_
          refine x_iconst (v := nI 1) cx dL_isWhole_701 (by decide) ?_
          refine x_goto (tgt := 706) cx dL_isWhole_702 (by decide) ?_
          exact x_zret cx hr rfl (by first | exact Or.inl rfl | exact Or.inr rfl) (fun _ _ _ _ => rfl) dL_isWhole_706
        · have hFB : zFB (S 0) = fq bm (num (S 0)) := FB_n hS.1 hn0 ebm
          have hf1 := fb_1 bm (by omega) (num (S 0)) (by omega) (by omega) hbm
          have hf2 := fb_2 bm (by omega) (num (S 0)) (by omega) (by omega) hbm
          have hf3 := fb_3 bm (by omega) (num (S 0)) (by omega) (by omega) hbm
          have hf4 := fb_4 bm (by omega) (num (S 0)) (by omega) (by omega) hbm
          by_cases hz0 : bm = 0
          · have hz1 : bm ≠ num (S 0) := by omega
            refine x_iload cx dL_isWhole_505 rfl ?_
            refine x_aload_n cx dL_isWhole_507 rfl rfl ?_
            refine x_bipush (v := nI 6) cx dL_isWhole_508 (by decide) ?_
            refine x_Vi (C := RX6) (T := TX6) (N := 6) (rest := [_]) cx (c_X6_count l G _ hS _) gV_L_14 ndX6_count rfl ⟨Nat.le_of_ble_eq_true rfl, Nat.le_of_ble_eq_true rfl⟩ (zok_7 (by decide)) (by decide) (p_SC) rfl rfl rfl (Nat.le_of_ble_eq_true rfl) dL_isWhole_510 ⟨Nat.le_of_ble_eq_true rfl, Nat.le_of_ble_eq_true rfl⟩ ?_
            refine x_eqi (cn6 hS.1) ?_
            refine x_icmp_ge_t (tgt := 567) cx dL_isWhole_513 (by decide) (nI_le (by omega) (by omega)) ?_
            refine x_iload cx dL_isWhole_567 rfl ?_
            refine x_if_eq_f (tgt := 705) cx dL_isWhole_569 (by decide) (by decide) ?_
            refine x_aload_n cx dL_isWhole_572 rfl rfl ?_
            refine x_bipush (v := nI 6) cx dL_isWhole_573 (by decide) ?_
            refine x_Vi (C := RX6) (T := TX6) (N := 6) (rest := []) cx (c_X6_count l G _ hS _) gV_L_14 ndX6_count rfl ⟨Nat.le_of_ble_eq_true rfl, Nat.le_of_ble_eq_true rfl⟩ (zok_7 (by decide)) (by decide) (p_SC) rfl rfl rfl (Nat.le_of_ble_eq_true rfl) dL_isWhole_575 ⟨Nat.le_of_ble_eq_true rfl, Nat.le_of_ble_eq_true rfl⟩ ?_
            refine x_eqi (cn6 hS.1) ?_
            refine x_bipush (v := nI 9) cx dL_isWhole_578 (by decide) ?_
            refine x_icmp_ge_f (tgt := 705) cx dL_isWhole_580 (by decide) (nI_ge (by omega) (by omega)) ?_
            refine x_iload_n cx dL_isWhole_583 rfl rfl ?_
            refine x_aload_n cx dL_isWhole_584 rfl rfl ?_
            refine x_iconst (v := nI 1) cx dL_isWhole_585 (by decide) ?_
            refine x_Vi (C := RX6) (T := TX6) (N := 6) (rest := [_]) cx (c_X6_count l G _ hS _) gV_L_14 ndX6_count rfl ⟨Nat.le_of_ble_eq_true rfl, Nat.le_of_ble_eq_true rfl⟩ (zok_7 (by decide)) (by decide) (p_SC) rfl rfl rfl (Nat.le_of_ble_eq_true rfl) dL_isWhole_586 ⟨Nat.le_of_ble_eq_true rfl, Nat.le_of_ble_eq_true rfl⟩ ?_
            refine x_eqi cn1 ?_
            refine x_icmp_ne_f (tgt := 705) cx dL_isWhole_589 (by decide) rfl ?_
            refine x_iload_n cx dL_isWhole_592 rfl rfl ?_
            refine x_aload_n cx dL_isWhole_593 rfl rfl ?_
            refine x_iconst (v := nI 4) cx dL_isWhole_594 (by decide) ?_
            refine x_Vi (C := RX6) (T := TX6) (N := 6) (rest := [_]) cx (c_X6_count l G _ hS _) gV_L_14 ndX6_count rfl ⟨Nat.le_of_ble_eq_true rfl, Nat.le_of_ble_eq_true rfl⟩ (zok_7 (by decide)) (by decide) (p_SC) rfl rfl rfl (Nat.le_of_ble_eq_true rfl) dL_isWhole_595 ⟨Nat.le_of_ble_eq_true rfl, Nat.le_of_ble_eq_true rfl⟩ ?_
            refine x_eqi cn4 ?_
            refine x_icmp_ne_f (tgt := 705) cx dL_isWhole_598 (by decide) rfl ?_
            refine x_iload_n cx dL_isWhole_601 rfl rfl ?_
            refine x_aload_n cx dL_isWhole_602 rfl rfl ?_
            refine x_iconst (v := nI 5) cx dL_isWhole_603 (by decide) ?_
            refine x_Vi (C := RX6) (T := TX6) (N := 6) (rest := [_]) cx (c_X6_count l G _ hS _) gV_L_14 ndX6_count rfl ⟨Nat.le_of_ble_eq_true rfl, Nat.le_of_ble_eq_true rfl⟩ (zok_7 (by decide)) (by decide) (p_SC) rfl rfl rfl (Nat.le_of_ble_eq_true rfl) dL_isWhole_604 ⟨Nat.le_of_ble_eq_true rfl, Nat.le_of_ble_eq_true rfl⟩ ?_
            refine x_eqi cn5 ?_
            refine x_icmp_ne_f (tgt := 705) cx dL_isWhole_607 (by decide) rfl ?_
            refine x_iload cx dL_isWhole_610 rfl ?_
            refine x_if_ne_t (tgt := 627) cx dL_isWhole_612 (by decide) (nI_ne0 (by omega) (by omega)) ?_
            refine x_aload_n cx dL_isWhole_627 rfl rfl ?_
            refine x_Vf (C := RX6) (T := TX6) (N := 6) (rest := []) cx (c_X6_bypassed l G _ hS) gV_L_30 ndX6_bypassed rfl ⟨Nat.le_of_ble_eq_true rfl, Nat.le_of_ble_eq_true rfl⟩ (zok_7 (by decide)) (by decide) (p_SC) rfl rfl rfl (Nat.le_of_ble_eq_true rfl) dL_isWhole_628 ⟨Nat.le_of_ble_eq_true rfl, Nat.le_of_ble_eq_true rfl⟩ ?_
            refine x_eqf hFB ?_
            refine x_fconst0 cx dL_isWhole_631 ?_
            refine x_fcmp cx dL_isWhole_632 ?_
            refine x_if_lt_f (tgt := 705) cx dL_isWhole_633 (by decide) hf1 ?_
            refine x_aload_n cx dL_isWhole_636 rfl rfl ?_
            refine x_Vf (C := RX6) (T := TX6) (N := 6) (rest := []) cx (c_X6_bypassed l G _ hS) gV_L_30 ndX6_bypassed rfl ⟨Nat.le_of_ble_eq_true rfl, Nat.le_of_ble_eq_true rfl⟩ (zok_7 (by decide)) (by decide) (p_SC) rfl rfl rfl (Nat.le_of_ble_eq_true rfl) dL_isWhole_637 ⟨Nat.le_of_ble_eq_true rfl, Nat.le_of_ble_eq_true rfl⟩ ?_
            refine x_eqf hFB ?_
            refine x_fconst1 cx dL_isWhole_640 ?_
            refine x_fcmp cx dL_isWhole_641 ?_
            refine x_if_gt_f (tgt := 705) cx dL_isWhole_642 (by decide) hf2 ?_
            refine x_aload_n cx dL_isWhole_645 rfl rfl ?_
            refine x_Vf (C := RX6) (T := TX6) (N := 6) (rest := []) cx (c_X6_bypassed l G _ hS) gV_L_30 ndX6_bypassed rfl ⟨Nat.le_of_ble_eq_true rfl, Nat.le_of_ble_eq_true rfl⟩ (zok_7 (by decide)) (by decide) (p_SC) rfl rfl rfl (Nat.le_of_ble_eq_true rfl) dL_isWhole_646 ⟨Nat.le_of_ble_eq_true rfl, Nat.le_of_ble_eq_true rfl⟩ ?_
            refine x_eqf hFB ?_
            refine x_fconst0 cx dL_isWhole_649 ?_
            refine x_fcmp cx dL_isWhole_650 ?_
            refine x_if_ne_f (tgt := 658) cx dL_isWhole_651 (by decide) (hf3.mpr hz0) ?_
            refine x_iconst (v := nI 1) cx dL_isWhole_654 (by decide) ?_
            refine x_goto (tgt := 659) cx dL_isWhole_655 (by decide) ?_
            refine x_iload cx dL_isWhole_659 rfl ?_
            refine x_eqi ebm ?_
            refine x_if_ne_f (tgt := 668) cx dL_isWhole_661 (by decide) (nI_ig (b := 0) (by omega)) ?_
            refine x_iconst (v := nI 1) cx dL_isWhole_664 (by decide) ?_
            refine x_goto (tgt := 669) cx dL_isWhole_665 (by decide) ?_
            refine x_icmp_ne_f (tgt := 705) cx dL_isWhole_669 (by decide) (by decide) ?_
            refine x_aload_n cx dL_isWhole_672 rfl rfl ?_
            refine x_Vf (C := RX6) (T := TX6) (N := 6) (rest := []) cx (c_X6_bypassed l G _ hS) gV_L_30 ndX6_bypassed rfl ⟨Nat.le_of_ble_eq_true rfl, Nat.le_of_ble_eq_true rfl⟩ (zok_7 (by decide)) (by decide) (p_SC) rfl rfl rfl (Nat.le_of_ble_eq_true rfl) dL_isWhole_673 ⟨Nat.le_of_ble_eq_true rfl, Nat.le_of_ble_eq_true rfl⟩ ?_
            refine x_eqf hFB ?_
            refine x_fconst1 cx dL_isWhole_676 ?_
            refine x_fcmp cx dL_isWhole_677 ?_
            refine x_if_ne_t (tgt := 685) cx dL_isWhole_678 (by decide) (fun z => hz1 (hf4.mp z)) ?_
            refine x_iconst (v := nI 0) cx dL_isWhole_685 (by decide) ?_
            refine x_iload cx dL_isWhole_686 rfl ?_
            refine x_eqi ebm ?_
            refine x_iload cx dL_isWhole_688 rfl ?_
            refine x_icmp_ne_t (tgt := 697) cx dL_isWhole_690 (by decide) (nI_nq (by omega) (by omega) (by omega)) ?_
            refine x_iconst (v := nI 0) cx dL_isWhole_697 (by decide) ?_
            refine x_icmp_ne_f (tgt := 705) cx dL_isWhole_698 (by decide) (by decide) ?_
            refine x_iconst (v := nI 1) cx dL_isWhole_701 (by decide) ?_
            refine x_goto (tgt := 706) cx dL_isWhole_702 (by decide) ?_
            exact x_zret cx hr rfl (by first | exact Or.inl rfl | exact Or.inr rfl) (fun _ _ _ _ => rfl) dL_isWhole_706
          · by_cases hz1 : bm = num (S 0)
            · refine x_iload cx dL_isWhole_505 rfl ?_
              refine x_aload_n cx dL_isWhole_507 rfl rfl ?_
              refine x_bipush (v := nI 6) cx dL_isWhole_508 (by decide) ?_
              refine x_Vi (C := RX6) (T := TX6) (N := 6) (rest := [_]) cx (c_X6_count l G _ hS _) gV_L_14 ndX6_count rfl ⟨Nat.le_of_ble_eq_true rfl, Nat.le_of_ble_eq_true rfl⟩ (zok_7 (by decide)) (by decide) (p_SC) rfl rfl rfl (Nat.le_of_ble_eq_true rfl) dL_isWhole_510 ⟨Nat.le_of_ble_eq_true rfl, Nat.le_of_ble_eq_true rfl⟩ ?_
              refine x_eqi (cn6 hS.1) ?_
              refine x_icmp_ge_t (tgt := 567) cx dL_isWhole_513 (by decide) (nI_le (by omega) (by omega)) ?_
              refine x_iload cx dL_isWhole_567 rfl ?_
              refine x_if_eq_f (tgt := 705) cx dL_isWhole_569 (by decide) (by decide) ?_
              refine x_aload_n cx dL_isWhole_572 rfl rfl ?_
              refine x_bipush (v := nI 6) cx dL_isWhole_573 (by decide) ?_
              refine x_Vi (C := RX6) (T := TX6) (N := 6) (rest := []) cx (c_X6_count l G _ hS _) gV_L_14 ndX6_count rfl ⟨Nat.le_of_ble_eq_true rfl, Nat.le_of_ble_eq_true rfl⟩ (zok_7 (by decide)) (by decide) (p_SC) rfl rfl rfl (Nat.le_of_ble_eq_true rfl) dL_isWhole_575 ⟨Nat.le_of_ble_eq_true rfl, Nat.le_of_ble_eq_true rfl⟩ ?_
              refine x_eqi (cn6 hS.1) ?_
              refine x_bipush (v := nI 9) cx dL_isWhole_578 (by decide) ?_
              refine x_icmp_ge_f (tgt := 705) cx dL_isWhole_580 (by decide) (nI_ge (by omega) (by omega)) ?_
              refine x_iload_n cx dL_isWhole_583 rfl rfl ?_
              refine x_aload_n cx dL_isWhole_584 rfl rfl ?_
              refine x_iconst (v := nI 1) cx dL_isWhole_585 (by decide) ?_
              refine x_Vi (C := RX6) (T := TX6) (N := 6) (rest := [_]) cx (c_X6_count l G _ hS _) gV_L_14 ndX6_count rfl ⟨Nat.le_of_ble_eq_true rfl, Nat.le_of_ble_eq_true rfl⟩ (zok_7 (by decide)) (by decide) (p_SC) rfl rfl rfl (Nat.le_of_ble_eq_true rfl) dL_isWhole_586 ⟨Nat.le_of_ble_eq_true rfl, Nat.le_of_ble_eq_true rfl⟩ ?_
              refine x_eqi cn1 ?_
              refine x_icmp_ne_f (tgt := 705) cx dL_isWhole_589 (by decide) rfl ?_
              refine x_iload_n cx dL_isWhole_592 rfl rfl ?_
              refine x_aload_n cx dL_isWhole_593 rfl rfl ?_
              refine x_iconst (v := nI 4) cx dL_isWhole_594 (by decide) ?_
              refine x_Vi (C := RX6) (T := TX6) (N := 6) (rest := [_]) cx (c_X6_count l G _ hS _) gV_L_14 ndX6_count rfl ⟨Nat.le_of_ble_eq_true rfl, Nat.le_of_ble_eq_true rfl⟩ (zok_7 (by decide)) (by decide) (p_SC) rfl rfl rfl (Nat.le_of_ble_eq_true rfl) dL_isWhole_595 ⟨Nat.le_of_ble_eq_true rfl, Nat.le_of_ble_eq_true rfl⟩ ?_
              refine x_eqi cn4 ?_
              refine x_icmp_ne_f (tgt := 705) cx dL_isWhole_598 (by decide) rfl ?_
              refine x_iload_n cx dL_isWhole_601 rfl rfl ?_
              refine x_aload_n cx dL_isWhole_602 rfl rfl ?_
              refine x_iconst (v := nI 5) cx dL_isWhole_603 (by decide) ?_
              refine x_Vi (C := RX6) (T := TX6) (N := 6) (rest := [_]) cx (c_X6_count l G _ hS _) gV_L_14 ndX6_count rfl ⟨Nat.le_of_ble_eq_true rfl, Nat.le_of_ble_eq_true rfl⟩ (zok_7 (by decide)) (by decide) (p_SC) rfl rfl rfl (Nat.le_of_ble_eq_true rfl) dL_isWhole_604 ⟨Nat.le_of_ble_eq_true rfl, Nat.le_of_ble_eq_true rfl⟩ ?_
              refine x_eqi cn5 ?_
              refine x_icmp_ne_f (tgt := 705) cx dL_isWhole_607 (by decide) rfl ?_
              refine x_iload cx dL_isWhole_610 rfl ?_
              refine x_if_ne_t (tgt := 627) cx dL_isWhole_612 (by decide) (nI_ne0 (by omega) (by omega)) ?_
              refine x_aload_n cx dL_isWhole_627 rfl rfl ?_
              refine x_Vf (C := RX6) (T := TX6) (N := 6) (rest := []) cx (c_X6_bypassed l G _ hS) gV_L_30 ndX6_bypassed rfl ⟨Nat.le_of_ble_eq_true rfl, Nat.le_of_ble_eq_true rfl⟩ (zok_7 (by decide)) (by decide) (p_SC) rfl rfl rfl (Nat.le_of_ble_eq_true rfl) dL_isWhole_628 ⟨Nat.le_of_ble_eq_true rfl, Nat.le_of_ble_eq_true rfl⟩ ?_
              refine x_eqf hFB ?_
              refine x_fconst0 cx dL_isWhole_631 ?_
              refine x_fcmp cx dL_isWhole_632 ?_
              refine x_if_lt_f (tgt := 705) cx dL_isWhole_633 (by decide) hf1 ?_
              refine x_aload_n cx dL_isWhole_636 rfl rfl ?_
              refine x_Vf (C := RX6) (T := TX6) (N := 6) (rest := []) cx (c_X6_bypassed l G _ hS) gV_L_30 ndX6_bypassed rfl ⟨Nat.le_of_ble_eq_true rfl, Nat.le_of_ble_eq_true rfl⟩ (zok_7 (by decide)) (by decide) (p_SC) rfl rfl rfl (Nat.le_of_ble_eq_true rfl) dL_isWhole_637 ⟨Nat.le_of_ble_eq_true rfl, Nat.le_of_ble_eq_true rfl⟩ ?_
              refine x_eqf hFB ?_
              refine x_fconst1 cx dL_isWhole_640 ?_
              refine x_fcmp cx dL_isWhole_641 ?_
              refine x_if_gt_f (tgt := 705) cx dL_isWhole_642 (by decide) hf2 ?_
              refine x_aload_n cx dL_isWhole_645 rfl rfl ?_
              refine x_Vf (C := RX6) (T := TX6) (N := 6) (rest := []) cx (c_X6_bypassed l G _ hS) gV_L_30 ndX6_bypassed rfl ⟨Nat.le_of_ble_eq_true rfl, Nat.le_of_ble_eq_true rfl⟩ (zok_7 (by decide)) (by decide) (p_SC) rfl rfl rfl (Nat.le_of_ble_eq_true rfl) dL_isWhole_646 ⟨Nat.le_of_ble_eq_true rfl, Nat.le_of_ble_eq_true rfl⟩ ?_
              refine x_eqf hFB ?_
              refine x_fconst0 cx dL_isWhole_649 ?_
              refine x_fcmp cx dL_isWhole_650 ?_
              refine x_if_ne_t (tgt := 658) cx dL_isWhole_651 (by decide) (fun z => hz0 (hf3.mp z)) ?_
              refine x_iconst (v := nI 0) cx dL_isWhole_658 (by decide) ?_
              refine x_iload cx dL_isWhole_659 rfl ?_
              refine x_eqi ebm ?_
              refine x_if_ne_t (tgt := 668) cx dL_isWhole_661 (by decide) (nI_ne0 (by omega) (by omega)) ?_
              refine x_iconst (v := nI 0) cx dL_isWhole_668 (by decide) ?_
              refine x_icmp_ne_f (tgt := 705) cx dL_isWhole_669 (by decide) (by decide) ?_
              refine x_aload_n cx dL_isWhole_672 rfl rfl ?_
              refine x_Vf (C := RX6) (T := TX6) (N := 6) (rest := []) cx (c_X6_bypassed l G _ hS) gV_L_30 ndX6_bypassed rfl ⟨Nat.le_of_ble_eq_true rfl, Nat.le_of_ble_eq_true rfl⟩ (zok_7 (by decide)) (by decide) (p_SC) rfl rfl rfl (Nat.le_of_ble_eq_true rfl) dL_isWhole_673 ⟨Nat.le_of_ble_eq_true rfl, Nat.le_of_ble_eq_true rfl⟩ ?_
              refine x_eqf hFB ?_
              refine x_fconst1 cx dL_isWhole_676 ?_
              refine x_fcmp cx dL_isWhole_677 ?_
              refine x_if_ne_f (tgt := 685) cx dL_isWhole_678 (by decide) (hf4.mpr hz1) ?_
              refine x_iconst (v := nI 1) cx dL_isWhole_681 (by decide) ?_
              refine x_goto (tgt := 686) cx dL_isWhole_682 (by decide) ?_
              refine x_iload cx dL_isWhole_686 rfl ?_
              refine x_eqi ebm ?_
              refine x_iload cx dL_isWhole_688 rfl ?_
              refine x_icmp_ne_f (tgt := 697) cx dL_isWhole_690 (by decide) (nI_ig (by omega)) ?_
              refine x_iconst (v := nI 1) cx dL_isWhole_693 (by decide) ?_
              refine x_goto (tgt := 698) cx dL_isWhole_694 (by decide) ?_
              refine x_icmp_ne_f (tgt := 705) cx dL_isWhole_698 (by decide) (by decide) ?_
              refine x_iconst (v := nI 1) cx dL_isWhole_701 (by decide) ?_
              refine x_goto (tgt := 706) cx dL_isWhole_702 (by decide) ?_
              exact x_zret cx hr rfl (by first | exact Or.inl rfl | exact Or.inr rfl) (fun _ _ _ _ => rfl) dL_isWhole_706
            · refine x_iload cx dL_isWhole_505 rfl ?_
              refine x_aload_n cx dL_isWhole_507 rfl rfl ?_
              refine x_bipush (v := nI 6) cx dL_isWhole_508 (by decide) ?_
              refine x_Vi (C := RX6) (T := TX6) (N := 6) (rest := [_]) cx (c_X6_count l G _ hS _) gV_L_14 ndX6_count rfl ⟨Nat.le_of_ble_eq_true rfl, Nat.le_of_ble_eq_true rfl⟩ (zok_7 (by decide)) (by decide) (p_SC) rfl rfl rfl (Nat.le_of_ble_eq_true rfl) dL_isWhole_510 ⟨Nat.le_of_ble_eq_true rfl, Nat.le_of_ble_eq_true rfl⟩ ?_
              refine x_eqi (cn6 hS.1) ?_
              refine x_icmp_ge_t (tgt := 567) cx dL_isWhole_513 (by decide) (nI_le (by omega) (by omega)) ?_
              refine x_iload cx dL_isWhole_567 rfl ?_
              refine x_if_eq_f (tgt := 705) cx dL_isWhole_569 (by decide) (by decide) ?_
              refine x_aload_n cx dL_isWhole_572 rfl rfl ?_
              refine x_bipush (v := nI 6) cx dL_isWhole_573 (by decide) ?_
              refine x_Vi (C := RX6) (T := TX6) (N := 6) (rest := []) cx (c_X6_count l G _ hS _) gV_L_14 ndX6_count rfl ⟨Nat.le_of_ble_eq_true rfl, Nat.le_of_ble_eq_true rfl⟩ (zok_7 (by decide)) (by decide) (p_SC) rfl rfl rfl (Nat.le_of_ble_eq_true rfl) dL_isWhole_575 ⟨Nat.le_of_ble_eq_true rfl, Nat.le_of_ble_eq_true rfl⟩ ?_
              refine x_eqi (cn6 hS.1) ?_
              refine x_bipush (v := nI 9) cx dL_isWhole_578 (by decide) ?_
              refine x_icmp_ge_f (tgt := 705) cx dL_isWhole_580 (by decide) (nI_ge (by omega) (by omega)) ?_
              refine x_iload_n cx dL_isWhole_583 rfl rfl ?_
              refine x_aload_n cx dL_isWhole_584 rfl rfl ?_
              refine x_iconst (v := nI 1) cx dL_isWhole_585 (by decide) ?_
              refine x_Vi (C := RX6) (T := TX6) (N := 6) (rest := [_]) cx (c_X6_count l G _ hS _) gV_L_14 ndX6_count rfl ⟨Nat.le_of_ble_eq_true rfl, Nat.le_of_ble_eq_true rfl⟩ (zok_7 (by decide)) (by decide) (p_SC) rfl rfl rfl (Nat.le_of_ble_eq_true rfl) dL_isWhole_586 ⟨Nat.le_of_ble_eq_true rfl, Nat.le_of_ble_eq_true rfl⟩ ?_
              refine x_eqi cn1 ?_
              refine x_icmp_ne_f (tgt := 705) cx dL_isWhole_589 (by decide) rfl ?_
              refine x_iload_n cx dL_isWhole_592 rfl rfl ?_
              refine x_aload_n cx dL_isWhole_593 rfl rfl ?_
              refine x_iconst (v := nI 4) cx dL_isWhole_594 (by decide) ?_
              refine x_Vi (C := RX6) (T := TX6) (N := 6) (rest := [_]) cx (c_X6_count l G _ hS _) gV_L_14 ndX6_count rfl ⟨Nat.le_of_ble_eq_true rfl, Nat.le_of_ble_eq_true rfl⟩ (zok_7 (by decide)) (by decide) (p_SC) rfl rfl rfl (Nat.le_of_ble_eq_true rfl) dL_isWhole_595 ⟨Nat.le_of_ble_eq_true rfl, Nat.le_of_ble_eq_true rfl⟩ ?_
              refine x_eqi cn4 ?_
              refine x_icmp_ne_f (tgt := 705) cx dL_isWhole_598 (by decide) rfl ?_
              refine x_iload_n cx dL_isWhole_601 rfl rfl ?_
              refine x_aload_n cx dL_isWhole_602 rfl rfl ?_
              refine x_iconst (v := nI 5) cx dL_isWhole_603 (by decide) ?_
              refine x_Vi (C := RX6) (T := TX6) (N := 6) (rest := [_]) cx (c_X6_count l G _ hS _) gV_L_14 ndX6_count rfl ⟨Nat.le_of_ble_eq_true rfl, Nat.le_of_ble_eq_true rfl⟩ (zok_7 (by decide)) (by decide) (p_SC) rfl rfl rfl (Nat.le_of_ble_eq_true rfl) dL_isWhole_604 ⟨Nat.le_of_ble_eq_true rfl, Nat.le_of_ble_eq_true rfl⟩ ?_
              refine x_eqi cn5 ?_
              refine x_icmp_ne_f (tgt := 705) cx dL_isWhole_607 (by decide) rfl ?_
              refine x_iload cx dL_isWhole_610 rfl ?_
              refine x_if_ne_t (tgt := 627) cx dL_isWhole_612 (by decide) (nI_ne0 (by omega) (by omega)) ?_
              refine x_aload_n cx dL_isWhole_627 rfl rfl ?_
              refine x_Vf (C := RX6) (T := TX6) (N := 6) (rest := []) cx (c_X6_bypassed l G _ hS) gV_L_30 ndX6_bypassed rfl ⟨Nat.le_of_ble_eq_true rfl, Nat.le_of_ble_eq_true rfl⟩ (zok_7 (by decide)) (by decide) (p_SC) rfl rfl rfl (Nat.le_of_ble_eq_true rfl) dL_isWhole_628 ⟨Nat.le_of_ble_eq_true rfl, Nat.le_of_ble_eq_true rfl⟩ ?_
              refine x_eqf hFB ?_
              refine x_fconst0 cx dL_isWhole_631 ?_
              refine x_fcmp cx dL_isWhole_632 ?_
              refine x_if_lt_f (tgt := 705) cx dL_isWhole_633 (by decide) hf1 ?_
              refine x_aload_n cx dL_isWhole_636 rfl rfl ?_
              refine x_Vf (C := RX6) (T := TX6) (N := 6) (rest := []) cx (c_X6_bypassed l G _ hS) gV_L_30 ndX6_bypassed rfl ⟨Nat.le_of_ble_eq_true rfl, Nat.le_of_ble_eq_true rfl⟩ (zok_7 (by decide)) (by decide) (p_SC) rfl rfl rfl (Nat.le_of_ble_eq_true rfl) dL_isWhole_637 ⟨Nat.le_of_ble_eq_true rfl, Nat.le_of_ble_eq_true rfl⟩ ?_
              refine x_eqf hFB ?_
              refine x_fconst1 cx dL_isWhole_640 ?_
              refine x_fcmp cx dL_isWhole_641 ?_
              refine x_if_gt_f (tgt := 705) cx dL_isWhole_642 (by decide) hf2 ?_
              refine x_aload_n cx dL_isWhole_645 rfl rfl ?_
              refine x_Vf (C := RX6) (T := TX6) (N := 6) (rest := []) cx (c_X6_bypassed l G _ hS) gV_L_30 ndX6_bypassed rfl ⟨Nat.le_of_ble_eq_true rfl, Nat.le_of_ble_eq_true rfl⟩ (zok_7 (by decide)) (by decide) (p_SC) rfl rfl rfl (Nat.le_of_ble_eq_true rfl) dL_isWhole_646 ⟨Nat.le_of_ble_eq_true rfl, Nat.le_of_ble_eq_true rfl⟩ ?_
              refine x_eqf hFB ?_
              refine x_fconst0 cx dL_isWhole_649 ?_
              refine x_fcmp cx dL_isWhole_650 ?_
              refine x_if_ne_t (tgt := 658) cx dL_isWhole_651 (by decide) (fun z => hz0 (hf3.mp z)) ?_
              refine x_iconst (v := nI 0) cx dL_isWhole_658 (by decide) ?_
              refine x_iload cx dL_isWhole_659 rfl ?_
              refine x_eqi ebm ?_
              refine x_if_ne_t (tgt := 668) cx dL_isWhole_661 (by decide) (nI_ne0 (by omega) (by omega)) ?_
              refine x_iconst (v := nI 0) cx dL_isWhole_668 (by decide) ?_
              refine x_icmp_ne_f (tgt := 705) cx dL_isWhole_669 (by decide) (by decide) ?_
              refine x_aload_n cx dL_isWhole_672 rfl rfl ?_
              refine x_Vf (C := RX6) (T := TX6) (N := 6) (rest := []) cx (c_X6_bypassed l G _ hS) gV_L_30 ndX6_bypassed rfl ⟨Nat.le_of_ble_eq_true rfl, Nat.le_of_ble_eq_true rfl⟩ (zok_7 (by decide)) (by decide) (p_SC) rfl rfl rfl (Nat.le_of_ble_eq_true rfl) dL_isWhole_673 ⟨Nat.le_of_ble_eq_true rfl, Nat.le_of_ble_eq_true rfl⟩ ?_
              refine x_eqf hFB ?_
              refine x_fconst1 cx dL_isWhole_676 ?_
              refine x_fcmp cx dL_isWhole_677 ?_
              refine x_if_ne_t (tgt := 685) cx dL_isWhole_678 (by decide) (fun z => hz1 (hf4.mp z)) ?_
              refine x_iconst (v := nI 0) cx dL_isWhole_685 (by decide) ?_
              refine x_iload cx dL_isWhole_686 rfl ?_
              refine x_eqi ebm ?_
              refine x_iload cx dL_isWhole_688 rfl ?_
              refine x_icmp_ne_t (tgt := 697) cx dL_isWhole_690 (by decide) (nI_nq (by omega) (by omega) (by omega)) ?_
              refine x_iconst (v := nI 0) cx dL_isWhole_697 (by decide) ?_
              refine x_icmp_ne_f (tgt := 705) cx dL_isWhole_698 (by decide) (by decide) ?_
              refine x_iconst (v := nI 1) cx dL_isWhole_701 (by decide) ?_
              refine x_goto (tgt := 706) cx dL_isWhole_702 (by decide) ?_
              exact x_zret cx hr rfl (by first | exact Or.inl rfl | exact Or.inr rfl) (fun _ _ _ _ => rfl) dL_isWhole_706
      | succ f ih2 =>
        intro k hk
        obtain ⟨v, ev, hv1, hv2⟩ := hX.2.2 k (by omega)
        rcases hv2 with hv2 | hv2
        · refine x_iload cx dL_isWhole_505 rfl ?_
          refine x_aload_n cx dL_isWhole_507 rfl rfl ?_
          refine x_bipush (v := nI 6) cx dL_isWhole_508 (by decide) ?_
          refine x_Vi (C := RX6) (T := TX6) (N := 6) (rest := [_]) cx (c_X6_count l G _ hS _) gV_L_14 ndX6_count rfl ⟨Nat.le_of_ble_eq_true rfl, Nat.le_of_ble_eq_true rfl⟩ (zok_7 (by decide)) (by decide) (p_SC) rfl rfl rfl (Nat.le_of_ble_eq_true rfl) dL_isWhole_510 ⟨Nat.le_of_ble_eq_true rfl, Nat.le_of_ble_eq_true rfl⟩ ?_
          refine x_eqi (cn6 hS.1) ?_
          refine x_icmp_ge_f (tgt := 567) cx dL_isWhole_513 (by decide) (nI_ge (by omega) (by omega)) ?_
          refine x_iload cx dL_isWhole_516 rfl ?_
          refine x_if_eq_f (tgt := 567) cx dL_isWhole_518 (by decide) (by decide) ?_
          refine x_aload_n cx dL_isWhole_521 rfl rfl ?_
          refine x_iload cx dL_isWhole_522 rfl ?_
          refine x_Vi (C := RX6) (T := TX6) (N := 6) (rest := []) cx (c_X6_found l G _ hS _) gV_L_24 ndX6_found rfl ⟨Nat.le_of_ble_eq_true rfl, Nat.le_of_ble_eq_true rfl⟩ (zok_7 (by decide)) (by decide) (p_SC) rfl rfl rfl (Nat.le_of_ble_eq_true rfl) dL_isWhole_524 ⟨Nat.le_of_ble_eq_true rfl, Nat.le_of_ble_eq_true rfl⟩ ?_
          refine x_eqi ((fd_in hS.1 (by omega)).trans ev) ?_
          refine x_if_eq_t (tgt := 554) cx dL_isWhole_527 (by decide) (nI_ig (b := 0) (by omega)) ?_
          refine x_iconst (v := nI 1) cx dL_isWhole_554 (by decide) ?_
          refine x_goto (tgt := 559) cx dL_isWhole_555 (by decide) ?_
          refine x_istore (ls' := [_, _, _, _, _, _, _, _, _, _, _, _, _, _, _]) cx dL_isWhole_559 (by decide) rfl ?_
          refine x_iinc (v := nI (k + 1)) (ls' := [_, _, _, _, _, _, _, _, _, _, _, _, _, _, _]) cx dL_isWhole_561 rfl (nI_inc _) (by decide) rfl ?_
          refine x_goto (tgt := 505) cx dL_isWhole_564 (by decide) ?_
          exact x_ls rfl (by simp [lo]) (ih2 (k + 1) (by omega))
        · refine x_iload cx dL_isWhole_505 rfl ?_
          refine x_aload_n cx dL_isWhole_507 rfl rfl ?_
          refine x_bipush (v := nI 6) cx dL_isWhole_508 (by decide) ?_
          refine x_Vi (C := RX6) (T := TX6) (N := 6) (rest := [_]) cx (c_X6_count l G _ hS _) gV_L_14 ndX6_count rfl ⟨Nat.le_of_ble_eq_true rfl, Nat.le_of_ble_eq_true rfl⟩ (zok_7 (by decide)) (by decide) (p_SC) rfl rfl rfl (Nat.le_of_ble_eq_true rfl) dL_isWhole_510 ⟨Nat.le_of_ble_eq_true rfl, Nat.le_of_ble_eq_true rfl⟩ ?_
          refine x_eqi (cn6 hS.1) ?_
          refine x_icmp_ge_f (tgt := 567) cx dL_isWhole_513 (by decide) (nI_ge (by omega) (by omega)) ?_
          refine x_iload cx dL_isWhole_516 rfl ?_
          refine x_if_eq_f (tgt := 567) cx dL_isWhole_518 (by decide) (by decide) ?_
          refine x_aload_n cx dL_isWhole_521 rfl rfl ?_
          refine x_iload cx dL_isWhole_522 rfl ?_
          refine x_Vi (C := RX6) (T := TX6) (N := 6) (rest := []) cx (c_X6_found l G _ hS _) gV_L_24 ndX6_found rfl ⟨Nat.le_of_ble_eq_true rfl, Nat.le_of_ble_eq_true rfl⟩ (zok_7 (by decide)) (by decide) (p_SC) rfl rfl rfl (Nat.le_of_ble_eq_true rfl) dL_isWhole_524 ⟨Nat.le_of_ble_eq_true rfl, Nat.le_of_ble_eq_true rfl⟩ ?_
          refine x_eqi ((fd_in hS.1 (by omega)).trans ev) ?_
          refine x_if_eq_f (tgt := 554) cx dL_isWhole_527 (by decide) (nI_ne0 (by omega) (by omega)) ?_
          refine x_aload_n cx dL_isWhole_530 rfl rfl ?_
          refine x_iload cx dL_isWhole_531 rfl ?_
          refine x_Vi (C := RX6) (T := TX6) (N := 6) (rest := []) cx (c_X6_found l G _ hS _) gV_L_24 ndX6_found rfl ⟨Nat.le_of_ble_eq_true rfl, Nat.le_of_ble_eq_true rfl⟩ (zok_7 (by decide)) (by decide) (p_SC) rfl rfl rfl (Nat.le_of_ble_eq_true rfl) dL_isWhole_533 ⟨Nat.le_of_ble_eq_true rfl, Nat.le_of_ble_eq_true rfl⟩ ?_
          refine x_eqi ((fd_in hS.1 (by omega)).trans ev) ?_
          refine x_iconst (v := nI 2) cx dL_isWhole_536 (by decide) ?_
          refine x_irem cx dL_isWhole_537 (by decide) ?_
          refine x_eqi (pk_rem (by omega) (by omega) (by omega)) ?_
          refine x_iconst (v := nI 1) cx dL_isWhole_538 (by decide) ?_
          refine x_icmp_ne_f (tgt := 558) cx dL_isWhole_539 (by decide) (nI_ig (by omega)) ?_
          refine x_aload_n cx dL_isWhole_542 rfl rfl ?_
          refine x_iload cx dL_isWhole_543 rfl ?_
          refine x_Vi (C := RX6) (T := TX6) (N := 6) (rest := []) cx (c_X6_found l G _ hS _) gV_L_24 ndX6_found rfl ⟨Nat.le_of_ble_eq_true rfl, Nat.le_of_ble_eq_true rfl⟩ (zok_7 (by decide)) (by decide) (p_SC) rfl rfl rfl (Nat.le_of_ble_eq_true rfl) dL_isWhole_545 ⟨Nat.le_of_ble_eq_true rfl, Nat.le_of_ble_eq_true rfl⟩ ?_
          refine x_eqi ((fd_in hS.1 (by omega)).trans ev) ?_
          refine x_sipush (v := nI 255) cx dL_isWhole_548 (by decide) ?_
          refine x_icmp_ge_f (tgt := 558) cx dL_isWhole_551 (by decide) (nI_ge (by omega) (by omega)) ?_
          refine x_iconst (v := nI 1) cx dL_isWhole_554 (by decide) ?_
          refine x_goto (tgt := 559) cx dL_isWhole_555 (by decide) ?_
          refine x_istore (ls' := [_, _, _, _, _, _, _, _, _, _, _, _, _, _, _]) cx dL_isWhole_559 (by decide) rfl ?_
          refine x_iinc (v := nI (k + 1)) (ls' := [_, _, _, _, _, _, _, _, _, _, _, _, _, _, _]) cx dL_isWhole_561 rfl (nI_inc _) (by decide) rfl ?_
          refine x_goto (tgt := 505) cx dL_isWhole_564 (by decide) ?_
          exact x_ls rfl (by simp [lo]) (ih2 (k + 1) (by omega))
    by_cases hn0 : num (S 0) = 0
    · by_cases h4 : stt (S 0) = 4
      · refine x_iload cx dL_isWhole_56 rfl ?_
        refine x_iload cx dL_isWhole_58 rfl ?_
        refine x_icmp_ge_t (tgt := 350) cx dL_isWhole_60 (by decide) (nI_le (by omega) (by omega)) ?_
        refine x_aload_n cx dL_isWhole_350 rfl rfl ?_
        refine x_iconst (v := nI 2) cx dL_isWhole_351 (by decide) ?_
        refine x_Vi (C := RX6) (T := TX6) (N := 6) (rest := []) cx (c_X6_count l G _ hS _) gV_L_14 ndX6_count rfl ⟨Nat.le_of_ble_eq_true rfl, Nat.le_of_ble_eq_true rfl⟩ (zok_7 (by decide)) (by decide) (p_SC) rfl rfl rfl (Nat.le_of_ble_eq_true rfl) dL_isWhole_352 ⟨Nat.le_of_ble_eq_true rfl, Nat.le_of_ble_eq_true rfl⟩ ?_
        refine x_eqi (cn2 hS.1) ?_
        refine x_istore (ls' := [_, _, _, _, _, _, _, _, _, _, _, _, _, _, _]) cx dL_isWhole_355 (by decide) rfl ?_
        refine x_iload cx dL_isWhole_357 rfl ?_
        refine x_if_ne_f (tgt := 366) cx dL_isWhole_359 (by decide) (nI_ig (b := 0) (by omega)) ?_
        refine x_iconst (v := nI 0) cx dL_isWhole_362 (by decide) ?_
        refine x_goto (tgt := 416) cx dL_isWhole_363 (by decide) ?_
        refine x_istore (ls' := [_, _, _, _, _, _, _, _, _, _, _, _, _, _, _]) cx dL_isWhole_416 (by decide) rfl ?_
        refine x_iload cx dL_isWhole_418 rfl ?_
        refine x_iconst (v := nI 4) cx dL_isWhole_420 (by decide) ?_
        refine x_icmp_eq_t (tgt := 431) cx dL_isWhole_421 (by decide) (nI_ig (by omega)) ?_
        refine x_iconst (v := nI 1) cx dL_isWhole_431 (by decide) ?_
        refine x_goto (tgt := 436) cx dL_isWhole_432 (by decide) ?_
        refine x_istore (ls' := [_, _, _, _, _, _, _, _, _, _, _, _, _, _, _]) cx dL_isWhole_436 (by decide) rfl ?_
        refine x_iload cx dL_isWhole_438 rfl ?_
        refine x_if_eq_f (tgt := 499) cx dL_isWhole_440 (by decide) (by decide) ?_
        refine x_aload_n cx dL_isWhole_443 rfl rfl ?_
        refine x_iconst (v := nI 0) cx dL_isWhole_444 (by decide) ?_
        refine x_Vi (C := RX6) (T := TX6) (N := 6) (rest := []) cx (c_X6_peek l G _ hS _) gV_L_27 ndX6_peek rfl ⟨Nat.le_of_ble_eq_true rfl, Nat.le_of_ble_eq_true rfl⟩ (zok_7 (by decide)) (by decide) (p_SC) rfl rfl rfl (Nat.le_of_ble_eq_true rfl) dL_isWhole_445 ⟨Nat.le_of_ble_eq_true rfl, Nat.le_of_ble_eq_true rfl⟩ ?_
        refine x_eqi ((pk_01 (by decide)).trans (ot_40 hS.1 h4 hn0)) ?_
        refine x_iload cx dL_isWhole_448 rfl ?_
        refine x_if_ne_t (tgt := 457) cx dL_isWhole_450 (by decide) (nI_ne0 (by omega) (by omega)) ?_
        refine x_iload cx dL_isWhole_457 rfl ?_
        refine x_if_ne_f (tgt := 466) cx dL_isWhole_459 (by decide) (nI_ig (b := 0) (by omega)) ?_
        refine x_iconst (v := nI 0) cx dL_isWhole_462 (by decide) ?_
        refine x_goto (tgt := 468) cx dL_isWhole_463 (by decide) ?_
        refine x_icmp_ne_f (tgt := 499) cx dL_isWhole_468 (by decide) (nI_ig (by omega)) ?_
        refine x_aload_n cx dL_isWhole_471 rfl rfl ?_
        refine x_iconst (v := nI 1) cx dL_isWhole_472 (by decide) ?_
        refine x_Vi (C := RX6) (T := TX6) (N := 6) (rest := []) cx (c_X6_peek l G _ hS _) gV_L_27 ndX6_peek rfl ⟨Nat.le_of_ble_eq_true rfl, Nat.le_of_ble_eq_true rfl⟩ (zok_7 (by decide)) (by decide) (p_SC) rfl rfl rfl (Nat.le_of_ble_eq_true rfl) dL_isWhole_473 ⟨Nat.le_of_ble_eq_true rfl, Nat.le_of_ble_eq_true rfl⟩ ?_
        refine x_eqi ((pk_01 (by decide)).trans (ot_40 hS.1 h4 hn0)) ?_
        refine x_iload cx dL_isWhole_476 rfl ?_
        refine x_if_eq_f (tgt := 486) cx dL_isWhole_478 (by decide) (nI_ne0 (by omega) (by omega)) ?_
        refine x_iload cx dL_isWhole_481 rfl ?_
        refine x_if_ne_f (tgt := 490) cx dL_isWhole_483 (by decide) (nI_ig (b := 0) (by omega)) ?_
        refine x_iconst (v := nI 1) cx dL_isWhole_486 (by decide) ?_
        refine x_goto (tgt := 492) cx dL_isWhole_487 (by decide) ?_
        refine x_icmp_ne_f (tgt := 499) cx dL_isWhole_492 (by decide) (nI_ig (by omega)) ?_
        refine x_iconst (v := nI 1) cx dL_isWhole_495 (by decide) ?_
        refine x_goto (tgt := 500) cx dL_isWhole_496 (by decide) ?_
        exact x_ls rfl (by simp [lo]) K500
      · by_cases h11 : stt (S 0) = 11
        · refine x_iload cx dL_isWhole_56 rfl ?_
          refine x_iload cx dL_isWhole_58 rfl ?_
          refine x_icmp_ge_t (tgt := 350) cx dL_isWhole_60 (by decide) (nI_le (by omega) (by omega)) ?_
          refine x_aload_n cx dL_isWhole_350 rfl rfl ?_
          refine x_iconst (v := nI 2) cx dL_isWhole_351 (by decide) ?_
          refine x_Vi (C := RX6) (T := TX6) (N := 6) (rest := []) cx (c_X6_count l G _ hS _) gV_L_14 ndX6_count rfl ⟨Nat.le_of_ble_eq_true rfl, Nat.le_of_ble_eq_true rfl⟩ (zok_7 (by decide)) (by decide) (p_SC) rfl rfl rfl (Nat.le_of_ble_eq_true rfl) dL_isWhole_352 ⟨Nat.le_of_ble_eq_true rfl, Nat.le_of_ble_eq_true rfl⟩ ?_
          refine x_eqi (cn2 hS.1) ?_
          refine x_istore (ls' := [_, _, _, _, _, _, _, _, _, _, _, _, _, _, _]) cx dL_isWhole_355 (by decide) rfl ?_
          refine x_iload cx dL_isWhole_357 rfl ?_
          refine x_if_ne_f (tgt := 366) cx dL_isWhole_359 (by decide) (nI_ig (b := 0) (by omega)) ?_
          refine x_iconst (v := nI 0) cx dL_isWhole_362 (by decide) ?_
          refine x_goto (tgt := 416) cx dL_isWhole_363 (by decide) ?_
          refine x_istore (ls' := [_, _, _, _, _, _, _, _, _, _, _, _, _, _, _]) cx dL_isWhole_416 (by decide) rfl ?_
          refine x_iload cx dL_isWhole_418 rfl ?_
          refine x_iconst (v := nI 4) cx dL_isWhole_420 (by decide) ?_
          refine x_icmp_eq_f (tgt := 431) cx dL_isWhole_421 (by decide) (nI_nq (by omega) (by omega) (by omega)) ?_
          refine x_iload cx dL_isWhole_424 rfl ?_
          refine x_bipush (v := nI 11) cx dL_isWhole_426 (by decide) ?_
          refine x_icmp_ne_f (tgt := 435) cx dL_isWhole_428 (by decide) (nI_ig (by omega)) ?_
          refine x_iconst (v := nI 1) cx dL_isWhole_431 (by decide) ?_
          refine x_goto (tgt := 436) cx dL_isWhole_432 (by decide) ?_
          refine x_istore (ls' := [_, _, _, _, _, _, _, _, _, _, _, _, _, _, _]) cx dL_isWhole_436 (by decide) rfl ?_
          refine x_iload cx dL_isWhole_438 rfl ?_
          refine x_if_eq_f (tgt := 499) cx dL_isWhole_440 (by decide) (by decide) ?_
          refine x_aload_n cx dL_isWhole_443 rfl rfl ?_
          refine x_iconst (v := nI 0) cx dL_isWhole_444 (by decide) ?_
          refine x_Vi (C := RX6) (T := TX6) (N := 6) (rest := []) cx (c_X6_peek l G _ hS _) gV_L_27 ndX6_peek rfl ⟨Nat.le_of_ble_eq_true rfl, Nat.le_of_ble_eq_true rfl⟩ (zok_7 (by decide)) (by decide) (p_SC) rfl rfl rfl (Nat.le_of_ble_eq_true rfl) dL_isWhole_445 ⟨Nat.le_of_ble_eq_true rfl, Nat.le_of_ble_eq_true rfl⟩ ?_
          refine x_eqi ((pk_01 (by decide)).trans (ot_b0 hS.1 h11 hn0)) ?_
          refine x_iload cx dL_isWhole_448 rfl ?_
          refine x_if_ne_t (tgt := 457) cx dL_isWhole_450 (by decide) (nI_ne0 (by omega) (by omega)) ?_
          refine x_iload cx dL_isWhole_457 rfl ?_
          refine x_if_ne_f (tgt := 466) cx dL_isWhole_459 (by decide) (nI_ig (b := 0) (by omega)) ?_
          refine x_iconst (v := nI 0) cx dL_isWhole_462 (by decide) ?_
          refine x_goto (tgt := 468) cx dL_isWhole_463 (by decide) ?_
          refine x_icmp_ne_f (tgt := 499) cx dL_isWhole_468 (by decide) (nI_ig (by omega)) ?_
          refine x_aload_n cx dL_isWhole_471 rfl rfl ?_
          refine x_iconst (v := nI 1) cx dL_isWhole_472 (by decide) ?_
          refine x_Vi (C := RX6) (T := TX6) (N := 6) (rest := []) cx (c_X6_peek l G _ hS _) gV_L_27 ndX6_peek rfl ⟨Nat.le_of_ble_eq_true rfl, Nat.le_of_ble_eq_true rfl⟩ (zok_7 (by decide)) (by decide) (p_SC) rfl rfl rfl (Nat.le_of_ble_eq_true rfl) dL_isWhole_473 ⟨Nat.le_of_ble_eq_true rfl, Nat.le_of_ble_eq_true rfl⟩ ?_
          refine x_eqi ((pk_01 (by decide)).trans (ot_b0 hS.1 h11 hn0)) ?_
          refine x_iload cx dL_isWhole_476 rfl ?_
          refine x_if_eq_f (tgt := 486) cx dL_isWhole_478 (by decide) (nI_ne0 (by omega) (by omega)) ?_
          refine x_iload cx dL_isWhole_481 rfl ?_
          refine x_if_ne_f (tgt := 490) cx dL_isWhole_483 (by decide) (nI_ig (b := 0) (by omega)) ?_
          refine x_iconst (v := nI 1) cx dL_isWhole_486 (by decide) ?_
          refine x_goto (tgt := 492) cx dL_isWhole_487 (by decide) ?_
          refine x_icmp_ne_f (tgt := 499) cx dL_isWhole_492 (by decide) (nI_ig (by omega)) ?_
          refine x_iconst (v := nI 1) cx dL_isWhole_495 (by decide) ?_
          refine x_goto (tgt := 500) cx dL_isWhole_496 (by decide) ?_
          exact x_ls rfl (by simp [lo]) K500
        · refine x_iload cx dL_isWhole_56 rfl ?_
          refine x_iload cx dL_isWhole_58 rfl ?_
          refine x_icmp_ge_t (tgt := 350) cx dL_isWhole_60 (by decide) (nI_le (by omega) (by omega)) ?_
          refine x_aload_n cx dL_isWhole_350 rfl rfl ?_
          refine x_iconst (v := nI 2) cx dL_isWhole_351 (by decide) ?_
          refine x_Vi (C := RX6) (T := TX6) (N := 6) (rest := []) cx (c_X6_count l G _ hS _) gV_L_14 ndX6_count rfl ⟨Nat.le_of_ble_eq_true rfl, Nat.le_of_ble_eq_true rfl⟩ (zok_7 (by decide)) (by decide) (p_SC) rfl rfl rfl (Nat.le_of_ble_eq_true rfl) dL_isWhole_352 ⟨Nat.le_of_ble_eq_true rfl, Nat.le_of_ble_eq_true rfl⟩ ?_
          refine x_eqi (cn2 hS.1) ?_
          refine x_istore (ls' := [_, _, _, _, _, _, _, _, _, _, _, _, _, _, _]) cx dL_isWhole_355 (by decide) rfl ?_
          refine x_iload cx dL_isWhole_357 rfl ?_
          refine x_if_ne_f (tgt := 366) cx dL_isWhole_359 (by decide) (nI_ig (b := 0) (by omega)) ?_
          refine x_iconst (v := nI 0) cx dL_isWhole_362 (by decide) ?_
          refine x_goto (tgt := 416) cx dL_isWhole_363 (by decide) ?_
          refine x_istore (ls' := [_, _, _, _, _, _, _, _, _, _, _, _, _, _, _]) cx dL_isWhole_416 (by decide) rfl ?_
          refine x_iload cx dL_isWhole_418 rfl ?_
          refine x_iconst (v := nI 4) cx dL_isWhole_420 (by decide) ?_
          refine x_icmp_eq_f (tgt := 431) cx dL_isWhole_421 (by decide) (nI_nq (by omega) (by omega) (by omega)) ?_
          refine x_iload cx dL_isWhole_424 rfl ?_
          refine x_bipush (v := nI 11) cx dL_isWhole_426 (by decide) ?_
          refine x_icmp_ne_t (tgt := 435) cx dL_isWhole_428 (by decide) (nI_nq (by omega) (by omega) (by omega)) ?_
          refine x_iconst (v := nI 0) cx dL_isWhole_435 (by decide) ?_
          refine x_istore (ls' := [_, _, _, _, _, _, _, _, _, _, _, _, _, _, _]) cx dL_isWhole_436 (by decide) rfl ?_
          refine x_iload cx dL_isWhole_438 rfl ?_
          refine x_if_eq_f (tgt := 499) cx dL_isWhole_440 (by decide) (by decide) ?_
          refine x_aload_n cx dL_isWhole_443 rfl rfl ?_
          refine x_iconst (v := nI 0) cx dL_isWhole_444 (by decide) ?_
          refine x_Vi (C := RX6) (T := TX6) (N := 6) (rest := []) cx (c_X6_peek l G _ hS _) gV_L_27 ndX6_peek rfl ⟨Nat.le_of_ble_eq_true rfl, Nat.le_of_ble_eq_true rfl⟩ (zok_7 (by decide)) (by decide) (p_SC) rfl rfl rfl (Nat.le_of_ble_eq_true rfl) dL_isWhole_445 ⟨Nat.le_of_ble_eq_true rfl, Nat.le_of_ble_eq_true rfl⟩ ?_
          refine x_eqi ((pk_01 (by decide)).trans (ot_o hS.1 h4 h11)) ?_
          refine x_iload cx dL_isWhole_448 rfl ?_
          refine x_if_ne_f (tgt := 457) cx dL_isWhole_450 (by decide) (nI_ig (b := 0) (by omega)) ?_
          refine x_iconst (v := nI 1) cx dL_isWhole_453 (by decide) ?_
          refine x_goto (tgt := 468) cx dL_isWhole_454 (by decide) ?_
          refine x_icmp_ne_f (tgt := 499) cx dL_isWhole_468 (by decide) (nI_ig (by omega)) ?_
          refine x_aload_n cx dL_isWhole_471 rfl rfl ?_
          refine x_iconst (v := nI 1) cx dL_isWhole_472 (by decide) ?_
          refine x_Vi (C := RX6) (T := TX6) (N := 6) (rest := []) cx (c_X6_peek l G _ hS _) gV_L_27 ndX6_peek rfl ⟨Nat.le_of_ble_eq_true rfl, Nat.le_of_ble_eq_true rfl⟩ (zok_7 (by decide)) (by decide) (p_SC) rfl rfl rfl (Nat.le_of_ble_eq_true rfl) dL_isWhole_473 ⟨Nat.le_of_ble_eq_true rfl, Nat.le_of_ble_eq_true rfl⟩ ?_
          refine x_eqi ((pk_01 (by decide)).trans (ot_o hS.1 h4 h11)) ?_
          refine x_iload cx dL_isWhole_476 rfl ?_
          refine x_if_eq_t (tgt := 486) cx dL_isWhole_478 (by decide) (nI_ig (b := 0) (by omega)) ?_
          refine x_iconst (v := nI 1) cx dL_isWhole_486 (by decide) ?_
          refine x_goto (tgt := 492) cx dL_isWhole_487 (by decide) ?_
          refine x_icmp_ne_f (tgt := 499) cx dL_isWhole_492 (by decide) (nI_ig (by omega)) ?_
          refine x_iconst (v := nI 1) cx dL_isWhole_495 (by decide) ?_
          refine x_goto (tgt := 500) cx dL_isWhole_496 (by decide) ?_
          exact x_ls rfl (by simp [lo]) K500
    · have hc := hX.chip (t := num (S 0) - 1) (by omega)
      obtain ⟨m7, h7, e7⟩ := hc.2.2.1.2
      obtain ⟨m8, h8b, e8⟩ := hc.2.2.2
      have h7p : m7 < 2 ^ 31 := Nat.lt_of_lt_of_le h7 (p2le (by have := hc.1.1.2.1; omega))
      have h8p : m8 < 2 ^ 31 := Nat.lt_of_lt_of_le h8b (p2le (by have := (cOK_B hc).2.2; omega))
      rcases hc.1.2.2.2 with e5 | e5
      · by_cases h4 : stt (S 0) = 4
        · refine x_iload cx dL_isWhole_56 rfl ?_
          refine x_iload cx dL_isWhole_58 rfl ?_
          refine x_icmp_ge_t (tgt := 350) cx dL_isWhole_60 (by decide) (nI_le (by omega) (by omega)) ?_
          refine x_aload_n cx dL_isWhole_350 rfl rfl ?_
          refine x_iconst (v := nI 2) cx dL_isWhole_351 (by decide) ?_
          refine x_Vi (C := RX6) (T := TX6) (N := 6) (rest := []) cx (c_X6_count l G _ hS _) gV_L_14 ndX6_count rfl ⟨Nat.le_of_ble_eq_true rfl, Nat.le_of_ble_eq_true rfl⟩ (zok_7 (by decide)) (by decide) (p_SC) rfl rfl rfl (Nat.le_of_ble_eq_true rfl) dL_isWhole_352 ⟨Nat.le_of_ble_eq_true rfl, Nat.le_of_ble_eq_true rfl⟩ ?_
          refine x_eqi (cn2 hS.1) ?_
          refine x_istore (ls' := [_, _, _, _, _, _, _, _, _, _, _, _, _, _, _]) cx dL_isWhole_355 (by decide) rfl ?_
          refine x_iload cx dL_isWhole_357 rfl ?_
          refine x_if_ne_t (tgt := 366) cx dL_isWhole_359 (by decide) (nI_ne0 (by omega) (by omega)) ?_
          refine x_aload_n cx dL_isWhole_366 rfl rfl ?_
          refine x_iload cx dL_isWhole_367 rfl ?_
          refine x_iconst (v := nI 1) cx dL_isWhole_369 (by decide) ?_
          refine x_isub cx dL_isWhole_370 ?_
          refine x_eqi (nI_subN (by omega)) ?_
          refine x_iconst (v := nI 5) cx dL_isWhole_371 (by decide) ?_
          refine x_Vi (C := RX6) (T := TX6) (N := 6) (rest := []) cx (c_X6_chip l G _ hS _ _) gV_L_20 ndX6_chip rfl ⟨Nat.le_of_ble_eq_true rfl, Nat.le_of_ble_eq_true rfl⟩ (zok_7 (by decide)) (by decide) (p_SC) rfl rfl rfl (Nat.le_of_ble_eq_true rfl) dL_isWhole_372 ⟨Nat.le_of_ble_eq_true rfl, Nat.le_of_ble_eq_true rfl⟩ ?_
          refine x_eqi ((tl_5 hX (by omega)).trans (show _ = nI 0 from e5)) ?_
          refine x_iconst (v := nI 1) cx dL_isWhole_375 (by decide) ?_
          refine x_icmp_ne_t (tgt := 383) cx dL_isWhole_376 (by decide) (by decide) ?_
          refine x_iload cx dL_isWhole_383 rfl ?_
          refine x_iconst (v := nI 4) cx dL_isWhole_385 (by decide) ?_
          refine x_icmp_ne_f (tgt := 404) cx dL_isWhole_386 (by decide) (nI_ig (by omega)) ?_
          refine x_aload_n cx dL_isWhole_389 rfl rfl ?_
          refine x_iload cx dL_isWhole_390 rfl ?_
          refine x_iconst (v := nI 1) cx dL_isWhole_392 (by decide) ?_
          refine x_isub cx dL_isWhole_393 ?_
          refine x_eqi (nI_subN (by omega)) ?_
          refine x_bipush (v := nI 8) cx dL_isWhole_394 (by decide) ?_
          refine x_Vi (C := RX6) (T := TX6) (N := 6) (rest := []) cx (c_X6_chip l G _ hS _ _) gV_L_20 ndX6_chip rfl ⟨Nat.le_of_ble_eq_true rfl, Nat.le_of_ble_eq_true rfl⟩ (zok_7 (by decide)) (by decide) (p_SC) rfl rfl rfl (Nat.le_of_ble_eq_true rfl) dL_isWhole_396 ⟨Nat.le_of_ble_eq_true rfl, Nat.le_of_ble_eq_true rfl⟩ ?_
          refine x_eqi ((tl_8 hX (by omega)).trans e8) ?_
          refine x_iconst (v := nI 2) cx dL_isWhole_399 (by decide) ?_
          refine x_irem cx dL_isWhole_400 (by decide) ?_
          refine x_eqi (pk_rem (by omega) (by omega) (by omega)) ?_
          refine x_goto (tgt := 416) cx dL_isWhole_401 (by decide) ?_
          refine x_istore (ls' := [_, _, _, _, _, _, _, _, _, _, _, _, _, _, _]) cx dL_isWhole_416 (by decide) rfl ?_
          refine x_iload cx dL_isWhole_418 rfl ?_
          refine x_iconst (v := nI 4) cx dL_isWhole_420 (by decide) ?_
          refine x_icmp_eq_t (tgt := 431) cx dL_isWhole_421 (by decide) (nI_ig (by omega)) ?_
          refine x_iconst (v := nI 1) cx dL_isWhole_431 (by decide) ?_
          refine x_goto (tgt := 436) cx dL_isWhole_432 (by decide) ?_
          refine x_istore (ls' := [_, _, _, _, _, _, _, _, _, _, _, _, _, _, _]) cx dL_isWhole_436 (by decide) rfl ?_
          refine x_iload cx dL_isWhole_438 rfl ?_
          refine x_if_eq_f (tgt := 499) cx dL_isWhole_440 (by decide) (by decide) ?_
          refine x_aload_n cx dL_isWhole_443 rfl rfl ?_
          refine x_iconst (v := nI 0) cx dL_isWhole_444 (by decide) ?_
          refine x_Vi (C := RX6) (T := TX6) (N := 6) (rest := []) cx (c_X6_peek l G _ hS _) gV_L_27 ndX6_peek rfl ⟨Nat.le_of_ble_eq_true rfl, Nat.le_of_ble_eq_true rfl⟩ (zok_7 (by decide)) (by decide) (p_SC) rfl rfl rfl (Nat.le_of_ble_eq_true rfl) dL_isWhole_445 ⟨Nat.le_of_ble_eq_true rfl, Nat.le_of_ble_eq_true rfl⟩ ?_
          refine x_eqi ((pk_01 (by decide)).trans ((ot_4 hS.1 h4 hn0).trans (do_0 e5 h8p e8))) ?_
          refine x_iload cx dL_isWhole_448 rfl ?_
          refine x_if_ne_t (tgt := 457) cx dL_isWhole_450 (by decide) (nI_ne0 (by omega) (by omega)) ?_
          refine x_iload cx dL_isWhole_457 rfl ?_
          refine x_if_ne_t (tgt := 466) cx dL_isWhole_459 (by decide) (nI_ne0 (by omega) (by omega)) ?_
          refine x_iload cx dL_isWhole_466 rfl ?_
          refine x_icmp_ne_f (tgt := 499) cx dL_isWhole_468 (by decide) (nI_ig (by omega)) ?_
          refine x_aload_n cx dL_isWhole_471 rfl rfl ?_
          refine x_iconst (v := nI 1) cx dL_isWhole_472 (by decide) ?_
          refine x_Vi (C := RX6) (T := TX6) (N := 6) (rest := []) cx (c_X6_peek l G _ hS _) gV_L_27 ndX6_peek rfl ⟨Nat.le_of_ble_eq_true rfl, Nat.le_of_ble_eq_true rfl⟩ (zok_7 (by decide)) (by decide) (p_SC) rfl rfl rfl (Nat.le_of_ble_eq_true rfl) dL_isWhole_473 ⟨Nat.le_of_ble_eq_true rfl, Nat.le_of_ble_eq_true rfl⟩ ?_
          refine x_eqi ((pk_01 (by decide)).trans ((ot_4 hS.1 h4 hn0).trans (do_0 e5 h8p e8))) ?_
          refine x_iload cx dL_isWhole_476 rfl ?_
          refine x_if_eq_f (tgt := 486) cx dL_isWhole_478 (by decide) (nI_ne0 (by omega) (by omega)) ?_
          refine x_iload cx dL_isWhole_481 rfl ?_
          refine x_if_ne_t (tgt := 490) cx dL_isWhole_483 (by decide) (nI_ne0 (by omega) (by omega)) ?_
          refine x_iload cx dL_isWhole_490 rfl ?_
          refine x_icmp_ne_f (tgt := 499) cx dL_isWhole_492 (by decide) (nI_ig (by omega)) ?_
          refine x_iconst (v := nI 1) cx dL_isWhole_495 (by decide) ?_
          refine x_goto (tgt := 500) cx dL_isWhole_496 (by decide) ?_
          exact x_ls rfl (by simp [lo]) K500
        · by_cases h11 : stt (S 0) = 11
          · refine x_iload cx dL_isWhole_56 rfl ?_
            refine x_iload cx dL_isWhole_58 rfl ?_
            refine x_icmp_ge_t (tgt := 350) cx dL_isWhole_60 (by decide) (nI_le (by omega) (by omega)) ?_
            refine x_aload_n cx dL_isWhole_350 rfl rfl ?_
            refine x_iconst (v := nI 2) cx dL_isWhole_351 (by decide) ?_
            refine x_Vi (C := RX6) (T := TX6) (N := 6) (rest := []) cx (c_X6_count l G _ hS _) gV_L_14 ndX6_count rfl ⟨Nat.le_of_ble_eq_true rfl, Nat.le_of_ble_eq_true rfl⟩ (zok_7 (by decide)) (by decide) (p_SC) rfl rfl rfl (Nat.le_of_ble_eq_true rfl) dL_isWhole_352 ⟨Nat.le_of_ble_eq_true rfl, Nat.le_of_ble_eq_true rfl⟩ ?_
            refine x_eqi (cn2 hS.1) ?_
            refine x_istore (ls' := [_, _, _, _, _, _, _, _, _, _, _, _, _, _, _]) cx dL_isWhole_355 (by decide) rfl ?_
            refine x_iload cx dL_isWhole_357 rfl ?_
            refine x_if_ne_t (tgt := 366) cx dL_isWhole_359 (by decide) (nI_ne0 (by omega) (by omega)) ?_
            refine x_aload_n cx dL_isWhole_366 rfl rfl ?_
            refine x_iload cx dL_isWhole_367 rfl ?_
            refine x_iconst (v := nI 1) cx dL_isWhole_369 (by decide) ?_
            refine x_isub cx dL_isWhole_370 ?_
            refine x_eqi (nI_subN (by omega)) ?_
            refine x_iconst (v := nI 5) cx dL_isWhole_371 (by decide) ?_
            refine x_Vi (C := RX6) (T := TX6) (N := 6) (rest := []) cx (c_X6_chip l G _ hS _ _) gV_L_20 ndX6_chip rfl ⟨Nat.le_of_ble_eq_true rfl, Nat.le_of_ble_eq_true rfl⟩ (zok_7 (by decide)) (by decide) (p_SC) rfl rfl rfl (Nat.le_of_ble_eq_true rfl) dL_isWhole_372 ⟨Nat.le_of_ble_eq_true rfl, Nat.le_of_ble_eq_true rfl⟩ ?_
            refine x_eqi ((tl_5 hX (by omega)).trans (show _ = nI 0 from e5)) ?_
            refine x_iconst (v := nI 1) cx dL_isWhole_375 (by decide) ?_
            refine x_icmp_ne_t (tgt := 383) cx dL_isWhole_376 (by decide) (by decide) ?_
            refine x_iload cx dL_isWhole_383 rfl ?_
            refine x_iconst (v := nI 4) cx dL_isWhole_385 (by decide) ?_
            refine x_icmp_ne_t (tgt := 404) cx dL_isWhole_386 (by decide) (nI_nq (by omega) (by omega) (by omega)) ?_
            refine x_aload_n cx dL_isWhole_404 rfl rfl ?_
            refine x_iload cx dL_isWhole_405 rfl ?_
            refine x_iconst (v := nI 1) cx dL_isWhole_407 (by decide) ?_
            refine x_isub cx dL_isWhole_408 ?_
            refine x_eqi (nI_subN (by omega)) ?_
            refine x_bipush (v := nI 7) cx dL_isWhole_409 (by decide) ?_
            refine x_Vi (C := RX6) (T := TX6) (N := 6) (rest := []) cx (c_X6_chip l G _ hS _ _) gV_L_20 ndX6_chip rfl ⟨Nat.le_of_ble_eq_true rfl, Nat.le_of_ble_eq_true rfl⟩ (zok_7 (by decide)) (by decide) (p_SC) rfl rfl rfl (Nat.le_of_ble_eq_true rfl) dL_isWhole_411 ⟨Nat.le_of_ble_eq_true rfl, Nat.le_of_ble_eq_true rfl⟩ ?_
            refine x_eqi ((tl_7 hX (by omega)).trans e7) ?_
            refine x_iconst (v := nI 2) cx dL_isWhole_414 (by decide) ?_
            refine x_irem cx dL_isWhole_415 (by decide) ?_
            refine x_eqi (pk_rem (by omega) (by omega) (by omega)) ?_
            refine x_istore (ls' := [_, _, _, _, _, _, _, _, _, _, _, _, _, _, _]) cx dL_isWhole_416 (by decide) rfl ?_
            refine x_iload cx dL_isWhole_418 rfl ?_
            refine x_iconst (v := nI 4) cx dL_isWhole_420 (by decide) ?_
            refine x_icmp_eq_f (tgt := 431) cx dL_isWhole_421 (by decide) (nI_nq (by omega) (by omega) (by omega)) ?_
            refine x_iload cx dL_isWhole_424 rfl ?_
            refine x_bipush (v := nI 11) cx dL_isWhole_426 (by decide) ?_
            refine x_icmp_ne_f (tgt := 435) cx dL_isWhole_428 (by decide) (nI_ig (by omega)) ?_
            refine x_iconst (v := nI 1) cx dL_isWhole_431 (by decide) ?_
            refine x_goto (tgt := 436) cx dL_isWhole_432 (by decide) ?_
            refine x_istore (ls' := [_, _, _, _, _, _, _, _, _, _, _, _, _, _, _]) cx dL_isWhole_436 (by decide) rfl ?_
            refine x_iload cx dL_isWhole_438 rfl ?_
            refine x_if_eq_f (tgt := 499) cx dL_isWhole_440 (by decide) (by decide) ?_
            refine x_aload_n cx dL_isWhole_443 rfl rfl ?_
            refine x_iconst (v := nI 0) cx dL_isWhole_444 (by decide) ?_
            refine x_Vi (C := RX6) (T := TX6) (N := 6) (rest := []) cx (c_X6_peek l G _ hS _) gV_L_27 ndX6_peek rfl ⟨Nat.le_of_ble_eq_true rfl, Nat.le_of_ble_eq_true rfl⟩ (zok_7 (by decide)) (by decide) (p_SC) rfl rfl rfl (Nat.le_of_ble_eq_true rfl) dL_isWhole_445 ⟨Nat.le_of_ble_eq_true rfl, Nat.le_of_ble_eq_true rfl⟩ ?_
            refine x_eqi ((pk_01 (by decide)).trans ((ot_b hS.1 h11 hn0).trans (co_0 e5 h7p e7))) ?_
            refine x_iload cx dL_isWhole_448 rfl ?_
            refine x_if_ne_t (tgt := 457) cx dL_isWhole_450 (by decide) (nI_ne0 (by omega) (by omega)) ?_
            refine x_iload cx dL_isWhole_457 rfl ?_
            refine x_if_ne_t (tgt := 466) cx dL_isWhole_459 (by decide) (nI_ne0 (by omega) (by omega)) ?_
            refine x_iload cx dL_isWhole_466 rfl ?_
            refine x_icmp_ne_f (tgt := 499) cx dL_isWhole_468 (by decide) (nI_ig (by omega)) ?_
            refine x_aload_n cx dL_isWhole_471 rfl rfl ?_
            refine x_iconst (v := nI 1) cx dL_isWhole_472 (by decide) ?_
            refine x_Vi (C := RX6) (T := TX6) (N := 6) (rest := []) cx (c_X6_peek l G _ hS _) gV_L_27 ndX6_peek rfl ⟨Nat.le_of_ble_eq_true rfl, Nat.le_of_ble_eq_true rfl⟩ (zok_7 (by decide)) (by decide) (p_SC) rfl rfl rfl (Nat.le_of_ble_eq_true rfl) dL_isWhole_473 ⟨Nat.le_of_ble_eq_true rfl, Nat.le_of_ble_eq_true rfl⟩ ?_
            refine x_eqi ((pk_01 (by decide)).trans ((ot_b hS.1 h11 hn0).trans (co_0 e5 h7p e7))) ?_
            refine x_iload cx dL_isWhole_476 rfl ?_
            refine x_if_eq_f (tgt := 486) cx dL_isWhole_478 (by decide) (nI_ne0 (by omega) (by omega)) ?_
            refine x_iload cx dL_isWhole_481 rfl ?_
            refine x_if_ne_t (tgt := 490) cx dL_isWhole_483 (by decide) (nI_ne0 (by omega) (by omega)) ?_
            refine x_iload cx dL_isWhole_490 rfl ?_
            refine x_icmp_ne_f (tgt := 499) cx dL_isWhole_492 (by decide) (nI_ig (by omega)) ?_
            refine x_iconst (v := nI 1) cx dL_isWhole_495 (by decide) ?_
            refine x_goto (tgt := 500) cx dL_isWhole_496 (by decide) ?_
            exact x_ls rfl (by simp [lo]) K500
          · refine x_iload cx dL_isWhole_56 rfl ?_
            refine x_iload cx dL_isWhole_58 rfl ?_
            refine x_icmp_ge_t (tgt := 350) cx dL_isWhole_60 (by decide) (nI_le (by omega) (by omega)) ?_
            refine x_aload_n cx dL_isWhole_350 rfl rfl ?_
            refine x_iconst (v := nI 2) cx dL_isWhole_351 (by decide) ?_
            refine x_Vi (C := RX6) (T := TX6) (N := 6) (rest := []) cx (c_X6_count l G _ hS _) gV_L_14 ndX6_count rfl ⟨Nat.le_of_ble_eq_true rfl, Nat.le_of_ble_eq_true rfl⟩ (zok_7 (by decide)) (by decide) (p_SC) rfl rfl rfl (Nat.le_of_ble_eq_true rfl) dL_isWhole_352 ⟨Nat.le_of_ble_eq_true rfl, Nat.le_of_ble_eq_true rfl⟩ ?_
            refine x_eqi (cn2 hS.1) ?_
            refine x_istore (ls' := [_, _, _, _, _, _, _, _, _, _, _, _, _, _, _]) cx dL_isWhole_355 (by decide) rfl ?_
            refine x_iload cx dL_isWhole_357 rfl ?_
            refine x_if_ne_t (tgt := 366) cx dL_isWhole_359 (by decide) (nI_ne0 (by omega) (by omega)) ?_
            refine x_aload_n cx dL_isWhole_366 rfl rfl ?_
            refine x_iload cx dL_isWhole_367 rfl ?_
            refine x_iconst (v := nI 1) cx dL_isWhole_369 (by decide) ?_
            refine x_isub cx dL_isWhole_370 ?_
            refine x_eqi (nI_subN (by omega)) ?_
            refine x_iconst (v := nI 5) cx dL_isWhole_371 (by decide) ?_
            refine x_Vi (C := RX6) (T := TX6) (N := 6) (rest := []) cx (c_X6_chip l G _ hS _ _) gV_L_20 ndX6_chip rfl ⟨Nat.le_of_ble_eq_true rfl, Nat.le_of_ble_eq_true rfl⟩ (zok_7 (by decide)) (by decide) (p_SC) rfl rfl rfl (Nat.le_of_ble_eq_true rfl) dL_isWhole_372 ⟨Nat.le_of_ble_eq_true rfl, Nat.le_of_ble_eq_true rfl⟩ ?_
            refine x_eqi ((tl_5 hX (by omega)).trans (show _ = nI 0 from e5)) ?_
            refine x_iconst (v := nI 1) cx dL_isWhole_375 (by decide) ?_
            refine x_icmp_ne_t (tgt := 383) cx dL_isWhole_376 (by decide) (by decide) ?_
            refine x_iload cx dL_isWhole_383 rfl ?_
            refine x_iconst (v := nI 4) cx dL_isWhole_385 (by decide) ?_
            refine x_icmp_ne_t (tgt := 404) cx dL_isWhole_386 (by decide) (nI_nq (by omega) (by omega) (by omega)) ?_
            refine x_aload_n cx dL_isWhole_404 rfl rfl ?_
            refine x_iload cx dL_isWhole_405 rfl ?_
            refine x_iconst (v := nI 1) cx dL_isWhole_407 (by decide) ?_
            refine x_isub cx dL_isWhole_408 ?_
            refine x_eqi (nI_subN (by omega)) ?_
            refine x_bipush (v := nI 7) cx dL_isWhole_409 (by decide) ?_
            refine x_Vi (C := RX6) (T := TX6) (N := 6) (rest := []) cx (c_X6_chip l G _ hS _ _) gV_L_20 ndX6_chip rfl ⟨Nat.le_of_ble_eq_true rfl, Nat.le_of_ble_eq_true rfl⟩ (zok_7 (by decide)) (by decide) (p_SC) rfl rfl rfl (Nat.le_of_ble_eq_true rfl) dL_isWhole_411 ⟨Nat.le_of_ble_eq_true rfl, Nat.le_of_ble_eq_true rfl⟩ ?_
            refine x_eqi ((tl_7 hX (by omega)).trans e7) ?_
            refine x_iconst (v := nI 2) cx dL_isWhole_414 (by decide) ?_
            refine x_irem cx dL_isWhole_415 (by decide) ?_
            refine x_eqi (pk_rem (by omega) (by omega) (by omega)) ?_
            refine x_istore (ls' := [_, _, _, _, _, _, _, _, _, _, _, _, _, _, _]) cx dL_isWhole_416 (by decide) rfl ?_
            refine x_iload cx dL_isWhole_418 rfl ?_
            refine x_iconst (v := nI 4) cx dL_isWhole_420 (by decide) ?_
            refine x_icmp_eq_f (tgt := 431) cx dL_isWhole_421 (by decide) (nI_nq (by omega) (by omega) (by omega)) ?_
            refine x_iload cx dL_isWhole_424 rfl ?_
            refine x_bipush (v := nI 11) cx dL_isWhole_426 (by decide) ?_
            refine x_icmp_ne_t (tgt := 435) cx dL_isWhole_428 (by decide) (nI_nq (by omega) (by omega) (by omega)) ?_
            refine x_iconst (v := nI 0) cx dL_isWhole_435 (by decide) ?_
            refine x_istore (ls' := [_, _, _, _, _, _, _, _, _, _, _, _, _, _, _]) cx dL_isWhole_436 (by decide) rfl ?_
            refine x_iload cx dL_isWhole_438 rfl ?_
            refine x_if_eq_f (tgt := 499) cx dL_isWhole_440 (by decide) (by decide) ?_
            refine x_aload_n cx dL_isWhole_443 rfl rfl ?_
            refine x_iconst (v := nI 0) cx dL_isWhole_444 (by decide) ?_
            refine x_Vi (C := RX6) (T := TX6) (N := 6) (rest := []) cx (c_X6_peek l G _ hS _) gV_L_27 ndX6_peek rfl ⟨Nat.le_of_ble_eq_true rfl, Nat.le_of_ble_eq_true rfl⟩ (zok_7 (by decide)) (by decide) (p_SC) rfl rfl rfl (Nat.le_of_ble_eq_true rfl) dL_isWhole_445 ⟨Nat.le_of_ble_eq_true rfl, Nat.le_of_ble_eq_true rfl⟩ ?_
            refine x_eqi ((pk_01 (by decide)).trans (ot_o hS.1 h4 h11)) ?_
            refine x_iload cx dL_isWhole_448 rfl ?_
            refine x_if_ne_f (tgt := 457) cx dL_isWhole_450 (by decide) (nI_ig (b := 0) (by omega)) ?_
            refine x_iconst (v := nI 1) cx dL_isWhole_453 (by decide) ?_
            refine x_goto (tgt := 468) cx dL_isWhole_454 (by decide) ?_
            refine x_icmp_ne_f (tgt := 499) cx dL_isWhole_468 (by decide) (nI_ig (by omega)) ?_
            refine x_aload_n cx dL_isWhole_471 rfl rfl ?_
            refine x_iconst (v := nI 1) cx dL_isWhole_472 (by decide) ?_
            refine x_Vi (C := RX6) (T := TX6) (N := 6) (rest := []) cx (c_X6_peek l G _ hS _) gV_L_27 ndX6_peek rfl ⟨Nat.le_of_ble_eq_true rfl, Nat.le_of_ble_eq_true rfl⟩ (zok_7 (by decide)) (by decide) (p_SC) rfl rfl rfl (Nat.le_of_ble_eq_true rfl) dL_isWhole_473 ⟨Nat.le_of_ble_eq_true rfl, Nat.le_of_ble_eq_true rfl⟩ ?_
            refine x_eqi ((pk_01 (by decide)).trans (ot_o hS.1 h4 h11)) ?_
            refine x_iload cx dL_isWhole_476 rfl ?_
            refine x_if_eq_t (tgt := 486) cx dL_isWhole_478 (by decide) (nI_ig (b := 0) (by omega)) ?_
            refine x_iconst (v := nI 1) cx dL_isWhole_486 (by decide) ?_
            refine x_goto (tgt := 492) cx dL_isWhole_487 (by decide) ?_
            refine x_icmp_ne_f (tgt := 499) cx dL_isWhole_492 (by decide) (nI_ig (by omega)) ?_
            refine x_iconst (v := nI 1) cx dL_isWhole_495 (by decide) ?_
            refine x_goto (tgt := 500) cx dL_isWhole_496 (by decide) ?_
            exact x_ls rfl (by simp [lo]) K500
      · by_cases h4 : stt (S 0) = 4
        · refine x_iload cx dL_isWhole_56 rfl ?_
          refine x_iload cx dL_isWhole_58 rfl ?_
          refine x_icmp_ge_t (tgt := 350) cx dL_isWhole_60 (by decide) (nI_le (by omega) (by omega)) ?_
          refine x_aload_n cx dL_isWhole_350 rfl rfl ?_
          refine x_iconst (v := nI 2) cx dL_isWhole_351 (by decide) ?_
          refine x_Vi (C := RX6) (T := TX6) (N := 6) (rest := []) cx (c_X6_count l G _ hS _) gV_L_14 ndX6_count rfl ⟨Nat.le_of_ble_eq_true rfl, Nat.le_of_ble_eq_true rfl⟩ (zok_7 (by decide)) (by decide) (p_SC) rfl rfl rfl (Nat.le_of_ble_eq_true rfl) dL_isWhole_352 ⟨Nat.le_of_ble_eq_true rfl, Nat.le_of_ble_eq_true rfl⟩ ?_
          refine x_eqi (cn2 hS.1) ?_
          refine x_istore (ls' := [_, _, _, _, _, _, _, _, _, _, _, _, _, _, _]) cx dL_isWhole_355 (by decide) rfl ?_
          refine x_iload cx dL_isWhole_357 rfl ?_
          refine x_if_ne_t (tgt := 366) cx dL_isWhole_359 (by decide) (nI_ne0 (by omega) (by omega)) ?_
          refine x_aload_n cx dL_isWhole_366 rfl rfl ?_
          refine x_iload cx dL_isWhole_367 rfl ?_
          refine x_iconst (v := nI 1) cx dL_isWhole_369 (by decide) ?_
          refine x_isub cx dL_isWhole_370 ?_
          refine x_eqi (nI_subN (by omega)) ?_
          refine x_iconst (v := nI 5) cx dL_isWhole_371 (by decide) ?_
          refine x_Vi (C := RX6) (T := TX6) (N := 6) (rest := []) cx (c_X6_chip l G _ hS _ _) gV_L_20 ndX6_chip rfl ⟨Nat.le_of_ble_eq_true rfl, Nat.le_of_ble_eq_true rfl⟩ (zok_7 (by decide)) (by decide) (p_SC) rfl rfl rfl (Nat.le_of_ble_eq_true rfl) dL_isWhole_372 ⟨Nat.le_of_ble_eq_true rfl, Nat.le_of_ble_eq_true rfl⟩ ?_
          refine x_eqi ((tl_5 hX (by omega)).trans (show _ = nI 1 from e5)) ?_
          refine x_iconst (v := nI 1) cx dL_isWhole_375 (by decide) ?_
          refine x_icmp_ne_f (tgt := 383) cx dL_isWhole_376 (by decide) rfl ?_
          refine x_iconst (v := nI 1) cx dL_isWhole_379 (by decide) ?_
          refine x_goto (tgt := 416) cx dL_isWhole_380 (by decide) ?_
          refine x_istore (ls' := [_, _, _, _, _, _, _, _, _, _, _, _, _, _, _]) cx dL_isWhole_416 (by decide) rfl ?_
          refine x_iload cx dL_isWhole_418 rfl ?_
          refine x_iconst (v := nI 4) cx dL_isWhole_420 (by decide) ?_
          refine x_icmp_eq_t (tgt := 431) cx dL_isWhole_421 (by decide) (nI_ig (by omega)) ?_
          refine x_iconst (v := nI 1) cx dL_isWhole_431 (by decide) ?_
          refine x_goto (tgt := 436) cx dL_isWhole_432 (by decide) ?_
          refine x_istore (ls' := [_, _, _, _, _, _, _, _, _, _, _, _, _, _, _]) cx dL_isWhole_436 (by decide) rfl ?_
          refine x_iload cx dL_isWhole_438 rfl ?_
          refine x_if_eq_f (tgt := 499) cx dL_isWhole_440 (by decide) (by decide) ?_
          refine x_aload_n cx dL_isWhole_443 rfl rfl ?_
          refine x_iconst (v := nI 0) cx dL_isWhole_444 (by decide) ?_
          refine x_Vi (C := RX6) (T := TX6) (N := 6) (rest := []) cx (c_X6_peek l G _ hS _) gV_L_27 ndX6_peek rfl ⟨Nat.le_of_ble_eq_true rfl, Nat.le_of_ble_eq_true rfl⟩ (zok_7 (by decide)) (by decide) (p_SC) rfl rfl rfl (Nat.le_of_ble_eq_true rfl) dL_isWhole_445 ⟨Nat.le_of_ble_eq_true rfl, Nat.le_of_ble_eq_true rfl⟩ ?_
          refine x_eqi ((pk_01 (by decide)).trans ((ot_4 hS.1 h4 hn0).trans (do_1 e5))) ?_
          refine x_iload cx dL_isWhole_448 rfl ?_
          refine x_if_ne_t (tgt := 457) cx dL_isWhole_450 (by decide) (nI_ne0 (by omega) (by omega)) ?_
          refine x_iload cx dL_isWhole_457 rfl ?_
          refine x_if_ne_t (tgt := 466) cx dL_isWhole_459 (by decide) (nI_ne0 (by omega) (by omega)) ?_
          refine x_iload cx dL_isWhole_466 rfl ?_
          refine x_icmp_ne_f (tgt := 499) cx dL_isWhole_468 (by decide) (nI_ig (by omega)) ?_
          refine x_aload_n cx dL_isWhole_471 rfl rfl ?_
          refine x_iconst (v := nI 1) cx dL_isWhole_472 (by decide) ?_
          refine x_Vi (C := RX6) (T := TX6) (N := 6) (rest := []) cx (c_X6_peek l G _ hS _) gV_L_27 ndX6_peek rfl ⟨Nat.le_of_ble_eq_true rfl, Nat.le_of_ble_eq_true rfl⟩ (zok_7 (by decide)) (by decide) (p_SC) rfl rfl rfl (Nat.le_of_ble_eq_true rfl) dL_isWhole_473 ⟨Nat.le_of_ble_eq_true rfl, Nat.le_of_ble_eq_true rfl⟩ ?_
          refine x_eqi ((pk_01 (by decide)).trans ((ot_4 hS.1 h4 hn0).trans (do_1 e5))) ?_
          refine x_iload cx dL_isWhole_476 rfl ?_
          refine x_if_eq_f (tgt := 486) cx dL_isWhole_478 (by decide) (nI_ne0 (by omega) (by omega)) ?_
          refine x_iload cx dL_isWhole_481 rfl ?_
          refine x_if_ne_t (tgt := 490) cx dL_isWhole_483 (by decide) (nI_ne0 (by omega) (by omega)) ?_
          refine x_iload cx dL_isWhole_490 rfl ?_
          refine x_icmp_ne_f (tgt := 499) cx dL_isWhole_492 (by decide) (nI_ig (by omega)) ?_
          refine x_iconst (v := nI 1) cx dL_isWhole_495 (by decide) ?_
          refine x_goto (tgt := 500) cx dL_isWhole_496 (by decide) ?_
          exact x_ls rfl (by simp [lo]) K500
        · by_cases h11 : stt (S 0) = 11
          · refine x_iload cx dL_isWhole_56 rfl ?_
            refine x_iload cx dL_isWhole_58 rfl ?_
            refine x_icmp_ge_t (tgt := 350) cx dL_isWhole_60 (by decide) (nI_le (by omega) (by omega)) ?_
            refine x_aload_n cx dL_isWhole_350 rfl rfl ?_
            refine x_iconst (v := nI 2) cx dL_isWhole_351 (by decide) ?_
            refine x_Vi (C := RX6) (T := TX6) (N := 6) (rest := []) cx (c_X6_count l G _ hS _) gV_L_14 ndX6_count rfl ⟨Nat.le_of_ble_eq_true rfl, Nat.le_of_ble_eq_true rfl⟩ (zok_7 (by decide)) (by decide) (p_SC) rfl rfl rfl (Nat.le_of_ble_eq_true rfl) dL_isWhole_352 ⟨Nat.le_of_ble_eq_true rfl, Nat.le_of_ble_eq_true rfl⟩ ?_
            refine x_eqi (cn2 hS.1) ?_
            refine x_istore (ls' := [_, _, _, _, _, _, _, _, _, _, _, _, _, _, _]) cx dL_isWhole_355 (by decide) rfl ?_
            refine x_iload cx dL_isWhole_357 rfl ?_
            refine x_if_ne_t (tgt := 366) cx dL_isWhole_359 (by decide) (nI_ne0 (by omega) (by omega)) ?_
            refine x_aload_n cx dL_isWhole_366 rfl rfl ?_
            refine x_iload cx dL_isWhole_367 rfl ?_
            refine x_iconst (v := nI 1) cx dL_isWhole_369 (by decide) ?_
            refine x_isub cx dL_isWhole_370 ?_
            refine x_eqi (nI_subN (by omega)) ?_
            refine x_iconst (v := nI 5) cx dL_isWhole_371 (by decide) ?_
            refine x_Vi (C := RX6) (T := TX6) (N := 6) (rest := []) cx (c_X6_chip l G _ hS _ _) gV_L_20 ndX6_chip rfl ⟨Nat.le_of_ble_eq_true rfl, Nat.le_of_ble_eq_true rfl⟩ (zok_7 (by decide)) (by decide) (p_SC) rfl rfl rfl (Nat.le_of_ble_eq_true rfl) dL_isWhole_372 ⟨Nat.le_of_ble_eq_true rfl, Nat.le_of_ble_eq_true rfl⟩ ?_
            refine x_eqi ((tl_5 hX (by omega)).trans (show _ = nI 1 from e5)) ?_
            refine x_iconst (v := nI 1) cx dL_isWhole_375 (by decide) ?_
            refine x_icmp_ne_f (tgt := 383) cx dL_isWhole_376 (by decide) rfl ?_
            refine x_iconst (v := nI 1) cx dL_isWhole_379 (by decide) ?_
            refine x_goto (tgt := 416) cx dL_isWhole_380 (by decide) ?_
            refine x_istore (ls' := [_, _, _, _, _, _, _, _, _, _, _, _, _, _, _]) cx dL_isWhole_416 (by decide) rfl ?_
            refine x_iload cx dL_isWhole_418 rfl ?_
            refine x_iconst (v := nI 4) cx dL_isWhole_420 (by decide) ?_
            refine x_icmp_eq_f (tgt := 431) cx dL_isWhole_421 (by decide) (nI_nq (by omega) (by omega) (by omega)) ?_
            refine x_iload cx dL_isWhole_424 rfl ?_
            refine x_bipush (v := nI 11) cx dL_isWhole_426 (by decide) ?_
            refine x_icmp_ne_f (tgt := 435) cx dL_isWhole_428 (by decide) (nI_ig (by omega)) ?_
            refine x_iconst (v := nI 1) cx dL_isWhole_431 (by decide) ?_
            refine x_goto (tgt := 436) cx dL_isWhole_432 (by decide) ?_
            refine x_istore (ls' := [_, _, _, _, _, _, _, _, _, _, _, _, _, _, _]) cx dL_isWhole_436 (by decide) rfl ?_
            refine x_iload cx dL_isWhole_438 rfl ?_
            refine x_if_eq_f (tgt := 499) cx dL_isWhole_440 (by decide) (by decide) ?_
            refine x_aload_n cx dL_isWhole_443 rfl rfl ?_
            refine x_iconst (v := nI 0) cx dL_isWhole_444 (by decide) ?_
            refine x_Vi (C := RX6) (T := TX6) (N := 6) (rest := []) cx (c_X6_peek l G _ hS _) gV_L_27 ndX6_peek rfl ⟨Nat.le_of_ble_eq_true rfl, Nat.le_of_ble_eq_true rfl⟩ (zok_7 (by decide)) (by decide) (p_SC) rfl rfl rfl (Nat.le_of_ble_eq_true rfl) dL_isWhole_445 ⟨Nat.le_of_ble_eq_true rfl, Nat.le_of_ble_eq_true rfl⟩ ?_
            refine x_eqi ((pk_01 (by decide)).trans ((ot_b hS.1 h11 hn0).trans (co_1 e5))) ?_
            refine x_iload cx dL_isWhole_448 rfl ?_
            refine x_if_ne_t (tgt := 457) cx dL_isWhole_450 (by decide) (nI_ne0 (by omega) (by omega)) ?_
            refine x_iload cx dL_isWhole_457 rfl ?_
            refine x_if_ne_t (tgt := 466) cx dL_isWhole_459 (by decide) (nI_ne0 (by omega) (by omega)) ?_
            refine x_iload cx dL_isWhole_466 rfl ?_
            refine x_icmp_ne_f (tgt := 499) cx dL_isWhole_468 (by decide) (nI_ig (by omega)) ?_
            refine x_aload_n cx dL_isWhole_471 rfl rfl ?_
            refine x_iconst (v := nI 1) cx dL_isWhole_472 (by decide) ?_
            refine x_Vi (C := RX6) (T := TX6) (N := 6) (rest := []) cx (c_X6_peek l G _ hS _) gV_L_27 ndX6_peek rfl ⟨Nat.le_of_ble_eq_true rfl, Nat.le_of_ble_eq_true rfl⟩ (zok_7 (by decide)) (by decide) (p_SC) rfl rfl rfl (Nat.le_of_ble_eq_true rfl) dL_isWhole_473 ⟨Nat.le_of_ble_eq_true rfl, Nat.le_of_ble_eq_true rfl⟩ ?_
            refine x_eqi ((pk_01 (by decide)).trans ((ot_b hS.1 h11 hn0).trans (co_1 e5))) ?_
            refine x_iload cx dL_isWhole_476 rfl ?_
            refine x_if_eq_f (tgt := 486) cx dL_isWhole_478 (by decide) (nI_ne0 (by omega) (by omega)) ?_
            refine x_iload cx dL_isWhole_481 rfl ?_
            refine x_if_ne_t (tgt := 490) cx dL_isWhole_483 (by decide) (nI_ne0 (by omega) (by omega)) ?_
            refine x_iload cx dL_isWhole_490 rfl ?_
            refine x_icmp_ne_f (tgt := 499) cx dL_isWhole_492 (by decide) (nI_ig (by omega)) ?_
            refine x_iconst (v := nI 1) cx dL_isWhole_495 (by decide) ?_
            refine x_goto (tgt := 500) cx dL_isWhole_496 (by decide) ?_
            exact x_ls rfl (by simp [lo]) K500
          · refine x_iload cx dL_isWhole_56 rfl ?_
            refine x_iload cx dL_isWhole_58 rfl ?_
            refine x_icmp_ge_t (tgt := 350) cx dL_isWhole_60 (by decide) (nI_le (by omega) (by omega)) ?_
            refine x_aload_n cx dL_isWhole_350 rfl rfl ?_
            refine x_iconst (v := nI 2) cx dL_isWhole_351 (by decide) ?_
            refine x_Vi (C := RX6) (T := TX6) (N := 6) (rest := []) cx (c_X6_count l G _ hS _) gV_L_14 ndX6_count rfl ⟨Nat.le_of_ble_eq_true rfl, Nat.le_of_ble_eq_true rfl⟩ (zok_7 (by decide)) (by decide) (p_SC) rfl rfl rfl (Nat.le_of_ble_eq_true rfl) dL_isWhole_352 ⟨Nat.le_of_ble_eq_true rfl, Nat.le_of_ble_eq_true rfl⟩ ?_
            refine x_eqi (cn2 hS.1) ?_
            refine x_istore (ls' := [_, _, _, _, _, _, _, _, _, _, _, _, _, _, _]) cx dL_isWhole_355 (by decide) rfl ?_
            refine x_iload cx dL_isWhole_357 rfl ?_
            refine x_if_ne_t (tgt := 366) cx dL_isWhole_359 (by decide) (nI_ne0 (by omega) (by omega)) ?_
            refine x_aload_n cx dL_isWhole_366 rfl rfl ?_
            refine x_iload cx dL_isWhole_367 rfl ?_
            refine x_iconst (v := nI 1) cx dL_isWhole_369 (by decide) ?_
            refine x_isub cx dL_isWhole_370 ?_
            refine x_eqi (nI_subN (by omega)) ?_
            refine x_iconst (v := nI 5) cx dL_isWhole_371 (by decide) ?_
            refine x_Vi (C := RX6) (T := TX6) (N := 6) (rest := []) cx (c_X6_chip l G _ hS _ _) gV_L_20 ndX6_chip rfl ⟨Nat.le_of_ble_eq_true rfl, Nat.le_of_ble_eq_true rfl⟩ (zok_7 (by decide)) (by decide) (p_SC) rfl rfl rfl (Nat.le_of_ble_eq_true rfl) dL_isWhole_372 ⟨Nat.le_of_ble_eq_true rfl, Nat.le_of_ble_eq_true rfl⟩ ?_
            refine x_eqi ((tl_5 hX (by omega)).trans (show _ = nI 1 from e5)) ?_
            refine x_iconst (v := nI 1) cx dL_isWhole_375 (by decide) ?_
            refine x_icmp_ne_f (tgt := 383) cx dL_isWhole_376 (by decide) rfl ?_
            refine x_iconst (v := nI 1) cx dL_isWhole_379 (by decide) ?_
            refine x_goto (tgt := 416) cx dL_isWhole_380 (by decide) ?_
            refine x_istore (ls' := [_, _, _, _, _, _, _, _, _, _, _, _, _, _, _]) cx dL_isWhole_416 (by decide) rfl ?_
            refine x_iload cx dL_isWhole_418 rfl ?_
            refine x_iconst (v := nI 4) cx dL_isWhole_420 (by decide) ?_
            refine x_icmp_eq_f (tgt := 431) cx dL_isWhole_421 (by decide) (nI_nq (by omega) (by omega) (by omega)) ?_
            refine x_iload cx dL_isWhole_424 rfl ?_
            refine x_bipush (v := nI 11) cx dL_isWhole_426 (by decide) ?_
            refine x_icmp_ne_t (tgt := 435) cx dL_isWhole_428 (by decide) (nI_nq (by omega) (by omega) (by omega)) ?_
            refine x_iconst (v := nI 0) cx dL_isWhole_435 (by decide) ?_
            refine x_istore (ls' := [_, _, _, _, _, _, _, _, _, _, _, _, _, _, _]) cx dL_isWhole_436 (by decide) rfl ?_
            refine x_iload cx dL_isWhole_438 rfl ?_
            refine x_if_eq_f (tgt := 499) cx dL_isWhole_440 (by decide) (by decide) ?_
            refine x_aload_n cx dL_isWhole_443 rfl rfl ?_
            refine x_iconst (v := nI 0) cx dL_isWhole_444 (by decide) ?_
            refine x_Vi (C := RX6) (T := TX6) (N := 6) (rest := []) cx (c_X6_peek l G _ hS _) gV_L_27 ndX6_peek rfl ⟨Nat.le_of_ble_eq_true rfl, Nat.le_of_ble_eq_true rfl⟩ (zok_7 (by decide)) (by decide) (p_SC) rfl rfl rfl (Nat.le_of_ble_eq_true rfl) dL_isWhole_445 ⟨Nat.le_of_ble_eq_true rfl, Nat.le_of_ble_eq_true rfl⟩ ?_
            refine x_eqi ((pk_01 (by decide)).trans (ot_o hS.1 h4 h11)) ?_
            refine x_iload cx dL_isWhole_448 rfl ?_
            refine x_if_ne_f (tgt := 457) cx dL_isWhole_450 (by decide) (nI_ig (b := 0) (by omega)) ?_
            refine x_iconst (v := nI 1) cx dL_isWhole_453 (by decide) ?_
            refine x_goto (tgt := 468) cx dL_isWhole_454 (by decide) ?_
            refine x_icmp_ne_f (tgt := 499) cx dL_isWhole_468 (by decide) (nI_ig (by omega)) ?_
            refine x_aload_n cx dL_isWhole_471 rfl rfl ?_
            refine x_iconst (v := nI 1) cx dL_isWhole_472 (by decide) ?_
            refine x_Vi (C := RX6) (T := TX6) (N := 6) (rest := []) cx (c_X6_peek l G _ hS _) gV_L_27 ndX6_peek rfl ⟨Nat.le_of_ble_eq_true rfl, Nat.le_of_ble_eq_true rfl⟩ (zok_7 (by decide)) (by decide) (p_SC) rfl rfl rfl (Nat.le_of_ble_eq_true rfl) dL_isWhole_473 ⟨Nat.le_of_ble_eq_true rfl, Nat.le_of_ble_eq_true rfl⟩ ?_
            refine x_eqi ((pk_01 (by decide)).trans (ot_o hS.1 h4 h11)) ?_
            refine x_iload cx dL_isWhole_476 rfl ?_
            refine x_if_eq_t (tgt := 486) cx dL_isWhole_478 (by decide) (nI_ig (b := 0) (by omega)) ?_
            refine x_iconst (v := nI 1) cx dL_isWhole_486 (by decide) ?_
            refine x_goto (tgt := 492) cx dL_isWhole_487 (by decide) ?_
            refine x_icmp_ne_f (tgt := 499) cx dL_isWhole_492 (by decide) (nI_ig (by omega)) ?_
            refine x_iconst (v := nI 1) cx dL_isWhole_495 (by decide) ?_
            refine x_goto (tgt := 500) cx dL_isWhole_496 (by decide) ?_
            exact x_ls rfl (by simp [lo]) K500
  | succ f ih =>
    intro k hk
    have hc := hX.chip (t := k) (by omega)
    have hB := cOK_B hc
    have hL := hc.1.1
    have hK := hc.1.2.1
    have hI := hc.1.2.2.1
    have h5 := hc.1.2.2.2
    obtain ⟨ins, hins, e6⟩ := hc.2.2.1.1
    have hip : ins < 2 ^ 31 := Nat.lt_of_lt_of_le hins (p2le (by omega))
    rcases (show ins = 0 ∨ ins = 2 ∨ (ins = 1 ∧ aI (S 0 (k + 3)) ≠ 0) ∨ (ins = 1 ∧ aI (S 0 (k + 3)) = 0) ∨ (ins ≠ 0 ∧ ins ≠ 1 ∧ ins ≠ 2) by omega) with hk0 | hk0 | ⟨hk0, hii⟩ | ⟨hk0, hii⟩ | hk0
    · have hzc : zC (S 0 (k + 3)) := Or.inl (e6.trans (nI_ig (b := 0) hk0))
      have haB : aB (S 0 (k + 3)) = aK (S 0 (k + 3)) := aB_C hzc
      have hby : zByp (S 0 (k + 3)) = nI 0 := byp_C hzc
      refine x_iload cx dL_isWhole_56 rfl ?_
      refine x_iload cx dL_isWhole_58 rfl ?_
      refine x_icmp_ge_f (tgt := 350) cx dL_isWhole_60 (by decide) (nI_ge (by omega) (by omega)) ?_
      refine x_iload cx dL_isWhole_63 rfl ?_
      refine x_if_eq_f (tgt := 350) cx dL_isWhole_65 (by decide) (by decide) ?_
      refine x_aload_n cx dL_isWhole_68 rfl rfl ?_
      refine x_iload cx dL_isWhole_69 rfl ?_
      refine x_iconst (v := nI 0) cx dL_isWhole_71 (by decide) ?_
      refine x_Vi (C := RX6) (T := TX6) (N := 6) (rest := []) cx (c_X6_chip l G _ hS _ _) gV_L_20 ndX6_chip rfl ⟨Nat.le_of_ble_eq_true rfl, Nat.le_of_ble_eq_true rfl⟩ (zok_7 (by decide)) (by decide) (p_SC) rfl rfl rfl (Nat.le_of_ble_eq_true rfl) dL_isWhole_72 ⟨Nat.le_of_ble_eq_true rfl, Nat.le_of_ble_eq_true rfl⟩ ?_
      refine x_eqi (tl_0 hX (by omega)) ?_
      refine x_istore (ls' := [_, _, _, _, _, _, _, _, _, _, _, _, _, _, _]) cx dL_isWhole_75 (by decide) rfl ?_
      refine x_aload_n cx dL_isWhole_77 rfl rfl ?_
      refine x_iload cx dL_isWhole_78 rfl ?_
      refine x_iconst (v := nI 1) cx dL_isWhole_80 (by decide) ?_
      refine x_Vi (C := RX6) (T := TX6) (N := 6) (rest := []) cx (c_X6_chip l G _ hS _ _) gV_L_20 ndX6_chip rfl ⟨Nat.le_of_ble_eq_true rfl, Nat.le_of_ble_eq_true rfl⟩ (zok_7 (by decide)) (by decide) (p_SC) rfl rfl rfl (Nat.le_of_ble_eq_true rfl) dL_isWhole_81 ⟨Nat.le_of_ble_eq_true rfl, Nat.le_of_ble_eq_true rfl⟩ ?_
      refine x_eqi (tl_1 hX (by omega)) ?_
      refine x_istore (ls' := [_, _, _, _, _, _, _, _, _, _, _, _, _, _, _]) cx dL_isWhole_84 (by decide) rfl ?_
      refine x_aload_n cx dL_isWhole_86 rfl rfl ?_
      refine x_iload cx dL_isWhole_87 rfl ?_
      refine x_iconst (v := nI 2) cx dL_isWhole_89 (by decide) ?_
      refine x_Vi (C := RX6) (T := TX6) (N := 6) (rest := []) cx (c_X6_chip l G _ hS _ _) gV_L_20 ndX6_chip rfl ⟨Nat.le_of_ble_eq_true rfl, Nat.le_of_ble_eq_true rfl⟩ (zok_7 (by decide)) (by decide) (p_SC) rfl rfl rfl (Nat.le_of_ble_eq_true rfl) dL_isWhole_90 ⟨Nat.le_of_ble_eq_true rfl, Nat.le_of_ble_eq_true rfl⟩ ?_
      refine x_eqi (tl_2 hX (by omega)) ?_
      refine x_istore (ls' := [_, _, _, _, _, _, _, _, _, _, _, _, _, _, _]) cx dL_isWhole_93 (by decide) rfl ?_
      refine x_aload_n cx dL_isWhole_95 rfl rfl ?_
      refine x_iload cx dL_isWhole_96 rfl ?_
      refine x_bipush (v := nI 6) cx dL_isWhole_98 (by decide) ?_
      refine x_Vi (C := RX6) (T := TX6) (N := 6) (rest := []) cx (c_X6_chip l G _ hS _ _) gV_L_20 ndX6_chip rfl ⟨Nat.le_of_ble_eq_true rfl, Nat.le_of_ble_eq_true rfl⟩ (zok_7 (by decide)) (by decide) (p_SC) rfl rfl rfl (Nat.le_of_ble_eq_true rfl) dL_isWhole_100 ⟨Nat.le_of_ble_eq_true rfl, Nat.le_of_ble_eq_true rfl⟩ ?_
      refine x_eqi ((tl_6 hX (by omega)).trans e6) ?_
      refine x_istore (ls' := [_, _, _, _, _, _, _, _, _, _, _, _, _, _, _]) cx dL_isWhole_103 (by decide) rfl ?_
      refine x_aload_n cx dL_isWhole_105 rfl rfl ?_
      refine x_iload cx dL_isWhole_106 rfl ?_
      refine x_bipush (v := nI 9) cx dL_isWhole_108 (by decide) ?_
      refine x_Vi (C := RX6) (T := TX6) (N := 6) (rest := []) cx (c_X6_chip l G _ hS _ _) gV_L_20 ndX6_chip rfl ⟨Nat.le_of_ble_eq_true rfl, Nat.le_of_ble_eq_true rfl⟩ (zok_7 (by decide)) (by decide) (p_SC) rfl rfl rfl (Nat.le_of_ble_eq_true rfl) dL_isWhole_110 ⟨Nat.le_of_ble_eq_true rfl, Nat.le_of_ble_eq_true rfl⟩ ?_
      refine x_eqi (tl_9 hX (by omega)) ?_
      refine x_istore (ls' := [_, _, _, _, _, _, _, _, _, _, _, _, _, _, _]) cx dL_isWhole_113 (by decide) rfl ?_
      refine x_iload cx dL_isWhole_115 rfl ?_
      refine x_if_eq_t (tgt := 126) cx dL_isWhole_117 (by decide) (nI_ig (b := 0) (by omega)) ?_
      refine x_iconst (v := nI 1) cx dL_isWhole_126 (by decide) ?_
      refine x_goto (tgt := 131) cx dL_isWhole_127 (by decide) ?_
      refine x_istore (ls' := [_, _, _, _, _, _, _, _, _, _, _, _, _, _, _]) cx dL_isWhole_131 (by decide) rfl ?_
      refine x_iload cx dL_isWhole_133 rfl ?_
      refine x_iconst (v := nI 1) cx dL_isWhole_135 (by decide) ?_
      refine x_icmp_ne_t (tgt := 148) cx dL_isWhole_136 (by decide) (nI_nq (by omega) (by omega) (by omega)) ?_
      refine x_iconst (v := nI 0) cx dL_isWhole_148 (by decide) ?_
      refine x_istore (ls' := [_, _, _, _, _, _, _, _, _, _, _, _, _, _, _]) cx dL_isWhole_149 (by decide) rfl ?_
      refine x_iload_n cx dL_isWhole_151 rfl rfl ?_
      refine x_aload_n cx dL_isWhole_152 rfl rfl ?_
      refine x_iload cx dL_isWhole_153 rfl ?_
      refine x_iconst (v := nI 5) cx dL_isWhole_155 (by decide) ?_
      refine x_Vi (C := RX6) (T := TX6) (N := 6) (rest := [_]) cx (c_X6_chip l G _ hS _ _) gV_L_20 ndX6_chip rfl ⟨Nat.le_of_ble_eq_true rfl, Nat.le_of_ble_eq_true rfl⟩ (zok_7 (by decide)) (by decide) (p_SC) rfl rfl rfl (Nat.le_of_ble_eq_true rfl) dL_isWhole_156 ⟨Nat.le_of_ble_eq_true rfl, Nat.le_of_ble_eq_true rfl⟩ ?_
      refine x_eqi (tl_5 hX (by omega)) ?_
      refine x_iadd cx dL_isWhole_159 ?_
      refine x_eqi (show _ = zSumL zBrk (S 0) (k + 1) from congrArg (zSumL zBrk (S 0) k + ·) (brk_5 h5).symm) ?_
      refine x_istore_n (ls' := [_, _, _, _, _, _, _, _, _, _, _, _, _, _, _]) cx dL_isWhole_160 rfl (by decide) rfl ?_
      refine x_iload_n cx dL_isWhole_161 rfl rfl ?_
      refine x_iload cx dL_isWhole_162 rfl ?_
      refine x_iadd cx dL_isWhole_164 ?_
      refine x_eqi (show _ = zSumL (fun c => c 0) (S 0) (k + 1) from congrArg (zSumL (fun c => c 0) (S 0) k + ·) hL.2.2.symm) ?_
      refine x_istore_n (ls' := [_, _, _, _, _, _, _, _, _, _, _, _, _, _, _]) cx dL_isWhole_165 rfl (by decide) rfl ?_
      refine x_iload_n cx dL_isWhole_166 rfl rfl ?_
      refine x_iload cx dL_isWhole_167 rfl ?_
      refine x_iadd cx dL_isWhole_169 ?_
      refine x_eqi (show _ = zSumL zBits (S 0) (k + 1) from congrArg (zSumL zBits (S 0) k + ·) hB.1.symm) ?_
      refine x_istore_n (ls' := [_, _, _, _, _, _, _, _, _, _, _, _, _, _, _]) cx dL_isWhole_170 rfl (by decide) rfl ?_
      refine x_iload cx dL_isWhole_171 rfl ?_
      refine x_iload cx dL_isWhole_173 rfl ?_
      refine x_if_ne_t (tgt := 183) cx dL_isWhole_175 (by decide) (by decide) ?_
      refine x_iconst (v := nI 0) cx dL_isWhole_183 (by decide) ?_
      refine x_goto (tgt := 188) cx dL_isWhole_184 (by decide) ?_
      refine x_iadd cx dL_isWhole_188 ?_
      refine x_eqi (show _ = zSumL zByp (S 0) (k + 1) from congrArg (zSumL zByp (S 0) k + ·) hby.symm) ?_
      refine x_istore (ls' := [_, _, _, _, _, _, _, _, _, _, _, _, _, _, _]) cx dL_isWhole_189 (by decide) rfl ?_
      refine x_iload cx dL_isWhole_191 rfl ?_
      refine x_iconst (v := nI 1) cx dL_isWhole_193 (by decide) ?_
      refine x_icmp_le_f (tgt := 341) cx dL_isWhole_194 (by decide) (nI_ge (by omega) (by omega)) ?_
      refine x_iload cx dL_isWhole_197 rfl ?_
      refine x_bipush (v := nI 7) cx dL_isWhole_199 (by decide) ?_
      refine x_icmp_ge_f (tgt := 341) cx dL_isWhole_201 (by decide) (nI_ge (by omega) (by omega)) ?_
      refine x_iload cx dL_isWhole_204 rfl ?_
      have K225 : Xh p l e (zrm 4 0 0 83) s m args below meth cd 15 G (MQ below (zQi G 68 (1) (pic G S)) args s 0 0 (zA G)) 0 0 68 (pic G S) 225 [some (.ref (zad G 7 0)), some (.int (zSumL zBrk (S 0) (k + 1))), some (.int (zSumL (fun c => c 0) (S 0) (k + 1))), some (.int (zSumL zBits (S 0) (k + 1))), some (.int (zSumL zByp (S 0) (k + 1))), some (.int (nI (num (S 0)))), some (.int (nI 1)), some (.int (nI k)), some (.int (nI (aL (S 0 (k + 3))))), some (.int (nI (aI (S 0 (k + 3))))), some (.int (nI (aK (S 0 (k + 3))))), some (.int (nI ins)), some (.int (nI (aB (S 0 (k + 3))))), some (.int (nI 1)), some (.int (nI 0))] [] := by
        refine x_iload cx dL_isWhole_225 rfl ?_
        refine x_if_le_f (tgt := 341) cx dL_isWhole_227 (by decide) (nI_nle (by omega) (by omega)) ?_
        refine x_iload cx dL_isWhole_230 rfl ?_
        refine x_bipush (v := nI 9) cx dL_isWhole_232 (by decide) ?_
        refine x_icmp_ge_f (tgt := 341) cx dL_isWhole_234 (by decide) (nI_ge (by omega) (by omega)) ?_
        refine x_iload cx dL_isWhole_237 rfl ?_
        refine x_iload cx dL_isWhole_239 rfl ?_
        refine x_if_eq_f (tgt := 249) cx dL_isWhole_241 (by decide) (by decide) ?_
        refine x_iload cx dL_isWhole_244 rfl ?_
        refine x_goto (tgt := 260) cx dL_isWhole_246 (by decide) ?_
        refine x_icmp_ne_f (tgt := 341) cx dL_isWhole_260 (by decide) (nI_ig (by omega)) ?_
        refine x_aload_n cx dL_isWhole_263 rfl rfl ?_
        refine x_iload cx dL_isWhole_264 rfl ?_
        refine x_iconst (v := nI 3) cx dL_isWhole_266 (by decide) ?_
        refine x_Vi (C := RX6) (T := TX6) (N := 6) (rest := []) cx (c_X6_chip l G _ hS _ _) gV_L_20 ndX6_chip rfl ⟨Nat.le_of_ble_eq_true rfl, Nat.le_of_ble_eq_true rfl⟩ (zok_7 (by decide)) (by decide) (p_SC) rfl rfl rfl (Nat.le_of_ble_eq_true rfl) dL_isWhole_267 ⟨Nat.le_of_ble_eq_true rfl, Nat.le_of_ble_eq_true rfl⟩ ?_
        refine x_eqi (tl_3 hX (by omega)) ?_
        refine x_iload cx dL_isWhole_270 rfl ?_
        refine x_ishr cx dL_isWhole_272 ?_
        refine x_eqi (shr_0 hc.2.1.1 hK.2.1) ?_
        refine x_if_ne_f (tgt := 341) cx dL_isWhole_273 (by decide) (by decide) ?_
        refine x_aload_n cx dL_isWhole_276 rfl rfl ?_
        refine x_iload cx dL_isWhole_277 rfl ?_
        refine x_iconst (v := nI 4) cx dL_isWhole_279 (by decide) ?_
        refine x_Vi (C := RX6) (T := TX6) (N := 6) (rest := []) cx (c_X6_chip l G _ hS _ _) gV_L_20 ndX6_chip rfl ⟨Nat.le_of_ble_eq_true rfl, Nat.le_of_ble_eq_true rfl⟩ (zok_7 (by decide)) (by decide) (p_SC) rfl rfl rfl (Nat.le_of_ble_eq_true rfl) dL_isWhole_280 ⟨Nat.le_of_ble_eq_true rfl, Nat.le_of_ble_eq_true rfl⟩ ?_
        refine x_eqi (tl_4 hX (by omega)) ?_
        refine x_iload cx dL_isWhole_283 rfl ?_
        refine x_ishr cx dL_isWhole_285 ?_
        refine x_eqi (shr_0 hc.2.1.2 hK.2.1) ?_
        refine x_if_ne_f (tgt := 341) cx dL_isWhole_286 (by decide) (by decide) ?_
        refine x_iload cx dL_isWhole_289 rfl ?_
        refine x_iload cx dL_isWhole_291 rfl ?_
        refine x_ishr cx dL_isWhole_293 ?_
        refine x_eqi (shr_0 ⟨ins, hins, rfl⟩ (by omega)) ?_
        refine x_if_ne_f (tgt := 341) cx dL_isWhole_294 (by decide) (by decide) ?_
        refine x_aload_n cx dL_isWhole_297 rfl rfl ?_
        refine x_iload cx dL_isWhole_298 rfl ?_
        refine x_bipush (v := nI 7) cx dL_isWhole_300 (by decide) ?_
        refine x_Vi (C := RX6) (T := TX6) (N := 6) (rest := []) cx (c_X6_chip l G _ hS _ _) gV_L_20 ndX6_chip rfl ⟨Nat.le_of_ble_eq_true rfl, Nat.le_of_ble_eq_true rfl⟩ (zok_7 (by decide)) (by decide) (p_SC) rfl rfl rfl (Nat.le_of_ble_eq_true rfl) dL_isWhole_302 ⟨Nat.le_of_ble_eq_true rfl, Nat.le_of_ble_eq_true rfl⟩ ?_
        refine x_eqi (tl_7 hX (by omega)) ?_
        refine x_iload cx dL_isWhole_305 rfl ?_
        refine x_ishr cx dL_isWhole_307 ?_
        refine x_eqi (shr_0 hc.2.2.1.2 (by omega)) ?_
        refine x_if_ne_f (tgt := 341) cx dL_isWhole_308 (by decide) (by decide) ?_
        refine x_aload_n cx dL_isWhole_311 rfl rfl ?_
        refine x_iload cx dL_isWhole_312 rfl ?_
        refine x_bipush (v := nI 8) cx dL_isWhole_314 (by decide) ?_
        refine x_Vi (C := RX6) (T := TX6) (N := 6) (rest := []) cx (c_X6_chip l G _ hS _ _) gV_L_20 ndX6_chip rfl ⟨Nat.le_of_ble_eq_true rfl, Nat.le_of_ble_eq_true rfl⟩ (zok_7 (by decide)) (by decide) (p_SC) rfl rfl rfl (Nat.le_of_ble_eq_true rfl) dL_isWhole_316 ⟨Nat.le_of_ble_eq_true rfl, Nat.le_of_ble_eq_true rfl⟩ ?_
        refine x_eqi (tl_8 hX (by omega)) ?_
        refine x_iload cx dL_isWhole_319 rfl ?_
        refine x_ishr cx dL_isWhole_321 ?_
        refine x_eqi (shr_0 hc.2.2.2 hB.2.2) ?_
        refine x_if_ne_f (tgt := 341) cx dL_isWhole_322 (by decide) (by decide) ?_
        refine x_aload_n cx dL_isWhole_325 rfl rfl ?_
        refine x_iload cx dL_isWhole_326 rfl ?_
        refine x_iconst (v := nI 5) cx dL_isWhole_328 (by decide) ?_
        refine x_Vi (C := RX6) (T := TX6) (N := 6) (rest := []) cx (c_X6_chip l G _ hS _ _) gV_L_20 ndX6_chip rfl ⟨Nat.le_of_ble_eq_true rfl, Nat.le_of_ble_eq_true rfl⟩ (zok_7 (by decide)) (by decide) (p_SC) rfl rfl rfl (Nat.le_of_ble_eq_true rfl) dL_isWhole_329 ⟨Nat.le_of_ble_eq_true rfl, Nat.le_of_ble_eq_true rfl⟩ ?_
        refine x_eqi (tl_5 hX (by omega)) ?_
        refine x_iconst (v := nI 1) cx dL_isWhole_332 (by decide) ?_
        refine x_ishr cx dL_isWhole_333 ?_
        refine x_eqi (shr_1 h5) ?_
        refine x_if_ne_f (tgt := 341) cx dL_isWhole_334 (by decide) (by decide) ?_
        refine x_iconst (v := nI 1) cx dL_isWhole_337 (by decide) ?_
        refine x_goto (tgt := 342) cx dL_isWhole_338 (by decide) ?_
        refine x_istore (ls' := [_, _, _, _, _, _, _, _, _, _, _, _, _, _, _]) cx dL_isWhole_342 (by decide) rfl ?_
        refine x_iinc (v := nI (k + 1)) (ls' := [_, _, _, _, _, _, _, _, _, _, _, _, _, _, _]) cx dL_isWhole_344 rfl (nI_inc _) (by decide) rfl ?_
        refine x_goto (tgt := 56) cx dL_isWhole_347 (by decide) ?_
        exact x_ls rfl (by simp [lo]) (ih (k + 1) (by omega))
      refine x_if_eq (tgt := 225) cx dL_isWhole_206 (by decide) (fun hb206 => ?_) (fun hb206 => ?_)
      · exact K225
      · have hi0 : aI (S 0 (k + 3)) ≠ 0 := fun z => hb206 (nI_ig (b := 0) z)
        refine x_iload cx dL_isWhole_209 rfl ?_
        refine x_iconst (v := nI 2) cx dL_isWhole_211 (by decide) ?_
        refine x_irem cx dL_isWhole_212 (by decide) ?_
        refine x_eqi (pk_rem (by omega) (by omega) (by omega)) ?_
        refine x_iconst (v := nI 1) cx dL_isWhole_213 (by decide) ?_
        refine x_icmp_ne_f (tgt := 341) cx dL_isWhole_214 (by decide) (nI_ig (by omega)) ?_
        refine x_iload cx dL_isWhole_217 rfl ?_
        refine x_sipush (v := nI 254) cx dL_isWhole_219 (by decide) ?_
        refine x_icmp_ge_f (tgt := 341) cx dL_isWhole_222 (by decide) (nI_ge (by omega) (by omega)) ?_
        exact K225
    · have hzc : zC (S 0 (k + 3)) := Or.inr (e6.trans (nI_ig (b := 2) hk0))
      have haB : aB (S 0 (k + 3)) = aK (S 0 (k + 3)) := aB_C hzc
      have hby : zByp (S 0 (k + 3)) = nI 0 := byp_C hzc
      refine x_iload cx dL_isWhole_56 rfl ?_
      refine x_iload cx dL_isWhole_58 rfl ?_
      refine x_icmp_ge_f (tgt := 350) cx dL_isWhole_60 (by decide) (nI_ge (by omega) (by omega)) ?_
      refine x_iload cx dL_isWhole_63 rfl ?_
      refine x_if_eq_f (tgt := 350) cx dL_isWhole_65 (by decide) (by decide) ?_
      refine x_aload_n cx dL_isWhole_68 rfl rfl ?_
      refine x_iload cx dL_isWhole_69 rfl ?_
      refine x_iconst (v := nI 0) cx dL_isWhole_71 (by decide) ?_
      refine x_Vi (C := RX6) (T := TX6) (N := 6) (rest := []) cx (c_X6_chip l G _ hS _ _) gV_L_20 ndX6_chip rfl ⟨Nat.le_of_ble_eq_true rfl, Nat.le_of_ble_eq_true rfl⟩ (zok_7 (by decide)) (by decide) (p_SC) rfl rfl rfl (Nat.le_of_ble_eq_true rfl) dL_isWhole_72 ⟨Nat.le_of_ble_eq_true rfl, Nat.le_of_ble_eq_true rfl⟩ ?_
      refine x_eqi (tl_0 hX (by omega)) ?_
      refine x_istore (ls' := [_, _, _, _, _, _, _, _, _, _, _, _, _, _, _]) cx dL_isWhole_75 (by decide) rfl ?_
      refine x_aload_n cx dL_isWhole_77 rfl rfl ?_
      refine x_iload cx dL_isWhole_78 rfl ?_
      refine x_iconst (v := nI 1) cx dL_isWhole_80 (by decide) ?_
      refine x_Vi (C := RX6) (T := TX6) (N := 6) (rest := []) cx (c_X6_chip l G _ hS _ _) gV_L_20 ndX6_chip rfl ⟨Nat.le_of_ble_eq_true rfl, Nat.le_of_ble_eq_true rfl⟩ (zok_7 (by decide)) (by decide) (p_SC) rfl rfl rfl (Nat.le_of_ble_eq_true rfl) dL_isWhole_81 ⟨Nat.le_of_ble_eq_true rfl, Nat.le_of_ble_eq_true rfl⟩ ?_
      refine x_eqi (tl_1 hX (by omega)) ?_
      refine x_istore (ls' := [_, _, _, _, _, _, _, _, _, _, _, _, _, _, _]) cx dL_isWhole_84 (by decide) rfl ?_
      refine x_aload_n cx dL_isWhole_86 rfl rfl ?_
      refine x_iload cx dL_isWhole_87 rfl ?_
      refine x_iconst (v := nI 2) cx dL_isWhole_89 (by decide) ?_
      refine x_Vi (C := RX6) (T := TX6) (N := 6) (rest := []) cx (c_X6_chip l G _ hS _ _) gV_L_20 ndX6_chip rfl ⟨Nat.le_of_ble_eq_true rfl, Nat.le_of_ble_eq_true rfl⟩ (zok_7 (by decide)) (by decide) (p_SC) rfl rfl rfl (Nat.le_of_ble_eq_true rfl) dL_isWhole_90 ⟨Nat.le_of_ble_eq_true rfl, Nat.le_of_ble_eq_true rfl⟩ ?_
      refine x_eqi (tl_2 hX (by omega)) ?_
      refine x_istore (ls' := [_, _, _, _, _, _, _, _, _, _, _, _, _, _, _]) cx dL_isWhole_93 (by decide) rfl ?_
      refine x_aload_n cx dL_isWhole_95 rfl rfl ?_
      refine x_iload cx dL_isWhole_96 rfl ?_
      refine x_bipush (v := nI 6) cx dL_isWhole_98 (by decide) ?_
      refine x_Vi (C := RX6) (T := TX6) (N := 6) (rest := []) cx (c_X6_chip l G _ hS _ _) gV_L_20 ndX6_chip rfl ⟨Nat.le_of_ble_eq_true rfl, Nat.le_of_ble_eq_true rfl⟩ (zok_7 (by decide)) (by decide) (p_SC) rfl rfl rfl (Nat.le_of_ble_eq_true rfl) dL_isWhole_100 ⟨Nat.le_of_ble_eq_true rfl, Nat.le_of_ble_eq_true rfl⟩ ?_
      refine x_eqi ((tl_6 hX (by omega)).trans e6) ?_
      refine x_istore (ls' := [_, _, _, _, _, _, _, _, _, _, _, _, _, _, _]) cx dL_isWhole_103 (by decide) rfl ?_
      refine x_aload_n cx dL_isWhole_105 rfl rfl ?_
      refine x_iload cx dL_isWhole_106 rfl ?_
      refine x_bipush (v := nI 9) cx dL_isWhole_108 (by decide) ?_
      refine x_Vi (C := RX6) (T := TX6) (N := 6) (rest := []) cx (c_X6_chip l G _ hS _ _) gV_L_20 ndX6_chip rfl ⟨Nat.le_of_ble_eq_true rfl, Nat.le_of_ble_eq_true rfl⟩ (zok_7 (by decide)) (by decide) (p_SC) rfl rfl rfl (Nat.le_of_ble_eq_true rfl) dL_isWhole_110 ⟨Nat.le_of_ble_eq_true rfl, Nat.le_of_ble_eq_true rfl⟩ ?_
      refine x_eqi (tl_9 hX (by omega)) ?_
      refine x_istore (ls' := [_, _, _, _, _, _, _, _, _, _, _, _, _, _, _]) cx dL_isWhole_113 (by decide) rfl ?_
      refine x_iload cx dL_isWhole_115 rfl ?_
      refine x_if_eq_f (tgt := 126) cx dL_isWhole_117 (by decide) (nI_ne0 (by omega) (by omega)) ?_
      refine x_iload cx dL_isWhole_120 rfl ?_
      refine x_iconst (v := nI 2) cx dL_isWhole_122 (by decide) ?_
      refine x_icmp_ne_f (tgt := 130) cx dL_isWhole_123 (by decide) (nI_ig (by omega)) ?_
      refine x_iconst (v := nI 1) cx dL_isWhole_126 (by decide) ?_
      refine x_goto (tgt := 131) cx dL_isWhole_127 (by decide) ?_
      refine x_istore (ls' := [_, _, _, _, _, _, _, _, _, _, _, _, _, _, _]) cx dL_isWhole_131 (by decide) rfl ?_
      refine x_iload cx dL_isWhole_133 rfl ?_
      refine x_iconst (v := nI 1) cx dL_isWhole_135 (by decide) ?_
      refine x_icmp_ne_t (tgt := 148) cx dL_isWhole_136 (by decide) (nI_nq (by omega) (by omega) (by omega)) ?_
      refine x_iconst (v := nI 0) cx dL_isWhole_148 (by decide) ?_
      refine x_istore (ls' := [_, _, _, _, _, _, _, _, _, _, _, _, _, _, _]) cx dL_isWhole_149 (by decide) rfl ?_
      refine x_iload_n cx dL_isWhole_151 rfl rfl ?_
      refine x_aload_n cx dL_isWhole_152 rfl rfl ?_
      refine x_iload cx dL_isWhole_153 rfl ?_
      refine x_iconst (v := nI 5) cx dL_isWhole_155 (by decide) ?_
      refine x_Vi (C := RX6) (T := TX6) (N := 6) (rest := [_]) cx (c_X6_chip l G _ hS _ _) gV_L_20 ndX6_chip rfl ⟨Nat.le_of_ble_eq_true rfl, Nat.le_of_ble_eq_true rfl⟩ (zok_7 (by decide)) (by decide) (p_SC) rfl rfl rfl (Nat.le_of_ble_eq_true rfl) dL_isWhole_156 ⟨Nat.le_of_ble_eq_true rfl, Nat.le_of_ble_eq_true rfl⟩ ?_
      refine x_eqi (tl_5 hX (by omega)) ?_
      refine x_iadd cx dL_isWhole_159 ?_
      refine x_eqi (show _ = zSumL zBrk (S 0) (k + 1) from congrArg (zSumL zBrk (S 0) k + ·) (brk_5 h5).symm) ?_
      refine x_istore_n (ls' := [_, _, _, _, _, _, _, _, _, _, _, _, _, _, _]) cx dL_isWhole_160 rfl (by decide) rfl ?_
      refine x_iload_n cx dL_isWhole_161 rfl rfl ?_
      refine x_iload cx dL_isWhole_162 rfl ?_
      refine x_iadd cx dL_isWhole_164 ?_
      refine x_eqi (show _ = zSumL (fun c => c 0) (S 0) (k + 1) from congrArg (zSumL (fun c => c 0) (S 0) k + ·) hL.2.2.symm) ?_
      refine x_istore_n (ls' := [_, _, _, _, _, _, _, _, _, _, _, _, _, _, _]) cx dL_isWhole_165 rfl (by decide) rfl ?_
      refine x_iload_n cx dL_isWhole_166 rfl rfl ?_
      refine x_iload cx dL_isWhole_167 rfl ?_
      refine x_iadd cx dL_isWhole_169 ?_
      refine x_eqi (show _ = zSumL zBits (S 0) (k + 1) from congrArg (zSumL zBits (S 0) k + ·) hB.1.symm) ?_
      refine x_istore_n (ls' := [_, _, _, _, _, _, _, _, _, _, _, _, _, _, _]) cx dL_isWhole_170 rfl (by decide) rfl ?_
      refine x_iload cx dL_isWhole_171 rfl ?_
      refine x_iload cx dL_isWhole_173 rfl ?_
      refine x_if_ne_t (tgt := 183) cx dL_isWhole_175 (by decide) (by decide) ?_
      refine x_iconst (v := nI 0) cx dL_isWhole_183 (by decide) ?_
      refine x_goto (tgt := 188) cx dL_isWhole_184 (by decide) ?_
      refine x_iadd cx dL_isWhole_188 ?_
      refine x_eqi (show _ = zSumL zByp (S 0) (k + 1) from congrArg (zSumL zByp (S 0) k + ·) hby.symm) ?_
      refine x_istore (ls' := [_, _, _, _, _, _, _, _, _, _, _, _, _, _, _]) cx dL_isWhole_189 (by decide) rfl ?_
      refine x_iload cx dL_isWhole_191 rfl ?_
      refine x_iconst (v := nI 1) cx dL_isWhole_193 (by decide) ?_
      refine x_icmp_le_f (tgt := 341) cx dL_isWhole_194 (by decide) (nI_ge (by omega) (by omega)) ?_
      refine x_iload cx dL_isWhole_197 rfl ?_
      refine x_bipush (v := nI 7) cx dL_isWhole_199 (by decide) ?_
      refine x_icmp_ge_f (tgt := 341) cx dL_isWhole_201 (by decide) (nI_ge (by omega) (by omega)) ?_
      refine x_iload cx dL_isWhole_204 rfl ?_
      have K225 : Xh p l e (zrm 4 0 0 83) s m args below meth cd 15 G (MQ below (zQi G 68 (1) (pic G S)) args s 0 0 (zA G)) 0 0 68 (pic G S) 225 [some (.ref (zad G 7 0)), some (.int (zSumL zBrk (S 0) (k + 1))), some (.int (zSumL (fun c => c 0) (S 0) (k + 1))), some (.int (zSumL zBits (S 0) (k + 1))), some (.int (zSumL zByp (S 0) (k + 1))), some (.int (nI (num (S 0)))), some (.int (nI 1)), some (.int (nI k)), some (.int (nI (aL (S 0 (k + 3))))), some (.int (nI (aI (S 0 (k + 3))))), some (.int (nI (aK (S 0 (k + 3))))), some (.int (nI ins)), some (.int (nI (aB (S 0 (k + 3))))), some (.int (nI 1)), some (.int (nI 0))] [] := by
        refine x_iload cx dL_isWhole_225 rfl ?_
        refine x_if_le_f (tgt := 341) cx dL_isWhole_227 (by decide) (nI_nle (by omega) (by omega)) ?_
        refine x_iload cx dL_isWhole_230 rfl ?_
        refine x_bipush (v := nI 9) cx dL_isWhole_232 (by decide) ?_
        refine x_icmp_ge_f (tgt := 341) cx dL_isWhole_234 (by decide) (nI_ge (by omega) (by omega)) ?_
        refine x_iload cx dL_isWhole_237 rfl ?_
        refine x_iload cx dL_isWhole_239 rfl ?_
        refine x_if_eq_f (tgt := 249) cx dL_isWhole_241 (by decide) (by decide) ?_
        refine x_iload cx dL_isWhole_244 rfl ?_
        refine x_goto (tgt := 260) cx dL_isWhole_246 (by decide) ?_
        refine x_icmp_ne_f (tgt := 341) cx dL_isWhole_260 (by decide) (nI_ig (by omega)) ?_
        refine x_aload_n cx dL_isWhole_263 rfl rfl ?_
        refine x_iload cx dL_isWhole_264 rfl ?_
        refine x_iconst (v := nI 3) cx dL_isWhole_266 (by decide) ?_
        refine x_Vi (C := RX6) (T := TX6) (N := 6) (rest := []) cx (c_X6_chip l G _ hS _ _) gV_L_20 ndX6_chip rfl ⟨Nat.le_of_ble_eq_true rfl, Nat.le_of_ble_eq_true rfl⟩ (zok_7 (by decide)) (by decide) (p_SC) rfl rfl rfl (Nat.le_of_ble_eq_true rfl) dL_isWhole_267 ⟨Nat.le_of_ble_eq_true rfl, Nat.le_of_ble_eq_true rfl⟩ ?_
        refine x_eqi (tl_3 hX (by omega)) ?_
        refine x_iload cx dL_isWhole_270 rfl ?_
        refine x_ishr cx dL_isWhole_272 ?_
        refine x_eqi (shr_0 hc.2.1.1 hK.2.1) ?_
        refine x_if_ne_f (tgt := 341) cx dL_isWhole_273 (by decide) (by decide) ?_
        refine x_aload_n cx dL_isWhole_276 rfl rfl ?_
        refine x_iload cx dL_isWhole_277 rfl ?_
        refine x_iconst (v := nI 4) cx dL_isWhole_279 (by decide) ?_
        refine x_Vi (C := RX6) (T := TX6) (N := 6) (rest := []) cx (c_X6_chip l G _ hS _ _) gV_L_20 ndX6_chip rfl ⟨Nat.le_of_ble_eq_true rfl, Nat.le_of_ble_eq_true rfl⟩ (zok_7 (by decide)) (by decide) (p_SC) rfl rfl rfl (Nat.le_of_ble_eq_true rfl) dL_isWhole_280 ⟨Nat.le_of_ble_eq_true rfl, Nat.le_of_ble_eq_true rfl⟩ ?_
        refine x_eqi (tl_4 hX (by omega)) ?_
        refine x_iload cx dL_isWhole_283 rfl ?_
        refine x_ishr cx dL_isWhole_285 ?_
        refine x_eqi (shr_0 hc.2.1.2 hK.2.1) ?_
        refine x_if_ne_f (tgt := 341) cx dL_isWhole_286 (by decide) (by decide) ?_
        refine x_iload cx dL_isWhole_289 rfl ?_
        refine x_iload cx dL_isWhole_291 rfl ?_
        refine x_ishr cx dL_isWhole_293 ?_
        refine x_eqi (shr_0 ⟨ins, hins, rfl⟩ (by omega)) ?_
        refine x_if_ne_f (tgt := 341) cx dL_isWhole_294 (by decide) (by decide) ?_
        refine x_aload_n cx dL_isWhole_297 rfl rfl ?_
        refine x_iload cx dL_isWhole_298 rfl ?_
        refine x_bipush (v := nI 7) cx dL_isWhole_300 (by decide) ?_
        refine x_Vi (C := RX6) (T := TX6) (N := 6) (rest := []) cx (c_X6_chip l G _ hS _ _) gV_L_20 ndX6_chip rfl ⟨Nat.le_of_ble_eq_true rfl, Nat.le_of_ble_eq_true rfl⟩ (zok_7 (by decide)) (by decide) (p_SC) rfl rfl rfl (Nat.le_of_ble_eq_true rfl) dL_isWhole_302 ⟨Nat.le_of_ble_eq_true rfl, Nat.le_of_ble_eq_true rfl⟩ ?_
        refine x_eqi (tl_7 hX (by omega)) ?_
        refine x_iload cx dL_isWhole_305 rfl ?_
        refine x_ishr cx dL_isWhole_307 ?_
        refine x_eqi (shr_0 hc.2.2.1.2 (by omega)) ?_
        refine x_if_ne_f (tgt := 341) cx dL_isWhole_308 (by decide) (by decide) ?_
        refine x_aload_n cx dL_isWhole_311 rfl rfl ?_
        refine x_iload cx dL_isWhole_312 rfl ?_
        refine x_bipush (v := nI 8) cx dL_isWhole_314 (by decide) ?_
        refine x_Vi (C := RX6) (T := TX6) (N := 6) (rest := []) cx (c_X6_chip l G _ hS _ _) gV_L_20 ndX6_chip rfl ⟨Nat.le_of_ble_eq_true rfl, Nat.le_of_ble_eq_true rfl⟩ (zok_7 (by decide)) (by decide) (p_SC) rfl rfl rfl (Nat.le_of_ble_eq_true rfl) dL_isWhole_316 ⟨Nat.le_of_ble_eq_true rfl, Nat.le_of_ble_eq_true rfl⟩ ?_
        refine x_eqi (tl_8 hX (by omega)) ?_
        refine x_iload cx dL_isWhole_319 rfl ?_
        refine x_ishr cx dL_isWhole_321 ?_
        refine x_eqi (shr_0 hc.2.2.2 hB.2.2) ?_
        refine x_if_ne_f (tgt := 341) cx dL_isWhole_322 (by decide) (by decide) ?_
        refine x_aload_n cx dL_isWhole_325 rfl rfl ?_
        refine x_iload cx dL_isWhole_326 rfl ?_
        refine x_iconst (v := nI 5) cx dL_isWhole_328 (by decide) ?_
        refine x_Vi (C := RX6) (T := TX6) (N := 6) (rest := []) cx (c_X6_chip l G _ hS _ _) gV_L_20 ndX6_chip rfl ⟨Nat.le_of_ble_eq_true rfl, Nat.le_of_ble_eq_true rfl⟩ (zok_7 (by decide)) (by decide) (p_SC) rfl rfl rfl (Nat.le_of_ble_eq_true rfl) dL_isWhole_329 ⟨Nat.le_of_ble_eq_true rfl, Nat.le_of_ble_eq_true rfl⟩ ?_
        refine x_eqi (tl_5 hX (by omega)) ?_
        refine x_iconst (v := nI 1) cx dL_isWhole_332 (by decide) ?_
        refine x_ishr cx dL_isWhole_333 ?_
        refine x_eqi (shr_1 h5) ?_
        refine x_if_ne_f (tgt := 341) cx dL_isWhole_334 (by decide) (by decide) ?_
        refine x_iconst (v := nI 1) cx dL_isWhole_337 (by decide) ?_
        refine x_goto (tgt := 342) cx dL_isWhole_338 (by decide) ?_
        refine x_istore (ls' := [_, _, _, _, _, _, _, _, _, _, _, _, _, _, _]) cx dL_isWhole_342 (by decide) rfl ?_
        refine x_iinc (v := nI (k + 1)) (ls' := [_, _, _, _, _, _, _, _, _, _, _, _, _, _, _]) cx dL_isWhole_344 rfl (nI_inc _) (by decide) rfl ?_
        refine x_goto (tgt := 56) cx dL_isWhole_347 (by decide) ?_
        exact x_ls rfl (by simp [lo]) (ih (k + 1) (by omega))
      refine x_if_eq (tgt := 225) cx dL_isWhole_206 (by decide) (fun hb206 => ?_) (fun hb206 => ?_)
      · exact K225
      · have hi0 : aI (S 0 (k + 3)) ≠ 0 := fun z => hb206 (nI_ig (b := 0) z)
        refine x_iload cx dL_isWhole_209 rfl ?_
        refine x_iconst (v := nI 2) cx dL_isWhole_211 (by decide) ?_
        refine x_irem cx dL_isWhole_212 (by decide) ?_
        refine x_eqi (pk_rem (by omega) (by omega) (by omega)) ?_
        refine x_iconst (v := nI 1) cx dL_isWhole_213 (by decide) ?_
        refine x_icmp_ne_f (tgt := 341) cx dL_isWhole_214 (by decide) (nI_ig (by omega)) ?_
        refine x_iload cx dL_isWhole_217 rfl ?_
        refine x_sipush (v := nI 254) cx dL_isWhole_219 (by decide) ?_
        refine x_icmp_ge_f (tgt := 341) cx dL_isWhole_222 (by decide) (nI_ge (by omega) (by omega)) ?_
        exact K225
    · have hzc : ¬ zC (S 0 (k + 3)) := fun z => z.elim (fun z => absurd ((nI_eq hip (by decide)).mp (e6.symm.trans (show _ = nI 0 from z))) (by omega)) (fun z => absurd ((nI_eq hip (by decide)).mp (e6.symm.trans (show _ = nI 2 from z))) (by omega))
      have hzi : zI (S 0 (k + 3)) := ⟨e6.trans (nI_ig (b := 1) hk0), fun z => hii ((nI_eq (by omega) (by decide)).mp (hI.2.2.symm.trans (show _ = nI 0 from z)))⟩
      have haB : aB (S 0 (k + 3)) = 8 := aB_I hzc hzi
      have hby : zByp (S 0 (k + 3)) = nI 0 := byp_I hzc hzi
      refine x_iload cx dL_isWhole_56 rfl ?_
      refine x_iload cx dL_isWhole_58 rfl ?_
      refine x_icmp_ge_f (tgt := 350) cx dL_isWhole_60 (by decide) (nI_ge (by omega) (by omega)) ?_
      refine x_iload cx dL_isWhole_63 rfl ?_
      refine x_if_eq_f (tgt := 350) cx dL_isWhole_65 (by decide) (by decide) ?_
      refine x_aload_n cx dL_isWhole_68 rfl rfl ?_
      refine x_iload cx dL_isWhole_69 rfl ?_
      refine x_iconst (v := nI 0) cx dL_isWhole_71 (by decide) ?_
      refine x_Vi (C := RX6) (T := TX6) (N := 6) (rest := []) cx (c_X6_chip l G _ hS _ _) gV_L_20 ndX6_chip rfl ⟨Nat.le_of_ble_eq_true rfl, Nat.le_of_ble_eq_true rfl⟩ (zok_7 (by decide)) (by decide) (p_SC) rfl rfl rfl (Nat.le_of_ble_eq_true rfl) dL_isWhole_72 ⟨Nat.le_of_ble_eq_true rfl, Nat.le_of_ble_eq_true rfl⟩ ?_
      refine x_eqi (tl_0 hX (by omega)) ?_
      refine x_istore (ls' := [_, _, _, _, _, _, _, _, _, _, _, _, _, _, _]) cx dL_isWhole_75 (by decide) rfl ?_
      refine x_aload_n cx dL_isWhole_77 rfl rfl ?_
      refine x_iload cx dL_isWhole_78 rfl ?_
      refine x_iconst (v := nI 1) cx dL_isWhole_80 (by decide) ?_
      refine x_Vi (C := RX6) (T := TX6) (N := 6) (rest := []) cx (c_X6_chip l G _ hS _ _) gV_L_20 ndX6_chip rfl ⟨Nat.le_of_ble_eq_true rfl, Nat.le_of_ble_eq_true rfl⟩ (zok_7 (by decide)) (by decide) (p_SC) rfl rfl rfl (Nat.le_of_ble_eq_true rfl) dL_isWhole_81 ⟨Nat.le_of_ble_eq_true rfl, Nat.le_of_ble_eq_true rfl⟩ ?_
      refine x_eqi (tl_1 hX (by omega)) ?_
      refine x_istore (ls' := [_, _, _, _, _, _, _, _, _, _, _, _, _, _, _]) cx dL_isWhole_84 (by decide) rfl ?_
      refine x_aload_n cx dL_isWhole_86 rfl rfl ?_
      refine x_iload cx dL_isWhole_87 rfl ?_
      refine x_iconst (v := nI 2) cx dL_isWhole_89 (by decide) ?_
      refine x_Vi (C := RX6) (T := TX6) (N := 6) (rest := []) cx (c_X6_chip l G _ hS _ _) gV_L_20 ndX6_chip rfl ⟨Nat.le_of_ble_eq_true rfl, Nat.le_of_ble_eq_true rfl⟩ (zok_7 (by decide)) (by decide) (p_SC) rfl rfl rfl (Nat.le_of_ble_eq_true rfl) dL_isWhole_90 ⟨Nat.le_of_ble_eq_true rfl, Nat.le_of_ble_eq_true rfl⟩ ?_
      refine x_eqi (tl_2 hX (by omega)) ?_
      refine x_istore (ls' := [_, _, _, _, _, _, _, _, _, _, _, _, _, _, _]) cx dL_isWhole_93 (by decide) rfl ?_
      refine x_aload_n cx dL_isWhole_95 rfl rfl ?_
      refine x_iload cx dL_isWhole_96 rfl ?_
      refine x_bipush (v := nI 6) cx dL_isWhole_98 (by decide) ?_
      refine x_Vi (C := RX6) (T := TX6) (N := 6) (rest := []) cx (c_X6_chip l G _ hS _ _) gV_L_20 ndX6_chip rfl ⟨Nat.le_of_ble_eq_true rfl, Nat.le_of_ble_eq_true rfl⟩ (zok_7 (by decide)) (by decide) (p_SC) rfl rfl rfl (Nat.le_of_ble_eq_true rfl) dL_isWhole_100 ⟨Nat.le_of_ble_eq_true rfl, Nat.le_of_ble_eq_true rfl⟩ ?_
      refine x_eqi ((tl_6 hX (by omega)).trans e6) ?_
      refine x_istore (ls' := [_, _, _, _, _, _, _, _, _, _, _, _, _, _, _]) cx dL_isWhole_103 (by decide) rfl ?_
      refine x_aload_n cx dL_isWhole_105 rfl rfl ?_
      refine x_iload cx dL_isWhole_106 rfl ?_
      refine x_bipush (v := nI 9) cx dL_isWhole_108 (by decide) ?_
      refine x_Vi (C := RX6) (T := TX6) (N := 6) (rest := []) cx (c_X6_chip l G _ hS _ _) gV_L_20 ndX6_chip rfl ⟨Nat.le_of_ble_eq_true rfl, Nat.le_of_ble_eq_true rfl⟩ (zok_7 (by decide)) (by decide) (p_SC) rfl rfl rfl (Nat.le_of_ble_eq_true rfl) dL_isWhole_110 ⟨Nat.le_of_ble_eq_true rfl, Nat.le_of_ble_eq_true rfl⟩ ?_
      refine x_eqi (tl_9 hX (by omega)) ?_
      refine x_istore (ls' := [_, _, _, _, _, _, _, _, _, _, _, _, _, _, _]) cx dL_isWhole_113 (by decide) rfl ?_
      refine x_iload cx dL_isWhole_115 rfl ?_
      refine x_if_eq_f (tgt := 126) cx dL_isWhole_117 (by decide) (nI_ne0 (by omega) (by omega)) ?_
      refine x_iload cx dL_isWhole_120 rfl ?_
      refine x_iconst (v := nI 2) cx dL_isWhole_122 (by decide) ?_
      refine x_icmp_ne_t (tgt := 130) cx dL_isWhole_123 (by decide) (nI_nq (by omega) (by omega) (by omega)) ?_
      refine x_iconst (v := nI 0) cx dL_isWhole_130 (by decide) ?_
      refine x_istore (ls' := [_, _, _, _, _, _, _, _, _, _, _, _, _, _, _]) cx dL_isWhole_131 (by decide) rfl ?_
      refine x_iload cx dL_isWhole_133 rfl ?_
      refine x_iconst (v := nI 1) cx dL_isWhole_135 (by decide) ?_
      refine x_icmp_ne_f (tgt := 148) cx dL_isWhole_136 (by decide) (nI_ig (by omega)) ?_
      refine x_iload cx dL_isWhole_139 rfl ?_
      refine x_if_le_f (tgt := 148) cx dL_isWhole_141 (by decide) (nI_nle (by omega) (by omega)) ?_
      refine x_iconst (v := nI 1) cx dL_isWhole_144 (by decide) ?_
      refine x_goto (tgt := 149) cx dL_isWhole_145 (by decide) ?_
      refine x_istore (ls' := [_, _, _, _, _, _, _, _, _, _, _, _, _, _, _]) cx dL_isWhole_149 (by decide) rfl ?_
      refine x_iload_n cx dL_isWhole_151 rfl rfl ?_
      refine x_aload_n cx dL_isWhole_152 rfl rfl ?_
      refine x_iload cx dL_isWhole_153 rfl ?_
      refine x_iconst (v := nI 5) cx dL_isWhole_155 (by decide) ?_
      refine x_Vi (C := RX6) (T := TX6) (N := 6) (rest := [_]) cx (c_X6_chip l G _ hS _ _) gV_L_20 ndX6_chip rfl ⟨Nat.le_of_ble_eq_true rfl, Nat.le_of_ble_eq_true rfl⟩ (zok_7 (by decide)) (by decide) (p_SC) rfl rfl rfl (Nat.le_of_ble_eq_true rfl) dL_isWhole_156 ⟨Nat.le_of_ble_eq_true rfl, Nat.le_of_ble_eq_true rfl⟩ ?_
      refine x_eqi (tl_5 hX (by omega)) ?_
      refine x_iadd cx dL_isWhole_159 ?_
      refine x_eqi (show _ = zSumL zBrk (S 0) (k + 1) from congrArg (zSumL zBrk (S 0) k + ·) (brk_5 h5).symm) ?_
      refine x_istore_n (ls' := [_, _, _, _, _, _, _, _, _, _, _, _, _, _, _]) cx dL_isWhole_160 rfl (by decide) rfl ?_
      refine x_iload_n cx dL_isWhole_161 rfl rfl ?_
      refine x_iload cx dL_isWhole_162 rfl ?_
      refine x_iadd cx dL_isWhole_164 ?_
      refine x_eqi (show _ = zSumL (fun c => c 0) (S 0) (k + 1) from congrArg (zSumL (fun c => c 0) (S 0) k + ·) hL.2.2.symm) ?_
      refine x_istore_n (ls' := [_, _, _, _, _, _, _, _, _, _, _, _, _, _, _]) cx dL_isWhole_165 rfl (by decide) rfl ?_
      refine x_iload_n cx dL_isWhole_166 rfl rfl ?_
      refine x_iload cx dL_isWhole_167 rfl ?_
      refine x_iadd cx dL_isWhole_169 ?_
      refine x_eqi (show _ = zSumL zBits (S 0) (k + 1) from congrArg (zSumL zBits (S 0) k + ·) hB.1.symm) ?_
      refine x_istore_n (ls' := [_, _, _, _, _, _, _, _, _, _, _, _, _, _, _]) cx dL_isWhole_170 rfl (by decide) rfl ?_
      refine x_iload cx dL_isWhole_171 rfl ?_
      refine x_iload cx dL_isWhole_173 rfl ?_
      refine x_if_ne_f (tgt := 183) cx dL_isWhole_175 (by decide) (by decide) ?_
      refine x_iload cx dL_isWhole_178 rfl ?_
      refine x_if_eq_f (tgt := 187) cx dL_isWhole_180 (by decide) (by decide) ?_
      refine x_iconst (v := nI 0) cx dL_isWhole_183 (by decide) ?_
      refine x_goto (tgt := 188) cx dL_isWhole_184 (by decide) ?_
      refine x_iadd cx dL_isWhole_188 ?_
      refine x_eqi (show _ = zSumL zByp (S 0) (k + 1) from congrArg (zSumL zByp (S 0) k + ·) hby.symm) ?_
      refine x_istore (ls' := [_, _, _, _, _, _, _, _, _, _, _, _, _, _, _]) cx dL_isWhole_189 (by decide) rfl ?_
      refine x_iload cx dL_isWhole_191 rfl ?_
      refine x_iconst (v := nI 1) cx dL_isWhole_193 (by decide) ?_
      refine x_icmp_le_f (tgt := 341) cx dL_isWhole_194 (by decide) (nI_ge (by omega) (by omega)) ?_
      refine x_iload cx dL_isWhole_197 rfl ?_
      refine x_bipush (v := nI 7) cx dL_isWhole_199 (by decide) ?_
      refine x_icmp_ge_f (tgt := 341) cx dL_isWhole_201 (by decide) (nI_ge (by omega) (by omega)) ?_
      refine x_iload cx dL_isWhole_204 rfl ?_
      have K225 : Xh p l e (zrm 4 0 0 83) s m args below meth cd 15 G (MQ below (zQi G 68 (1) (pic G S)) args s 0 0 (zA G)) 0 0 68 (pic G S) 225 [some (.ref (zad G 7 0)), some (.int (zSumL zBrk (S 0) (k + 1))), some (.int (zSumL (fun c => c 0) (S 0) (k + 1))), some (.int (zSumL zBits (S 0) (k + 1))), some (.int (zSumL zByp (S 0) (k + 1))), some (.int (nI (num (S 0)))), some (.int (nI 1)), some (.int (nI k)), some (.int (nI (aL (S 0 (k + 3))))), some (.int (nI (aI (S 0 (k + 3))))), some (.int (nI (aK (S 0 (k + 3))))), some (.int (nI ins)), some (.int (nI (aB (S 0 (k + 3))))), some (.int (nI 0)), some (.int (nI 1))] [] := by
        refine x_iload cx dL_isWhole_225 rfl ?_
        refine x_if_le_f (tgt := 341) cx dL_isWhole_227 (by decide) (nI_nle (by omega) (by omega)) ?_
        refine x_iload cx dL_isWhole_230 rfl ?_
        refine x_bipush (v := nI 9) cx dL_isWhole_232 (by decide) ?_
        refine x_icmp_ge_f (tgt := 341) cx dL_isWhole_234 (by decide) (nI_ge (by omega) (by omega)) ?_
        refine x_iload cx dL_isWhole_237 rfl ?_
        refine x_iload cx dL_isWhole_239 rfl ?_
        refine x_if_eq_t (tgt := 249) cx dL_isWhole_241 (by decide) (by decide) ?_
        refine x_iload cx dL_isWhole_249 rfl ?_
        refine x_if_eq_f (tgt := 259) cx dL_isWhole_251 (by decide) (by decide) ?_
        refine x_bipush (v := nI 8) cx dL_isWhole_254 (by decide) ?_
        refine x_goto (tgt := 260) cx dL_isWhole_256 (by decide) ?_
        refine x_icmp_ne_f (tgt := 341) cx dL_isWhole_260 (by decide) (nI_ig (by omega)) ?_
        refine x_aload_n cx dL_isWhole_263 rfl rfl ?_
        refine x_iload cx dL_isWhole_264 rfl ?_
        refine x_iconst (v := nI 3) cx dL_isWhole_266 (by decide) ?_
        refine x_Vi (C := RX6) (T := TX6) (N := 6) (rest := []) cx (c_X6_chip l G _ hS _ _) gV_L_20 ndX6_chip rfl ⟨Nat.le_of_ble_eq_true rfl, Nat.le_of_ble_eq_true rfl⟩ (zok_7 (by decide)) (by decide) (p_SC) rfl rfl rfl (Nat.le_of_ble_eq_true rfl) dL_isWhole_267 ⟨Nat.le_of_ble_eq_true rfl, Nat.le_of_ble_eq_true rfl⟩ ?_
        refine x_eqi (tl_3 hX (by omega)) ?_
        refine x_iload cx dL_isWhole_270 rfl ?_
        refine x_ishr cx dL_isWhole_272 ?_
        refine x_eqi (shr_0 hc.2.1.1 hK.2.1) ?_
        refine x_if_ne_f (tgt := 341) cx dL_isWhole_273 (by decide) (by decide) ?_
        refine x_aload_n cx dL_isWhole_276 rfl rfl ?_
        refine x_iload cx dL_isWhole_277 rfl ?_
        refine x_iconst (v := nI 4) cx dL_isWhole_279 (by decide) ?_
        refine x_Vi (C := RX6) (T := TX6) (N := 6) (rest := []) cx (c_X6_chip l G _ hS _ _) gV_L_20 ndX6_chip rfl ⟨Nat.le_of_ble_eq_true rfl, Nat.le_of_ble_eq_true rfl⟩ (zok_7 (by decide)) (by decide) (p_SC) rfl rfl rfl (Nat.le_of_ble_eq_true rfl) dL_isWhole_280 ⟨Nat.le_of_ble_eq_true rfl, Nat.le_of_ble_eq_true rfl⟩ ?_
        refine x_eqi (tl_4 hX (by omega)) ?_
        refine x_iload cx dL_isWhole_283 rfl ?_
        refine x_ishr cx dL_isWhole_285 ?_
        refine x_eqi (shr_0 hc.2.1.2 hK.2.1) ?_
        refine x_if_ne_f (tgt := 341) cx dL_isWhole_286 (by decide) (by decide) ?_
        refine x_iload cx dL_isWhole_289 rfl ?_
        refine x_iload cx dL_isWhole_291 rfl ?_
        refine x_ishr cx dL_isWhole_293 ?_
        refine x_eqi (shr_0 ⟨ins, hins, rfl⟩ (by omega)) ?_
        refine x_if_ne_f (tgt := 341) cx dL_isWhole_294 (by decide) (by decide) ?_
        refine x_aload_n cx dL_isWhole_297 rfl rfl ?_
        refine x_iload cx dL_isWhole_298 rfl ?_
        refine x_bipush (v := nI 7) cx dL_isWhole_300 (by decide) ?_
        refine x_Vi (C := RX6) (T := TX6) (N := 6) (rest := []) cx (c_X6_chip l G _ hS _ _) gV_L_20 ndX6_chip rfl ⟨Nat.le_of_ble_eq_true rfl, Nat.le_of_ble_eq_true rfl⟩ (zok_7 (by decide)) (by decide) (p_SC) rfl rfl rfl (Nat.le_of_ble_eq_true rfl) dL_isWhole_302 ⟨Nat.le_of_ble_eq_true rfl, Nat.le_of_ble_eq_true rfl⟩ ?_
        refine x_eqi (tl_7 hX (by omega)) ?_
        refine x_iload cx dL_isWhole_305 rfl ?_
        refine x_ishr cx dL_isWhole_307 ?_
        refine x_eqi (shr_0 hc.2.2.1.2 (by omega)) ?_
        refine x_if_ne_f (tgt := 341) cx dL_isWhole_308 (by decide) (by decide) ?_
        refine x_aload_n cx dL_isWhole_311 rfl rfl ?_
        refine x_iload cx dL_isWhole_312 rfl ?_
        refine x_bipush (v := nI 8) cx dL_isWhole_314 (by decide) ?_
        refine x_Vi (C := RX6) (T := TX6) (N := 6) (rest := []) cx (c_X6_chip l G _ hS _ _) gV_L_20 ndX6_chip rfl ⟨Nat.le_of_ble_eq_true rfl, Nat.le_of_ble_eq_true rfl⟩ (zok_7 (by decide)) (by decide) (p_SC) rfl rfl rfl (Nat.le_of_ble_eq_true rfl) dL_isWhole_316 ⟨Nat.le_of_ble_eq_true rfl, Nat.le_of_ble_eq_true rfl⟩ ?_
        refine x_eqi (tl_8 hX (by omega)) ?_
        refine x_iload cx dL_isWhole_319 rfl ?_
        refine x_ishr cx dL_isWhole_321 ?_
        refine x_eqi (shr_0 hc.2.2.2 hB.2.2) ?_
        refine x_if_ne_f (tgt := 341) cx dL_isWhole_322 (by decide) (by decide) ?_
        refine x_aload_n cx dL_isWhole_325 rfl rfl ?_
        refine x_iload cx dL_isWhole_326 rfl ?_
        refine x_iconst (v := nI 5) cx dL_isWhole_328 (by decide) ?_
        refine x_Vi (C := RX6) (T := TX6) (N := 6) (rest := []) cx (c_X6_chip l G _ hS _ _) gV_L_20 ndX6_chip rfl ⟨Nat.le_of_ble_eq_true rfl, Nat.le_of_ble_eq_true rfl⟩ (zok_7 (by decide)) (by decide) (p_SC) rfl rfl rfl (Nat.le_of_ble_eq_true rfl) dL_isWhole_329 ⟨Nat.le_of_ble_eq_true rfl, Nat.le_of_ble_eq_true rfl⟩ ?_
        refine x_eqi (tl_5 hX (by omega)) ?_
        refine x_iconst (v := nI 1) cx dL_isWhole_332 (by decide) ?_
        refine x_ishr cx dL_isWhole_333 ?_
        refine x_eqi (shr_1 h5) ?_
        refine x_if_ne_f (tgt := 341) cx dL_isWhole_334 (by decide) (by decide) ?_
        refine x_iconst (v := nI 1) cx dL_isWhole_337 (by decide) ?_
        refine x_goto (tgt := 342) cx dL_isWhole_338 (by decide) ?_
        refine x_istore (ls' := [_, _, _, _, _, _, _, _, _, _, _, _, _, _, _]) cx dL_isWhole_342 (by decide) rfl ?_
        refine x_iinc (v := nI (k + 1)) (ls' := [_, _, _, _, _, _, _, _, _, _, _, _, _, _, _]) cx dL_isWhole_344 rfl (nI_inc _) (by decide) rfl ?_
        refine x_goto (tgt := 56) cx dL_isWhole_347 (by decide) ?_
        exact x_ls rfl (by simp [lo]) (ih (k + 1) (by omega))
      refine x_if_eq (tgt := 225) cx dL_isWhole_206 (by decide) (fun hb206 => ?_) (fun hb206 => ?_)
      · exact K225
      · have hi0 : aI (S 0 (k + 3)) ≠ 0 := fun z => hb206 (nI_ig (b := 0) z)
        refine x_iload cx dL_isWhole_209 rfl ?_
        refine x_iconst (v := nI 2) cx dL_isWhole_211 (by decide) ?_
        refine x_irem cx dL_isWhole_212 (by decide) ?_
        refine x_eqi (pk_rem (by omega) (by omega) (by omega)) ?_
        refine x_iconst (v := nI 1) cx dL_isWhole_213 (by decide) ?_
        refine x_icmp_ne_f (tgt := 341) cx dL_isWhole_214 (by decide) (nI_ig (by omega)) ?_
        refine x_iload cx dL_isWhole_217 rfl ?_
        refine x_sipush (v := nI 254) cx dL_isWhole_219 (by decide) ?_
        refine x_icmp_ge_f (tgt := 341) cx dL_isWhole_222 (by decide) (nI_ge (by omega) (by omega)) ?_
        exact K225
    · have hzc : ¬ zC (S 0 (k + 3)) := fun z => z.elim (fun z => absurd ((nI_eq hip (by decide)).mp (e6.symm.trans (show _ = nI 0 from z))) (by omega)) (fun z => absurd ((nI_eq hip (by decide)).mp (e6.symm.trans (show _ = nI 2 from z))) (by omega))
      have hzi : ¬ zI (S 0 (k + 3)) := fun z => z.2 (by rw [hI.2.2, hii]; rfl)
      have haB : aB (S 0 (k + 3)) = 1 := aB_B hzc hzi
      have hby : zByp (S 0 (k + 3)) = nI 1 := byp_B hzc hzi
      refine x_iload cx dL_isWhole_56 rfl ?_
      refine x_iload cx dL_isWhole_58 rfl ?_
      refine x_icmp_ge_f (tgt := 350) cx dL_isWhole_60 (by decide) (nI_ge (by omega) (by omega)) ?_
      refine x_iload cx dL_isWhole_63 rfl ?_
      refine x_if_eq_f (tgt := 350) cx dL_isWhole_65 (by decide) (by decide) ?_
      refine x_aload_n cx dL_isWhole_68 rfl rfl ?_
      refine x_iload cx dL_isWhole_69 rfl ?_
      refine x_iconst (v := nI 0) cx dL_isWhole_71 (by decide) ?_
      refine x_Vi (C := RX6) (T := TX6) (N := 6) (rest := []) cx (c_X6_chip l G _ hS _ _) gV_L_20 ndX6_chip rfl ⟨Nat.le_of_ble_eq_true rfl, Nat.le_of_ble_eq_true rfl⟩ (zok_7 (by decide)) (by decide) (p_SC) rfl rfl rfl (Nat.le_of_ble_eq_true rfl) dL_isWhole_72 ⟨Nat.le_of_ble_eq_true rfl, Nat.le_of_ble_eq_true rfl⟩ ?_
      refine x_eqi (tl_0 hX (by omega)) ?_
      refine x_istore (ls' := [_, _, _, _, _, _, _, _, _, _, _, _, _, _, _]) cx dL_isWhole_75 (by decide) rfl ?_
      refine x_aload_n cx dL_isWhole_77 rfl rfl ?_
      refine x_iload cx dL_isWhole_78 rfl ?_
      refine x_iconst (v := nI 1) cx dL_isWhole_80 (by decide) ?_
      refine x_Vi (C := RX6) (T := TX6) (N := 6) (rest := []) cx (c_X6_chip l G _ hS _ _) gV_L_20 ndX6_chip rfl ⟨Nat.le_of_ble_eq_true rfl, Nat.le_of_ble_eq_true rfl⟩ (zok_7 (by decide)) (by decide) (p_SC) rfl rfl rfl (Nat.le_of_ble_eq_true rfl) dL_isWhole_81 ⟨Nat.le_of_ble_eq_true rfl, Nat.le_of_ble_eq_true rfl⟩ ?_
      refine x_eqi (tl_1 hX (by omega)) ?_
      refine x_istore (ls' := [_, _, _, _, _, _, _, _, _, _, _, _, _, _, _]) cx dL_isWhole_84 (by decide) rfl ?_
      refine x_aload_n cx dL_isWhole_86 rfl rfl ?_
      refine x_iload cx dL_isWhole_87 rfl ?_
      refine x_iconst (v := nI 2) cx dL_isWhole_89 (by decide) ?_
      refine x_Vi (C := RX6) (T := TX6) (N := 6) (rest := []) cx (c_X6_chip l G _ hS _ _) gV_L_20 ndX6_chip rfl ⟨Nat.le_of_ble_eq_true rfl, Nat.le_of_ble_eq_true rfl⟩ (zok_7 (by decide)) (by decide) (p_SC) rfl rfl rfl (Nat.le_of_ble_eq_true rfl) dL_isWhole_90 ⟨Nat.le_of_ble_eq_true rfl, Nat.le_of_ble_eq_true rfl⟩ ?_
      refine x_eqi (tl_2 hX (by omega)) ?_
      refine x_istore (ls' := [_, _, _, _, _, _, _, _, _, _, _, _, _, _, _]) cx dL_isWhole_93 (by decide) rfl ?_
      refine x_aload_n cx dL_isWhole_95 rfl rfl ?_
      refine x_iload cx dL_isWhole_96 rfl ?_
      refine x_bipush (v := nI 6) cx dL_isWhole_98 (by decide) ?_
      refine x_Vi (C := RX6) (T := TX6) (N := 6) (rest := []) cx (c_X6_chip l G _ hS _ _) gV_L_20 ndX6_chip rfl ⟨Nat.le_of_ble_eq_true rfl, Nat.le_of_ble_eq_true rfl⟩ (zok_7 (by decide)) (by decide) (p_SC) rfl rfl rfl (Nat.le_of_ble_eq_true rfl) dL_isWhole_100 ⟨Nat.le_of_ble_eq_true rfl, Nat.le_of_ble_eq_true rfl⟩ ?_
      refine x_eqi ((tl_6 hX (by omega)).trans e6) ?_
      refine x_istore (ls' := [_, _, _, _, _, _, _, _, _, _, _, _, _, _, _]) cx dL_isWhole_103 (by decide) rfl ?_
      refine x_aload_n cx dL_isWhole_105 rfl rfl ?_
      refine x_iload cx dL_isWhole_106 rfl ?_
      refine x_bipush (v := nI 9) cx dL_isWhole_108 (by decide) ?_
      refine x_Vi (C := RX6) (T := TX6) (N := 6) (rest := []) cx (c_X6_chip l G _ hS _ _) gV_L_20 ndX6_chip rfl ⟨Nat.le_of_ble_eq_true rfl, Nat.le_of_ble_eq_true rfl⟩ (zok_7 (by decide)) (by decide) (p_SC) rfl rfl rfl (Nat.le_of_ble_eq_true rfl) dL_isWhole_110 ⟨Nat.le_of_ble_eq_true rfl, Nat.le_of_ble_eq_true rfl⟩ ?_
      refine x_eqi (tl_9 hX (by omega)) ?_
      refine x_istore (ls' := [_, _, _, _, _, _, _, _, _, _, _, _, _, _, _]) cx dL_isWhole_113 (by decide) rfl ?_
      refine x_iload cx dL_isWhole_115 rfl ?_
      refine x_if_eq_f (tgt := 126) cx dL_isWhole_117 (by decide) (nI_ne0 (by omega) (by omega)) ?_
      refine x_iload cx dL_isWhole_120 rfl ?_
      refine x_iconst (v := nI 2) cx dL_isWhole_122 (by decide) ?_
      refine x_icmp_ne_t (tgt := 130) cx dL_isWhole_123 (by decide) (nI_nq (by omega) (by omega) (by omega)) ?_
      refine x_iconst (v := nI 0) cx dL_isWhole_130 (by decide) ?_
      refine x_istore (ls' := [_, _, _, _, _, _, _, _, _, _, _, _, _, _, _]) cx dL_isWhole_131 (by decide) rfl ?_
      refine x_iload cx dL_isWhole_133 rfl ?_
      refine x_iconst (v := nI 1) cx dL_isWhole_135 (by decide) ?_
      refine x_icmp_ne_f (tgt := 148) cx dL_isWhole_136 (by decide) (nI_ig (by omega)) ?_
      refine x_iload cx dL_isWhole_139 rfl ?_
      refine x_if_le_t (tgt := 148) cx dL_isWhole_141 (by decide) (nI_le (b := 0) (by omega) (by decide)) ?_
      refine x_iconst (v := nI 0) cx dL_isWhole_148 (by decide) ?_
      refine x_istore (ls' := [_, _, _, _, _, _, _, _, _, _, _, _, _, _, _]) cx dL_isWhole_149 (by decide) rfl ?_
      refine x_iload_n cx dL_isWhole_151 rfl rfl ?_
      refine x_aload_n cx dL_isWhole_152 rfl rfl ?_
      refine x_iload cx dL_isWhole_153 rfl ?_
      refine x_iconst (v := nI 5) cx dL_isWhole_155 (by decide) ?_
      refine x_Vi (C := RX6) (T := TX6) (N := 6) (rest := [_]) cx (c_X6_chip l G _ hS _ _) gV_L_20 ndX6_chip rfl ⟨Nat.le_of_ble_eq_true rfl, Nat.le_of_ble_eq_true rfl⟩ (zok_7 (by decide)) (by decide) (p_SC) rfl rfl rfl (Nat.le_of_ble_eq_true rfl) dL_isWhole_156 ⟨Nat.le_of_ble_eq_true rfl, Nat.le_of_ble_eq_true rfl⟩ ?_
      refine x_eqi (tl_5 hX (by omega)) ?_
      refine x_iadd cx dL_isWhole_159 ?_
      refine x_eqi (show _ = zSumL zBrk (S 0) (k + 1) from congrArg (zSumL zBrk (S 0) k + ·) (brk_5 h5).symm) ?_
      refine x_istore_n (ls' := [_, _, _, _, _, _, _, _, _, _, _, _, _, _, _]) cx dL_isWhole_160 rfl (by decide) rfl ?_
      refine x_iload_n cx dL_isWhole_161 rfl rfl ?_
      refine x_iload cx dL_isWhole_162 rfl ?_
      refine x_iadd cx dL_isWhole_164 ?_
      refine x_eqi (show _ = zSumL (fun c => c 0) (S 0) (k + 1) from congrArg (zSumL (fun c => c 0) (S 0) k + ·) hL.2.2.symm) ?_
      refine x_istore_n (ls' := [_, _, _, _, _, _, _, _, _, _, _, _, _, _, _]) cx dL_isWhole_165 rfl (by decide) rfl ?_
      refine x_iload_n cx dL_isWhole_166 rfl rfl ?_
      refine x_iload cx dL_isWhole_167 rfl ?_
      refine x_iadd cx dL_isWhole_169 ?_
      refine x_eqi (show _ = zSumL zBits (S 0) (k + 1) from congrArg (zSumL zBits (S 0) k + ·) hB.1.symm) ?_
      refine x_istore_n (ls' := [_, _, _, _, _, _, _, _, _, _, _, _, _, _, _]) cx dL_isWhole_170 rfl (by decide) rfl ?_
      refine x_iload cx dL_isWhole_171 rfl ?_
      refine x_iload cx dL_isWhole_173 rfl ?_
      refine x_if_ne_f (tgt := 183) cx dL_isWhole_175 (by decide) (by decide) ?_
      refine x_iload cx dL_isWhole_178 rfl ?_
      refine x_if_eq_t (tgt := 187) cx dL_isWhole_180 (by decide) (by decide) ?_
      refine x_iconst (v := nI 1) cx dL_isWhole_187 (by decide) ?_
      refine x_iadd cx dL_isWhole_188 ?_
      refine x_eqi (show _ = zSumL zByp (S 0) (k + 1) from congrArg (zSumL zByp (S 0) k + ·) hby.symm) ?_
      refine x_istore (ls' := [_, _, _, _, _, _, _, _, _, _, _, _, _, _, _]) cx dL_isWhole_189 (by decide) rfl ?_
      refine x_iload cx dL_isWhole_191 rfl ?_
      refine x_iconst (v := nI 1) cx dL_isWhole_193 (by decide) ?_
      refine x_icmp_le_f (tgt := 341) cx dL_isWhole_194 (by decide) (nI_ge (by omega) (by omega)) ?_
      refine x_iload cx dL_isWhole_197 rfl ?_
      refine x_bipush (v := nI 7) cx dL_isWhole_199 (by decide) ?_
      refine x_icmp_ge_f (tgt := 341) cx dL_isWhole_201 (by decide) (nI_ge (by omega) (by omega)) ?_
      refine x_iload cx dL_isWhole_204 rfl ?_
      have K225 : Xh p l e (zrm 4 0 0 83) s m args below meth cd 15 G (MQ below (zQi G 68 (1) (pic G S)) args s 0 0 (zA G)) 0 0 68 (pic G S) 225 [some (.ref (zad G 7 0)), some (.int (zSumL zBrk (S 0) (k + 1))), some (.int (zSumL (fun c => c 0) (S 0) (k + 1))), some (.int (zSumL zBits (S 0) (k + 1))), some (.int (zSumL zByp (S 0) (k + 1))), some (.int (nI (num (S 0)))), some (.int (nI 1)), some (.int (nI k)), some (.int (nI (aL (S 0 (k + 3))))), some (.int (nI (aI (S 0 (k + 3))))), some (.int (nI (aK (S 0 (k + 3))))), some (.int (nI ins)), some (.int (nI (aB (S 0 (k + 3))))), some (.int (nI 0)), some (.int (nI 0))] [] := by
        refine x_iload cx dL_isWhole_225 rfl ?_
        refine x_if_le_f (tgt := 341) cx dL_isWhole_227 (by decide) (nI_nle (by omega) (by omega)) ?_
        refine x_iload cx dL_isWhole_230 rfl ?_
        refine x_bipush (v := nI 9) cx dL_isWhole_232 (by decide) ?_
        refine x_icmp_ge_f (tgt := 341) cx dL_isWhole_234 (by decide) (nI_ge (by omega) (by omega)) ?_
        refine x_iload cx dL_isWhole_237 rfl ?_
        refine x_iload cx dL_isWhole_239 rfl ?_
        refine x_if_eq_t (tgt := 249) cx dL_isWhole_241 (by decide) (by decide) ?_
        refine x_iload cx dL_isWhole_249 rfl ?_
        refine x_if_eq_t (tgt := 259) cx dL_isWhole_251 (by decide) (by decide) ?_
        refine x_iconst (v := nI 1) cx dL_isWhole_259 (by decide) ?_
        refine x_icmp_ne_f (tgt := 341) cx dL_isWhole_260 (by decide) (nI_ig (by omega)) ?_
        refine x_aload_n cx dL_isWhole_263 rfl rfl ?_
        refine x_iload cx dL_isWhole_264 rfl ?_
        refine x_iconst (v := nI 3) cx dL_isWhole_266 (by decide) ?_
        refine x_Vi (C := RX6) (T := TX6) (N := 6) (rest := []) cx (c_X6_chip l G _ hS _ _) gV_L_20 ndX6_chip rfl ⟨Nat.le_of_ble_eq_true rfl, Nat.le_of_ble_eq_true rfl⟩ (zok_7 (by decide)) (by decide) (p_SC) rfl rfl rfl (Nat.le_of_ble_eq_true rfl) dL_isWhole_267 ⟨Nat.le_of_ble_eq_true rfl, Nat.le_of_ble_eq_true rfl⟩ ?_
        refine x_eqi (tl_3 hX (by omega)) ?_
        refine x_iload cx dL_isWhole_270 rfl ?_
        refine x_ishr cx dL_isWhole_272 ?_
        refine x_eqi (shr_0 hc.2.1.1 hK.2.1) ?_
        refine x_if_ne_f (tgt := 341) cx dL_isWhole_273 (by decide) (by decide) ?_
        refine x_aload_n cx dL_isWhole_276 rfl rfl ?_
        refine x_iload cx dL_isWhole_277 rfl ?_
        refine x_iconst (v := nI 4) cx dL_isWhole_279 (by decide) ?_
        refine x_Vi (C := RX6) (T := TX6) (N := 6) (rest := []) cx (c_X6_chip l G _ hS _ _) gV_L_20 ndX6_chip rfl ⟨Nat.le_of_ble_eq_true rfl, Nat.le_of_ble_eq_true rfl⟩ (zok_7 (by decide)) (by decide) (p_SC) rfl rfl rfl (Nat.le_of_ble_eq_true rfl) dL_isWhole_280 ⟨Nat.le_of_ble_eq_true rfl, Nat.le_of_ble_eq_true rfl⟩ ?_
        refine x_eqi (tl_4 hX (by omega)) ?_
        refine x_iload cx dL_isWhole_283 rfl ?_
        refine x_ishr cx dL_isWhole_285 ?_
        refine x_eqi (shr_0 hc.2.1.2 hK.2.1) ?_
        refine x_if_ne_f (tgt := 341) cx dL_isWhole_286 (by decide) (by decide) ?_
        refine x_iload cx dL_isWhole_289 rfl ?_
        refine x_iload cx dL_isWhole_291 rfl ?_
        refine x_ishr cx dL_isWhole_293 ?_
        refine x_eqi (shr_0 ⟨ins, hins, rfl⟩ (by omega)) ?_
        refine x_if_ne_f (tgt := 341) cx dL_isWhole_294 (by decide) (by decide) ?_
        refine x_aload_n cx dL_isWhole_297 rfl rfl ?_
        refine x_iload cx dL_isWhole_298 rfl ?_
        refine x_bipush (v := nI 7) cx dL_isWhole_300 (by decide) ?_
        refine x_Vi (C := RX6) (T := TX6) (N := 6) (rest := []) cx (c_X6_chip l G _ hS _ _) gV_L_20 ndX6_chip rfl ⟨Nat.le_of_ble_eq_true rfl, Nat.le_of_ble_eq_true rfl⟩ (zok_7 (by decide)) (by decide) (p_SC) rfl rfl rfl (Nat.le_of_ble_eq_true rfl) dL_isWhole_302 ⟨Nat.le_of_ble_eq_true rfl, Nat.le_of_ble_eq_true rfl⟩ ?_
        refine x_eqi (tl_7 hX (by omega)) ?_
        refine x_iload cx dL_isWhole_305 rfl ?_
        refine x_ishr cx dL_isWhole_307 ?_
        refine x_eqi (shr_0 hc.2.2.1.2 (by omega)) ?_
        refine x_if_ne_f (tgt := 341) cx dL_isWhole_308 (by decide) (by decide) ?_
        refine x_aload_n cx dL_isWhole_311 rfl rfl ?_
        refine x_iload cx dL_isWhole_312 rfl ?_
        refine x_bipush (v := nI 8) cx dL_isWhole_314 (by decide) ?_
        refine x_Vi (C := RX6) (T := TX6) (N := 6) (rest := []) cx (c_X6_chip l G _ hS _ _) gV_L_20 ndX6_chip rfl ⟨Nat.le_of_ble_eq_true rfl, Nat.le_of_ble_eq_true rfl⟩ (zok_7 (by decide)) (by decide) (p_SC) rfl rfl rfl (Nat.le_of_ble_eq_true rfl) dL_isWhole_316 ⟨Nat.le_of_ble_eq_true rfl, Nat.le_of_ble_eq_true rfl⟩ ?_
        refine x_eqi (tl_8 hX (by omega)) ?_
        refine x_iload cx dL_isWhole_319 rfl ?_
        refine x_ishr cx dL_isWhole_321 ?_
        refine x_eqi (shr_0 hc.2.2.2 hB.2.2) ?_
        refine x_if_ne_f (tgt := 341) cx dL_isWhole_322 (by decide) (by decide) ?_
        refine x_aload_n cx dL_isWhole_325 rfl rfl ?_
        refine x_iload cx dL_isWhole_326 rfl ?_
        refine x_iconst (v := nI 5) cx dL_isWhole_328 (by decide) ?_
        refine x_Vi (C := RX6) (T := TX6) (N := 6) (rest := []) cx (c_X6_chip l G _ hS _ _) gV_L_20 ndX6_chip rfl ⟨Nat.le_of_ble_eq_true rfl, Nat.le_of_ble_eq_true rfl⟩ (zok_7 (by decide)) (by decide) (p_SC) rfl rfl rfl (Nat.le_of_ble_eq_true rfl) dL_isWhole_329 ⟨Nat.le_of_ble_eq_true rfl, Nat.le_of_ble_eq_true rfl⟩ ?_
        refine x_eqi (tl_5 hX (by omega)) ?_
        refine x_iconst (v := nI 1) cx dL_isWhole_332 (by decide) ?_
        refine x_ishr cx dL_isWhole_333 ?_
        refine x_eqi (shr_1 h5) ?_
        refine x_if_ne_f (tgt := 341) cx dL_isWhole_334 (by decide) (by decide) ?_
        refine x_iconst (v := nI 1) cx dL_isWhole_337 (by decide) ?_
        refine x_goto (tgt := 342) cx dL_isWhole_338 (by decide) ?_
        refine x_istore (ls' := [_, _, _, _, _, _, _, _, _, _, _, _, _, _, _]) cx dL_isWhole_342 (by decide) rfl ?_
        refine x_iinc (v := nI (k + 1)) (ls' := [_, _, _, _, _, _, _, _, _, _, _, _, _, _, _]) cx dL_isWhole_344 rfl (nI_inc _) (by decide) rfl ?_
        refine x_goto (tgt := 56) cx dL_isWhole_347 (by decide) ?_
        exact x_ls rfl (by simp [lo]) (ih (k + 1) (by omega))
      refine x_if_eq (tgt := 225) cx dL_isWhole_206 (by decide) (fun hb206 => ?_) (fun hb206 => ?_)
      · exact K225
      · have hi0 : aI (S 0 (k + 3)) ≠ 0 := fun z => hb206 (nI_ig (b := 0) z)
        refine x_iload cx dL_isWhole_209 rfl ?_
        refine x_iconst (v := nI 2) cx dL_isWhole_211 (by decide) ?_
        refine x_irem cx dL_isWhole_212 (by decide) ?_
        refine x_eqi (pk_rem (by omega) (by omega) (by omega)) ?_
        refine x_iconst (v := nI 1) cx dL_isWhole_213 (by decide) ?_
        refine x_icmp_ne_f (tgt := 341) cx dL_isWhole_214 (by decide) (nI_ig (by omega)) ?_
        refine x_iload cx dL_isWhole_217 rfl ?_
        refine x_sipush (v := nI 254) cx dL_isWhole_219 (by decide) ?_
        refine x_icmp_ge_f (tgt := 341) cx dL_isWhole_222 (by decide) (nI_ge (by omega) (by omega)) ?_
        exact K225
    · have hzc : ¬ zC (S 0 (k + 3)) := fun z => z.elim (fun z => absurd ((nI_eq hip (by decide)).mp (e6.symm.trans (show _ = nI 0 from z))) (by omega)) (fun z => absurd ((nI_eq hip (by decide)).mp (e6.symm.trans (show _ = nI 2 from z))) (by omega))
      have hzi : ¬ zI (S 0 (k + 3)) := fun z => absurd ((nI_eq hip (by decide)).mp (e6.symm.trans (show _ = nI 1 from z.1))) (by omega)
      have haB : aB (S 0 (k + 3)) = 1 := aB_B hzc hzi
      have hby : zByp (S 0 (k + 3)) = nI 1 := byp_B hzc hzi
      refine x_iload cx dL_isWhole_56 rfl ?_
      refine x_iload cx dL_isWhole_58 rfl ?_
      refine x_icmp_ge_f (tgt := 350) cx dL_isWhole_60 (by decide) (nI_ge (by omega) (by omega)) ?_
      refine x_iload cx dL_isWhole_63 rfl ?_
      refine x_if_eq_f (tgt := 350) cx dL_isWhole_65 (by decide) (by decide) ?_
      refine x_aload_n cx dL_isWhole_68 rfl rfl ?_
      refine x_iload cx dL_isWhole_69 rfl ?_
      refine x_iconst (v := nI 0) cx dL_isWhole_71 (by decide) ?_
      refine x_Vi (C := RX6) (T := TX6) (N := 6) (rest := []) cx (c_X6_chip l G _ hS _ _) gV_L_20 ndX6_chip rfl ⟨Nat.le_of_ble_eq_true rfl, Nat.le_of_ble_eq_true rfl⟩ (zok_7 (by decide)) (by decide) (p_SC) rfl rfl rfl (Nat.le_of_ble_eq_true rfl) dL_isWhole_72 ⟨Nat.le_of_ble_eq_true rfl, Nat.le_of_ble_eq_true rfl⟩ ?_
      refine x_eqi (tl_0 hX (by omega)) ?_
      refine x_istore (ls' := [_, _, _, _, _, _, _, _, _, _, _, _, _, _, _]) cx dL_isWhole_75 (by decide) rfl ?_
      refine x_aload_n cx dL_isWhole_77 rfl rfl ?_
      refine x_iload cx dL_isWhole_78 rfl ?_
      refine x_iconst (v := nI 1) cx dL_isWhole_80 (by decide) ?_
      refine x_Vi (C := RX6) (T := TX6) (N := 6) (rest := []) cx (c_X6_chip l G _ hS _ _) gV_L_20 ndX6_chip rfl ⟨Nat.le_of_ble_eq_true rfl, Nat.le_of_ble_eq_true rfl⟩ (zok_7 (by decide)) (by decide) (p_SC) rfl rfl rfl (Nat.le_of_ble_eq_true rfl) dL_isWhole_81 ⟨Nat.le_of_ble_eq_true rfl, Nat.le_of_ble_eq_true rfl⟩ ?_
      refine x_eqi (tl_1 hX (by omega)) ?_
      refine x_istore (ls' := [_, _, _, _, _, _, _, _, _, _, _, _, _, _, _]) cx dL_isWhole_84 (by decide) rfl ?_
      refine x_aload_n cx dL_isWhole_86 rfl rfl ?_
      refine x_iload cx dL_isWhole_87 rfl ?_
      refine x_iconst (v := nI 2) cx dL_isWhole_89 (by decide) ?_
      refine x_Vi (C := RX6) (T := TX6) (N := 6) (rest := []) cx (c_X6_chip l G _ hS _ _) gV_L_20 ndX6_chip rfl ⟨Nat.le_of_ble_eq_true rfl, Nat.le_of_ble_eq_true rfl⟩ (zok_7 (by decide)) (by decide) (p_SC) rfl rfl rfl (Nat.le_of_ble_eq_true rfl) dL_isWhole_90 ⟨Nat.le_of_ble_eq_true rfl, Nat.le_of_ble_eq_true rfl⟩ ?_
      refine x_eqi (tl_2 hX (by omega)) ?_
      refine x_istore (ls' := [_, _, _, _, _, _, _, _, _, _, _, _, _, _, _]) cx dL_isWhole_93 (by decide) rfl ?_
      refine x_aload_n cx dL_isWhole_95 rfl rfl ?_
      refine x_iload cx dL_isWhole_96 rfl ?_
      refine x_bipush (v := nI 6) cx dL_isWhole_98 (by decide) ?_
      refine x_Vi (C := RX6) (T := TX6) (N := 6) (rest := []) cx (c_X6_chip l G _ hS _ _) gV_L_20 ndX6_chip rfl ⟨Nat.le_of_ble_eq_true rfl, Nat.le_of_ble_eq_true rfl⟩ (zok_7 (by decide)) (by decide) (p_SC) rfl rfl rfl (Nat.le_of_ble_eq_true rfl) dL_isWhole_100 ⟨Nat.le_of_ble_eq_true rfl, Nat.le_of_ble_eq_true rfl⟩ ?_
      refine x_eqi ((tl_6 hX (by omega)).trans e6) ?_
      refine x_istore (ls' := [_, _, _, _, _, _, _, _, _, _, _, _, _, _, _]) cx dL_isWhole_103 (by decide) rfl ?_
      refine x_aload_n cx dL_isWhole_105 rfl rfl ?_
      refine x_iload cx dL_isWhole_106 rfl ?_
      refine x_bipush (v := nI 9) cx dL_isWhole_108 (by decide) ?_
      refine x_Vi (C := RX6) (T := TX6) (N := 6) (rest := []) cx (c_X6_chip l G _ hS _ _) gV_L_20 ndX6_chip rfl ⟨Nat.le_of_ble_eq_true rfl, Nat.le_of_ble_eq_true rfl⟩ (zok_7 (by decide)) (by decide) (p_SC) rfl rfl rfl (Nat.le_of_ble_eq_true rfl) dL_isWhole_110 ⟨Nat.le_of_ble_eq_true rfl, Nat.le_of_ble_eq_true rfl⟩ ?_
      refine x_eqi (tl_9 hX (by omega)) ?_
      refine x_istore (ls' := [_, _, _, _, _, _, _, _, _, _, _, _, _, _, _]) cx dL_isWhole_113 (by decide) rfl ?_
      refine x_iload cx dL_isWhole_115 rfl ?_
      refine x_if_eq_f (tgt := 126) cx dL_isWhole_117 (by decide) (nI_ne0 (by omega) (by omega)) ?_
      refine x_iload cx dL_isWhole_120 rfl ?_
      refine x_iconst (v := nI 2) cx dL_isWhole_122 (by decide) ?_
      refine x_icmp_ne_t (tgt := 130) cx dL_isWhole_123 (by decide) (nI_nq (by omega) (by omega) (by omega)) ?_
      refine x_iconst (v := nI 0) cx dL_isWhole_130 (by decide) ?_
      refine x_istore (ls' := [_, _, _, _, _, _, _, _, _, _, _, _, _, _, _]) cx dL_isWhole_131 (by decide) rfl ?_
      refine x_iload cx dL_isWhole_133 rfl ?_
      refine x_iconst (v := nI 1) cx dL_isWhole_135 (by decide) ?_
      refine x_icmp_ne_t (tgt := 148) cx dL_isWhole_136 (by decide) (nI_nq (by omega) (by omega) (by omega)) ?_
      refine x_iconst (v := nI 0) cx dL_isWhole_148 (by decide) ?_
      refine x_istore (ls' := [_, _, _, _, _, _, _, _, _, _, _, _, _, _, _]) cx dL_isWhole_149 (by decide) rfl ?_
      refine x_iload_n cx dL_isWhole_151 rfl rfl ?_
      refine x_aload_n cx dL_isWhole_152 rfl rfl ?_
      refine x_iload cx dL_isWhole_153 rfl ?_
      refine x_iconst (v := nI 5) cx dL_isWhole_155 (by decide) ?_
      refine x_Vi (C := RX6) (T := TX6) (N := 6) (rest := [_]) cx (c_X6_chip l G _ hS _ _) gV_L_20 ndX6_chip rfl ⟨Nat.le_of_ble_eq_true rfl, Nat.le_of_ble_eq_true rfl⟩ (zok_7 (by decide)) (by decide) (p_SC) rfl rfl rfl (Nat.le_of_ble_eq_true rfl) dL_isWhole_156 ⟨Nat.le_of_ble_eq_true rfl, Nat.le_of_ble_eq_true rfl⟩ ?_
      refine x_eqi (tl_5 hX (by omega)) ?_
      refine x_iadd cx dL_isWhole_159 ?_
      refine x_eqi (show _ = zSumL zBrk (S 0) (k + 1) from congrArg (zSumL zBrk (S 0) k + ·) (brk_5 h5).symm) ?_
      refine x_istore_n (ls' := [_, _, _, _, _, _, _, _, _, _, _, _, _, _, _]) cx dL_isWhole_160 rfl (by decide) rfl ?_
      refine x_iload_n cx dL_isWhole_161 rfl rfl ?_
      refine x_iload cx dL_isWhole_162 rfl ?_
      refine x_iadd cx dL_isWhole_164 ?_
      refine x_eqi (show _ = zSumL (fun c => c 0) (S 0) (k + 1) from congrArg (zSumL (fun c => c 0) (S 0) k + ·) hL.2.2.symm) ?_
      refine x_istore_n (ls' := [_, _, _, _, _, _, _, _, _, _, _, _, _, _, _]) cx dL_isWhole_165 rfl (by decide) rfl ?_
      refine x_iload_n cx dL_isWhole_166 rfl rfl ?_
      refine x_iload cx dL_isWhole_167 rfl ?_
      refine x_iadd cx dL_isWhole_169 ?_
      refine x_eqi (show _ = zSumL zBits (S 0) (k + 1) from congrArg (zSumL zBits (S 0) k + ·) hB.1.symm) ?_
      refine x_istore_n (ls' := [_, _, _, _, _, _, _, _, _, _, _, _, _, _, _]) cx dL_isWhole_170 rfl (by decide) rfl ?_
      refine x_iload cx dL_isWhole_171 rfl ?_
      refine x_iload cx dL_isWhole_173 rfl ?_
      refine x_if_ne_f (tgt := 183) cx dL_isWhole_175 (by decide) (by decide) ?_
      refine x_iload cx dL_isWhole_178 rfl ?_
      refine x_if_eq_t (tgt := 187) cx dL_isWhole_180 (by decide) (by decide) ?_
      refine x_iconst (v := nI 1) cx dL_isWhole_187 (by decide) ?_
      refine x_iadd cx dL_isWhole_188 ?_
      refine x_eqi (show _ = zSumL zByp (S 0) (k + 1) from congrArg (zSumL zByp (S 0) k + ·) hby.symm) ?_
      refine x_istore (ls' := [_, _, _, _, _, _, _, _, _, _, _, _, _, _, _]) cx dL_isWhole_189 (by decide) rfl ?_
      refine x_iload cx dL_isWhole_191 rfl ?_
      refine x_iconst (v := nI 1) cx dL_isWhole_193 (by decide) ?_
      refine x_icmp_le_f (tgt := 341) cx dL_isWhole_194 (by decide) (nI_ge (by omega) (by omega)) ?_
      refine x_iload cx dL_isWhole_197 rfl ?_
      refine x_bipush (v := nI 7) cx dL_isWhole_199 (by decide) ?_
      refine x_icmp_ge_f (tgt := 341) cx dL_isWhole_201 (by decide) (nI_ge (by omega) (by omega)) ?_
      refine x_iload cx dL_isWhole_204 rfl ?_
      have K225 : Xh p l e (zrm 4 0 0 83) s m args below meth cd 15 G (MQ below (zQi G 68 (1) (pic G S)) args s 0 0 (zA G)) 0 0 68 (pic G S) 225 [some (.ref (zad G 7 0)), some (.int (zSumL zBrk (S 0) (k + 1))), some (.int (zSumL (fun c => c 0) (S 0) (k + 1))), some (.int (zSumL zBits (S 0) (k + 1))), some (.int (zSumL zByp (S 0) (k + 1))), some (.int (nI (num (S 0)))), some (.int (nI 1)), some (.int (nI k)), some (.int (nI (aL (S 0 (k + 3))))), some (.int (nI (aI (S 0 (k + 3))))), some (.int (nI (aK (S 0 (k + 3))))), some (.int (nI ins)), some (.int (nI (aB (S 0 (k + 3))))), some (.int (nI 0)), some (.int (nI 0))] [] := by
        refine x_iload cx dL_isWhole_225 rfl ?_
        refine x_if_le_f (tgt := 341) cx dL_isWhole_227 (by decide) (nI_nle (by omega) (by omega)) ?_
        refine x_iload cx dL_isWhole_230 rfl ?_
        refine x_bipush (v := nI 9) cx dL_isWhole_232 (by decide) ?_
        refine x_icmp_ge_f (tgt := 341) cx dL_isWhole_234 (by decide) (nI_ge (by omega) (by omega)) ?_
        refine x_iload cx dL_isWhole_237 rfl ?_
        refine x_iload cx dL_isWhole_239 rfl ?_
        refine x_if_eq_t (tgt := 249) cx dL_isWhole_241 (by decide) (by decide) ?_
        refine x_iload cx dL_isWhole_249 rfl ?_
        refine x_if_eq_t (tgt := 259) cx dL_isWhole_251 (by decide) (by decide) ?_
        refine x_iconst (v := nI 1) cx dL_isWhole_259 (by decide) ?_
        refine x_icmp_ne_f (tgt := 341) cx dL_isWhole_260 (by decide) (nI_ig (by omega)) ?_
        refine x_aload_n cx dL_isWhole_263 rfl rfl ?_
        refine x_iload cx dL_isWhole_264 rfl ?_
        refine x_iconst (v := nI 3) cx dL_isWhole_266 (by decide) ?_
        refine x_Vi (C := RX6) (T := TX6) (N := 6) (rest := []) cx (c_X6_chip l G _ hS _ _) gV_L_20 ndX6_chip rfl ⟨Nat.le_of_ble_eq_true rfl, Nat.le_of_ble_eq_true rfl⟩ (zok_7 (by decide)) (by decide) (p_SC) rfl rfl rfl (Nat.le_of_ble_eq_true rfl) dL_isWhole_267 ⟨Nat.le_of_ble_eq_true rfl, Nat.le_of_ble_eq_true rfl⟩ ?_
        refine x_eqi (tl_3 hX (by omega)) ?_
        refine x_iload cx dL_isWhole_270 rfl ?_
        refine x_ishr cx dL_isWhole_272 ?_
        refine x_eqi (shr_0 hc.2.1.1 hK.2.1) ?_
        refine x_if_ne_f (tgt := 341) cx dL_isWhole_273 (by decide) (by decide) ?_
        refine x_aload_n cx dL_isWhole_276 rfl rfl ?_
        refine x_iload cx dL_isWhole_277 rfl ?_
        refine x_iconst (v := nI 4) cx dL_isWhole_279 (by decide) ?_
        refine x_Vi (C := RX6) (T := TX6) (N := 6) (rest := []) cx (c_X6_chip l G _ hS _ _) gV_L_20 ndX6_chip rfl ⟨Nat.le_of_ble_eq_true rfl, Nat.le_of_ble_eq_true rfl⟩ (zok_7 (by decide)) (by decide) (p_SC) rfl rfl rfl (Nat.le_of_ble_eq_true rfl) dL_isWhole_280 ⟨Nat.le_of_ble_eq_true rfl, Nat.le_of_ble_eq_true rfl⟩ ?_
        refine x_eqi (tl_4 hX (by omega)) ?_
        refine x_iload cx dL_isWhole_283 rfl ?_
        refine x_ishr cx dL_isWhole_285 ?_
        refine x_eqi (shr_0 hc.2.1.2 hK.2.1) ?_
        refine x_if_ne_f (tgt := 341) cx dL_isWhole_286 (by decide) (by decide) ?_
        refine x_iload cx dL_isWhole_289 rfl ?_
        refine x_iload cx dL_isWhole_291 rfl ?_
        refine x_ishr cx dL_isWhole_293 ?_
        refine x_eqi (shr_0 ⟨ins, hins, rfl⟩ (by omega)) ?_
        refine x_if_ne_f (tgt := 341) cx dL_isWhole_294 (by decide) (by decide) ?_
        refine x_aload_n cx dL_isWhole_297 rfl rfl ?_
        refine x_iload cx dL_isWhole_298 rfl ?_
        refine x_bipush (v := nI 7) cx dL_isWhole_300 (by decide) ?_
        refine x_Vi (C := RX6) (T := TX6) (N := 6) (rest := []) cx (c_X6_chip l G _ hS _ _) gV_L_20 ndX6_chip rfl ⟨Nat.le_of_ble_eq_true rfl, Nat.le_of_ble_eq_true rfl⟩ (zok_7 (by decide)) (by decide) (p_SC) rfl rfl rfl (Nat.le_of_ble_eq_true rfl) dL_isWhole_302 ⟨Nat.le_of_ble_eq_true rfl, Nat.le_of_ble_eq_true rfl⟩ ?_
        refine x_eqi (tl_7 hX (by omega)) ?_
        refine x_iload cx dL_isWhole_305 rfl ?_
        refine x_ishr cx dL_isWhole_307 ?_
        refine x_eqi (shr_0 hc.2.2.1.2 (by omega)) ?_
        refine x_if_ne_f (tgt := 341) cx dL_isWhole_308 (by decide) (by decide) ?_
        refine x_aload_n cx dL_isWhole_311 rfl rfl ?_
        refine x_iload cx dL_isWhole_312 rfl ?_
        refine x_bipush (v := nI 8) cx dL_isWhole_314 (by decide) ?_
        refine x_Vi (C := RX6) (T := TX6) (N := 6) (rest := []) cx (c_X6_chip l G _ hS _ _) gV_L_20 ndX6_chip rfl ⟨Nat.le_of_ble_eq_true rfl, Nat.le_of_ble_eq_true rfl⟩ (zok_7 (by decide)) (by decide) (p_SC) rfl rfl rfl (Nat.le_of_ble_eq_true rfl) dL_isWhole_316 ⟨Nat.le_of_ble_eq_true rfl, Nat.le_of_ble_eq_true rfl⟩ ?_
        refine x_eqi (tl_8 hX (by omega)) ?_
        refine x_iload cx dL_isWhole_319 rfl ?_
        refine x_ishr cx dL_isWhole_321 ?_
        refine x_eqi (shr_0 hc.2.2.2 hB.2.2) ?_
        refine x_if_ne_f (tgt := 341) cx dL_isWhole_322 (by decide) (by decide) ?_
        refine x_aload_n cx dL_isWhole_325 rfl rfl ?_
        refine x_iload cx dL_isWhole_326 rfl ?_
        refine x_iconst (v := nI 5) cx dL_isWhole_328 (by decide) ?_
        refine x_Vi (C := RX6) (T := TX6) (N := 6) (rest := []) cx (c_X6_chip l G _ hS _ _) gV_L_20 ndX6_chip rfl ⟨Nat.le_of_ble_eq_true rfl, Nat.le_of_ble_eq_true rfl⟩ (zok_7 (by decide)) (by decide) (p_SC) rfl rfl rfl (Nat.le_of_ble_eq_true rfl) dL_isWhole_329 ⟨Nat.le_of_ble_eq_true rfl, Nat.le_of_ble_eq_true rfl⟩ ?_
        refine x_eqi (tl_5 hX (by omega)) ?_
        refine x_iconst (v := nI 1) cx dL_isWhole_332 (by decide) ?_
        refine x_ishr cx dL_isWhole_333 ?_
        refine x_eqi (shr_1 h5) ?_
        refine x_if_ne_f (tgt := 341) cx dL_isWhole_334 (by decide) (by decide) ?_
        refine x_iconst (v := nI 1) cx dL_isWhole_337 (by decide) ?_
        refine x_goto (tgt := 342) cx dL_isWhole_338 (by decide) ?_
        refine x_istore (ls' := [_, _, _, _, _, _, _, _, _, _, _, _, _, _, _]) cx dL_isWhole_342 (by decide) rfl ?_
        refine x_iinc (v := nI (k + 1)) (ls' := [_, _, _, _, _, _, _, _, _, _, _, _, _, _, _]) cx dL_isWhole_344 rfl (nI_inc _) (by decide) rfl ?_
        refine x_goto (tgt := 56) cx dL_isWhole_347 (by decide) ?_
        exact x_ls rfl (by simp [lo]) (ih (k + 1) (by omega))
      refine x_if_eq (tgt := 225) cx dL_isWhole_206 (by decide) (fun hb206 => ?_) (fun hb206 => ?_)
      · exact K225
      · have hi0 : aI (S 0 (k + 3)) ≠ 0 := fun z => hb206 (nI_ig (b := 0) z)
        refine x_iload cx dL_isWhole_209 rfl ?_
        refine x_iconst (v := nI 2) cx dL_isWhole_211 (by decide) ?_
        refine x_irem cx dL_isWhole_212 (by decide) ?_
        refine x_eqi (pk_rem (by omega) (by omega) (by omega)) ?_
        refine x_iconst (v := nI 1) cx dL_isWhole_213 (by decide) ?_
        refine x_icmp_ne_f (tgt := 341) cx dL_isWhole_214 (by decide) (nI_ig (by omega)) ?_
        refine x_iload cx dL_isWhole_217 rfl ?_
        refine x_sipush (v := nI 254) cx dL_isWhole_219 (by decide) ?_
        refine x_icmp_ge_f (tgt := 341) cx dL_isWhole_222 (by decide) (nI_ge (by omega) (by omega)) ?_
        exact K225

