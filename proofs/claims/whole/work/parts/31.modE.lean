set_option maxHeartbeats 4000000 in
set_option maxRecDepth 100000 in
theorem c_X7_load (l : Launch) (G : zG) (S : zS) (hW : zWF (S 8)) (h0 : Nat) (hs : S 15 0 0 = nI h0) (h4 : h0 ≤ 4) (q v : Int32) : Met l yX7_load (zws yX7_load cX7_load 5 (some .int)) (zrm 6 0 0 139) (zPc G 75 (pic G S) [.ref (zad G 8 0), .int q, .int v]) (zQi G 75 (if eArg (S 8) q v 63 = 0 then zBits (zLoad (S 8) (tn q) v (tn q + 3)) else eArg (S 8) q v 63) (pic G (if eArg (S 8) q v 63 = 0 then up (fr (mRec S) (farF 1)) 8 (zLoad (S 8) (tn q) v) else S))) 0 0 (zA G) := by
  refine zMet npX7_load rfl (Nat.le_of_ble_eq_true rfl) ?_
  intro p e s m args below meth cd hargs cx hr hin0
  have cx : Cx p s m args meth cd cX7_load 5 RX7 G := cx
  refine x_ls (ls' := [some (.ref (zad G 8 0)), some (.int q), some (.int v), none, none]) rfl (fun _ h => h) ?_
  refine x_aload_n cx dX7_load_0 rfl rfl ?_
  refine x_iload_n cx dX7_load_1 rfl rfl ?_
  refine x_S (up_self S 8).symm ?_
  refine x_Vi (C := RX7) (T := TX7) (N := 9) (rest := []) cx (c_X7_isChip l G _ _ hW _) gV_X7_74 ndX7_isChip rfl ⟨Nat.le_of_ble_eq_true rfl, Nat.le_of_ble_eq_true rfl⟩ (zok_8 (by decide)) (by decide) (p_M) rfl rfl rfl (Nat.le_of_ble_eq_true rfl) dX7_load_2 ⟨Nat.le_of_ble_eq_true rfl, Nat.le_of_ble_eq_true rfl⟩ ?_
  refine x_S (up_self S 8) ?_
  refine x_if_ne (tgt := 10) cx dX7_load_5 (by decide) (fun hb5 => ?_) (fun hb5 => ?_)
  · refine x_iload_n cx dX7_load_10 rfl rfl ?_
    refine x_iconst (v := 0) cx dX7_load_11 (by decide) ?_
    refine x_bipush (v := 63) cx dX7_load_12 (by decide) ?_
    refine x_Si (rest := []) cx (c_X7_in l G _ _ _ _ _) gS_X7_28 ndX7_in ⟨Nat.le_of_ble_eq_true rfl, Nat.le_of_ble_eq_true rfl⟩ rfl rfl (Nat.le_of_ble_eq_true rfl) dX7_load_14 ⟨Nat.le_of_ble_eq_true rfl, Nat.le_of_ble_eq_true rfl⟩ ?_
    refine x_if_ne (tgt := 23) cx dX7_load_17 (by decide) (fun hb17 => ?_) (fun hb17 => ?_)
    · obtain ⟨x, hx, rfl⟩ := in_ix (m := 63) (by decide) hb17
      obtain ⟨t, ht, rfl⟩ := has_ix hW hb5
      have h6 := hW.n6
      have htn : tn (nI t) = t := nI_clamp (by omega)
      have he : eArg (S 8) (nI t) (nI x) 63 = 0 := by unfold eArg; rw [if_neg hb5, if_neg hb17]
      simp only [htn]
      rw [if_pos he, if_pos he]
      refine x_aload_n cx dX7_load_23 rfl rfl ?_
      refine x_Vv (C := RX7) (T := TX7) (N := 9) (rest := []) cx (c_X7_record l G _ h0 hs h4) gV_X7_44 ndX7_record rfl ⟨Nat.le_of_ble_eq_true rfl, Nat.le_of_ble_eq_true rfl⟩ (zok_8 (by decide)) (by decide) (p_M) rfl rfl rfl (Nat.le_of_ble_eq_true rfl) dX7_load_24 ⟨Nat.le_of_ble_eq_true rfl, Nat.le_of_ble_eq_true rfl⟩ ?_
      refine x_S (S' := up (mRec S) 8 (S 8)) (by rw [← mRec_8 hs h4, up_self]) ?_
      refine x_aload_n cx dX7_load_27 rfl rfl ?_
      refine x_bipush (v := 11) cx dX7_load_28 (by decide) ?_
      refine x_Vi (C := RX7) (T := TX7) (N := 9) (rest := []) cx (c_X7_moveNow l G _ _ hW 11 (by decide)) gV_X7_112 ndX7_moveNow rfl ⟨Nat.le_of_ble_eq_true rfl, Nat.le_of_ble_eq_true rfl⟩ (zok_8 (by decide)) (by decide) (p_M) rfl rfl rfl (Nat.le_of_ble_eq_true rfl) dX7_load_30 ⟨Nat.le_of_ble_eq_true rfl, Nat.le_of_ble_eq_true rfl⟩ ?_
      refine x_pop cx dX7_load_33 rfl ?_
      refine x_aload_n cx dX7_load_34 rfl rfl ?_
      refine x_getX7 cx 0 (by decide) (fl_X7_7 cx) (zok_8 (by decide)) (by decide) (p_M) rfl dX7_load_35 ?_
      refine x_iconst (v := 0) cx dX7_load_38 (by decide) ?_
      refine x_iald (t := 0) cx (zok_8 (by decide)) (by decide) p_zg rfl (by decide) (by decide) (trz (by decide)) dX7_load_39 ?_
      refine x_eqi (show _ = nI (num (S 8)) by rw [up_same, ← num_go (S 8) 11]; exact (zGo_WF hW).sz) ?_
      refine x_iconst (v := 1) cx dX7_load_40 (by decide) ?_
      refine x_isub cx dX7_load_41 ?_
      refine x_istore_n (ls' := [_, _, _, _, _]) cx dX7_load_42 rfl (by decide) rfl ?_
      have hS1 : ∀ F, fr (fr (mRec S) (farF 11)) F = fr (mRec S) F := fun F => fr_fr _ _ _
      generalize fr (mRec S) (farF 11) = S1 at hS1 ⊢
      generalize mRec S = S0 at hS1 ⊢
      generalize S 8 = X at hW ht h6 ⊢
      suffices K : ∀ (k : Nat) (Y : zCV), k ≤ num X → zWF Y → num Y = num X → zLdL t (nI x) k Y = zLdL t (nI x) (num X) (zGo X 11) → Xh p l e _ s m args below meth cd 5 G _ 0 0 75 (pic G (up S1 8 Y)) 43 [some (.ref (zad G 8 0)), some (.int (nI t)), some (.int (nI x)), some (.int (nI k - 1)), none] [] from K _ _ (Nat.le_refl _) (zGo_WF hW) (num_go X 11) rfl
      intro k
      induction k with
      | zero =>
        intro Y hk hY hn hz
        have hz : Y = zLdL t (nI x) (num X) (zGo X 11) := hz
        refine x_iload_n cx dX7_load_43 rfl rfl ?_
        refine x_if_lt_t (tgt := 98) cx dX7_load_44 (by decide) (by decide) ?_
        refine x_aload_n cx dX7_load_98 rfl rfl ?_
        refine x_iconst (v := 1) cx dX7_load_99 (by decide) ?_
        refine x_Vi (C := RX7) (T := TX7) (N := 9) (rest := []) cx (c_X7_moveNow l G _ _ hY 1 (by decide)) gV_X7_112 ndX7_moveNow rfl ⟨Nat.le_of_ble_eq_true rfl, Nat.le_of_ble_eq_true rfl⟩ (zok_8 (by decide)) (by decide) (p_M) rfl rfl rfl (Nat.le_of_ble_eq_true rfl) dX7_load_100 ⟨Nat.le_of_ble_eq_true rfl, Nat.le_of_ble_eq_true rfl⟩ ?_
        refine x_pop cx dX7_load_103 rfl ?_
        refine x_aload_n cx dX7_load_104 rfl rfl ?_
        refine x_iload_n cx dX7_load_105 rfl rfl ?_
        refine x_Vi (C := RX7) (T := TX7) (N := 9) (rest := []) cx (c_X7_bits l G _ _ t (by omega) ((zGo_WF hY).chip (t := t) (by rw [num_go, hn]; exact ht)).2.2.2) gV_X7_91 ndX7_bits rfl ⟨Nat.le_of_ble_eq_true rfl, Nat.le_of_ble_eq_true rfl⟩ (zok_8 (by decide)) (by decide) (p_M) rfl rfl rfl (Nat.le_of_ble_eq_true rfl) dX7_load_106 ⟨Nat.le_of_ble_eq_true rfl, Nat.le_of_ble_eq_true rfl⟩ ?_
        exact x_iret cx hr (by unfold zLoad; rw [← hz]) (by intro _ _ _ _; unfold zLoad; rw [← hz, hS1]) dX7_load_109
      | succ k ih =>
        intro Y hk hY hn hz
        rw [nI_pred]
        have hl := cWF_len (hY.chip (t := k) (by omega))
        have hL : Y (k + 3) 0 = nI (zLen Y k) := hl.1
        have hL6 : zLen Y k ≤ 6 := hl.2.2
        refine x_iload_n cx dX7_load_43 rfl rfl ?_
        refine x_if_lt_f (tgt := 98) cx dX7_load_44 (by decide) (nI_pos (by omega)) ?_
        refine x_iload_n cx dX7_load_47 rfl rfl ?_
        refine x_iload_n cx dX7_load_48 rfl rfl ?_
        refine x_icmp_ne (tgt := 56) cx dX7_load_49 (by decide) (fun hb49 => ?_) (fun hb49 => ?_)
        · refine x_bipush (v := 63) cx dX7_load_56 (by decide) ?_
          refine x_istore (ls' := [_, _, _, _, _]) cx dX7_load_58 (by decide) rfl ?_
          refine x_aload_n cx dX7_load_60 rfl rfl ?_
          refine x_iload cx dX7_load_61 rfl ?_
          refine x_aload_n cx dX7_load_63 rfl rfl ?_
          refine x_iload_n cx dX7_load_64 rfl rfl ?_
          refine x_iconst (v := 0) cx dX7_load_65 (by decide) ?_
          refine x_Vi (C := RX7) (T := TX7) (N := 9) (rest := [_, _]) cx (c_X7_of l G _ _ k 0 (by omega) (by decide)) gV_X7_47 ndX7_of rfl ⟨Nat.le_of_ble_eq_true rfl, Nat.le_of_ble_eq_true rfl⟩ (zok_8 (by decide)) (by decide) (p_M) rfl rfl rfl (Nat.le_of_ble_eq_true rfl) dX7_load_66 ⟨Nat.le_of_ble_eq_true rfl, Nat.le_of_ble_eq_true rfl⟩ ?_
          refine x_Si (rest := [_, _]) cx (c_X7_ones l G _ _ _) gS_X7_62 ndX7_ones ⟨Nat.le_of_ble_eq_true rfl, Nat.le_of_ble_eq_true rfl⟩ rfl rfl (Nat.le_of_ble_eq_true rfl) dX7_load_69 ⟨Nat.le_of_ble_eq_true rfl, Nat.le_of_ble_eq_true rfl⟩ ?_
          refine x_iand cx dX7_load_72 ?_
          refine x_aload_n cx dX7_load_73 rfl rfl ?_
          refine x_iload_n cx dX7_load_74 rfl rfl ?_
          refine x_iconst (v := 0) cx dX7_load_75 (by decide) ?_
          refine x_Vi (C := RX7) (T := TX7) (N := 9) (rest := [_, _]) cx (c_X7_of l G _ _ k 0 (by omega) (by decide)) gV_X7_47 ndX7_of rfl ⟨Nat.le_of_ble_eq_true rfl, Nat.le_of_ble_eq_true rfl⟩ (zok_8 (by decide)) (by decide) (p_M) rfl rfl rfl (Nat.le_of_ble_eq_true rfl) dX7_load_76 ⟨Nat.le_of_ble_eq_true rfl, Nat.le_of_ble_eq_true rfl⟩ ?_
          refine x_eqi hL ?_
          refine x_iload_n cx dX7_load_79 rfl rfl ?_
          refine x_if_ne (tgt := 87) cx dX7_load_80 (by decide) (fun hb80 => ?_) (fun hb80 => ?_)
          · refine x_iconst (v := 0) cx dX7_load_87 (by decide) ?_
            refine x_Vi (C := RX7) (T := TX7) (N := 9) (rest := []) cx (c_X7_clockBits l G _ _ hY _ (zLen Y k) (by omega) 0 (Or.inl rfl)) gV_X7_121 ndX7_clockBits rfl ⟨Nat.le_of_ble_eq_true rfl, Nat.le_of_ble_eq_true rfl⟩ (zok_8 (by decide)) (by decide) (p_M) rfl rfl rfl (Nat.le_of_ble_eq_true rfl) dX7_load_88 ⟨Nat.le_of_ble_eq_true rfl, Nat.le_of_ble_eq_true rfl⟩ ?_
            refine x_pop cx dX7_load_91 rfl ?_
            refine x_iinc (ls' := [_, _, _, _, _]) cx dX7_load_92 rfl rfl (by decide) rfl ?_
            refine x_goto (tgt := 43) cx dX7_load_95 (by decide) ?_
            have hla : zLa k = 0 := by unfold zLa; rw [if_neg (fun z => hb80 (by rw [z]; rfl))]
            rw [nI_dec]
            have hkt : ¬ k = t := fun z => hb49 (by rw [z])
            refine x_up (X' := zThX (zCod t (nI x) Y k) (zLen Y k) (zLa k) (zLen Y k) Y) (by rw [hla, hL]; exact zThX_congr _ _ (fun b hb => by rw [show zCod t (nI x) Y k = zOnes (nI (zLen Y k)) from (if_neg hkt).trans (by rw [hL])]; exact bits_63 _ (by omega) b hb)) ?_
            exact x_ls rfl (by simp [lo]) (ih _ (by omega) (zThX_WF hY _) (by rw [num_thX]; exact hn) hz)
          · refine x_iconst (v := 1) cx dX7_load_83 (by decide) ?_
            refine x_goto (tgt := 88) cx dX7_load_84 (by decide) ?_
            refine x_Vi (C := RX7) (T := TX7) (N := 9) (rest := []) cx (c_X7_clockBits l G _ _ hY _ (zLen Y k) (by omega) 1 (Or.inr rfl)) gV_X7_121 ndX7_clockBits rfl ⟨Nat.le_of_ble_eq_true rfl, Nat.le_of_ble_eq_true rfl⟩ (zok_8 (by decide)) (by decide) (p_M) rfl rfl rfl (Nat.le_of_ble_eq_true rfl) dX7_load_88 ⟨Nat.le_of_ble_eq_true rfl, Nat.le_of_ble_eq_true rfl⟩ ?_
            refine x_pop cx dX7_load_91 rfl ?_
            refine x_iinc (ls' := [_, _, _, _, _]) cx dX7_load_92 rfl rfl (by decide) rfl ?_
            refine x_goto (tgt := 43) cx dX7_load_95 (by decide) ?_
            have hla : zLa k = 1 := by unfold zLa; rw [if_pos ((nI_eq (b := 0) (by omega) (by decide)).mp hb80)]
            rw [nI_dec]
            have hkt : ¬ k = t := fun z => hb49 (by rw [z])
            refine x_up (X' := zThX (zCod t (nI x) Y k) (zLen Y k) (zLa k) (zLen Y k) Y) (by rw [hla, hL]; exact zThX_congr _ _ (fun b hb => by rw [show zCod t (nI x) Y k = zOnes (nI (zLen Y k)) from (if_neg hkt).trans (by rw [hL])]; exact bits_63 _ (by omega) b hb)) ?_
            exact x_ls rfl (by simp [lo]) (ih _ (by omega) (zThX_WF hY _) (by rw [num_thX]; exact hn) hz)
        · refine x_iload_n cx dX7_load_52 rfl rfl ?_
          refine x_goto (tgt := 58) cx dX7_load_53 (by decide) ?_
          refine x_istore (ls' := [_, _, _, _, _]) cx dX7_load_58 (by decide) rfl ?_
          refine x_aload_n cx dX7_load_60 rfl rfl ?_
          refine x_iload cx dX7_load_61 rfl ?_
          refine x_aload_n cx dX7_load_63 rfl rfl ?_
          refine x_iload_n cx dX7_load_64 rfl rfl ?_
          refine x_iconst (v := 0) cx dX7_load_65 (by decide) ?_
          refine x_Vi (C := RX7) (T := TX7) (N := 9) (rest := [_, _]) cx (c_X7_of l G _ _ k 0 (by omega) (by decide)) gV_X7_47 ndX7_of rfl ⟨Nat.le_of_ble_eq_true rfl, Nat.le_of_ble_eq_true rfl⟩ (zok_8 (by decide)) (by decide) (p_M) rfl rfl rfl (Nat.le_of_ble_eq_true rfl) dX7_load_66 ⟨Nat.le_of_ble_eq_true rfl, Nat.le_of_ble_eq_true rfl⟩ ?_
          refine x_Si (rest := [_, _]) cx (c_X7_ones l G _ _ _) gS_X7_62 ndX7_ones ⟨Nat.le_of_ble_eq_true rfl, Nat.le_of_ble_eq_true rfl⟩ rfl rfl (Nat.le_of_ble_eq_true rfl) dX7_load_69 ⟨Nat.le_of_ble_eq_true rfl, Nat.le_of_ble_eq_true rfl⟩ ?_
          refine x_iand cx dX7_load_72 ?_
          refine x_aload_n cx dX7_load_73 rfl rfl ?_
          refine x_iload_n cx dX7_load_74 rfl rfl ?_
          refine x_iconst (v := 0) cx dX7_load_75 (by decide) ?_
          refine x_Vi (C := RX7) (T := TX7) (N := 9) (rest := [_, _]) cx (c_X7_of l G _ _ k 0 (by omega) (by decide)) gV_X7_47 ndX7_of rfl ⟨Nat.le_of_ble_eq_true rfl, Nat.le_of_ble_eq_true rfl⟩ (zok_8 (by decide)) (by decide) (p_M) rfl rfl rfl (Nat.le_of_ble_eq_true rfl) dX7_load_76 ⟨Nat.le_of_ble_eq_true rfl, Nat.le_of_ble_eq_true rfl⟩ ?_
          refine x_eqi hL ?_
          refine x_iload_n cx dX7_load_79 rfl rfl ?_
          refine x_if_ne (tgt := 87) cx dX7_load_80 (by decide) (fun hb80 => ?_) (fun hb80 => ?_)
          · refine x_iconst (v := 0) cx dX7_load_87 (by decide) ?_
            refine x_Vi (C := RX7) (T := TX7) (N := 9) (rest := []) cx (c_X7_clockBits l G _ _ hY _ (zLen Y k) (by omega) 0 (Or.inl rfl)) gV_X7_121 ndX7_clockBits rfl ⟨Nat.le_of_ble_eq_true rfl, Nat.le_of_ble_eq_true rfl⟩ (zok_8 (by decide)) (by decide) (p_M) rfl rfl rfl (Nat.le_of_ble_eq_true rfl) dX7_load_88 ⟨Nat.le_of_ble_eq_true rfl, Nat.le_of_ble_eq_true rfl⟩ ?_
            refine x_pop cx dX7_load_91 rfl ?_
            refine x_iinc (ls' := [_, _, _, _, _]) cx dX7_load_92 rfl rfl (by decide) rfl ?_
            refine x_goto (tgt := 43) cx dX7_load_95 (by decide) ?_
            have hla : zLa k = 0 := by unfold zLa; rw [if_neg (fun z => hb80 (by rw [z]; rfl))]
            rw [nI_dec]
            obtain rfl : k = t := (nI_eq (by omega) (by omega)).mp hb49
            refine x_up (X' := zThX (zCod k (nI x) Y k) (zLen Y k) (zLa k) (zLen Y k) Y) (by rw [hla, hL]; exact zThX_congr _ _ (fun b hb => by rw [show zCod k (nI x) Y k = nI x from if_pos rfl]; exact bits_in x (by omega) _ (by omega) b hb)) ?_
            exact x_ls rfl (by simp [lo]) (ih _ (by omega) (zThX_WF hY _) (by rw [num_thX]; exact hn) hz)
          · refine x_iconst (v := 1) cx dX7_load_83 (by decide) ?_
            refine x_goto (tgt := 88) cx dX7_load_84 (by decide) ?_
            refine x_Vi (C := RX7) (T := TX7) (N := 9) (rest := []) cx (c_X7_clockBits l G _ _ hY _ (zLen Y k) (by omega) 1 (Or.inr rfl)) gV_X7_121 ndX7_clockBits rfl ⟨Nat.le_of_ble_eq_true rfl, Nat.le_of_ble_eq_true rfl⟩ (zok_8 (by decide)) (by decide) (p_M) rfl rfl rfl (Nat.le_of_ble_eq_true rfl) dX7_load_88 ⟨Nat.le_of_ble_eq_true rfl, Nat.le_of_ble_eq_true rfl⟩ ?_
            refine x_pop cx dX7_load_91 rfl ?_
            refine x_iinc (ls' := [_, _, _, _, _]) cx dX7_load_92 rfl rfl (by decide) rfl ?_
            refine x_goto (tgt := 43) cx dX7_load_95 (by decide) ?_
            have hla : zLa k = 1 := by unfold zLa; rw [if_pos ((nI_eq (b := 0) (by omega) (by decide)).mp hb80)]
            rw [nI_dec]
            obtain rfl : k = t := (nI_eq (by omega) (by omega)).mp hb49
            refine x_up (X' := zThX (zCod k (nI x) Y k) (zLen Y k) (zLa k) (zLen Y k) Y) (by rw [hla, hL]; exact zThX_congr _ _ (fun b hb => by rw [show zCod k (nI x) Y k = nI x from if_pos rfl]; exact bits_in x (by omega) _ (by omega) b hb)) ?_
            exact x_ls rfl (by simp [lo]) (ih _ (by omega) (zThX_WF hY _) (by rw [num_thX]; exact hn) hz)
    · refine x_bipush (v := (-2)) cx dX7_load_20 (by decide) ?_
      have he : eArg (S 8) q v 63 = -2 := by unfold eArg; rw [if_neg hb5, if_pos hb17]
      exact x_iret cx hr (by rw [he, if_neg (by decide)]) (by intro _ _ _ _; rw [he, if_neg (by decide)]) dX7_load_22
  · refine x_iconst (v := (-1)) cx dX7_load_8 (by decide) ?_
    have he : eArg (S 8) q v 63 = -1 := by unfold eArg; rw [if_pos hb5]
    exact x_iret cx hr (by rw [he, if_neg (by decide)]) (by intro _ _ _ _; rw [he, if_neg (by decide)]) dX7_load_9

set_option maxHeartbeats 4000000 in
set_option maxRecDepth 100000 in
theorem c_X7_add (l : Launch) (G : zG) (S : zS) (hW : zWF (S 8)) (h0 : Nat) (hs : S 15 0 0 = nI h0) (h4 : h0 ≤ 4) (cl id ce : Int32) : Met l yX7_add (zws yX7_add cX7_add 7 (some .int)) (zrm 3 0 0 66) (zPc G 75 (pic G S) [.ref (zad G 8 0), .int cl, .int id, .int ce]) (zQi G 75 (if eAdd (S 8) cl id ce = 0 then S 8 0 0 else eAdd (S 8) cl id ce) (pic G (if eAdd (S 8) cl id ce = 0 then up (mRec S) 8 (zAdd (S 8) cl id ce) else S))) 0 0 (zA G) := by
  refine zMet npX7_add rfl (Nat.le_of_ble_eq_true rfl) ?_
  intro p e s m args below meth cd hargs cx hr hin0
  have cx : Cx p s m args meth cd cX7_add 7 RX7 G := cx
  refine x_ls (ls' := [some (.ref (zad G 8 0)), some (.int cl), some (.int id), some (.int ce), none, none, none]) rfl (fun _ h => h) ?_
  have h6 := hW.n6
  have K : Xh p l e (zrm 3 0 0 66) s m args below meth cd 7 G (MQ below (zQi G 75 (if eAdd (S 8) cl id ce = 0 then S 8 0 0 else eAdd (S 8) cl id ce) (pic G (if eAdd (S 8) cl id ce = 0 then up (mRec S) 8 (zAdd (S 8) cl id ce) else S))) args s 0 0 (zA G)) 0 0 75 (pic G S) 29 [some (.ref (zad G 8 0)), some (.int cl), some (.int id), some (.int ce), some (.int (zisId id)), none, none] [] := by
    refine x_iload_n cx dX7_add_29 rfl rfl ?_
    refine x_iconst (v := 2) cx dX7_add_30 (by decide) ?_
    refine x_bipush (v := 6) cx dX7_add_31 (by decide) ?_
    refine x_Si (rest := []) cx (c_X7_in l G _ _ _ _ _) gS_X7_28 ndX7_in ⟨Nat.le_of_ble_eq_true rfl, Nat.le_of_ble_eq_true rfl⟩ rfl rfl (Nat.le_of_ble_eq_true rfl) dX7_add_33 ⟨Nat.le_of_ble_eq_true rfl, Nat.le_of_ble_eq_true rfl⟩ ?_
    refine x_if_eq (tgt := 54) cx dX7_add_36 (by decide) (fun hb36 => ?_) (fun hb36 => ?_)
    · refine x_bipush (v := (-2)) cx dX7_add_54 (by decide) ?_
      have he : eAdd (S 8) cl id ce = -2 := by unfold eAdd; rw [if_pos hb36]
      exact x_iret cx hr (by rw [he, if_neg (by decide)]) (by intro _ _ _ _; rw [he, if_neg (by decide)]) dX7_add_56
    · refine x_iload cx dX7_add_39 rfl ?_
      refine x_if_eq (tgt := 54) cx dX7_add_41 (by decide) (fun hb41 => ?_) (fun hb41 => ?_)
      · refine x_bipush (v := (-2)) cx dX7_add_54 (by decide) ?_
        have he : eAdd (S 8) cl id ce = -2 := by unfold eAdd; rw [if_neg hb36, if_pos hb41]
        exact x_iret cx hr (by rw [he, if_neg (by decide)]) (by intro _ _ _ _; rw [he, if_neg (by decide)]) dX7_add_56
      · refine x_iload_n cx dX7_add_44 rfl rfl ?_
        refine x_iconst (v := 1) cx dX7_add_45 (by decide) ?_
        refine x_bipush (v := 8) cx dX7_add_46 (by decide) ?_
        refine x_Si (rest := []) cx (c_X7_in l G _ _ _ _ _) gS_X7_28 ndX7_in ⟨Nat.le_of_ble_eq_true rfl, Nat.le_of_ble_eq_true rfl⟩ rfl rfl (Nat.le_of_ble_eq_true rfl) dX7_add_48 ⟨Nat.le_of_ble_eq_true rfl, Nat.le_of_ble_eq_true rfl⟩ ?_
        refine x_if_ne (tgt := 57) cx dX7_add_51 (by decide) (fun hb51 => ?_) (fun hb51 => ?_)
        · refine x_aload_n cx dX7_add_57 rfl rfl ?_
          refine x_getX7 cx 0 (by decide) (fl_X7_7 cx) (zok_8 (by decide)) (by decide) (p_M) rfl dX7_add_58 ?_
          refine x_iconst (v := 0) cx dX7_add_61 (by decide) ?_
          refine x_iald (t := 0) cx (zok_8 (by decide)) (by decide) p_zg rfl (by decide) (by decide) (trz (by decide)) dX7_add_62 ?_
          refine x_bipush (v := 6) cx dX7_add_63 (by decide) ?_
          refine x_icmp_ne (tgt := 71) cx dX7_add_65 (by decide) (fun hb65 => ?_) (fun hb65 => ?_)
          · have hn : num (S 8) < 6 := by rcases Nat.lt_or_ge (num (S 8)) 6 with z | z <;> first | exact z | exact absurd (show S 8 0 0 = 6 by rw [hW.sz, show num (S 8) = 6 by omega]; rfl) hb65
            have he : eAdd (S 8) cl id ce = 0 := by unfold eAdd; rw [if_neg hb36, if_neg hb41, if_neg hb51, if_pos (show S 8 0 0 < 6 by rw [hW.sz]; exact nI_lt (b := 6) hn (by decide))]
            rw [if_pos he, if_pos he]
            refine x_aload_n cx dX7_add_71 rfl rfl ?_
            refine x_Vv (C := RX7) (T := TX7) (N := 9) (rest := []) cx (c_X7_record l G _ h0 hs h4) gV_X7_44 ndX7_record rfl ⟨Nat.le_of_ble_eq_true rfl, Nat.le_of_ble_eq_true rfl⟩ (zok_8 (by decide)) (by decide) (p_M) rfl rfl rfl (Nat.le_of_ble_eq_true rfl) dX7_add_72 ⟨Nat.le_of_ble_eq_true rfl, Nat.le_of_ble_eq_true rfl⟩ ?_
            refine x_S (S' := up (mRec S) 8 (S 8)) (by rw [← mRec_8 hs h4, up_self]) ?_
            refine x_aload_n cx dX7_add_75 rfl rfl ?_
            refine x_getX7 cx 0 (by decide) (fl_X7_7 cx) (zok_8 (by decide)) (by decide) (p_M) rfl dX7_add_76 ?_
            refine x_iconst (v := 0) cx dX7_add_79 (by decide) ?_
            refine x_iald (t := 0) cx (zok_8 (by decide)) (by decide) p_zg rfl (by decide) (by decide) (trz (by decide)) dX7_add_80 ?_
            refine x_eqi (show _ = nI (num (S 8)) from hW.sz) ?_
            refine x_istore (ls' := [_, _, _, _, _, _, _]) cx dX7_add_81 (by decide) rfl ?_
            refine x_iconst (v := 0) cx dX7_add_83 (by decide) ?_
            refine x_istore (ls' := [_, _, _, _, _, _, _]) cx dX7_add_84 (by decide) rfl ?_
            have hsz := hW.sz
            generalize mRec S = S1
            unfold zAdd
            generalize hX : S 8 = X at hn hsz ⊢
            generalize num X = n at hn hsz ⊢
            suffices K : ∀ f k : Nat, k + f = 9 → Xh p l e _ s m args below meth cd 7 G _ 0 0 75 (pic G (up S1 8 (uj X (n + 3) (zrs (X (n + 3)) k)))) 86 [some (.ref (zad G 8 0)), some (.int cl), some (.int id), some (.int ce), some (.int (zisId id)), some (.int (nI n)), some (.int (nI k))] [] from x_up (by rw [zrs_z, uj_self]) (K 9 0 rfl)
            intro f
            induction f with
            | zero =>
              intro k hk
              obtain rfl : k = 9 := by omega
              refine x_iload cx dX7_add_86 rfl ?_
              refine x_bipush (v := 9) cx dX7_add_88 (by decide) ?_
              refine x_icmp_ge_t (tgt := 108) cx dX7_add_90 (by decide) (by decide) ?_
              refine x_aload_n cx dX7_add_108 rfl rfl ?_
              refine x_iload cx dX7_add_109 rfl ?_
              refine x_iconst (v := 0) cx dX7_add_111 (by decide) ?_
              refine x_iload_n cx dX7_add_112 rfl rfl ?_
              refine x_Vv (C := RX7) (T := TX7) (N := 9) (rest := []) cx (c_X7_lay l G _ _ n 0 hn (by decide) _) gV_X7_58 ndX7_lay rfl ⟨Nat.le_of_ble_eq_true rfl, Nat.le_of_ble_eq_true rfl⟩ (zok_8 (by decide)) (by decide) (p_M) rfl rfl rfl (Nat.le_of_ble_eq_true rfl) dX7_add_113 ⟨Nat.le_of_ble_eq_true rfl, Nat.le_of_ble_eq_true rfl⟩ ?_
              refine x_up (by rw [uj_same, uj_uj]) ?_
              refine x_aload_n cx dX7_add_116 rfl rfl ?_
              refine x_iload cx dX7_add_117 rfl ?_
              refine x_iconst (v := 1) cx dX7_add_119 (by decide) ?_
              refine x_iload_n cx dX7_add_120 rfl rfl ?_
              refine x_Vv (C := RX7) (T := TX7) (N := 9) (rest := []) cx (c_X7_lay l G _ _ n 1 hn (by decide) _) gV_X7_58 ndX7_lay rfl ⟨Nat.le_of_ble_eq_true rfl, Nat.le_of_ble_eq_true rfl⟩ (zok_8 (by decide)) (by decide) (p_M) rfl rfl rfl (Nat.le_of_ble_eq_true rfl) dX7_add_121 ⟨Nat.le_of_ble_eq_true rfl, Nat.le_of_ble_eq_true rfl⟩ ?_
              refine x_up (by rw [uj_same, uj_uj]) ?_
              refine x_aload_n cx dX7_add_124 rfl rfl ?_
              refine x_iload cx dX7_add_125 rfl ?_
              refine x_iconst (v := 2) cx dX7_add_127 (by decide) ?_
              refine x_iload_n cx dX7_add_128 rfl rfl ?_
              refine x_Vv (C := RX7) (T := TX7) (N := 9) (rest := []) cx (c_X7_lay l G _ _ n 2 hn (by decide) _) gV_X7_58 ndX7_lay rfl ⟨Nat.le_of_ble_eq_true rfl, Nat.le_of_ble_eq_true rfl⟩ (zok_8 (by decide)) (by decide) (p_M) rfl rfl rfl (Nat.le_of_ble_eq_true rfl) dX7_add_129 ⟨Nat.le_of_ble_eq_true rfl, Nat.le_of_ble_eq_true rfl⟩ ?_
              refine x_up (by rw [uj_same, uj_uj]) ?_
              refine x_aload_n cx dX7_add_132 rfl rfl ?_
              refine x_iload cx dX7_add_133 rfl ?_
              refine x_Vv (C := RX7) (T := TX7) (N := 9) (rest := []) cx (c_X7_giveFirst l G _ _ n hn (by rw [uj_same]; exact zisId_pos hb41)) gV_X7_70 ndX7_giveFirst rfl ⟨Nat.le_of_ble_eq_true rfl, Nat.le_of_ble_eq_true rfl⟩ (zok_8 (by decide)) (by decide) (p_M) rfl rfl rfl (Nat.le_of_ble_eq_true rfl) dX7_add_135 ⟨Nat.le_of_ble_eq_true rfl, Nat.le_of_ble_eq_true rfl⟩ ?_
              refine x_up (by rw [uj_same, uj_uj]) ?_
              refine x_aload_n cx dX7_add_138 rfl rfl ?_
              refine x_getX7 cx 0 (by decide) (fl_X7_7 cx) (zok_8 (by decide)) (by decide) (p_M) rfl dX7_add_139 ?_
              refine x_iconst (v := 0) cx dX7_add_142 (by decide) ?_
              refine x_dup2 cx dX7_add_143 rfl rfl ?_
              refine x_iald (t := 0) cx (zok_8 (by decide)) (by decide) p_zg rfl (by decide) (by decide) (trz (by decide)) dX7_add_144 ?_
              refine x_iconst (v := 1) cx dX7_add_145 (by decide) ?_
              refine x_iadd cx dX7_add_146 ?_
              refine x_iast (t := 0) cx (zok_8 (by decide)) (by decide) p_zg rfl (by decide) (by decide) (pp_z0 (by decide)) dX7_add_147 ?_
              refine x_iload cx dX7_add_148 rfl ?_
              exact x_iret cx hr hsz.symm (eqS_pic_up (Or.inr (by decide)) (by rw [uj_ne X _ (show 0 ≠ n + 3 by omega)]; exact eqX_uj2 (new_row cl id ce))) dX7_add_150
            | succ f ih =>
              intro k hk
              refine x_iload cx dX7_add_86 rfl ?_
              refine x_bipush (v := 9) cx dX7_add_88 (by decide) ?_
              refine x_icmp_ge_f (tgt := 108) cx dX7_add_90 (by decide) (nI_ge (b := 9) (by omega) (by decide)) ?_
              refine x_aload_n cx dX7_add_93 rfl rfl ?_
              refine x_iload cx dX7_add_94 rfl ?_
              refine x_iload cx dX7_add_96 rfl ?_
              refine x_iconst (v := 0) cx dX7_add_98 (by decide) ?_
              refine x_Vv (C := RX7) (T := TX7) (N := 9) (rest := []) cx (c_X7_lay l G _ _ n k hn (by omega) _) gV_X7_58 ndX7_lay rfl ⟨Nat.le_of_ble_eq_true rfl, Nat.le_of_ble_eq_true rfl⟩ (zok_8 (by decide)) (by decide) (p_M) rfl rfl rfl (Nat.le_of_ble_eq_true rfl) dX7_add_99 ⟨Nat.le_of_ble_eq_true rfl, Nat.le_of_ble_eq_true rfl⟩ ?_
              refine x_iinc (v := nI (k + 1)) (ls' := [_, _, _, _, _, _, _]) cx dX7_add_102 rfl (nI_inc _) (by decide) rfl ?_
              refine x_goto (tgt := 86) cx dX7_add_105 (by decide) ?_
              exact x_up (by rw [uj_same, uj_uj, zrs_s]) (ih (k + 1) (by omega))
          · refine x_bipush (v := (-3)) cx dX7_add_68 (by decide) ?_
            have he : eAdd (S 8) cl id ce = -3 := by unfold eAdd; rw [if_neg hb36, if_neg hb41, if_neg hb51, if_neg (show ¬ S 8 0 0 < 6 by rw [hb65]; decide)]
            exact x_iret cx hr (by rw [he, if_neg (by decide)]) (by intro _ _ _ _; rw [he, if_neg (by decide)]) dX7_add_70
        · refine x_bipush (v := (-2)) cx dX7_add_54 (by decide) ?_
          have he : eAdd (S 8) cl id ce = -2 := by unfold eAdd; rw [if_neg hb36, if_neg hb41, if_pos hb51]
          exact x_iret cx hr (by rw [he, if_neg (by decide)]) (by intro _ _ _ _; rw [he, if_neg (by decide)]) dX7_add_56
  refine x_iload_n cx dX7_add_0 rfl rfl ?_
  refine x_if_eq (tgt := 22) cx dX7_add_1 (by decide) (fun hb1 => ?_) (fun hb1 => ?_)
  · refine x_iconst (v := 1) cx dX7_add_22 (by decide) ?_
    refine x_goto (tgt := 27) cx dX7_add_23 (by decide) ?_
    refine x_istore (ls' := [_, _, _, _, _, _, _]) cx dX7_add_27 (by decide) rfl ?_
    have hz : zisId id = 1 := by unfold zisId; rw [if_pos hb1]
    exact x_ls rfl (by simp [lo, hz]) K
  · refine x_iload_n cx dX7_add_4 rfl rfl ?_
    refine x_iconst (v := 1) cx dX7_add_5 (by decide) ?_
    refine x_sipush (v := 253) cx dX7_add_6 (by decide) ?_
    refine x_Si (rest := []) cx (c_X7_in l G _ _ _ _ _) gS_X7_28 ndX7_in ⟨Nat.le_of_ble_eq_true rfl, Nat.le_of_ble_eq_true rfl⟩ rfl rfl (Nat.le_of_ble_eq_true rfl) dX7_add_9 ⟨Nat.le_of_ble_eq_true rfl, Nat.le_of_ble_eq_true rfl⟩ ?_
    refine x_if_eq (tgt := 26) cx dX7_add_12 (by decide) (fun hb12 => ?_) (fun hb12 => ?_)
    · refine x_iconst (v := 0) cx dX7_add_26 (by decide) ?_
      refine x_istore (ls' := [_, _, _, _, _, _, _]) cx dX7_add_27 (by decide) rfl ?_
      have hz : zisId id = 0 := by unfold zisId; rw [if_neg hb1, if_pos hb12]
      exact x_ls rfl (by simp [lo, hz]) K
    · refine x_iload_n cx dX7_add_15 rfl rfl ?_
      refine x_iconst (v := 2) cx dX7_add_16 (by decide) ?_
      refine x_irem cx dX7_add_17 (by decide) ?_
      refine x_iconst (v := 1) cx dX7_add_18 (by decide) ?_
      refine x_icmp_ne (tgt := 26) cx dX7_add_19 (by decide) (fun hb19 => ?_) (fun hb19 => ?_)
      · refine x_iconst (v := 0) cx dX7_add_26 (by decide) ?_
        refine x_istore (ls' := [_, _, _, _, _, _, _]) cx dX7_add_27 (by decide) rfl ?_
        have hz : zisId id = 0 := by unfold zisId; rw [if_neg hb1, if_neg hb12, if_neg hb19]
        exact x_ls rfl (by simp [lo, hz]) K
      · refine x_iconst (v := 1) cx dX7_add_22 (by decide) ?_
        refine x_goto (tgt := 27) cx dX7_add_23 (by decide) ?_
        refine x_istore (ls' := [_, _, _, _, _, _, _]) cx dX7_add_27 (by decide) rfl ?_
        have hz : zisId id = 1 := by unfold zisId; rw [if_neg hb1, if_neg hb12, if_pos hb19]
        exact x_ls rfl (by simp [lo, hz]) K

set_option maxHeartbeats 4000000 in
set_option maxRecDepth 100000 in
theorem c_X7_take (l : Launch) (G : zG) (S : zS) (hW : zWF (S 8)) (h0 : Nat) (hs : S 15 0 0 = nI h0) (h4 : h0 ≤ 4) (q : Int32) : Met l yX7_take (zws yX7_take cX7_take 4 (some .int)) (zrm 2 0 0 45) (zPc G 75 (pic G S) [.ref (zad G 8 0), .int q]) (zQi G 75 (if eHas (S 8) q = 0 then S 8 (tn q + 3) 1 else eHas (S 8) q) (pic G (if eHas (S 8) q = 0 then up (mRec S) 8 (zTake (S 8) (tn q)) else S))) 0 0 (zA G) := by
  refine zMet npX7_take rfl (Nat.le_of_ble_eq_true rfl) ?_
  intro p e s m args below meth cd hargs cx hr hin0
  have cx : Cx p s m args meth cd cX7_take 4 RX7 G := cx
  refine x_ls (ls' := [some (.ref (zad G 8 0)), some (.int q), none, none]) rfl (fun _ h => h) ?_
  refine x_aload_n cx dX7_take_0 rfl rfl ?_
  refine x_iload_n cx dX7_take_1 rfl rfl ?_
  refine x_S (up_self S 8).symm ?_
  refine x_Vi (C := RX7) (T := TX7) (N := 9) (rest := []) cx (c_X7_isChip l G _ _ hW _) gV_X7_74 ndX7_isChip rfl ⟨Nat.le_of_ble_eq_true rfl, Nat.le_of_ble_eq_true rfl⟩ (zok_8 (by decide)) (by decide) (p_M) rfl rfl rfl (Nat.le_of_ble_eq_true rfl) dX7_take_2 ⟨Nat.le_of_ble_eq_true rfl, Nat.le_of_ble_eq_true rfl⟩ ?_
  refine x_S (up_self S 8) ?_
  refine x_if_ne (tgt := 10) cx dX7_take_5 (by decide) (fun hb5 => ?_) (fun hb5 => ?_)
  · obtain ⟨t, ht, rfl⟩ := has_ix hW hb5
    have h6 := hW.n6
    have htn : tn (nI t) = t := nI_clamp (by omega)
    try simp only [htn]
    refine x_aload_n cx dX7_take_10 rfl rfl ?_
    refine x_Vv (C := RX7) (T := TX7) (N := 9) (rest := []) cx (c_X7_record l G _ h0 hs h4) gV_X7_44 ndX7_record rfl ⟨Nat.le_of_ble_eq_true rfl, Nat.le_of_ble_eq_true rfl⟩ (zok_8 (by decide)) (by decide) (p_M) rfl rfl rfl (Nat.le_of_ble_eq_true rfl) dX7_take_11 ⟨Nat.le_of_ble_eq_true rfl, Nat.le_of_ble_eq_true rfl⟩ ?_
    refine x_S (S' := up (mRec S) 8 (S 8)) (by rw [← mRec_8 hs h4, up_self]) ?_
    refine x_aload_n cx dX7_take_14 rfl rfl ?_
    refine x_iload_n cx dX7_take_15 rfl rfl ?_
    refine x_iconst (v := 1) cx dX7_take_16 (by decide) ?_
    refine x_Vi (C := RX7) (T := TX7) (N := 9) (rest := []) cx (c_X7_of l G _ _ t 1 (by omega) (by decide)) gV_X7_47 ndX7_of rfl ⟨Nat.le_of_ble_eq_true rfl, Nat.le_of_ble_eq_true rfl⟩ (zok_8 (by decide)) (by decide) (p_M) rfl rfl rfl (Nat.le_of_ble_eq_true rfl) dX7_take_17 ⟨Nat.le_of_ble_eq_true rfl, Nat.le_of_ble_eq_true rfl⟩ ?_
    refine x_istore_n (ls' := [_, _, _, _]) cx dX7_take_20 rfl (by decide) rfl ?_
    refine x_aload_n cx dX7_take_21 rfl rfl ?_
    refine x_getX7 cx 0 (by decide) (fl_X7_7 cx) (zok_8 (by decide)) (by decide) (p_M) rfl dX7_take_22 ?_
    refine x_iconst (v := 0) cx dX7_take_25 (by decide) ?_
    refine x_dup2 cx dX7_take_26 rfl rfl ?_
    refine x_iald (t := 0) cx (zok_8 (by decide)) (by decide) p_zg rfl (by decide) (by decide) (trz (by decide)) dX7_take_27 ?_
    refine x_iconst (v := 1) cx dX7_take_28 (by decide) ?_
    refine x_isub cx dX7_take_29 ?_
    refine x_iast (t := 0) cx (zok_8 (by decide)) (by decide) p_zg rfl (by decide) (by decide) (pp_z0 (by decide)) dX7_take_30 ?_
    have he : eHas (S 8) (nI t) = 0 := by unfold eHas; rw [if_neg hb5]
    rw [if_pos he, if_pos he]
    have hsub : S 8 0 0 - 1 = nI (num (S 8) - 1) := by rw [hW.sz]; exact nI_sub1 (by omega)
    refine x_up (X' := uj (S 8) 0 (upd (S 8 0) 0 (nI (num (S 8) - 1)))) (by rw [up_same, hsub]) ?_
    refine x_bipush (v := 12) cx dX7_take_31 (by decide) ?_
    refine x_bipush (v := 9) cx dX7_take_33 (by decide) ?_
    refine x_iload_n cx dX7_take_35 rfl rfl ?_
    refine x_imul cx dX7_take_36 ?_
    refine x_iadd cx dX7_take_37 ?_
    refine x_eqi (ix12 t) ?_
    refine x_istore_n (ls' := [_, _, _, _]) cx dX7_take_38 rfl (by decide) rfl ?_
    have hte := zTake_eq hW ht
    have hY0 : uj (S 8) 0 (upd (S 8 0) 0 (nI (num (S 8) - 1))) 0 0 = nI (num (S 8) - 1) := by rw [uj_same, upd_same]
    generalize uj (S 8) 0 (upd (S 8 0) 0 (nI (num (S 8) - 1))) = Y at hte hY0 ⊢
    generalize mRec S = S1
    generalize hn : num (S 8) = n at ht h6 hte hY0 ⊢
    suffices K : ∀ f k : Nat, k + f = 12 + 9 * (n - 1) → 12 + 9 * t ≤ k → Xh p l e _ s m args below meth cd 4 G _ 0 0 75 (pic G (up S1 8 (zMv Y t k))) 39 [some (.ref (zad G 8 0)), some (.int (nI t)), some (.int (S 8 (t + 3) 1)), some (.int (nI k))] [] from x_up (zMv_z Y t).symm (K (12 + 9 * (n - 1) - (12 + 9 * t)) (12 + 9 * t) (by omega) (Nat.le_refl _))
    intro f
    induction f with
    | zero =>
      intro k hk hkt
      obtain rfl : k = 12 + 9 * (n - 1) := by omega
      refine x_iload_n cx dX7_take_39 rfl rfl ?_
      refine x_bipush (v := 12) cx dX7_take_40 (by decide) ?_
      refine x_bipush (v := 9) cx dX7_take_42 (by decide) ?_
      refine x_aload_n cx dX7_take_44 rfl rfl ?_
      refine x_getX7 cx 0 (by decide) (fl_X7_7 cx) (zok_8 (by decide)) (by decide) (p_M) rfl dX7_take_45 ?_
      refine x_iconst (v := 0) cx dX7_take_48 (by decide) ?_
      refine x_iald (t := 0) cx (zok_8 (by decide)) (by decide) p_zg rfl (by decide) (by decide) (trz (by decide)) dX7_take_49 ?_
      refine x_eqi (show _ = nI (n - 1) by rw [up_same, zMv_00]; exact hY0) ?_
      refine x_imul cx dX7_take_50 ?_
      refine x_iadd cx dX7_take_51 ?_
      refine x_eqi (ix12 (n - 1)) ?_
      refine x_icmp_ge_t (tgt := 76) cx dX7_take_52 (by decide) (nI_le (Nat.le_refl _) (by omega)) ?_
      refine x_iload_n cx dX7_take_76 rfl rfl ?_
      exact x_iret cx hr rfl (eqS_pic_up (Or.inr (by decide)) hte) dX7_take_77
    | succ f ih =>
      intro k hk hkt
      refine x_iload_n cx dX7_take_39 rfl rfl ?_
      refine x_bipush (v := 12) cx dX7_take_40 (by decide) ?_
      refine x_bipush (v := 9) cx dX7_take_42 (by decide) ?_
      refine x_aload_n cx dX7_take_44 rfl rfl ?_
      refine x_getX7 cx 0 (by decide) (fl_X7_7 cx) (zok_8 (by decide)) (by decide) (p_M) rfl dX7_take_45 ?_
      refine x_iconst (v := 0) cx dX7_take_48 (by decide) ?_
      refine x_iald (t := 0) cx (zok_8 (by decide)) (by decide) p_zg rfl (by decide) (by decide) (trz (by decide)) dX7_take_49 ?_
      refine x_eqi (show _ = nI (n - 1) by rw [up_same, zMv_00]; exact hY0) ?_
      refine x_imul cx dX7_take_50 ?_
      refine x_iadd cx dX7_take_51 ?_
      refine x_eqi (ix12 (n - 1)) ?_
      refine x_icmp_ge_f (tgt := 76) cx dX7_take_52 (by decide) (nI_ge (by omega) (by omega)) ?_
      refine x_aload_n cx dX7_take_55 rfl rfl ?_
      refine x_getX7 cx 0 (by decide) (fl_X7_7 cx) (zok_8 (by decide)) (by decide) (p_M) rfl dX7_take_56 ?_
      refine x_iload_n cx dX7_take_59 rfl rfl ?_
      refine x_aload_n cx dX7_take_60 rfl rfl ?_
      refine x_getX7 cx 0 (by decide) (fl_X7_7 cx) (zok_8 (by decide)) (by decide) (p_M) rfl dX7_take_61 ?_
      refine x_iload_n cx dX7_take_64 rfl rfl ?_
      refine x_bipush (v := 9) cx dX7_take_65 (by decide) ?_
      refine x_iadd cx dX7_take_67 ?_
      refine x_eqi (nI_add k 9) ?_
      refine x_iald (t := (k + 9)) cx (zok_8 (by decide)) (by decide) p_zg rfl (by omega) (by decide) (tr_lt (by omega)) dX7_take_68 ?_
      refine x_iast (t := k) cx (zok_8 (by decide)) (by decide) p_zg rfl (by omega) (by decide) (pp_z (X' := zMv Y t (k + 1)) (by omega) (fl_Mv hkt)) dX7_take_69 ?_
      refine x_iinc (v := nI (k + 1)) (ls' := [_, _, _, _]) cx dX7_take_70 rfl (nI_inc _) (by decide) rfl ?_
      refine x_goto (tgt := 39) cx dX7_take_73 (by decide) ?_
      exact ih (k + 1) (by omega) (by omega)
  · refine x_iconst (v := (-1)) cx dX7_take_8 (by decide) ?_
    have he : eHas (S 8) q = -1 := by unfold eHas; rw [if_pos hb5]
    exact x_iret cx hr (by rw [he, if_neg (by decide)]) (by intro _ _ _ _; rw [he, if_neg (by decide)]) dX7_take_9

set_option maxHeartbeats 4000000 in
set_option maxRecDepth 100000 in
theorem c_X7_fault (l : Launch) (G : zG) (S : zS) (L : Nat) (hL : S 15 0 2 = nI L) (h80 : L ≤ 80) : Met l yX7_fault (zws yX7_fault cX7_fault 5 (some .int)) (zrm 2 0 0 42) (zPc G 75 (pic G S) [.ref (zad G 8 0)]) (zQi G 75 (zFault (S 15 1) L) (pic G S)) 0 0 (zA G) := by
  refine zMet npX7_fault rfl (Nat.le_of_ble_eq_true rfl) ?_
  intro p e s m args below meth cd hargs cx hr hin0
  have cx : Cx p s m args meth cd cX7_fault 5 RX7 G := cx
  refine x_ls (ls' := [some (.ref (zad G 8 0)), none, none, none, none]) rfl (fun _ h => h) ?_
  refine x_iconst (v := 0) cx dX7_fault_0 (by decide) ?_
  refine x_istore_n (ls' := [_, _, _, _, _]) cx dX7_fault_1 rfl (by decide) rfl ?_
  refine x_iconst (v := 0) cx dX7_fault_2 (by decide) ?_
  refine x_istore_n (ls' := [_, _, _, _, _]) cx dX7_fault_3 rfl (by decide) rfl ?_
  suffices K : ∀ (f k : Nat) (w : Int32), k + f = L → (w = 0 ∨ w = 1) → zFltL (S 15 1) f k w = zFault (S 15 1) L → Xh p l e _ s m args below meth cd 5 G _ 0 0 75 (pic G S) 4 [some (.ref (zad G 8 0)), some (.int w), some (.int (nI k)), none, none] [] from K L 0 0 (by omega) (Or.inl rfl) rfl
  intro f
  induction f with
  | zero =>
    intro k w hk hw hz
    obtain rfl : k = L := by omega
    have hz : (if 0 < k then (if w = 0 then -4 else nI k) else nI k) = zFault (S 15 1) k := hz
    refine x_iload_n cx dX7_fault_4 rfl rfl ?_
    refine x_aload_n cx dX7_fault_5 rfl rfl ?_
    refine x_getX7 cx 7 (by decide) (fl_X7_131 cx) (zok_8 (by decide)) (by decide) (p_M) rfl dX7_fault_6 ?_
    refine x_eqi (show _ = nI k from hL) ?_
    refine x_icmp_ge_t (tgt := 107) cx dX7_fault_9 (by decide) (nI_le (Nat.le_refl _) (by omega)) ?_
    refine x_iload_n cx dX7_fault_107 rfl rfl ?_
    refine x_if_ne (tgt := 118) cx dX7_fault_108 (by decide) (fun hb108 => ?_) (fun hb108 => ?_)
    · refine x_aload_n cx dX7_fault_118 rfl rfl ?_
      refine x_getX7 cx 7 (by decide) (fl_X7_131 cx) (zok_8 (by decide)) (by decide) (p_M) rfl dX7_fault_119 ?_
      refine x_eqi (show _ = nI k from hL) ?_
      refine x_goto (tgt := 127) cx dX7_fault_122 (by decide) ?_
      exact x_iret cx hr (by rw [← hz, if_neg hb108, ite_self]) (fun _ _ _ _ => rfl) dX7_fault_127
    · refine x_aload_n cx dX7_fault_111 rfl rfl ?_
      refine x_getX7 cx 7 (by decide) (fl_X7_131 cx) (zok_8 (by decide)) (by decide) (p_M) rfl dX7_fault_112 ?_
      refine x_eqi (show _ = nI k from hL) ?_
      refine x_if_ne (tgt := 125) cx dX7_fault_115 (by decide) (fun hb115 => ?_) (fun hb115 => ?_)
      · refine x_bipush (v := (-4)) cx dX7_fault_125 (by decide) ?_
        exact x_iret cx hr (by rw [← hz, if_pos hb108, if_pos (Nat.pos_of_ne_zero (fun z => hb115 (by rw [z]; rfl)))]) (fun _ _ _ _ => rfl) dX7_fault_127
      · refine x_aload_n cx dX7_fault_118 rfl rfl ?_
        refine x_getX7 cx 7 (by decide) (fl_X7_131 cx) (zok_8 (by decide)) (by decide) (p_M) rfl dX7_fault_119 ?_
        refine x_eqi (show _ = nI k from hL) ?_
        refine x_goto (tgt := 127) cx dX7_fault_122 (by decide) ?_
        exact x_iret cx hr (by rw [← hz, if_neg (show ¬ 0 < k by rw [(nI_eq (b := 0) (by omega) (by decide)).mp hb115]; decide)]) (fun _ _ _ _ => rfl) dX7_fault_127
  | succ f ih =>
    intro k w hk hw hz
    rw [flt_w1] at hz
    have K : Xh p l e (zrm 2 0 0 42) s m args below meth cd 5 G (MQ below (zQi G 75 (zFault (S 15 1) L) (pic G S)) args s 0 0 (zA G)) 0 0 75 (pic G S) 62 [some (.ref (zad G 8 0)), some (.int w), some (.int (nI k)), some (.int (S 15 1 k)), some (.int (zItem (S 15 1 k)))] [] := by
      generalize S 15 1 k = c at hz ⊢
      refine x_iload_n cx dX7_fault_62 rfl rfl ?_
      refine x_if_eq (tgt := 78) cx dX7_fault_63 (by decide) (fun hb63 => ?_) (fun hb63 => ?_)
      · refine x_iload cx dX7_fault_78 rfl ?_
        refine x_if_ne (tgt := 85) cx dX7_fault_80 (by decide) (fun hb80 => ?_) (fun hb80 => ?_)
        · refine x_iload_n cx dX7_fault_85 rfl rfl ?_
          refine x_if_ne (tgt := 99) cx dX7_fault_86 (by decide) (fun hb86 => ?_) (fun hb86 => ?_)
          · refine x_iconst (v := 0) cx dX7_fault_99 (by decide) ?_
            refine x_istore_n (ls' := [_, _, _, _, _]) cx dX7_fault_100 rfl (by decide) rfl ?_
            refine x_iinc (v := nI (k + 1)) (ls' := [_, _, _, _, _]) cx dX7_fault_101 rfl (nI_inc _) (by decide) rfl ?_
            refine x_goto (tgt := 4) cx dX7_fault_104 (by decide) ?_
            have hf : ¬ zFit w c = 0 := by unfold zFit; rw [if_pos hb63]; exact hb80
            rw [if_neg hf] at hz
            have hn : zNw w c = 0 := by unfold zNw; rw [if_neg hb86]
            rw [hn] at hz
            exact x_ls rfl (by simp [lo]) (ih (k + 1) 0 (by omega) (by decide) hz)
          · refine x_iload_n cx dX7_fault_89 rfl rfl ?_
            refine x_bipush (v := 64) cx dX7_fault_90 (by decide) ?_
            refine x_icmp_ne (tgt := 99) cx dX7_fault_92 (by decide) (fun hb92 => ?_) (fun hb92 => ?_)
            · refine x_iconst (v := 0) cx dX7_fault_99 (by decide) ?_
              refine x_istore_n (ls' := [_, _, _, _, _]) cx dX7_fault_100 rfl (by decide) rfl ?_
              refine x_iinc (v := nI (k + 1)) (ls' := [_, _, _, _, _]) cx dX7_fault_101 rfl (nI_inc _) (by decide) rfl ?_
              refine x_goto (tgt := 4) cx dX7_fault_104 (by decide) ?_
              have hf : ¬ zFit w c = 0 := by unfold zFit; rw [if_pos hb63]; exact hb80
              rw [if_neg hf] at hz
              have hn : zNw w c = 0 := by unfold zNw; rw [if_pos hb86, if_neg hb92]
              rw [hn] at hz
              exact x_ls rfl (by simp [lo]) (ih (k + 1) 0 (by omega) (by decide) hz)
            · refine x_iconst (v := 1) cx dX7_fault_95 (by decide) ?_
              refine x_goto (tgt := 100) cx dX7_fault_96 (by decide) ?_
              refine x_istore_n (ls' := [_, _, _, _, _]) cx dX7_fault_100 rfl (by decide) rfl ?_
              refine x_iinc (v := nI (k + 1)) (ls' := [_, _, _, _, _]) cx dX7_fault_101 rfl (nI_inc _) (by decide) rfl ?_
              refine x_goto (tgt := 4) cx dX7_fault_104 (by decide) ?_
              have hf : ¬ zFit w c = 0 := by unfold zFit; rw [if_pos hb63]; exact hb80
              rw [if_neg hf] at hz
              have hn : zNw w c = 1 := by unfold zNw; rw [if_pos hb86, if_pos hb92]
              rw [hn] at hz
              exact x_ls rfl (by simp [lo]) (ih (k + 1) 1 (by omega) (by decide) hz)
        · refine x_iload_n cx dX7_fault_83 rfl rfl ?_
          exact x_iret cx hr (by rw [← hz, if_pos (show zFit w c = 0 by unfold zFit; rw [if_pos hb63]; exact hb80)]) (fun _ _ _ _ => rfl) dX7_fault_84
      · refine x_iload_n cx dX7_fault_66 rfl rfl ?_
        refine x_Si (rest := []) cx (c_X7_digit l G _ _ _) gS_X7_134 ndX7_digit ⟨Nat.le_of_ble_eq_true rfl, Nat.le_of_ble_eq_true rfl⟩ rfl rfl (Nat.le_of_ble_eq_true rfl) dX7_fault_67 ⟨Nat.le_of_ble_eq_true rfl, Nat.le_of_ble_eq_true rfl⟩ ?_
        refine x_bipush (v := (-4)) cx dX7_fault_70 (by decide) ?_
        refine x_icmp_ne (tgt := 85) cx dX7_fault_72 (by decide) (fun hb72 => ?_) (fun hb72 => ?_)
        · refine x_iload_n cx dX7_fault_85 rfl rfl ?_
          refine x_if_ne (tgt := 99) cx dX7_fault_86 (by decide) (fun hb86 => ?_) (fun hb86 => ?_)
          · refine x_iconst (v := 0) cx dX7_fault_99 (by decide) ?_
            refine x_istore_n (ls' := [_, _, _, _, _]) cx dX7_fault_100 rfl (by decide) rfl ?_
            refine x_iinc (v := nI (k + 1)) (ls' := [_, _, _, _, _]) cx dX7_fault_101 rfl (nI_inc _) (by decide) rfl ?_
            refine x_goto (tgt := 4) cx dX7_fault_104 (by decide) ?_
            have hf : ¬ zFit w c = 0 := by unfold zFit; rw [if_neg hb63, if_neg (fun z => hb72 ((zDig_hex c).1.mpr z))]; decide
            rw [if_neg hf] at hz
            have hn : zNw w c = 0 := by unfold zNw; rw [if_neg hb86]
            rw [hn] at hz
            exact x_ls rfl (by simp [lo]) (ih (k + 1) 0 (by omega) (by decide) hz)
          · refine x_iload_n cx dX7_fault_89 rfl rfl ?_
            refine x_bipush (v := 64) cx dX7_fault_90 (by decide) ?_
            refine x_icmp_ne (tgt := 99) cx dX7_fault_92 (by decide) (fun hb92 => ?_) (fun hb92 => ?_)
            · refine x_iconst (v := 0) cx dX7_fault_99 (by decide) ?_
              refine x_istore_n (ls' := [_, _, _, _, _]) cx dX7_fault_100 rfl (by decide) rfl ?_
              refine x_iinc (v := nI (k + 1)) (ls' := [_, _, _, _, _]) cx dX7_fault_101 rfl (nI_inc _) (by decide) rfl ?_
              refine x_goto (tgt := 4) cx dX7_fault_104 (by decide) ?_
              have hf : ¬ zFit w c = 0 := by unfold zFit; rw [if_neg hb63, if_neg (fun z => hb72 ((zDig_hex c).1.mpr z))]; decide
              rw [if_neg hf] at hz
              have hn : zNw w c = 0 := by unfold zNw; rw [if_pos hb86, if_neg hb92]
              rw [hn] at hz
              exact x_ls rfl (by simp [lo]) (ih (k + 1) 0 (by omega) (by decide) hz)
            · refine x_iconst (v := 1) cx dX7_fault_95 (by decide) ?_
              refine x_goto (tgt := 100) cx dX7_fault_96 (by decide) ?_
              refine x_istore_n (ls' := [_, _, _, _, _]) cx dX7_fault_100 rfl (by decide) rfl ?_
              refine x_iinc (v := nI (k + 1)) (ls' := [_, _, _, _, _]) cx dX7_fault_101 rfl (nI_inc _) (by decide) rfl ?_
              refine x_goto (tgt := 4) cx dX7_fault_104 (by decide) ?_
              have hf : ¬ zFit w c = 0 := by unfold zFit; rw [if_neg hb63, if_neg (fun z => hb72 ((zDig_hex c).1.mpr z))]; decide
              rw [if_neg hf] at hz
              have hn : zNw w c = 1 := by unfold zNw; rw [if_pos hb86, if_pos hb92]
              rw [hn] at hz
              exact x_ls rfl (by simp [lo]) (ih (k + 1) 1 (by omega) (by decide) hz)
        · refine x_goto (tgt := 83) cx dX7_fault_75 (by decide) ?_
          refine x_iload_n cx dX7_fault_83 rfl rfl ?_
          exact x_iret cx hr (by rw [← hz, if_pos (show zFit w c = 0 by unfold zFit; rw [if_neg hb63, if_pos ((zDig_hex c).1.mp hb72)])]) (fun _ _ _ _ => rfl) dX7_fault_84
    refine x_iload_n cx dX7_fault_4 rfl rfl ?_
    refine x_aload_n cx dX7_fault_5 rfl rfl ?_
    refine x_getX7 cx 7 (by decide) (fl_X7_131 cx) (zok_8 (by decide)) (by decide) (p_M) rfl dX7_fault_6 ?_
    refine x_eqi (show _ = nI L from hL) ?_
    refine x_icmp_ge_f (tgt := 107) cx dX7_fault_9 (by decide) (nI_ge (by omega) (by omega)) ?_
    refine x_aload_n cx dX7_fault_12 rfl rfl ?_
    refine x_getX7 cx 6 (by decide) (fl_X7_22 cx) (zok_8 (by decide)) (by decide) (p_M) rfl dX7_fault_13 ?_
    refine x_iload_n cx dX7_fault_16 rfl rfl ?_
    refine x_iald (t := k) cx (zok_8 (by decide)) (by decide) (p_text) rfl (by omega) (by decide) (tr_lt (by omega)) dX7_fault_17 ?_
    refine x_istore_n (ls' := [_, _, _, _, _]) cx dX7_fault_18 rfl (by decide) rfl ?_
    refine x_iload_n cx dX7_fault_19 rfl rfl ?_
    refine x_bipush (v := 48) cx dX7_fault_20 (by decide) ?_
    refine x_icmp_eq (tgt := 55) cx dX7_fault_22 (by decide) (fun hb22 => ?_) (fun hb22 => ?_)
    · refine x_iconst (v := 1) cx dX7_fault_55 (by decide) ?_
      refine x_goto (tgt := 60) cx dX7_fault_56 (by decide) ?_
      refine x_istore (ls' := [_, _, _, _, _]) cx dX7_fault_60 (by decide) rfl ?_
      have hi : zItem (S 15 1 k) = 1 := by unfold zItem; rw [if_pos hb22]
      exact x_ls rfl (by simp [lo, hi]) K
    · refine x_iload_n cx dX7_fault_25 rfl rfl ?_
      refine x_bipush (v := 49) cx dX7_fault_26 (by decide) ?_
      refine x_icmp_eq (tgt := 55) cx dX7_fault_28 (by decide) (fun hb28 => ?_) (fun hb28 => ?_)
      · refine x_iconst (v := 1) cx dX7_fault_55 (by decide) ?_
        refine x_goto (tgt := 60) cx dX7_fault_56 (by decide) ?_
        refine x_istore (ls' := [_, _, _, _, _]) cx dX7_fault_60 (by decide) rfl ?_
        have hi : zItem (S 15 1 k) = 1 := by unfold zItem; rw [if_neg hb22, if_pos hb28]
        exact x_ls rfl (by simp [lo, hi]) K
      · refine x_iload_n cx dX7_fault_31 rfl rfl ?_
        refine x_bipush (v := 97) cx dX7_fault_32 (by decide) ?_
        refine x_icmp_eq (tgt := 55) cx dX7_fault_34 (by decide) (fun hb34 => ?_) (fun hb34 => ?_)
        · refine x_iconst (v := 1) cx dX7_fault_55 (by decide) ?_
          refine x_goto (tgt := 60) cx dX7_fault_56 (by decide) ?_
          refine x_istore (ls' := [_, _, _, _, _]) cx dX7_fault_60 (by decide) rfl ?_
          have hi : zItem (S 15 1 k) = 1 := by unfold zItem; rw [if_neg hb22, if_neg hb28, if_pos hb34]
          exact x_ls rfl (by simp [lo, hi]) K
        · refine x_iload_n cx dX7_fault_37 rfl rfl ?_
          refine x_bipush (v := 98) cx dX7_fault_38 (by decide) ?_
          refine x_icmp_eq (tgt := 55) cx dX7_fault_40 (by decide) (fun hb40 => ?_) (fun hb40 => ?_)
          · refine x_iconst (v := 1) cx dX7_fault_55 (by decide) ?_
            refine x_goto (tgt := 60) cx dX7_fault_56 (by decide) ?_
            refine x_istore (ls' := [_, _, _, _, _]) cx dX7_fault_60 (by decide) rfl ?_
            have hi : zItem (S 15 1 k) = 1 := by unfold zItem; rw [if_neg hb22, if_neg hb28, if_neg hb34, if_pos hb40]
            exact x_ls rfl (by simp [lo, hi]) K
          · refine x_iload_n cx dX7_fault_43 rfl rfl ?_
            refine x_bipush (v := 63) cx dX7_fault_44 (by decide) ?_
            refine x_icmp_eq (tgt := 55) cx dX7_fault_46 (by decide) (fun hb46 => ?_) (fun hb46 => ?_)
            · refine x_iconst (v := 1) cx dX7_fault_55 (by decide) ?_
              refine x_goto (tgt := 60) cx dX7_fault_56 (by decide) ?_
              refine x_istore (ls' := [_, _, _, _, _]) cx dX7_fault_60 (by decide) rfl ?_
              have hi : zItem (S 15 1 k) = 1 := by unfold zItem; rw [if_neg hb22, if_neg hb28, if_neg hb34, if_neg hb40, if_pos hb46]
              exact x_ls rfl (by simp [lo, hi]) K
            · refine x_iload_n cx dX7_fault_49 rfl rfl ?_
              refine x_bipush (v := 64) cx dX7_fault_50 (by decide) ?_
              refine x_icmp_ne (tgt := 59) cx dX7_fault_52 (by decide) (fun hb52 => ?_) (fun hb52 => ?_)
              · refine x_iconst (v := 0) cx dX7_fault_59 (by decide) ?_
                refine x_istore (ls' := [_, _, _, _, _]) cx dX7_fault_60 (by decide) rfl ?_
                have hi : zItem (S 15 1 k) = 0 := by unfold zItem; rw [if_neg hb22, if_neg hb28, if_neg hb34, if_neg hb40, if_neg hb46, if_neg hb52]
                exact x_ls rfl (by simp [lo, hi]) K
              · refine x_iconst (v := 1) cx dX7_fault_55 (by decide) ?_
                refine x_goto (tgt := 60) cx dX7_fault_56 (by decide) ?_
                refine x_istore (ls' := [_, _, _, _, _]) cx dX7_fault_60 (by decide) rfl ?_
                have hi : zItem (S 15 1 k) = 1 := by unfold zItem; rw [if_neg hb22, if_neg hb28, if_neg hb34, if_neg hb40, if_neg hb46, if_pos hb52]
                exact x_ls rfl (by simp [lo, hi]) K

set_option maxHeartbeats 4000000 in
set_option maxRecDepth 100000 in
theorem c_X7_ifIdentified (l : Launch) (G : zG) (S : zS) (hW : zWF (S 8)) (h0 : Nat) (hs : S 15 0 0 = nI h0) (h4 : h0 ≤ 4) : Met l yX7_ifIdentified (zws yX7_ifIdentified cX7_ifIdentified 2 (some .int)) (zrm 7 0 0 158) (zPc G 75 (pic G S) [.ref (zad G 8 0)]) (zQi G 75 (mIdent (S 8) 0 3) (pic G (up (fr (up S 9 (S 8)) (farF 1)) 8 (S 8)))) 0 0 (zA G) := by
  refine zMet npX7_ifIdentified rfl (Nat.le_of_ble_eq_true rfl) ?_
  intro p e s m args below meth cd hargs cx hr hin0
  have cx : Cx p s m args meth cd cX7_ifIdentified 2 RX7 G := cx
  refine x_ls (ls' := [some (.ref (zad G 8 0)), none]) rfl (fun _ h => h) ?_
  refine x_aload_n cx dX7_ifIdentified_0 rfl rfl ?_
  refine x_getX7 cx 0 (by decide) (fl_X7_7 cx) (zok_8 (by decide)) (by decide) (p_M) rfl dX7_ifIdentified_1 ?_
  refine x_iconst (v := 0) cx dX7_ifIdentified_4 (by decide) ?_
  refine x_aload_n cx dX7_ifIdentified_5 rfl rfl ?_
  refine x_getX7 cx 1 (by decide) (fl_X7_13 cx) (zok_8 (by decide)) (by decide) (p_M) rfl dX7_ifIdentified_6 ?_
  refine x_iconst (v := 0) cx dX7_ifIdentified_9 (by decide) ?_
  refine x_Sv (rest := []) cx (c_X7_copyRow l G _ (pic G (up S 9 (S 8))) 1 2 66 66 _ _ 0 0 (by decide) (by decide) (by decide) p_zg p_spare (by decide) (by decide) (by decide) (by decide) cp_z_spare) gS_X7_36 ndX7_copyRow ⟨Nat.le_of_ble_eq_true rfl, Nat.le_of_ble_eq_true rfl⟩ rfl rfl (Nat.le_of_ble_eq_true rfl) dX7_ifIdentified_10 ⟨Nat.le_of_ble_eq_true rfl, Nat.le_of_ble_eq_true rfl⟩ ?_
  refine x_S (S' := up (up S 9 (S 8)) 8 (S 8)) (by conv => { rhs; arg 3; rw [← up_ne S (S 8) (show 8 ≠ 9 by decide)] }; rw [up_self]) ?_
  refine x_aload_n cx dX7_ifIdentified_13 rfl rfl ?_
  refine x_Vv (C := RX7) (T := TX7) (N := 9) (rest := []) cx (c_X7_identifyNow l G _ _ hW) gV_X7_118 ndX7_identifyNow rfl ⟨Nat.le_of_ble_eq_true rfl, Nat.le_of_ble_eq_true rfl⟩ (zok_8 (by decide)) (by decide) (p_M) rfl rfl rfl (Nat.le_of_ble_eq_true rfl) dX7_ifIdentified_14 ⟨Nat.le_of_ble_eq_true rfl, Nat.le_of_ble_eq_true rfl⟩ ?_
  refine x_aload_n cx dX7_ifIdentified_17 rfl rfl ?_
  refine x_getX7 cx 0 (by decide) (fl_X7_7 cx) (zok_8 (by decide)) (by decide) (p_M) rfl dX7_ifIdentified_18 ?_
  refine x_iconst (v := 3) cx dX7_ifIdentified_21 (by decide) ?_
  refine x_iald (t := 3) cx (zok_8 (by decide)) (by decide) p_zg rfl (by decide) (by decide) (trz (by decide)) dX7_ifIdentified_22 ?_
  refine x_eqi (show _ = mIdent (S 8) 0 3 by rw [up_same]) ?_
  refine x_istore_n (ls' := [_, _]) cx dX7_ifIdentified_23 rfl (by decide) rfl ?_
  refine x_aload_n cx dX7_ifIdentified_24 rfl rfl ?_
  refine x_getX7 cx 1 (by decide) (fl_X7_13 cx) (zok_8 (by decide)) (by decide) (p_M) rfl dX7_ifIdentified_25 ?_
  refine x_iconst (v := 0) cx dX7_ifIdentified_28 (by decide) ?_
  refine x_aload_n cx dX7_ifIdentified_29 rfl rfl ?_
  refine x_getX7 cx 0 (by decide) (fl_X7_7 cx) (zok_8 (by decide)) (by decide) (p_M) rfl dX7_ifIdentified_30 ?_
  refine x_iconst (v := 0) cx dX7_ifIdentified_33 (by decide) ?_
  refine x_Sv (rest := []) cx (c_X7_copyRow l G _ (pic G (up (up (fr (up S 9 (S 8)) (farF 1)) 8 (mIdent (S 8))) 8 (up (fr (up S 9 (S 8)) (farF 1)) 8 (mIdent (S 8)) 9))) 2 1 66 66 _ _ 0 0 (by decide) (by decide) (by decide) p_spare p_zg (by decide) (by decide) (by decide) (by decide) cp_spare_z) gS_X7_36 ndX7_copyRow ⟨Nat.le_of_ble_eq_true rfl, Nat.le_of_ble_eq_true rfl⟩ rfl rfl (Nat.le_of_ble_eq_true rfl) dX7_ifIdentified_34 ⟨Nat.le_of_ble_eq_true rfl, Nat.le_of_ble_eq_true rfl⟩ ?_
  refine x_S (S' := up (fr (up S 9 (S 8)) (farF 1)) 8 (S 8)) (by rw [up_up, up_ne _ (mIdent (S 8)) (show 9 ≠ 8 by decide), fr_ne _ _ (show 9 ≠ 15 by decide), up_same]) ?_
  refine x_iload_n cx dX7_ifIdentified_37 rfl rfl ?_
  exact x_iret cx hr rfl (fun _ _ _ _ => rfl) dX7_ifIdentified_38

set_option maxHeartbeats 4000000 in
set_option maxRecDepth 100000 in
theorem c_X7_ifExchanged (l : Launch) (G : zG) (S : zS) (hW : zWF (S 8)) (h0 : Nat) (hs : S 15 0 0 = nI h0) (h4 : h0 ≤ 4) (q v : Int32) : Met l yX7_ifExchanged (zws yX7_ifExchanged cX7_ifExchanged 5 (some .int)) (zrm 7 0 0 164) (zPc G 75 (pic G S) [.ref (zad G 8 0), .int q, .int v]) (zQi G 75 (if eArg (S 8) q v 255 = 0 then zExchO (S 8) (tn q) v else eArg (S 8) q v 255) (pic G (if eArg (S 8) q v 255 = 0 then up (fr (up S 9 (S 8)) (farF 1)) 8 (S 8) else S))) 0 0 (zA G) := by
  refine zMet npX7_ifExchanged rfl (Nat.le_of_ble_eq_true rfl) ?_
  intro p e s m args below meth cd hargs cx hr hin0
  have cx : Cx p s m args meth cd cX7_ifExchanged 5 RX7 G := cx
  refine x_ls (ls' := [some (.ref (zad G 8 0)), some (.int q), some (.int v), none, none]) rfl (fun _ h => h) ?_
  refine x_aload_n cx dX7_ifExchanged_0 rfl rfl ?_
  refine x_iload_n cx dX7_ifExchanged_1 rfl rfl ?_
  refine x_iload_n cx dX7_ifExchanged_2 rfl rfl ?_
  refine x_Vi (C := RX7) (T := TX7) (N := 9) (rest := []) cx (c_X7_whyNotExchange l G _ hW h0 hs h4 _ _) gV_X7_125 ndX7_whyNotExchange rfl ⟨Nat.le_of_ble_eq_true rfl, Nat.le_of_ble_eq_true rfl⟩ (zok_8 (by decide)) (by decide) (p_M) rfl rfl rfl (Nat.le_of_ble_eq_true rfl) dX7_ifExchanged_3 ⟨Nat.le_of_ble_eq_true rfl, Nat.le_of_ble_eq_true rfl⟩ ?_
  refine x_istore_n (ls' := [_, _, _, _, _]) cx dX7_ifExchanged_6 rfl (by decide) rfl ?_
  refine x_iload_n cx dX7_ifExchanged_7 rfl rfl ?_
  refine x_if_ge (tgt := 13) cx dX7_ifExchanged_8 (by decide) (fun hb8 => ?_) (fun hb8 => ?_)
  · have he : eArg (S 8) q v 255 = 0 := by
      rcases eArg_cases (S 8) q v 255 with z | z | z
      · exact z
      all_goals (rw [z] at hb8; exact absurd hb8 (by decide))
    have hh8 : ¬ zHas (S 8) q = 0 := fun z => by unfold eArg at he; rw [if_pos z] at he; exact absurd he (by decide)
    obtain ⟨t, ht, rfl⟩ := has_ix hW hh8
    have h6 := hW.n6
    have htn : tn (nI t) = t := nI_clamp (by omega)
    try simp only [htn]
    refine x_aload_n cx dX7_ifExchanged_13 rfl rfl ?_
    refine x_getX7 cx 0 (by decide) (fl_X7_7 cx) (zok_8 (by decide)) (by decide) (p_M) rfl dX7_ifExchanged_14 ?_
    refine x_iconst (v := 0) cx dX7_ifExchanged_17 (by decide) ?_
    refine x_aload_n cx dX7_ifExchanged_18 rfl rfl ?_
    refine x_getX7 cx 1 (by decide) (fl_X7_13 cx) (zok_8 (by decide)) (by decide) (p_M) rfl dX7_ifExchanged_19 ?_
    refine x_iconst (v := 0) cx dX7_ifExchanged_22 (by decide) ?_
    refine x_Sv (rest := []) cx (c_X7_copyRow l G _ (pic G (up S 9 (S 8))) 1 2 66 66 _ _ 0 0 (by decide) (by decide) (by decide) p_zg p_spare (by decide) (by decide) (by decide) (by decide) cp_z_spare) gS_X7_36 ndX7_copyRow ⟨Nat.le_of_ble_eq_true rfl, Nat.le_of_ble_eq_true rfl⟩ rfl rfl (Nat.le_of_ble_eq_true rfl) dX7_ifExchanged_23 ⟨Nat.le_of_ble_eq_true rfl, Nat.le_of_ble_eq_true rfl⟩ ?_
    refine x_S (S' := up (up S 9 (S 8)) 8 (S 8)) (by conv => { rhs; arg 3; rw [← up_ne S (S 8) (show 8 ≠ 9 by decide)] }; rw [up_self]) ?_
    refine x_aload_n cx dX7_ifExchanged_26 rfl rfl ?_
    refine x_iload_n cx dX7_ifExchanged_27 rfl rfl ?_
    refine x_iload_n cx dX7_ifExchanged_28 rfl rfl ?_
    refine x_Vi (C := RX7) (T := TX7) (N := 9) (rest := []) cx (c_X7_exchangeNow l G _ _ hW t ht _) gV_X7_128 ndX7_exchangeNow rfl ⟨Nat.le_of_ble_eq_true rfl, Nat.le_of_ble_eq_true rfl⟩ (zok_8 (by decide)) (by decide) (p_M) rfl rfl rfl (Nat.le_of_ble_eq_true rfl) dX7_ifExchanged_29 ⟨Nat.le_of_ble_eq_true rfl, Nat.le_of_ble_eq_true rfl⟩ ?_
    refine x_istore (ls' := [_, _, _, _, _]) cx dX7_ifExchanged_32 (by decide) rfl ?_
    refine x_aload_n cx dX7_ifExchanged_34 rfl rfl ?_
    refine x_getX7 cx 1 (by decide) (fl_X7_13 cx) (zok_8 (by decide)) (by decide) (p_M) rfl dX7_ifExchanged_35 ?_
    refine x_iconst (v := 0) cx dX7_ifExchanged_38 (by decide) ?_
    refine x_aload_n cx dX7_ifExchanged_39 rfl rfl ?_
    refine x_getX7 cx 0 (by decide) (fl_X7_7 cx) (zok_8 (by decide)) (by decide) (p_M) rfl dX7_ifExchanged_40 ?_
    refine x_iconst (v := 0) cx dX7_ifExchanged_43 (by decide) ?_
    refine x_Sv (rest := []) cx (c_X7_copyRow l G _ (pic G (up (up (fr (up S 9 (S 8)) (farF 1)) 8 (zExch (S 8) t v)) 8 (up (fr (up S 9 (S 8)) (farF 1)) 8 (zExch (S 8) t v) 9))) 2 1 66 66 _ _ 0 0 (by decide) (by decide) (by decide) p_spare p_zg (by decide) (by decide) (by decide) (by decide) cp_spare_z) gS_X7_36 ndX7_copyRow ⟨Nat.le_of_ble_eq_true rfl, Nat.le_of_ble_eq_true rfl⟩ rfl rfl (Nat.le_of_ble_eq_true rfl) dX7_ifExchanged_44 ⟨Nat.le_of_ble_eq_true rfl, Nat.le_of_ble_eq_true rfl⟩ ?_
    refine x_S (S' := up (fr (up S 9 (S 8)) (farF 1)) 8 (S 8)) (by rw [up_up, up_ne _ (zExch (S 8) t v) (show 9 ≠ 8 by decide), fr_ne _ _ (show 9 ≠ 15 by decide), up_same]) ?_
    refine x_iload cx dX7_ifExchanged_47 rfl ?_
    exact x_iret cx hr (by rw [if_pos he]) (by rw [if_pos he]; exact fun _ _ _ _ => rfl) dX7_ifExchanged_49
  · refine x_iload_n cx dX7_ifExchanged_11 rfl rfl ?_
    have he : ¬ eArg (S 8) q v 255 = 0 := fun z => hb8 (by rw [z]; decide)
    exact x_iret cx hr (by rw [if_neg he]) (by intro _ _ _ _; rw [if_neg he]) dX7_ifExchanged_12

set_option maxHeartbeats 4000000 in
set_option maxRecDepth 100000 in
theorem c_X7_bypassed (l : Launch) (G : zG) (S : zS) (hW : zWF (S 8)) (h0 : Nat) (hs : S 15 0 0 = nI h0) (h4 : h0 ≤ 4) : Met l yX7_bypassed (zws yX7_bypassed cX7_bypassed 4 (some .float)) (zrm 2 0 0 43) (zPc G 75 (pic G S) [.ref (zad G 8 0)]) (zQf G 75 (zFB (S 8)) (pic G (S))) 0 0 (zA G) := by
  refine zMet npX7_bypassed rfl (Nat.le_of_ble_eq_true rfl) ?_
  intro p e s m args below meth cd hargs cx hr hin0
  have cx : Cx p s m args meth cd cX7_bypassed 4 RX7 G := cx
  refine x_ls (ls' := [some (.ref (zad G 8 0)), none, none, none]) rfl (fun _ h => h) ?_
  have h6 := hW.n6
  refine x_iconst (v := 0) cx dX7_bypassed_0 (by decide) ?_
  refine x_istore_n (ls' := [_, _, _, _]) cx dX7_bypassed_1 rfl (by decide) rfl ?_
  refine x_iconst (v := 0) cx dX7_bypassed_2 (by decide) ?_
  refine x_istore_n (ls' := [_, _, _, _]) cx dX7_bypassed_3 rfl (by decide) rfl ?_
  suffices K : ∀ f k : Nat, k + f = num (S 8) → Xh p l e _ s m args below meth cd 4 G _ 0 0 75 (pic G S) 4 [some (.ref (zad G 8 0)), some (.int (zSumL zByp (S 8) k)), some (.int (nI k)), none] [] from K (num (S 8)) 0 (by omega)
  intro f
  induction f with
  | zero =>
    intro k hk
    obtain rfl : k = num (S 8) := by omega
    refine x_iload_n cx dX7_bypassed_4 rfl rfl ?_
    refine x_aload_n cx dX7_bypassed_5 rfl rfl ?_
    refine x_getX7 cx 0 (by decide) (fl_X7_7 cx) (zok_8 (by decide)) (by decide) (p_M) rfl dX7_bypassed_6 ?_
    refine x_iconst (v := 0) cx dX7_bypassed_9 (by decide) ?_
    refine x_iald (t := 0) cx (zok_8 (by decide)) (by decide) p_zg rfl (by decide) (by decide) (trz (by decide)) dX7_bypassed_10 ?_
    refine x_eqi (show _ = nI (num (S 8)) from hW.sz) ?_
    refine x_icmp_ge_t (tgt := 44) cx dX7_bypassed_11 (by decide) (nI_le (Nat.le_refl _) (by omega)) ?_
    refine x_iload_n cx dX7_bypassed_44 rfl rfl ?_
    refine x_i2f cx dX7_bypassed_45 ?_
    refine x_fstore_n (ls' := [_, _, _, _]) cx dX7_bypassed_46 rfl (by decide) rfl ?_
    refine x_aload_n cx dX7_bypassed_47 rfl rfl ?_
    refine x_getX7 cx 0 (by decide) (fl_X7_7 cx) (zok_8 (by decide)) (by decide) (p_M) rfl dX7_bypassed_48 ?_
    refine x_iconst (v := 0) cx dX7_bypassed_51 (by decide) ?_
    refine x_iald (t := 0) cx (zok_8 (by decide)) (by decide) p_zg rfl (by decide) (by decide) (trz (by decide)) dX7_bypassed_52 ?_
    refine x_i2f cx dX7_bypassed_53 ?_
    refine x_fstore_n (ls' := [_, _, _, _]) cx dX7_bypassed_54 rfl (by decide) rfl ?_
    refine x_aload_n cx dX7_bypassed_55 rfl rfl ?_
    refine x_getX7 cx 0 (by decide) (fl_X7_7 cx) (zok_8 (by decide)) (by decide) (p_M) rfl dX7_bypassed_56 ?_
    refine x_iconst (v := 0) cx dX7_bypassed_59 (by decide) ?_
    refine x_iald (t := 0) cx (zok_8 (by decide)) (by decide) p_zg rfl (by decide) (by decide) (trz (by decide)) dX7_bypassed_60 ?_
    refine x_if_ne (tgt := 68) cx dX7_bypassed_61 (by decide) (fun hb61 => ?_) (fun hb61 => ?_)
    · have hnz : ¬ num (S 8) = 0 := fun z => hb61 (by rw [hW.sz, z]; rfl)
      refine x_fload_n cx dX7_bypassed_68 rfl rfl ?_
      refine x_fload_n cx dX7_bypassed_69 rfl rfl ?_
      refine x_fdiv cx dX7_bypassed_70 (zFB_ok hW hnz) ?_
      exact x_fret cx hr (by unfold zFB; rw [if_neg hnz]; rfl) (fun _ _ _ _ => rfl) dX7_bypassed_71
    · refine x_fconst0 cx dX7_bypassed_64 ?_
      refine x_goto (tgt := 71) cx dX7_bypassed_65 (by decide) ?_
      exact x_fret cx hr (by unfold zFB; rw [if_pos ((nI_eq (b := 0) (by omega) (by decide)).mp (by rw [← hW.sz]; exact hb61))]) (fun _ _ _ _ => rfl) dX7_bypassed_71
  | succ f ih =>
    intro k hk
    refine x_iload_n cx dX7_bypassed_4 rfl rfl ?_
    refine x_aload_n cx dX7_bypassed_5 rfl rfl ?_
    refine x_getX7 cx 0 (by decide) (fl_X7_7 cx) (zok_8 (by decide)) (by decide) (p_M) rfl dX7_bypassed_6 ?_
    refine x_iconst (v := 0) cx dX7_bypassed_9 (by decide) ?_
    refine x_iald (t := 0) cx (zok_8 (by decide)) (by decide) p_zg rfl (by decide) (by decide) (trz (by decide)) dX7_bypassed_10 ?_
    refine x_eqi (show _ = nI (num (S 8)) from hW.sz) ?_
    refine x_icmp_ge_f (tgt := 44) cx dX7_bypassed_11 (by decide) (nI_ge (by omega) (by omega)) ?_
    refine x_iload_n cx dX7_bypassed_14 rfl rfl ?_
    refine x_aload_n cx dX7_bypassed_15 rfl rfl ?_
    refine x_iload_n cx dX7_bypassed_16 rfl rfl ?_
    refine x_S (up_self S 8).symm ?_
    refine x_Vi (C := RX7) (T := TX7) (N := 9) (rest := [_]) cx (c_X7_selectsCells l G _ _ k (by omega)) gV_X7_51 ndX7_selectsCells rfl ⟨Nat.le_of_ble_eq_true rfl, Nat.le_of_ble_eq_true rfl⟩ (zok_8 (by decide)) (by decide) (p_M) rfl rfl rfl (Nat.le_of_ble_eq_true rfl) dX7_bypassed_17 ⟨Nat.le_of_ble_eq_true rfl, Nat.le_of_ble_eq_true rfl⟩ ?_
    refine x_S (up_self S 8) ?_
    refine x_if_ne (tgt := 31) cx dX7_bypassed_20 (by decide) (fun hb20 => ?_) (fun hb20 => ?_)
    · refine x_iconst (v := 0) cx dX7_bypassed_31 (by decide) ?_
      refine x_goto (tgt := 36) cx dX7_bypassed_32 (by decide) ?_
      refine x_iadd cx dX7_bypassed_36 ?_
      refine x_istore_n (ls' := [_, _, _, _]) cx dX7_bypassed_37 rfl (by decide) rfl ?_
      refine x_iinc (v := nI (k + 1)) (ls' := [_, _, _, _]) cx dX7_bypassed_38 rfl (nI_inc _) (by decide) rfl ?_
      refine x_goto (tgt := 4) cx dX7_bypassed_41 (by decide) ?_
      simp only [zselC_0, zselI_0, Decidable.not_not] at hb20
      have hz : zByp (S 8 (k + 3)) = 0 := by unfold zByp zselB; simp [hb20]
      exact x_ls rfl (by simp [lo, zSumL, hz]) (ih (k + 1) (by omega))
    · refine x_aload_n cx dX7_bypassed_23 rfl rfl ?_
      refine x_iload_n cx dX7_bypassed_24 rfl rfl ?_
      refine x_S (up_self S 8).symm ?_
      refine x_Vi (C := RX7) (T := TX7) (N := 9) (rest := [_]) cx (c_X7_selectsIdentity l G _ _ k (by omega) (hW.chip (by omega)).2.2.2) gV_X7_55 ndX7_selectsIdentity rfl ⟨Nat.le_of_ble_eq_true rfl, Nat.le_of_ble_eq_true rfl⟩ (zok_8 (by decide)) (by decide) (p_M) rfl rfl rfl (Nat.le_of_ble_eq_true rfl) dX7_bypassed_25 ⟨Nat.le_of_ble_eq_true rfl, Nat.le_of_ble_eq_true rfl⟩ ?_
      refine x_S (up_self S 8) ?_
      refine x_if_eq (tgt := 35) cx dX7_bypassed_28 (by decide) (fun hb28 => ?_) (fun hb28 => ?_)
      · refine x_iconst (v := 1) cx dX7_bypassed_35 (by decide) ?_
        refine x_iadd cx dX7_bypassed_36 ?_
        refine x_istore_n (ls' := [_, _, _, _]) cx dX7_bypassed_37 rfl (by decide) rfl ?_
        refine x_iinc (v := nI (k + 1)) (ls' := [_, _, _, _]) cx dX7_bypassed_38 rfl (nI_inc _) (by decide) rfl ?_
        refine x_goto (tgt := 4) cx dX7_bypassed_41 (by decide) ?_
        simp only [zselC_0, zselI_0, Decidable.not_not] at hb20 hb28
        have hz : zByp (S 8 (k + 3)) = 1 := by unfold zByp zselB; simp [hb20, hb28]
        exact x_ls rfl (by simp [lo, zSumL, hz]) (ih (k + 1) (by omega))
      · refine x_iconst (v := 0) cx dX7_bypassed_31 (by decide) ?_
        refine x_goto (tgt := 36) cx dX7_bypassed_32 (by decide) ?_
        refine x_iadd cx dX7_bypassed_36 ?_
        refine x_istore_n (ls' := [_, _, _, _]) cx dX7_bypassed_37 rfl (by decide) rfl ?_
        refine x_iinc (v := nI (k + 1)) (ls' := [_, _, _, _]) cx dX7_bypassed_38 rfl (nI_inc _) (by decide) rfl ?_
        refine x_goto (tgt := 4) cx dX7_bypassed_41 (by decide) ?_
        simp only [zselC_0, zselI_0, Decidable.not_not] at hb20 hb28
        have hz : zByp (S 8 (k + 3)) = 0 := by unfold zByp zselB; simp [hb20, hb28]
        exact x_ls rfl (by simp [lo, zSumL, hz]) (ih (k + 1) (by omega))

set_option maxHeartbeats 4000000 in
set_option maxRecDepth 100000 in
theorem c_X7_run (l : Launch) (G : zG) (S : zS) (hW : zWF (S 8)) (h0 : Nat) (hs : S 15 0 0 = nI h0) (h4 : h0 ≤ 4) (L : Nat) (hL : S 15 0 2 = nI L) (h80 : L ≤ 80) : Met l yX7_run (zws yX7_run cX7_run 8 (some .int)) (zrm 6 0 0 136) (zPc G 75 (pic G S) [.ref (zad G 8 0)]) (zQi G 75 (if zFault (S 15 1) L = -4 then zRunO (S 15 1) L L 0 0 0 (S 8) else -100 - zFault (S 15 1) L) (pic G (if zFault (S 15 1) L = -4 then up (fr (mRec S) (zRunF (S 15 1) L L 0 (S 15 2))) 8 (zRunX (S 15 1) L L 0 (S 8)) else S))) 0 0 (zA G) := by
  refine zMet npX7_run rfl (Nat.le_of_ble_eq_true rfl) ?_
  intro p e s m args below meth cd hargs cx hr hin0
  have cx : Cx p s m args meth cd cX7_run 8 RX7 G := cx
  refine x_ls (ls' := [some (.ref (zad G 8 0)), none, none, none, none, none, none, none]) rfl (fun _ h => h) ?_
  refine x_aload_n cx dX7_run_0 rfl rfl ?_
  refine x_Vi (C := RX7) (T := TX7) (N := 9) (rest := []) cx (c_X7_fault l G _ L hL h80) gV_X7_137 ndX7_fault rfl ⟨Nat.le_of_ble_eq_true rfl, Nat.le_of_ble_eq_true rfl⟩ (zok_8 (by decide)) (by decide) (p_M) rfl rfl rfl (Nat.le_of_ble_eq_true rfl) dX7_run_1 ⟨Nat.le_of_ble_eq_true rfl, Nat.le_of_ble_eq_true rfl⟩ ?_
  refine x_istore_n (ls' := [_, _, _, _, _, _, _, _]) cx dX7_run_4 rfl (by decide) rfl ?_
  refine x_iload_n cx dX7_run_5 rfl rfl ?_
  refine x_bipush (v := (-4)) cx dX7_run_6 (by decide) ?_
  refine x_icmp_eq (tgt := 16) cx dX7_run_8 (by decide) (fun hb8 => ?_) (fun hb8 => ?_)
  · refine x_aload_n cx dX7_run_16 rfl rfl ?_
    refine x_Vv (C := RX7) (T := TX7) (N := 9) (rest := []) cx (c_X7_record l G _ h0 hs h4) gV_X7_44 ndX7_record rfl ⟨Nat.le_of_ble_eq_true rfl, Nat.le_of_ble_eq_true rfl⟩ (zok_8 (by decide)) (by decide) (p_M) rfl rfl rfl (Nat.le_of_ble_eq_true rfl) dX7_run_17 ⟨Nat.le_of_ble_eq_true rfl, Nat.le_of_ble_eq_true rfl⟩ ?_
    refine x_S (S' := up (mRec S) 8 (S 8)) (by rw [← mRec_8 hs h4, up_self]) ?_
    refine x_iconst (v := 0) cx dX7_run_20 (by decide) ?_
    refine x_istore_n (ls' := [_, _, _, _, _, _, _, _]) cx dX7_run_21 rfl (by decide) rfl ?_
    refine x_iconst (v := 0) cx dX7_run_22 (by decide) ?_
    refine x_istore_n (ls' := [_, _, _, _, _, _, _, _]) cx dX7_run_23 rfl (by decide) rfl ?_
    refine x_iconst (v := 0) cx dX7_run_24 (by decide) ?_
    refine x_istore (ls' := [_, _, _, _, _, _, _, _]) cx dX7_run_25 (by decide) rfl ?_
    have hF := hb8
    rw [if_pos hb8, if_pos hb8]
    have hL1 : mRec S 15 0 2 = nI L := by rw [mRec_15 0 2 (fun _ => by decide)]; exact hL
    have hT1 : mRec S 15 1 = S 15 1 := funext fun k => mRec_15 1 k (fun z => absurd z (by decide))
    have hF1 : mRec S 15 2 = S 15 2 := funext fun k => mRec_15 2 k (fun z => absurd z (by decide))
    refine x_S (S' := up (fr (mRec S) (S 15 2)) 8 (S 8)) (by rw [← hF1, fr_self]) ?_
    generalize mRec S = S1 at hL1 hT1 ⊢
    generalize S 15 2 = F0
    generalize S 15 1 = T at hF hT1 ⊢
    generalize S 8 = X at hW ⊢
    have hF : zFltL T L 0 0 = -4 := hF
    suffices K : ∀ (f k : Nat) (o : Int32) (q : Nat) (F : Nat → Int32) (Y : zCV), L ≤ k + f → k ≤ L → q ≤ 30 → zWF Y → zFltL T (L - k) k 0 = -4 → zRunO T L f k o q Y = zRunO T L L 0 0 0 X → zRunX T L f k Y = zRunX T L L 0 X → zRunF T L f k F = zRunF T L L 0 F0 → Xh p l e _ s m args below meth cd 8 G _ 0 0 75 (pic G (up (fr S1 F) 8 Y)) 27 [some (.ref (zad G 8 0)), none, some (.int (nI q)), some (.int o), some (.int (nI k)), none, none, none] [] from x_ls rfl (by simp [lo, nI_0]) (K L 0 0 0 F0 X (by omega) (by omega) (by decide) hW hF rfl rfl rfl)
    intro f
    induction f with
    | zero =>
      intro k o q F Y hf hk hq hY hflt ho hx hfx
      refine x_iload cx dX7_run_27 rfl ?_
      refine x_aload_n cx dX7_run_29 rfl rfl ?_
      refine x_getX7 cx 7 (by decide) (fl_X7_131 cx) (zok_8 (by decide)) (by decide) (p_M) rfl dX7_run_30 ?_
      refine x_eqi (show _ = nI L from hL1) ?_
      refine x_icmp_ge_t (tgt := 158) cx dX7_run_33 (by decide) (nI_le (by omega) (by omega)) ?_
      refine x_iload_n cx dX7_run_158 rfl rfl ?_
      exact x_iret cx hr ho (by intro _ _ _ _; rw [← hx, ← hfx]; rfl) dX7_run_159
    | succ f ih =>
      intro k o q F Y hf hk hq hY hflt ho hx hfx
      by_cases hkl : k < L
      · obtain ⟨g, hg⟩ : ∃ g, L - k = g + 1 := ⟨L - k - 1, by omega⟩
        rw [hg] at hflt
        rw [zRunO] at ho
        rw [zRunX] at hx
        rw [zRunF] at hfx
        rw [if_pos hkl] at ho hx hfx
        have K : ∀ md inp : Int32, ¬ T k = 64 → md = zCm (T k) → inp = inM (T k) → Xh p l e (zrm 6 0 0 136) s m args below meth cd 8 G (MQ below (zQi G 75 (zRunO T L L 0 0 0 X) (pic G (up (fr S1 (zRunF T L L 0 F0)) 8 (zRunX T L L 0 X)))) args s 0 0 (zA G)) 0 0 75 (pic G (up (fr S1 F) 8 Y)) 124 [some (.ref (zad G 8 0)), none, some (.int (nI q)), some (.int o), some (.int (nI k)), some (.int (T k)), none, none] [.int inp, .int md, .ref (zad G 8 0)] := by
          intro md inp h64 hmd hinp
          have hfl2 := flt_ot (by omega) hflt h64
          have hg2 : L - (k + 1) = g := by omega
          by_cases h63 : T k = 63
          · obtain rfl : md = 0 := by rw [hmd, h63]; rfl
            obtain rfl : inp = 1 := by rw [hinp, h63]; rfl
            rw [if_pos h63] at ho hx hfx
            refine x_Vi (C := RX7) (T := TX7) (N := 9) (rest := []) cx (c_X7_clockNow l G _ _ hY _ _) gV_X7_106 ndX7_clockNow rfl ⟨Nat.le_of_ble_eq_true rfl, Nat.le_of_ble_eq_true rfl⟩ (zok_8 (by decide)) (by decide) (p_M) rfl rfl rfl (Nat.le_of_ble_eq_true rfl) dX7_run_124 ⟨Nat.le_of_ble_eq_true rfl, Nat.le_of_ble_eq_true rfl⟩ ?_
            refine x_istore (ls' := [_, _, _, _, _, _, _, _]) cx dX7_run_127 (by decide) rfl ?_
            refine x_iload cx dX7_run_129 rfl ?_
            refine x_bipush (v := 63) cx dX7_run_131 (by decide) ?_
            refine x_icmp_ne_f (tgt := 152) cx dX7_run_133 (by decide) h63 ?_
            refine x_iload_n cx dX7_run_136 rfl rfl ?_
            refine x_bipush (v := 30) cx dX7_run_137 (by decide) ?_
            refine x_icmp_ge (tgt := 152) cx dX7_run_139 (by decide) (fun hb139 => ?_) (fun hb139 => ?_)
            · refine x_iinc (v := nI (k + 1)) (ls' := [_, _, _, _, _, _, _, _]) cx dX7_run_152 rfl (nI_inc _) (by decide) rfl ?_
              refine x_goto (tgt := 27) cx dX7_run_155 (by decide) ?_
              rw [if_neg (fun z => absurd hb139 (nI_ge (b := 30) z (by decide)))] at ho
              have hq2 := hq
              exact x_ls rfl (by simp [lo]) (ih (k + 1) _ q _ _ (by omega) (by omega) (by omega) (zTick_WF hY) (by rw [hg2]; exact hfl2) ho hx hfx)
            · refine x_iload_n cx dX7_run_142 rfl rfl ?_
              refine x_iload cx dX7_run_143 rfl ?_
              refine x_iload_n cx dX7_run_145 rfl rfl ?_
              refine x_ishl cx dX7_run_146 ?_
              refine x_ior cx dX7_run_147 ?_
              refine x_istore_n (ls' := [_, _, _, _, _, _, _, _]) cx dX7_run_148 rfl (by decide) rfl ?_
              refine x_iinc (v := nI (q + 1)) (ls' := [_, _, _, _, _, _, _, _]) cx dX7_run_149 rfl (nI_inc _) (by decide) rfl ?_
              refine x_iinc (v := nI (k + 1)) (ls' := [_, _, _, _, _, _, _, _]) cx dX7_run_152 rfl (nI_inc _) (by decide) rfl ?_
              refine x_goto (tgt := 27) cx dX7_run_155 (by decide) ?_
              rw [if_pos ((nI_ltI (b := 30) (by omega) (by decide)).mp (Int32.not_le.mp hb139))] at ho
              have hq2 : q < 30 := (nI_ltI (b := 30) (by omega) (by decide)).mp (Int32.not_le.mp hb139)
              exact x_ls rfl (by simp [lo]) (ih (k + 1) _ (q + 1) _ _ (by omega) (by omega) (by omega) (zTick_WF hY) (by rw [hg2]; exact hfl2) ho hx hfx)
          · have hci := inM_ci (flt_item (by omega) hflt) h63 h64
            rw [← hinp] at hci
            rw [if_neg h63, if_neg h64, ← hmd, ← hci] at ho hx
            rw [if_neg h63, if_neg h64] at hfx
            refine x_Vi (C := RX7) (T := TX7) (N := 9) (rest := []) cx (c_X7_clockNow l G _ _ hY _ _) gV_X7_106 ndX7_clockNow rfl ⟨Nat.le_of_ble_eq_true rfl, Nat.le_of_ble_eq_true rfl⟩ (zok_8 (by decide)) (by decide) (p_M) rfl rfl rfl (Nat.le_of_ble_eq_true rfl) dX7_run_124 ⟨Nat.le_of_ble_eq_true rfl, Nat.le_of_ble_eq_true rfl⟩ ?_
            refine x_istore (ls' := [_, _, _, _, _, _, _, _]) cx dX7_run_127 (by decide) rfl ?_
            refine x_iload cx dX7_run_129 rfl ?_
            refine x_bipush (v := 63) cx dX7_run_131 (by decide) ?_
            refine x_icmp_ne_t (tgt := 152) cx dX7_run_133 (by decide) h63 ?_
            refine x_iinc (v := nI (k + 1)) (ls' := [_, _, _, _, _, _, _, _]) cx dX7_run_152 rfl (nI_inc _) (by decide) rfl ?_
            refine x_goto (tgt := 27) cx dX7_run_155 (by decide) ?_
            exact x_ls rfl (by simp [lo]) (ih (k + 1) _ q _ _ (by omega) (by omega) hq (zTick_WF hY) (by rw [hg2]; exact hfl2) ho hx hfx)
        refine x_iload cx dX7_run_27 rfl ?_
        refine x_aload_n cx dX7_run_29 rfl rfl ?_
        refine x_getX7 cx 7 (by decide) (fl_X7_131 cx) (zok_8 (by decide)) (by decide) (p_M) rfl dX7_run_30 ?_
        refine x_eqi (show _ = nI L from hL1) ?_
        refine x_icmp_ge_f (tgt := 158) cx dX7_run_33 (by decide) (nI_ge hkl (by omega)) ?_
        refine x_aload_n cx dX7_run_36 rfl rfl ?_
        refine x_getX7 cx 6 (by decide) (fl_X7_22 cx) (zok_8 (by decide)) (by decide) (p_M) rfl dX7_run_37 ?_
        refine x_iload cx dX7_run_40 rfl ?_
        refine x_iald (t := k) cx (zok_8 (by decide)) (by decide) (p_text) rfl (by omega) (by decide) (show _ = T k from (trt (by omega)).trans (congrFun hT1 k)) dX7_run_42 ?_
        refine x_istore (ls' := [_, _, _, _, _, _, _, _]) cx dX7_run_43 (by decide) rfl ?_
        refine x_iload cx dX7_run_45 rfl ?_
        refine x_bipush (v := 64) cx dX7_run_47 (by decide) ?_
        refine x_icmp_ne (tgt := 73) cx dX7_run_49 (by decide) (fun hb49 => ?_) (fun hb49 => ?_)
        · refine x_iload cx dX7_run_73 rfl ?_
          refine x_bipush (v := 97) cx dX7_run_75 (by decide) ?_
          refine x_icmp_eq (tgt := 87) cx dX7_run_77 (by decide) (fun hb77 => ?_) (fun hb77 => ?_)
          · refine x_iconst (v := 1) cx dX7_run_87 (by decide) ?_
            refine x_goto (tgt := 92) cx dX7_run_88 (by decide) ?_
            refine x_istore (ls' := [_, _, _, _, _, _, _, _]) cx dX7_run_92 (by decide) rfl ?_
            refine x_aload_n cx dX7_run_94 rfl rfl ?_
            refine x_iload cx dX7_run_95 rfl ?_
            refine x_if_eq_f (tgt := 104) cx dX7_run_97 (by decide) (by decide) ?_
            refine x_iconst (v := 1) cx dX7_run_100 (by decide) ?_
            refine x_goto (tgt := 105) cx dX7_run_101 (by decide) ?_
            refine x_iload cx dX7_run_105 rfl ?_
            refine x_bipush (v := 48) cx dX7_run_107 (by decide) ?_
            refine x_icmp_eq (tgt := 119) cx dX7_run_109 (by decide) (fun hb109 => ?_) (fun hb109 => ?_)
            · refine x_iconst (v := 0) cx dX7_run_119 (by decide) ?_
              refine x_goto (tgt := 124) cx dX7_run_120 (by decide) ?_
              exact x_ls rfl (by simp [lo]) (K _ _ hb49 (by unfold zCm; rw [if_pos hb77]) (by unfold inM; rw [if_pos hb109]))
            · refine x_iload cx dX7_run_112 rfl ?_
              refine x_bipush (v := 97) cx dX7_run_114 (by decide) ?_
              refine x_icmp_ne (tgt := 123) cx dX7_run_116 (by decide) (fun hb116 => ?_) (fun hb116 => ?_)
              · refine x_iconst (v := 1) cx dX7_run_123 (by decide) ?_
                exact x_ls rfl (by simp [lo]) (K _ _ hb49 (by unfold zCm; rw [if_pos hb77]) (by unfold inM; rw [if_neg hb109, if_neg hb116]))
              · refine x_iconst (v := 0) cx dX7_run_119 (by decide) ?_
                refine x_goto (tgt := 124) cx dX7_run_120 (by decide) ?_
                exact x_ls rfl (by simp [lo]) (K _ _ hb49 (by unfold zCm; rw [if_pos hb77]) (by unfold inM; rw [if_neg hb109, if_pos hb116]))
          · refine x_iload cx dX7_run_80 rfl ?_
            refine x_bipush (v := 98) cx dX7_run_82 (by decide) ?_
            refine x_icmp_ne (tgt := 91) cx dX7_run_84 (by decide) (fun hb84 => ?_) (fun hb84 => ?_)
            · refine x_iconst (v := 0) cx dX7_run_91 (by decide) ?_
              refine x_istore (ls' := [_, _, _, _, _, _, _, _]) cx dX7_run_92 (by decide) rfl ?_
              refine x_aload_n cx dX7_run_94 rfl rfl ?_
              refine x_iload cx dX7_run_95 rfl ?_
              refine x_if_eq_t (tgt := 104) cx dX7_run_97 (by decide) (by decide) ?_
              refine x_iconst (v := 0) cx dX7_run_104 (by decide) ?_
              refine x_iload cx dX7_run_105 rfl ?_
              refine x_bipush (v := 48) cx dX7_run_107 (by decide) ?_
              refine x_icmp_eq (tgt := 119) cx dX7_run_109 (by decide) (fun hb109 => ?_) (fun hb109 => ?_)
              · refine x_iconst (v := 0) cx dX7_run_119 (by decide) ?_
                refine x_goto (tgt := 124) cx dX7_run_120 (by decide) ?_
                exact x_ls rfl (by simp [lo]) (K _ _ hb49 (by unfold zCm; rw [if_neg hb77, if_neg hb84]) (by unfold inM; rw [if_pos hb109]))
              · refine x_iload cx dX7_run_112 rfl ?_
                refine x_bipush (v := 97) cx dX7_run_114 (by decide) ?_
                refine x_icmp_ne (tgt := 123) cx dX7_run_116 (by decide) (fun hb116 => ?_) (fun hb116 => ?_)
                · refine x_iconst (v := 1) cx dX7_run_123 (by decide) ?_
                  exact x_ls rfl (by simp [lo]) (K _ _ hb49 (by unfold zCm; rw [if_neg hb77, if_neg hb84]) (by unfold inM; rw [if_neg hb109, if_neg hb116]))
                · refine x_iconst (v := 0) cx dX7_run_119 (by decide) ?_
                  refine x_goto (tgt := 124) cx dX7_run_120 (by decide) ?_
                  exact x_ls rfl (by simp [lo]) (K _ _ hb49 (by unfold zCm; rw [if_neg hb77, if_neg hb84]) (by unfold inM; rw [if_neg hb109, if_pos hb116]))
            · refine x_iconst (v := 1) cx dX7_run_87 (by decide) ?_
              refine x_goto (tgt := 92) cx dX7_run_88 (by decide) ?_
              refine x_istore (ls' := [_, _, _, _, _, _, _, _]) cx dX7_run_92 (by decide) rfl ?_
              refine x_aload_n cx dX7_run_94 rfl rfl ?_
              refine x_iload cx dX7_run_95 rfl ?_
              refine x_if_eq_f (tgt := 104) cx dX7_run_97 (by decide) (by decide) ?_
              refine x_iconst (v := 1) cx dX7_run_100 (by decide) ?_
              refine x_goto (tgt := 105) cx dX7_run_101 (by decide) ?_
              refine x_iload cx dX7_run_105 rfl ?_
              refine x_bipush (v := 48) cx dX7_run_107 (by decide) ?_
              refine x_icmp_eq (tgt := 119) cx dX7_run_109 (by decide) (fun hb109 => ?_) (fun hb109 => ?_)
              · refine x_iconst (v := 0) cx dX7_run_119 (by decide) ?_
                refine x_goto (tgt := 124) cx dX7_run_120 (by decide) ?_
                exact x_ls rfl (by simp [lo]) (K _ _ hb49 (by unfold zCm; rw [if_neg hb77, if_pos hb84]) (by unfold inM; rw [if_pos hb109]))
              · refine x_iload cx dX7_run_112 rfl ?_
                refine x_bipush (v := 97) cx dX7_run_114 (by decide) ?_
                refine x_icmp_ne (tgt := 123) cx dX7_run_116 (by decide) (fun hb116 => ?_) (fun hb116 => ?_)
                · refine x_iconst (v := 1) cx dX7_run_123 (by decide) ?_
                  exact x_ls rfl (by simp [lo]) (K _ _ hb49 (by unfold zCm; rw [if_neg hb77, if_pos hb84]) (by unfold inM; rw [if_neg hb109, if_neg hb116]))
                · refine x_iconst (v := 0) cx dX7_run_119 (by decide) ?_
                  refine x_goto (tgt := 124) cx dX7_run_120 (by decide) ?_
                  exact x_ls rfl (by simp [lo]) (K _ _ hb49 (by unfold zCm; rw [if_neg hb77, if_pos hb84]) (by unfold inM; rw [if_neg hb109, if_pos hb116]))
        · refine x_iinc (v := nI (k + 1)) (ls' := [_, _, _, _, _, _, _, _]) cx dX7_run_52 rfl (nI_inc _) (by decide) rfl ?_
          obtain ⟨g2, hg2, hhx, hfl2⟩ := flt_at (by omega) hflt hb49
          have hxx := zHex_in hhx
          refine x_aload_n cx dX7_run_55 rfl rfl ?_
          refine x_aload_n cx dX7_run_56 rfl rfl ?_
          refine x_getX7 cx 6 (by decide) (fl_X7_22 cx) (zok_8 (by decide)) (by decide) (p_M) rfl dX7_run_57 ?_
          refine x_iload cx dX7_run_60 rfl ?_
          refine x_iald (t := (k + 1)) cx (zok_8 (by decide)) (by decide) (p_text) rfl (by omega) (by decide) (show _ = T (k + 1) from (trt (by omega)).trans (congrFun hT1 (k + 1))) dX7_run_62 ?_
          refine x_Si (rest := [_]) cx (c_X7_digit l G _ _ _) gS_X7_134 ndX7_digit ⟨Nat.le_of_ble_eq_true rfl, Nat.le_of_ble_eq_true rfl⟩ rfl rfl (Nat.le_of_ble_eq_true rfl) dX7_run_63 ⟨Nat.le_of_ble_eq_true rfl, Nat.le_of_ble_eq_true rfl⟩ ?_
          refine x_eqi (zDig_nI hhx) ?_
          refine x_Vi (C := RX7) (T := TX7) (N := 9) (rest := []) cx (c_X7_moveNow l G _ _ hY (hexN (T (k + 1))) hxx.2) gV_X7_112 ndX7_moveNow rfl ⟨Nat.le_of_ble_eq_true rfl, Nat.le_of_ble_eq_true rfl⟩ (zok_8 (by decide)) (by decide) (p_M) rfl rfl rfl (Nat.le_of_ble_eq_true rfl) dX7_run_66 ⟨Nat.le_of_ble_eq_true rfl, Nat.le_of_ble_eq_true rfl⟩ ?_
          refine x_pop cx dX7_run_69 rfl ?_
          refine x_goto (tgt := 152) cx dX7_run_70 (by decide) ?_
          refine x_iinc (v := nI ((k + 1) + 1)) (ls' := [_, _, _, _, _, _, _, _]) cx dX7_run_152 rfl (nI_inc _) (by decide) rfl ?_
          refine x_goto (tgt := 27) cx dX7_run_155 (by decide) ?_
          have h63 : ¬ T k = 63 := by rw [hb49]; decide
          rw [if_neg h63, if_pos hb49] at ho hx hfx
          rw [fr_fr]
          exact x_ls rfl (by simp [lo]) (ih (k + 2) _ q _ _ (by omega) (by omega) hq (zGo_WF hY) (by rw [show L - (k + 2) = g2 by omega]; exact hfl2) ho hx hfx)
      · refine x_iload cx dX7_run_27 rfl ?_
        refine x_aload_n cx dX7_run_29 rfl rfl ?_
        refine x_getX7 cx 7 (by decide) (fl_X7_131 cx) (zok_8 (by decide)) (by decide) (p_M) rfl dX7_run_30 ?_
        refine x_eqi (show _ = nI L from hL1) ?_
        refine x_icmp_ge_t (tgt := 158) cx dX7_run_33 (by decide) (nI_le (by omega) (by omega)) ?_
        refine x_iload_n cx dX7_run_158 rfl rfl ?_
        exact x_iret cx hr (by rw [← ho, zRunO_end hkl]) (by intro _ _ _ _; rw [← hx, ← hfx, zRunX_end hkl, zRunF_end hkl]) dX7_run_159
  · refine x_bipush (v := (-100)) cx dX7_run_11 (by decide) ?_
    refine x_iload_n cx dX7_run_13 rfl rfl ?_
    refine x_isub cx dX7_run_14 ?_
    exact x_iret cx hr (by rw [if_neg hb8]) (by intro _ _ _ _; rw [if_neg hb8]) dX7_run_15

