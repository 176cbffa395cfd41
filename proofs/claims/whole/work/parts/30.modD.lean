set_option maxHeartbeats 4000000 in
set_option maxRecDepth 100000 in
theorem c_X7_clock (l : Launch) (G : zG) (S : zS) (hW : zWF (S 8)) (h0 : Nat) (hs : S 15 0 0 = nI h0) (h4 : h0 ≤ 4) (md x : Int32) : Met l yX7_clock (zws yX7_clock cX7_clock 3 (some .int)) (zrm 5 0 0 113) (zPc G 75 (pic G S) [.ref (zad G 8 0), .int md, .int x]) (zQi G 75 (if eClk md x = 0 then zOut (S 8) x else eClk md x) (pic G (if eClk md x = 0 then up (mRec S) 8 (zTick (S 8) md x) else S))) 0 0 (zA G) := by
  refine zMet npX7_clock rfl (Nat.le_of_ble_eq_true rfl) ?_
  intro p e s m args below meth cd hargs cx hr hin0
  have cx : Cx p s m args meth cd cX7_clock 3 RX7 G := cx
  refine x_ls (ls' := [some (.ref (zad G 8 0)), some (.int md), some (.int x)]) rfl (fun _ h => h) ?_
  refine x_iload_n cx dX7_clock_0 rfl rfl ?_
  refine x_iconst (v := 0) cx dX7_clock_1 (by decide) ?_
  refine x_iconst (v := 1) cx dX7_clock_2 (by decide) ?_
  refine x_Si (rest := []) cx (c_X7_in l G _ _ _ _ _) gS_X7_28 ndX7_in ⟨Nat.le_of_ble_eq_true rfl, Nat.le_of_ble_eq_true rfl⟩ rfl rfl (Nat.le_of_ble_eq_true rfl) dX7_clock_3 ⟨Nat.le_of_ble_eq_true rfl, Nat.le_of_ble_eq_true rfl⟩ ?_
  refine x_if_eq (tgt := 18) cx dX7_clock_6 (by decide) (fun hb6 => ?_) (fun hb6 => ?_)
  · refine x_bipush (v := (-2)) cx dX7_clock_18 (by decide) ?_
    have he : eClk md x = -2 := by unfold eClk; rw [if_pos hb6]
    exact x_iret cx hr (by rw [he, if_neg (by decide)]) (by intro _ _ _ _; rw [he, if_neg (by decide)]) dX7_clock_20
  · refine x_iload_n cx dX7_clock_9 rfl rfl ?_
    refine x_iconst (v := 0) cx dX7_clock_10 (by decide) ?_
    refine x_iconst (v := 1) cx dX7_clock_11 (by decide) ?_
    refine x_Si (rest := []) cx (c_X7_in l G _ _ _ _ _) gS_X7_28 ndX7_in ⟨Nat.le_of_ble_eq_true rfl, Nat.le_of_ble_eq_true rfl⟩ rfl rfl (Nat.le_of_ble_eq_true rfl) dX7_clock_12 ⟨Nat.le_of_ble_eq_true rfl, Nat.le_of_ble_eq_true rfl⟩ ?_
    refine x_if_ne (tgt := 21) cx dX7_clock_15 (by decide) (fun hb15 => ?_) (fun hb15 => ?_)
    · refine x_aload_n cx dX7_clock_21 rfl rfl ?_
      refine x_Vv (C := RX7) (T := TX7) (N := 9) (rest := []) cx (c_X7_record l G _ h0 hs h4) gV_X7_44 ndX7_record rfl ⟨Nat.le_of_ble_eq_true rfl, Nat.le_of_ble_eq_true rfl⟩ (zok_8 (by decide)) (by decide) (p_M) rfl rfl rfl (Nat.le_of_ble_eq_true rfl) dX7_clock_22 ⟨Nat.le_of_ble_eq_true rfl, Nat.le_of_ble_eq_true rfl⟩ ?_
      refine x_S (S' := up (mRec S) 8 (S 8)) (by rw [← mRec_8 hs h4, up_self]) ?_
      refine x_aload_n cx dX7_clock_25 rfl rfl ?_
      refine x_iload_n cx dX7_clock_26 rfl rfl ?_
      refine x_iload_n cx dX7_clock_27 rfl rfl ?_
      refine x_Vi (C := RX7) (T := TX7) (N := 9) (rest := []) cx (c_X7_clockNow l G _ _ hW _ _) gV_X7_106 ndX7_clockNow rfl ⟨Nat.le_of_ble_eq_true rfl, Nat.le_of_ble_eq_true rfl⟩ (zok_8 (by decide)) (by decide) (p_M) rfl rfl rfl (Nat.le_of_ble_eq_true rfl) dX7_clock_28 ⟨Nat.le_of_ble_eq_true rfl, Nat.le_of_ble_eq_true rfl⟩ ?_
      have he : eClk md x = 0 := by unfold eClk; rw [if_neg hb6, if_neg hb15]
      exact x_iret cx hr (by rw [if_pos he]) (by rw [if_pos he]; exact fun _ _ _ _ => rfl) dX7_clock_31
    · refine x_bipush (v := (-2)) cx dX7_clock_18 (by decide) ?_
      have he : eClk md x = -2 := by unfold eClk; rw [if_neg hb6, if_pos hb15]
      exact x_iret cx hr (by rw [he, if_neg (by decide)]) (by intro _ _ _ _; rw [he, if_neg (by decide)]) dX7_clock_20

set_option maxHeartbeats 4000000 in
set_option maxRecDepth 100000 in
theorem c_X7_move (l : Launch) (G : zG) (S : zS) (hW : zWF (S 8)) (h0 : Nat) (hs : S 15 0 0 = nI h0) (h4 : h0 ≤ 4) (b : Int32) : Met l yX7_move (zws yX7_move cX7_move 2 (some .int)) (zrm 6 0 0 136) (zPc G 75 (pic G S) [.ref (zad G 8 0), .int b]) (zQi G 75 (if eMov b = 0 then nI (dst (stt (S 8)) (tn b)) else eMov b) (pic G (if eMov b = 0 then up (fr (mRec S) (farF (tn b))) 8 (zGo (S 8) (tn b)) else S))) 0 0 (zA G) := by
  refine zMet npX7_move rfl (Nat.le_of_ble_eq_true rfl) ?_
  intro p e s m args below meth cd hargs cx hr hin0
  have cx : Cx p s m args meth cd cX7_move 2 RX7 G := cx
  refine x_ls (ls' := [some (.ref (zad G 8 0)), some (.int b)]) rfl (fun _ h => h) ?_
  have hzi := zin_zis b
  refine x_iload_n cx dX7_move_0 rfl rfl ?_
  refine x_iconst (v := 0) cx dX7_move_1 (by decide) ?_
  refine x_bipush (v := 15) cx dX7_move_2 (by decide) ?_
  refine x_Si (rest := []) cx (c_X7_in l G _ _ _ _ _) gS_X7_28 ndX7_in ⟨Nat.le_of_ble_eq_true rfl, Nat.le_of_ble_eq_true rfl⟩ rfl rfl (Nat.le_of_ble_eq_true rfl) dX7_move_4 ⟨Nat.le_of_ble_eq_true rfl, Nat.le_of_ble_eq_true rfl⟩ ?_
  refine x_if_ne (tgt := 13) cx dX7_move_7 (by decide) (fun hb7 => ?_) (fun hb7 => ?_)
  · obtain ⟨t, ht, rfl⟩ := is_ix (by rw [← hzi]; exact hb7)
    have htn : tn (nI t) = t := nI_clamp (by omega)
    try simp only [htn]
    refine x_aload_n cx dX7_move_13 rfl rfl ?_
    refine x_Vv (C := RX7) (T := TX7) (N := 9) (rest := []) cx (c_X7_record l G _ h0 hs h4) gV_X7_44 ndX7_record rfl ⟨Nat.le_of_ble_eq_true rfl, Nat.le_of_ble_eq_true rfl⟩ (zok_8 (by decide)) (by decide) (p_M) rfl rfl rfl (Nat.le_of_ble_eq_true rfl) dX7_move_14 ⟨Nat.le_of_ble_eq_true rfl, Nat.le_of_ble_eq_true rfl⟩ ?_
    refine x_S (S' := up (mRec S) 8 (S 8)) (by rw [← mRec_8 hs h4, up_self]) ?_
    refine x_aload_n cx dX7_move_17 rfl rfl ?_
    refine x_iload_n cx dX7_move_18 rfl rfl ?_
    refine x_Vi (C := RX7) (T := TX7) (N := 9) (rest := []) cx (c_X7_moveNow l G _ _ hW t ht) gV_X7_112 ndX7_moveNow rfl ⟨Nat.le_of_ble_eq_true rfl, Nat.le_of_ble_eq_true rfl⟩ (zok_8 (by decide)) (by decide) (p_M) rfl rfl rfl (Nat.le_of_ble_eq_true rfl) dX7_move_19 ⟨Nat.le_of_ble_eq_true rfl, Nat.le_of_ble_eq_true rfl⟩ ?_
    have he : eMov (nI t) = 0 := by unfold eMov; rw [if_neg (by rw [← hzi]; exact hb7)]
    exact x_iret cx hr (by rw [if_pos he]) (by rw [if_pos he]; exact fun _ _ _ _ => rfl) dX7_move_22
  · refine x_bipush (v := (-2)) cx dX7_move_10 (by decide) ?_
    have he : eMov b = -2 := by unfold eMov; rw [if_pos (by rw [← hzi]; exact hb7)]
    exact x_iret cx hr (by rw [he, if_neg (by decide)]) (by intro _ _ _ _; rw [he, if_neg (by decide)]) dX7_move_12

set_option maxHeartbeats 4000000 in
set_option maxRecDepth 100000 in
theorem c_X7_identify (l : Launch) (G : zG) (S : zS) (hW : zWF (S 8)) (h0 : Nat) (hs : S 15 0 0 = nI h0) (h4 : h0 ≤ 4) : Met l yX7_identify (zws yX7_identify cX7_identify 1 (some .int)) (zrm 7 0 0 158) (zPc G 75 (pic G S) [.ref (zad G 8 0)]) (zQi G 75 (mIdent (S 8) 0 3) (pic G (up (fr (mRec S) (farF 1)) 8 (mIdent (S 8))))) 0 0 (zA G) := by
  refine zMet npX7_identify rfl (Nat.le_of_ble_eq_true rfl) ?_
  intro p e s m args below meth cd hargs cx hr hin0
  have cx : Cx p s m args meth cd cX7_identify 1 RX7 G := cx
  refine x_ls (ls' := [some (.ref (zad G 8 0))]) rfl (fun _ h => h) ?_
  refine x_aload_n cx dX7_identify_0 rfl rfl ?_
  refine x_Vv (C := RX7) (T := TX7) (N := 9) (rest := []) cx (c_X7_record l G _ h0 hs h4) gV_X7_44 ndX7_record rfl ⟨Nat.le_of_ble_eq_true rfl, Nat.le_of_ble_eq_true rfl⟩ (zok_8 (by decide)) (by decide) (p_M) rfl rfl rfl (Nat.le_of_ble_eq_true rfl) dX7_identify_1 ⟨Nat.le_of_ble_eq_true rfl, Nat.le_of_ble_eq_true rfl⟩ ?_
  refine x_S (S' := up (mRec S) 8 (S 8)) (by rw [← mRec_8 hs h4, up_self]) ?_
  refine x_aload_n cx dX7_identify_4 rfl rfl ?_
  refine x_Vv (C := RX7) (T := TX7) (N := 9) (rest := []) cx (c_X7_identifyNow l G _ _ hW) gV_X7_118 ndX7_identifyNow rfl ⟨Nat.le_of_ble_eq_true rfl, Nat.le_of_ble_eq_true rfl⟩ (zok_8 (by decide)) (by decide) (p_M) rfl rfl rfl (Nat.le_of_ble_eq_true rfl) dX7_identify_5 ⟨Nat.le_of_ble_eq_true rfl, Nat.le_of_ble_eq_true rfl⟩ ?_
  refine x_aload_n cx dX7_identify_8 rfl rfl ?_
  refine x_getX7 cx 0 (by decide) (fl_X7_7 cx) (zok_8 (by decide)) (by decide) (p_M) rfl dX7_identify_9 ?_
  refine x_iconst (v := 3) cx dX7_identify_12 (by decide) ?_
  refine x_iald (t := 3) cx (zok_8 (by decide)) (by decide) p_zg rfl (by decide) (by decide) (trz (by decide)) dX7_identify_13 ?_
  refine x_eqi (show _ = mIdent (S 8) 0 3 by rw [up_same]) ?_
  exact x_iret cx hr rfl (fun _ _ _ _ => rfl) dX7_identify_14

set_option maxHeartbeats 4000000 in
set_option maxRecDepth 100000 in
theorem c_X7_whyNotExchange (l : Launch) (G : zG) (S : zS) (hW : zWF (S 8)) (h0 : Nat) (hs : S 15 0 0 = nI h0) (h4 : h0 ≤ 4) (q v : Int32) : Met l yX7_whyNotExchange (zws yX7_whyNotExchange cX7_whyNotExchange 3 (some .int)) (zrm 2 0 0 43) (zPc G 75 (pic G S) [.ref (zad G 8 0), .int q, .int v]) (zQi G 75 (eArg (S 8) q v 255) (pic G (S))) 0 0 (zA G) := by
  refine zMet npX7_whyNotExchange rfl (Nat.le_of_ble_eq_true rfl) ?_
  intro p e s m args below meth cd hargs cx hr hin0
  have cx : Cx p s m args meth cd cX7_whyNotExchange 3 RX7 G := cx
  refine x_ls (ls' := [some (.ref (zad G 8 0)), some (.int q), some (.int v)]) rfl (fun _ h => h) ?_
  refine x_aload_n cx dX7_whyNotExchange_0 rfl rfl ?_
  refine x_iload_n cx dX7_whyNotExchange_1 rfl rfl ?_
  refine x_S (up_self S 8).symm ?_
  refine x_Vi (C := RX7) (T := TX7) (N := 9) (rest := []) cx (c_X7_isChip l G _ _ hW _) gV_X7_74 ndX7_isChip rfl ⟨Nat.le_of_ble_eq_true rfl, Nat.le_of_ble_eq_true rfl⟩ (zok_8 (by decide)) (by decide) (p_M) rfl rfl rfl (Nat.le_of_ble_eq_true rfl) dX7_whyNotExchange_2 ⟨Nat.le_of_ble_eq_true rfl, Nat.le_of_ble_eq_true rfl⟩ ?_
  refine x_S (up_self S 8) ?_
  refine x_if_ne (tgt := 12) cx dX7_whyNotExchange_5 (by decide) (fun hb5 => ?_) (fun hb5 => ?_)
  · refine x_iload_n cx dX7_whyNotExchange_12 rfl rfl ?_
    refine x_iconst (v := 0) cx dX7_whyNotExchange_13 (by decide) ?_
    refine x_sipush (v := 255) cx dX7_whyNotExchange_14 (by decide) ?_
    refine x_Si (rest := []) cx (c_X7_in l G _ _ _ _ _) gS_X7_28 ndX7_in ⟨Nat.le_of_ble_eq_true rfl, Nat.le_of_ble_eq_true rfl⟩ rfl rfl (Nat.le_of_ble_eq_true rfl) dX7_whyNotExchange_17 ⟨Nat.le_of_ble_eq_true rfl, Nat.le_of_ble_eq_true rfl⟩ ?_
    refine x_if_eq (tgt := 27) cx dX7_whyNotExchange_20 (by decide) (fun hb20 => ?_) (fun hb20 => ?_)
    · refine x_bipush (v := (-2)) cx dX7_whyNotExchange_27 (by decide) ?_
      exact x_iret cx hr (by unfold eArg; rw [if_neg hb5, if_pos hb20]) (fun _ _ _ _ => rfl) dX7_whyNotExchange_29
    · refine x_iconst (v := 0) cx dX7_whyNotExchange_23 (by decide) ?_
      refine x_goto (tgt := 29) cx dX7_whyNotExchange_24 (by decide) ?_
      exact x_iret cx hr (by unfold eArg; rw [if_neg hb5, if_neg hb20]) (fun _ _ _ _ => rfl) dX7_whyNotExchange_29
  · refine x_iconst (v := (-1)) cx dX7_whyNotExchange_8 (by decide) ?_
    refine x_goto (tgt := 29) cx dX7_whyNotExchange_9 (by decide) ?_
    exact x_iret cx hr (by unfold eArg; rw [if_pos hb5]) (fun _ _ _ _ => rfl) dX7_whyNotExchange_29

theorem eArg_cases (X : zCV) (q v m : Int32) : eArg X q v m = 0 ∨ eArg X q v m = -1 ∨ eArg X q v m = -2 := by
  unfold eArg
  repeat' split
  all_goals first | exact Or.inl rfl | exact Or.inr (Or.inl rfl) | exact Or.inr (Or.inr rfl)

set_option maxHeartbeats 4000000 in
set_option maxRecDepth 100000 in
theorem c_X7_exchange (l : Launch) (G : zG) (S : zS) (hW : zWF (S 8)) (h0 : Nat) (hs : S 15 0 0 = nI h0) (h4 : h0 ≤ 4) (q v : Int32) : Met l yX7_exchange (zws yX7_exchange cX7_exchange 4 (some .int)) (zrm 7 0 0 164) (zPc G 75 (pic G S) [.ref (zad G 8 0), .int q, .int v]) (zQi G 75 (if eArg (S 8) q v 255 = 0 then zExchO (S 8) (tn q) v else eArg (S 8) q v 255) (pic G (if eArg (S 8) q v 255 = 0 then up (fr (mRec S) (farF 1)) 8 (zExch (S 8) (tn q) v) else S))) 0 0 (zA G) := by
  refine zMet npX7_exchange rfl (Nat.le_of_ble_eq_true rfl) ?_
  intro p e s m args below meth cd hargs cx hr hin0
  have cx : Cx p s m args meth cd cX7_exchange 4 RX7 G := cx
  refine x_ls (ls' := [some (.ref (zad G 8 0)), some (.int q), some (.int v), none]) rfl (fun _ h => h) ?_
  refine x_aload_n cx dX7_exchange_0 rfl rfl ?_
  refine x_iload_n cx dX7_exchange_1 rfl rfl ?_
  refine x_iload_n cx dX7_exchange_2 rfl rfl ?_
  refine x_Vi (C := RX7) (T := TX7) (N := 9) (rest := []) cx (c_X7_whyNotExchange l G _ hW h0 hs h4 _ _) gV_X7_125 ndX7_whyNotExchange rfl ⟨Nat.le_of_ble_eq_true rfl, Nat.le_of_ble_eq_true rfl⟩ (zok_8 (by decide)) (by decide) (p_M) rfl rfl rfl (Nat.le_of_ble_eq_true rfl) dX7_exchange_3 ⟨Nat.le_of_ble_eq_true rfl, Nat.le_of_ble_eq_true rfl⟩ ?_
  refine x_istore_n (ls' := [_, _, _, _]) cx dX7_exchange_6 rfl (by decide) rfl ?_
  refine x_iload_n cx dX7_exchange_7 rfl rfl ?_
  refine x_if_ge (tgt := 13) cx dX7_exchange_8 (by decide) (fun hb8 => ?_) (fun hb8 => ?_)
  · have he : eArg (S 8) q v 255 = 0 := by
      rcases eArg_cases (S 8) q v 255 with z | z | z
      · exact z
      all_goals (rw [z] at hb8; exact absurd hb8 (by decide))
    have hh8 : ¬ zHas (S 8) q = 0 := fun z => by unfold eArg at he; rw [if_pos z] at he; exact absurd he (by decide)
    obtain ⟨t, ht, rfl⟩ := has_ix hW hh8
    have h6 := hW.n6
    have htn : tn (nI t) = t := nI_clamp (by omega)
    try simp only [htn]
    refine x_aload_n cx dX7_exchange_13 rfl rfl ?_
    refine x_Vv (C := RX7) (T := TX7) (N := 9) (rest := []) cx (c_X7_record l G _ h0 hs h4) gV_X7_44 ndX7_record rfl ⟨Nat.le_of_ble_eq_true rfl, Nat.le_of_ble_eq_true rfl⟩ (zok_8 (by decide)) (by decide) (p_M) rfl rfl rfl (Nat.le_of_ble_eq_true rfl) dX7_exchange_14 ⟨Nat.le_of_ble_eq_true rfl, Nat.le_of_ble_eq_true rfl⟩ ?_
    refine x_S (S' := up (mRec S) 8 (S 8)) (by rw [← mRec_8 hs h4, up_self]) ?_
    refine x_aload_n cx dX7_exchange_17 rfl rfl ?_
    refine x_iload_n cx dX7_exchange_18 rfl rfl ?_
    refine x_iload_n cx dX7_exchange_19 rfl rfl ?_
    refine x_Vi (C := RX7) (T := TX7) (N := 9) (rest := []) cx (c_X7_exchangeNow l G _ _ hW t ht _) gV_X7_128 ndX7_exchangeNow rfl ⟨Nat.le_of_ble_eq_true rfl, Nat.le_of_ble_eq_true rfl⟩ (zok_8 (by decide)) (by decide) (p_M) rfl rfl rfl (Nat.le_of_ble_eq_true rfl) dX7_exchange_20 ⟨Nat.le_of_ble_eq_true rfl, Nat.le_of_ble_eq_true rfl⟩ ?_
    exact x_iret cx hr (by rw [if_pos he]) (by rw [if_pos he]; exact fun _ _ _ _ => rfl) dX7_exchange_23
  · refine x_iload_n cx dX7_exchange_11 rfl rfl ?_
    have he : ¬ eArg (S 8) q v 255 = 0 := fun z => hb8 (by rw [z]; decide)
    exact x_iret cx hr (by rw [if_neg he]) (by intro _ _ _ _; rw [if_neg he]) dX7_exchange_12

set_option maxHeartbeats 4000000 in
set_option maxRecDepth 100000 in
theorem c_X7_setPins (l : Launch) (G : zG) (S : zS) (hW : zWF (S 8)) (h0 : Nat) (hs : S 15 0 0 = nI h0) (h4 : h0 ≤ 4) (q v : Int32) : Met l yX7_setPins (zws yX7_setPins cX7_setPins 4 (some .int)) (zrm 2 0 0 45) (zPc G 75 (pic G S) [.ref (zad G 8 0), .int q, .int v]) (zQi G 75 (if eArg (S 8) q v 255 = 0 then S 8 (tn q + 3) 3 else eArg (S 8) q v 255) (pic G (if eArg (S 8) q v 255 = 0 then up (mRec S) 8 (zPinsX (S 8) (tn q) v) else S))) 0 0 (zA G) := by
  refine zMet npX7_setPins rfl (Nat.le_of_ble_eq_true rfl) ?_
  intro p e s m args below meth cd hargs cx hr hin0
  have cx : Cx p s m args meth cd cX7_setPins 4 RX7 G := cx
  refine x_ls (ls' := [some (.ref (zad G 8 0)), some (.int q), some (.int v), none]) rfl (fun _ h => h) ?_
  refine x_aload_n cx dX7_setPins_0 rfl rfl ?_
  refine x_iload_n cx dX7_setPins_1 rfl rfl ?_
  refine x_S (up_self S 8).symm ?_
  refine x_Vi (C := RX7) (T := TX7) (N := 9) (rest := []) cx (c_X7_isChip l G _ _ hW _) gV_X7_74 ndX7_isChip rfl ⟨Nat.le_of_ble_eq_true rfl, Nat.le_of_ble_eq_true rfl⟩ (zok_8 (by decide)) (by decide) (p_M) rfl rfl rfl (Nat.le_of_ble_eq_true rfl) dX7_setPins_2 ⟨Nat.le_of_ble_eq_true rfl, Nat.le_of_ble_eq_true rfl⟩ ?_
  refine x_S (up_self S 8) ?_
  refine x_if_ne (tgt := 10) cx dX7_setPins_5 (by decide) (fun hb5 => ?_) (fun hb5 => ?_)
  · refine x_iload_n cx dX7_setPins_10 rfl rfl ?_
    refine x_iconst (v := 0) cx dX7_setPins_11 (by decide) ?_
    refine x_sipush (v := 255) cx dX7_setPins_12 (by decide) ?_
    refine x_Si (rest := []) cx (c_X7_in l G _ _ _ _ _) gS_X7_28 ndX7_in ⟨Nat.le_of_ble_eq_true rfl, Nat.le_of_ble_eq_true rfl⟩ rfl rfl (Nat.le_of_ble_eq_true rfl) dX7_setPins_15 ⟨Nat.le_of_ble_eq_true rfl, Nat.le_of_ble_eq_true rfl⟩ ?_
    refine x_if_ne (tgt := 24) cx dX7_setPins_18 (by decide) (fun hb18 => ?_) (fun hb18 => ?_)
    · obtain ⟨t, ht, rfl⟩ := has_ix hW hb5
      have h6 := hW.n6
      have htn : tn (nI t) = t := nI_clamp (by omega)
      try simp only [htn]
      refine x_aload_n cx dX7_setPins_24 rfl rfl ?_
      refine x_Vv (C := RX7) (T := TX7) (N := 9) (rest := []) cx (c_X7_record l G _ h0 hs h4) gV_X7_44 ndX7_record rfl ⟨Nat.le_of_ble_eq_true rfl, Nat.le_of_ble_eq_true rfl⟩ (zok_8 (by decide)) (by decide) (p_M) rfl rfl rfl (Nat.le_of_ble_eq_true rfl) dX7_setPins_25 ⟨Nat.le_of_ble_eq_true rfl, Nat.le_of_ble_eq_true rfl⟩ ?_
      refine x_S (S' := up (mRec S) 8 (S 8)) (by rw [← mRec_8 hs h4, up_self]) ?_
      refine x_aload_n cx dX7_setPins_28 rfl rfl ?_
      refine x_iload_n cx dX7_setPins_29 rfl rfl ?_
      refine x_iconst (v := 3) cx dX7_setPins_30 (by decide) ?_
      refine x_Vi (C := RX7) (T := TX7) (N := 9) (rest := []) cx (c_X7_of l G _ _ t 3 (by omega) (by decide)) gV_X7_47 ndX7_of rfl ⟨Nat.le_of_ble_eq_true rfl, Nat.le_of_ble_eq_true rfl⟩ (zok_8 (by decide)) (by decide) (p_M) rfl rfl rfl (Nat.le_of_ble_eq_true rfl) dX7_setPins_31 ⟨Nat.le_of_ble_eq_true rfl, Nat.le_of_ble_eq_true rfl⟩ ?_
      refine x_istore_n (ls' := [_, _, _, _]) cx dX7_setPins_34 rfl (by decide) rfl ?_
      refine x_aload_n cx dX7_setPins_35 rfl rfl ?_
      refine x_iload_n cx dX7_setPins_36 rfl rfl ?_
      refine x_iconst (v := 3) cx dX7_setPins_37 (by decide) ?_
      refine x_iload_n cx dX7_setPins_38 rfl rfl ?_
      refine x_aload_n cx dX7_setPins_39 rfl rfl ?_
      refine x_iload_n cx dX7_setPins_40 rfl rfl ?_
      refine x_iconst (v := 2) cx dX7_setPins_41 (by decide) ?_
      refine x_Vi (C := RX7) (T := TX7) (N := 9) (rest := [_, _, _, _]) cx (c_X7_of l G _ _ t 2 (by omega) (by decide)) gV_X7_47 ndX7_of rfl ⟨Nat.le_of_ble_eq_true rfl, Nat.le_of_ble_eq_true rfl⟩ (zok_8 (by decide)) (by decide) (p_M) rfl rfl rfl (Nat.le_of_ble_eq_true rfl) dX7_setPins_42 ⟨Nat.le_of_ble_eq_true rfl, Nat.le_of_ble_eq_true rfl⟩ ?_
      refine x_Si (rest := [_, _, _, _]) cx (c_X7_ones l G _ _ _) gS_X7_62 ndX7_ones ⟨Nat.le_of_ble_eq_true rfl, Nat.le_of_ble_eq_true rfl⟩ rfl rfl (Nat.le_of_ble_eq_true rfl) dX7_setPins_45 ⟨Nat.le_of_ble_eq_true rfl, Nat.le_of_ble_eq_true rfl⟩ ?_
      refine x_iand cx dX7_setPins_48 ?_
      refine x_Vv (C := RX7) (T := TX7) (N := 9) (rest := []) cx (c_X7_lay l G _ _ t 3 (by omega) (by decide) _) gV_X7_58 ndX7_lay rfl ⟨Nat.le_of_ble_eq_true rfl, Nat.le_of_ble_eq_true rfl⟩ (zok_8 (by decide)) (by decide) (p_M) rfl rfl rfl (Nat.le_of_ble_eq_true rfl) dX7_setPins_49 ⟨Nat.le_of_ble_eq_true rfl, Nat.le_of_ble_eq_true rfl⟩ ?_
      refine x_iload_n cx dX7_setPins_52 rfl rfl ?_
      have he : eArg (S 8) (nI t) v 255 = 0 := by unfold eArg; rw [if_neg hb5, if_neg hb18]
      exact x_iret cx hr (by rw [if_pos he]) (by rw [if_pos he]; exact fun _ _ _ _ => rfl) dX7_setPins_53
    · refine x_bipush (v := (-2)) cx dX7_setPins_21 (by decide) ?_
      have he : eArg (S 8) q v 255 = -2 := by unfold eArg; rw [if_neg hb5, if_pos hb18]
      exact x_iret cx hr (by rw [he, if_neg (by decide)]) (by intro _ _ _ _; rw [he, if_neg (by decide)]) dX7_setPins_23
  · refine x_iconst (v := (-1)) cx dX7_setPins_8 (by decide) ?_
    have he : eArg (S 8) q v 255 = -1 := by unfold eArg; rw [if_pos hb5]
    exact x_iret cx hr (by rw [he, if_neg (by decide)]) (by intro _ _ _ _; rw [he, if_neg (by decide)]) dX7_setPins_9

set_option maxHeartbeats 4000000 in
set_option maxRecDepth 100000 in
theorem c_X7_breakChip (l : Launch) (G : zG) (S : zS) (hW : zWF (S 8)) (h0 : Nat) (hs : S 15 0 0 = nI h0) (h4 : h0 ≤ 4) (q v : Int32) (hv : v = 0 ∨ v = 1) : Met l yX7_breakChip (zws yX7_breakChip cX7_breakChip 3 (some .int)) (zrm 2 0 0 45) (zPc G 75 (pic G S) [.ref (zad G 8 0), .int q, .int v]) (zQi G 75 (if eHas (S 8) q = 0 then zSum zBrk (zBrkX (S 8) (tn q) v) else eHas (S 8) q) (pic G (if eHas (S 8) q = 0 then up (mRec S) 8 (zBrkX (S 8) (tn q) v) else S))) 0 0 (zA G) := by
  refine zMet npX7_breakChip rfl (Nat.le_of_ble_eq_true rfl) ?_
  intro p e s m args below meth cd hargs cx hr hin0
  have cx : Cx p s m args meth cd cX7_breakChip 3 RX7 G := cx
  refine x_ls (ls' := [some (.ref (zad G 8 0)), some (.int q), some (.int v)]) rfl (fun _ h => h) ?_
  refine x_aload_n cx dX7_breakChip_0 rfl rfl ?_
  refine x_iload_n cx dX7_breakChip_1 rfl rfl ?_
  refine x_S (up_self S 8).symm ?_
  refine x_Vi (C := RX7) (T := TX7) (N := 9) (rest := []) cx (c_X7_isChip l G _ _ hW _) gV_X7_74 ndX7_isChip rfl ⟨Nat.le_of_ble_eq_true rfl, Nat.le_of_ble_eq_true rfl⟩ (zok_8 (by decide)) (by decide) (p_M) rfl rfl rfl (Nat.le_of_ble_eq_true rfl) dX7_breakChip_2 ⟨Nat.le_of_ble_eq_true rfl, Nat.le_of_ble_eq_true rfl⟩ ?_
  refine x_S (up_self S 8) ?_
  refine x_if_ne (tgt := 10) cx dX7_breakChip_5 (by decide) (fun hb5 => ?_) (fun hb5 => ?_)
  · obtain ⟨t, ht, rfl⟩ := has_ix hW hb5
    have h6 := hW.n6
    have htn : tn (nI t) = t := nI_clamp (by omega)
    try simp only [htn]
    refine x_aload_n cx dX7_breakChip_10 rfl rfl ?_
    refine x_Vv (C := RX7) (T := TX7) (N := 9) (rest := []) cx (c_X7_record l G _ h0 hs h4) gV_X7_44 ndX7_record rfl ⟨Nat.le_of_ble_eq_true rfl, Nat.le_of_ble_eq_true rfl⟩ (zok_8 (by decide)) (by decide) (p_M) rfl rfl rfl (Nat.le_of_ble_eq_true rfl) dX7_breakChip_11 ⟨Nat.le_of_ble_eq_true rfl, Nat.le_of_ble_eq_true rfl⟩ ?_
    refine x_S (S' := up (mRec S) 8 (S 8)) (by rw [← mRec_8 hs h4, up_self]) ?_
    refine x_aload_n cx dX7_breakChip_14 rfl rfl ?_
    refine x_iload_n cx dX7_breakChip_15 rfl rfl ?_
    refine x_iconst (v := 5) cx dX7_breakChip_16 (by decide) ?_
    refine x_iload_n cx dX7_breakChip_17 rfl rfl ?_
    refine x_if_eq (tgt := 25) cx dX7_breakChip_18 (by decide) (fun hb18 => ?_) (fun hb18 => ?_)
    · obtain rfl : v = 0 := hb18
      refine x_iconst (v := 0) cx dX7_breakChip_25 (by decide) ?_
      refine x_Vv (C := RX7) (T := TX7) (N := 9) (rest := []) cx (c_X7_lay l G _ _ t 5 (by omega) (by decide) _) gV_X7_58 ndX7_lay rfl ⟨Nat.le_of_ble_eq_true rfl, Nat.le_of_ble_eq_true rfl⟩ (zok_8 (by decide)) (by decide) (p_M) rfl rfl rfl (Nat.le_of_ble_eq_true rfl) dX7_breakChip_26 ⟨Nat.le_of_ble_eq_true rfl, Nat.le_of_ble_eq_true rfl⟩ ?_
      refine x_aload_n cx dX7_breakChip_29 rfl rfl ?_
      refine x_iconst (v := 5) cx dX7_breakChip_30 (by decide) ?_
      refine x_Vi (C := RX7) (T := TX7) (N := 9) (rest := []) cx (c_X7_sum l G _ _ (zBrkX_WF hW hv) 5 (by decide)) gV_X7_77 ndX7_sum rfl ⟨Nat.le_of_ble_eq_true rfl, Nat.le_of_ble_eq_true rfl⟩ (zok_8 (by decide)) (by decide) (p_M) rfl rfl rfl (Nat.le_of_ble_eq_true rfl) dX7_breakChip_31 ⟨Nat.le_of_ble_eq_true rfl, Nat.le_of_ble_eq_true rfl⟩ ?_
      have he : eHas (S 8) (nI t) = 0 := by unfold eHas; rw [if_neg hb5]
      exact x_iret cx hr (by rw [if_pos he]; exact zSum_brk (zBrkX_WF hW hv)) (by rw [if_pos he]; exact fun _ _ _ _ => rfl) dX7_breakChip_34
    · obtain rfl : v = 1 := hv.resolve_left hb18
      refine x_iconst (v := 1) cx dX7_breakChip_21 (by decide) ?_
      refine x_goto (tgt := 26) cx dX7_breakChip_22 (by decide) ?_
      refine x_Vv (C := RX7) (T := TX7) (N := 9) (rest := []) cx (c_X7_lay l G _ _ t 5 (by omega) (by decide) _) gV_X7_58 ndX7_lay rfl ⟨Nat.le_of_ble_eq_true rfl, Nat.le_of_ble_eq_true rfl⟩ (zok_8 (by decide)) (by decide) (p_M) rfl rfl rfl (Nat.le_of_ble_eq_true rfl) dX7_breakChip_26 ⟨Nat.le_of_ble_eq_true rfl, Nat.le_of_ble_eq_true rfl⟩ ?_
      refine x_aload_n cx dX7_breakChip_29 rfl rfl ?_
      refine x_iconst (v := 5) cx dX7_breakChip_30 (by decide) ?_
      refine x_Vi (C := RX7) (T := TX7) (N := 9) (rest := []) cx (c_X7_sum l G _ _ (zBrkX_WF hW hv) 5 (by decide)) gV_X7_77 ndX7_sum rfl ⟨Nat.le_of_ble_eq_true rfl, Nat.le_of_ble_eq_true rfl⟩ (zok_8 (by decide)) (by decide) (p_M) rfl rfl rfl (Nat.le_of_ble_eq_true rfl) dX7_breakChip_31 ⟨Nat.le_of_ble_eq_true rfl, Nat.le_of_ble_eq_true rfl⟩ ?_
      have he : eHas (S 8) (nI t) = 0 := by unfold eHas; rw [if_neg hb5]
      exact x_iret cx hr (by rw [if_pos he]; exact zSum_brk (zBrkX_WF hW hv)) (by rw [if_pos he]; exact fun _ _ _ _ => rfl) dX7_breakChip_34
  · refine x_iconst (v := (-1)) cx dX7_breakChip_8 (by decide) ?_
    have he : eHas (S 8) q = -1 := by unfold eHas; rw [if_pos hb5]
    exact x_iret cx hr (by rw [he, if_neg (by decide)]) (by intro _ _ _ _; rw [he, if_neg (by decide)]) dX7_breakChip_9

set_option maxHeartbeats 4000000 in
set_option maxRecDepth 100000 in
theorem c_X7_append (l : Launch) (G : zG) (S : zS) (hW : zWF (S 8)) (h0 : Nat) (hs : S 15 0 0 = nI h0) (h4 : h0 ≤ 4) (L : Nat) (hL : S 15 0 2 = nI L) (h80 : L ≤ 80) (x : Int32) : Met l yX7_append (zws yX7_append cX7_append 2 (some .int)) (zrm 1 0 0 22) (zPc G 75 (pic G S) [.ref (zad G 8 0), .int x]) (zQi G 75 (if eApp L x = 0 then nI (L + 1) else eApp L x) (pic G (if eApp L x = 0 then up S 15 (uj (uj (S 15) 1 (upd (S 15 1) L x)) 0 (upd (S 15 0) 2 (nI (L + 1)))) else S))) 0 0 (zA G) := by
  refine zMet npX7_append rfl (Nat.le_of_ble_eq_true rfl) ?_
  intro p e s m args below meth cd hargs cx hr hin0
  have cx : Cx p s m args meth cd cX7_append 2 RX7 G := cx
  refine x_ls (ls' := [some (.ref (zad G 8 0)), some (.int x)]) rfl (fun _ h => h) ?_
  refine x_iload_n cx dX7_append_0 rfl rfl ?_
  refine x_bipush (v := 32) cx dX7_append_1 (by decide) ?_
  refine x_bipush (v := 126) cx dX7_append_3 (by decide) ?_
  refine x_Si (rest := []) cx (c_X7_in l G _ _ _ _ _) gS_X7_28 ndX7_in ⟨Nat.le_of_ble_eq_true rfl, Nat.le_of_ble_eq_true rfl⟩ rfl rfl (Nat.le_of_ble_eq_true rfl) dX7_append_5 ⟨Nat.le_of_ble_eq_true rfl, Nat.le_of_ble_eq_true rfl⟩ ?_
  refine x_if_ne (tgt := 14) cx dX7_append_8 (by decide) (fun hb8 => ?_) (fun hb8 => ?_)
  · refine x_aload_n cx dX7_append_14 rfl rfl ?_
    refine x_getX7 cx 7 (by decide) (fl_X7_131 cx) (zok_8 (by decide)) (by decide) (p_M) rfl dX7_append_15 ?_
    refine x_eqi hL ?_
    refine x_bipush (v := 80) cx dX7_append_18 (by decide) ?_
    refine x_icmp_ne (tgt := 26) cx dX7_append_20 (by decide) (fun hb20 => ?_) (fun hb20 => ?_)
    · have hlt : L < 80 := by rcases Nat.lt_or_ge L 80 with z | z <;> first | exact z | exact absurd (show nI L = 80 by rw [show L = 80 by omega]; rfl) hb20
      refine x_aload_n cx dX7_append_26 rfl rfl ?_
      refine x_getX7 cx 6 (by decide) (fl_X7_22 cx) (zok_8 (by decide)) (by decide) (p_M) rfl dX7_append_27 ?_
      refine x_aload_n cx dX7_append_30 rfl rfl ?_
      refine x_getX7 cx 7 (by decide) (fl_X7_131 cx) (zok_8 (by decide)) (by decide) (p_M) rfl dX7_append_31 ?_
      refine x_eqi hL ?_
      refine x_iload_n cx dX7_append_34 rfl rfl ?_
      refine x_iast (t := L) cx (zok_8 (by decide)) (by decide) (p_text) rfl (by omega) (by decide) (pp_text hlt) dX7_append_35 ?_
      refine x_aload_n cx dX7_append_36 rfl rfl ?_
      refine x_dup cx dX7_append_37 rfl ?_
      refine x_getX7 cx 7 (by decide) (fl_X7_131 cx) (zok_8 (by decide)) (by decide) (p_M) rfl dX7_append_38 ?_
      refine x_eqi (show _ = nI L from hL) ?_
      refine x_iconst (v := 1) cx dX7_append_41 (by decide) ?_
      refine x_iadd cx dX7_append_42 ?_
      refine x_eqi (nI_1 L) ?_
      refine x_putX7 cx 7 (by decide) (fl_X7_131 cx) (zok_8 (by decide)) (by decide) (p_M) rfl rfl rfl (Nat.le_of_ble_eq_true rfl) pp_M_length dX7_append_43 ?_
      refine x_aload_n cx dX7_append_46 rfl rfl ?_
      refine x_getX7 cx 7 (by decide) (fl_X7_131 cx) (zok_8 (by decide)) (by decide) (p_M) rfl dX7_append_47 ?_
      have he : eApp L x = 0 := by unfold eApp; rw [if_neg hb8, if_pos (show nI L < 80 from nI_lt (b := 80) hlt (by decide))]
      exact x_iret cx hr (by rw [if_pos he]; simp only [up_same, uj_same, upd_same]) (by rw [if_pos he]; rw [up_same, up_up, uj_ne _ _ (show 0 ≠ 1 by decide)]; exact fun _ _ _ _ => rfl) dX7_append_50
    · refine x_bipush (v := (-3)) cx dX7_append_23 (by decide) ?_
      have he : eApp L x = -3 := by unfold eApp; rw [if_neg hb8, if_neg (by rw [hb20]; decide)]
      exact x_iret cx hr (by rw [he, if_neg (by decide)]) (by intro _ _ _ _; rw [he, if_neg (by decide)]) dX7_append_25
  · refine x_bipush (v := (-2)) cx dX7_append_11 (by decide) ?_
    have he : eApp L x = -2 := by unfold eApp; rw [if_pos hb8]
    exact x_iret cx hr (by rw [he, if_neg (by decide)]) (by intro _ _ _ _; rw [he, if_neg (by decide)]) dX7_append_13

set_option maxHeartbeats 4000000 in
set_option maxRecDepth 100000 in
theorem c_X7_clearText (l : Launch) (G : zG) (S : zS) (hW : zWF (S 8)) (h0 : Nat) (hs : S 15 0 0 = nI h0) (h4 : h0 ≤ 4) : Met l yX7_clearText (zws yX7_clearText cX7_clearText 2 (some .int)) (zrm 0 0 0 0) (zPc G 75 (pic G S) [.ref (zad G 8 0)]) (zQi G 75 (S 15 0 2) (pic G (up S 15 (uj (S 15) 0 (upd (S 15 0) 2 0))))) 0 0 (zA G) := by
  refine zMet npX7_clearText rfl (Nat.le_of_ble_eq_true rfl) ?_
  intro p e s m args below meth cd hargs cx hr hin0
  have cx : Cx p s m args meth cd cX7_clearText 2 RX7 G := cx
  refine x_ls (ls' := [some (.ref (zad G 8 0)), none]) rfl (fun _ h => h) ?_
  refine x_aload_n cx dX7_clearText_0 rfl rfl ?_
  refine x_getX7 cx 7 (by decide) (fl_X7_131 cx) (zok_8 (by decide)) (by decide) (p_M) rfl dX7_clearText_1 ?_
  refine x_istore_n (ls' := [_, _]) cx dX7_clearText_4 rfl (by decide) rfl ?_
  refine x_aload_n cx dX7_clearText_5 rfl rfl ?_
  refine x_iconst (v := 0) cx dX7_clearText_6 (by decide) ?_
  refine x_putX7 cx 7 (by decide) (fl_X7_131 cx) (zok_8 (by decide)) (by decide) (p_M) rfl rfl rfl (Nat.le_of_ble_eq_true rfl) pp_M_length dX7_clearText_7 ?_
  refine x_iload_n cx dX7_clearText_10 rfl rfl ?_
  exact x_iret cx hr rfl (fun _ _ _ _ => rfl) dX7_clearText_11

set_option maxHeartbeats 4000000 in
set_option maxRecDepth 100000 in
theorem c_X7_found (l : Launch) (G : zG) (S : zS) (hW : zWF (S 8)) (h0 : Nat) (hs : S 15 0 0 = nI h0) (h4 : h0 ≤ 4) (q : Int32) : Met l yX7_found (zws yX7_found cX7_found 2 (some .int)) (zrm 0 0 0 0) (zPc G 75 (pic G S) [.ref (zad G 8 0), .int q]) (zQi G 75 (zFound (S 8) q) (pic G (S))) 0 0 (zA G) := by
  refine zMet npX7_found rfl (Nat.le_of_ble_eq_true rfl) ?_
  intro p e s m args below meth cd hargs cx hr hin0
  have cx : Cx p s m args meth cd cX7_found 2 RX7 G := cx
  refine x_ls (ls' := [some (.ref (zad G 8 0)), some (.int q)]) rfl (fun _ h => h) ?_
  refine x_iload_n cx dX7_found_0 rfl rfl ?_
  refine x_if_ge (tgt := 9) cx dX7_found_1 (by decide) (fun hb1 => ?_) (fun hb1 => ?_)
  · refine x_iload_n cx dX7_found_9 rfl rfl ?_
    refine x_aload_n cx dX7_found_10 rfl rfl ?_
    refine x_getX7 cx 0 (by decide) (fl_X7_7 cx) (zok_8 (by decide)) (by decide) (p_M) rfl dX7_found_11 ?_
    refine x_iconst (v := 3) cx dX7_found_14 (by decide) ?_
    refine x_iald (t := 3) cx (zok_8 (by decide)) (by decide) p_zg rfl (by decide) (by decide) (trz (by decide)) dX7_found_15 ?_
    refine x_icmp_ge (tgt := 30) cx dX7_found_16 (by decide) (fun hb16 => ?_) (fun hb16 => ?_)
    · refine x_bipush (v := (-4)) cx dX7_found_30 (by decide) ?_
      exact x_iret cx hr (by unfold zFound; rw [if_neg (Int32.not_lt.mpr hb1), if_neg (Int32.not_lt.mpr hb16)]) (fun _ _ _ _ => rfl) dX7_found_32
    · have h8 := hW.c8
      obtain ⟨t, ht, rfl⟩ := ix_lt (Int32.not_lt.mpr hb1) (by rw [← hW.c3]; exact Int32.not_le.mp hb16) (by omega)
      have htn : tn (nI t) = t := nI_clamp (by omega)
      refine x_aload_n cx dX7_found_19 rfl rfl ?_
      refine x_getX7 cx 0 (by decide) (fl_X7_7 cx) (zok_8 (by decide)) (by decide) (p_M) rfl dX7_found_20 ?_
      refine x_iconst (v := 4) cx dX7_found_23 (by decide) ?_
      refine x_iload_n cx dX7_found_24 rfl rfl ?_
      refine x_iadd cx dX7_found_25 ?_
      refine x_eqi (nI_add 4 t) ?_
      refine x_iald (t := (4 + t)) cx (zok_8 (by decide)) (by decide) p_zg rfl (by omega) (by decide) (tri (by omega)) dX7_found_26 ?_
      refine x_goto (tgt := 32) cx dX7_found_27 (by decide) ?_
      exact x_iret cx hr (by unfold zFound; rw [if_neg (Int32.not_lt.mpr hb1), if_pos (Int32.not_le.mp hb16), htn]) (fun _ _ _ _ => rfl) dX7_found_32
  · refine x_bipush (v := (-2)) cx dX7_found_4 (by decide) ?_
    refine x_goto (tgt := 32) cx dX7_found_6 (by decide) ?_
    exact x_iret cx hr (by unfold zFound; rw [if_pos (Int32.not_le.mp hb1)]) (fun _ _ _ _ => rfl) dX7_found_32

set_option maxHeartbeats 4000000 in
set_option maxRecDepth 100000 in
theorem c_X7_distance (l : Launch) (G : zG) (S : zS) (hW : zWF (S 8)) (h0 : Nat) (hs : S 15 0 0 = nI h0) (h4 : h0 ≤ 4) (a b : Int32) : Met l yX7_distance (zws yX7_distance cX7_distance 3 (some .int)) (zrm 2 0 0 46) (zPc G 75 (pic G S) [.ref (zad G 8 0), .int a, .int b]) (zQi G 75 (zDist a b) (pic G (if zis a = 0 then S else if zis b = 0 then S else fr S (farF (tn b))))) 0 0 (zA G) := by
  refine zMet npX7_distance rfl (Nat.le_of_ble_eq_true rfl) ?_
  intro p e s m args below meth cd hargs cx hr hin0
  have cx : Cx p s m args meth cd cX7_distance 3 RX7 G := cx
  refine x_ls (ls' := [some (.ref (zad G 8 0)), some (.int a), some (.int b)]) rfl (fun _ h => h) ?_
  have hza := zin_zis a
  have hzb := zin_zis b
  refine x_iload_n cx dX7_distance_0 rfl rfl ?_
  refine x_iconst (v := 0) cx dX7_distance_1 (by decide) ?_
  refine x_bipush (v := 15) cx dX7_distance_2 (by decide) ?_
  refine x_Si (rest := []) cx (c_X7_in l G _ _ _ _ _) gS_X7_28 ndX7_in ⟨Nat.le_of_ble_eq_true rfl, Nat.le_of_ble_eq_true rfl⟩ rfl rfl (Nat.le_of_ble_eq_true rfl) dX7_distance_4 ⟨Nat.le_of_ble_eq_true rfl, Nat.le_of_ble_eq_true rfl⟩ ?_
  refine x_if_eq (tgt := 20) cx dX7_distance_7 (by decide) (fun hb7 => ?_) (fun hb7 => ?_)
  · refine x_bipush (v := (-2)) cx dX7_distance_20 (by decide) ?_
    exact x_iret cx hr (by unfold zDist; rw [if_pos (hza ▸ hb7)]) (by intro _ _ _ _; rw [if_pos (hza ▸ hb7)]) dX7_distance_22
  · refine x_iload_n cx dX7_distance_10 rfl rfl ?_
    refine x_iconst (v := 0) cx dX7_distance_11 (by decide) ?_
    refine x_bipush (v := 15) cx dX7_distance_12 (by decide) ?_
    refine x_Si (rest := []) cx (c_X7_in l G _ _ _ _ _) gS_X7_28 ndX7_in ⟨Nat.le_of_ble_eq_true rfl, Nat.le_of_ble_eq_true rfl⟩ rfl rfl (Nat.le_of_ble_eq_true rfl) dX7_distance_14 ⟨Nat.le_of_ble_eq_true rfl, Nat.le_of_ble_eq_true rfl⟩ ?_
    refine x_if_ne (tgt := 23) cx dX7_distance_17 (by decide) (fun hb17 => ?_) (fun hb17 => ?_)
    · rw [hza] at hb7
      rw [hzb] at hb17
      obtain ⟨t, ht, rfl⟩ := is_ix hb7
      obtain ⟨u, hu, rfl⟩ := is_ix hb17
      have htn : tn (nI t) = t := nI_clamp (by omega)
      have hun : tn (nI u) = u := nI_clamp (by omega)
      refine x_aload_n cx dX7_distance_23 rfl rfl ?_
      refine x_iload_n cx dX7_distance_24 rfl rfl ?_
      refine x_Vv (C := RX7) (T := TX7) (N := 9) (rest := []) cx (c_X7_measure l G _ u hu) gV_X7_109 ndX7_measure rfl ⟨Nat.le_of_ble_eq_true rfl, Nat.le_of_ble_eq_true rfl⟩ (zok_8 (by decide)) (by decide) (p_M) rfl rfl rfl (Nat.le_of_ble_eq_true rfl) dX7_distance_25 ⟨Nat.le_of_ble_eq_true rfl, Nat.le_of_ble_eq_true rfl⟩ ?_
      refine x_aload_n cx dX7_distance_28 rfl rfl ?_
      refine x_getX7 cx 8 (by decide) (fl_X7_25 cx) (zok_8 (by decide)) (by decide) (p_M) rfl dX7_distance_29 ?_
      refine x_iload_n cx dX7_distance_32 rfl rfl ?_
      refine x_iald (t := t) cx (zok_8 (by decide)) (by decide) (p_far) rfl ht (by decide) (trf ht) dX7_distance_33 ?_
      exact x_iret cx hr (by unfold zDist; rw [if_neg hb7, if_neg hb17, htn, hun]; rfl) (by rw [if_neg hb7, if_neg hb17, hun]; exact fun _ _ _ _ => rfl) dX7_distance_34
    · refine x_bipush (v := (-2)) cx dX7_distance_20 (by decide) ?_
      exact x_iret cx hr (by unfold zDist; rw [if_neg (fun z => hb7 (hza.trans z)), if_pos (hzb ▸ hb17)]) (by intro _ _ _ _; rw [if_neg (fun z => hb7 (hza.trans z)), if_pos (hzb ▸ hb17)]) dX7_distance_22

set_option maxHeartbeats 4000000 in
set_option maxRecDepth 100000 in
theorem c_X7_peek (l : Launch) (G : zG) (S : zS) (hW : zWF (S 8)) (h0 : Nat) (hs : S 15 0 0 = nI h0) (h4 : h0 ≤ 4) (x : Int32) : Met l yX7_peek (zws yX7_peek cX7_peek 2 (some .int)) (zrm 3 0 0 64) (zPc G 75 (pic G S) [.ref (zad G 8 0), .int x]) (zQi G 75 (zPeek (S 8) x) (pic G (S))) 0 0 (zA G) := by
  refine zMet npX7_peek rfl (Nat.le_of_ble_eq_true rfl) ?_
  intro p e s m args below meth cd hargs cx hr hin0
  have cx : Cx p s m args meth cd cX7_peek 2 RX7 G := cx
  refine x_ls (ls' := [some (.ref (zad G 8 0)), some (.int x)]) rfl (fun _ h => h) ?_
  refine x_iload_n cx dX7_peek_0 rfl rfl ?_
  refine x_iconst (v := 0) cx dX7_peek_1 (by decide) ?_
  refine x_iconst (v := 1) cx dX7_peek_2 (by decide) ?_
  refine x_Si (rest := []) cx (c_X7_in l G _ _ _ _ _) gS_X7_28 ndX7_in ⟨Nat.le_of_ble_eq_true rfl, Nat.le_of_ble_eq_true rfl⟩ rfl rfl (Nat.le_of_ble_eq_true rfl) dX7_peek_3 ⟨Nat.le_of_ble_eq_true rfl, Nat.le_of_ble_eq_true rfl⟩ ?_
  refine x_if_eq (tgt := 17) cx dX7_peek_6 (by decide) (fun hb6 => ?_) (fun hb6 => ?_)
  · refine x_bipush (v := (-2)) cx dX7_peek_17 (by decide) ?_
    exact x_iret cx hr (by unfold zPeek; rw [if_pos hb6]) (fun _ _ _ _ => rfl) dX7_peek_19
  · refine x_aload_n cx dX7_peek_9 rfl rfl ?_
    refine x_iload_n cx dX7_peek_10 rfl rfl ?_
    refine x_S (up_self S 8).symm ?_
    refine x_Vi (C := RX7) (T := TX7) (N := 9) (rest := []) cx (c_X7_output l G _ _ hW _) gV_X7_94 ndX7_output rfl ⟨Nat.le_of_ble_eq_true rfl, Nat.le_of_ble_eq_true rfl⟩ (zok_8 (by decide)) (by decide) (p_M) rfl rfl rfl (Nat.le_of_ble_eq_true rfl) dX7_peek_11 ⟨Nat.le_of_ble_eq_true rfl, Nat.le_of_ble_eq_true rfl⟩ ?_
    refine x_S (up_self S 8) ?_
    refine x_goto (tgt := 19) cx dX7_peek_14 (by decide) ?_
    exact x_iret cx hr (by unfold zPeek; rw [if_neg hb6]) (fun _ _ _ _ => rfl) dX7_peek_19

theorem zTell_no {c : Nat → Int32} {v : Int32} (h : zin v 0 8 = 0) (h9 : ¬ v = 9) : zTell c v = -2 := by
  have key : ∀ k : Nat, k < 9 → ¬ v = nI k := fun k hk z => zin_0 h (by rw [z]; exact ⟨nI_le (a := 0) (by omega) (by omega), nI_le (b := 8) (by omega) (by decide)⟩)
  unfold zTell
  rw [if_neg (show ¬ v = 0 from key 0 (by decide)), if_neg (show ¬ v = 1 from key 1 (by decide)), if_neg (show ¬ v = 2 from key 2 (by decide)), if_neg (show ¬ v = 3 from key 3 (by decide)), if_neg (show ¬ v = 4 from key 4 (by decide)), if_neg (show ¬ v = 5 from key 5 (by decide)), if_neg (show ¬ v = 6 from key 6 (by decide)), if_neg (show ¬ v = 7 from key 7 (by decide)), if_neg (show ¬ v = 8 from key 8 (by decide)), if_neg h9]

set_option maxHeartbeats 4000000 in
set_option maxRecDepth 100000 in
theorem c_X7_chip (l : Launch) (G : zG) (S : zS) (hW : zWF (S 8)) (h0 : Nat) (hs : S 15 0 0 = nI h0) (h4 : h0 ≤ 4) (q v : Int32) : Met l yX7_chip (zws yX7_chip cX7_chip 3 (some .int)) (zrm 3 0 0 64) (zPc G 75 (pic G S) [.ref (zad G 8 0), .int q, .int v]) (zQi G 75 (zTellX (S 8) q v) (pic G (S))) 0 0 (zA G) := by
  refine zMet npX7_chip rfl (Nat.le_of_ble_eq_true rfl) ?_
  intro p e s m args below meth cd hargs cx hr hin0
  have cx : Cx p s m args meth cd cX7_chip 3 RX7 G := cx
  refine x_ls (ls' := [some (.ref (zad G 8 0)), some (.int q), some (.int v)]) rfl (fun _ h => h) ?_
  refine x_aload_n cx dX7_chip_0 rfl rfl ?_
  refine x_iload_n cx dX7_chip_1 rfl rfl ?_
  refine x_S (up_self S 8).symm ?_
  refine x_Vi (C := RX7) (T := TX7) (N := 9) (rest := []) cx (c_X7_isChip l G _ _ hW _) gV_X7_74 ndX7_isChip rfl ⟨Nat.le_of_ble_eq_true rfl, Nat.le_of_ble_eq_true rfl⟩ (zok_8 (by decide)) (by decide) (p_M) rfl rfl rfl (Nat.le_of_ble_eq_true rfl) dX7_chip_2 ⟨Nat.le_of_ble_eq_true rfl, Nat.le_of_ble_eq_true rfl⟩ ?_
  refine x_S (up_self S 8) ?_
  refine x_if_ne (tgt := 10) cx dX7_chip_5 (by decide) (fun hb5 => ?_) (fun hb5 => ?_)
  · obtain ⟨t, ht, rfl⟩ := has_ix hW hb5
    have h6 := hW.n6
    have htn : tn (nI t) = t := nI_clamp (by omega)
    try simp only [htn]
    refine x_iload_n cx dX7_chip_10 rfl rfl ?_
    refine x_iconst (v := 0) cx dX7_chip_11 (by decide) ?_
    refine x_bipush (v := 8) cx dX7_chip_12 (by decide) ?_
    refine x_Si (rest := []) cx (c_X7_in l G _ _ _ _ _) gS_X7_28 ndX7_in ⟨Nat.le_of_ble_eq_true rfl, Nat.le_of_ble_eq_true rfl⟩ rfl rfl (Nat.le_of_ble_eq_true rfl) dX7_chip_14 ⟨Nat.le_of_ble_eq_true rfl, Nat.le_of_ble_eq_true rfl⟩ ?_
    refine x_if_eq (tgt := 29) cx dX7_chip_17 (by decide) (fun hb17 => ?_) (fun hb17 => ?_)
    · refine x_iload_n cx dX7_chip_29 rfl rfl ?_
      refine x_bipush (v := 9) cx dX7_chip_30 (by decide) ?_
      refine x_icmp_ne (tgt := 43) cx dX7_chip_32 (by decide) (fun hb32 => ?_) (fun hb32 => ?_)
      · refine x_bipush (v := (-2)) cx dX7_chip_43 (by decide) ?_
        exact x_iret cx hr (by unfold zTellX; rw [if_neg hb5, htn, zTell_no hb17 hb32]) (fun _ _ _ _ => rfl) dX7_chip_45
      · refine x_aload_n cx dX7_chip_35 rfl rfl ?_
        refine x_iload_n cx dX7_chip_36 rfl rfl ?_
        refine x_S (up_self S 8).symm ?_
        refine x_Vi (C := RX7) (T := TX7) (N := 9) (rest := []) cx (c_X7_bits l G _ _ t (by omega) (hW.chip ht).2.2.2) gV_X7_91 ndX7_bits rfl ⟨Nat.le_of_ble_eq_true rfl, Nat.le_of_ble_eq_true rfl⟩ (zok_8 (by decide)) (by decide) (p_M) rfl rfl rfl (Nat.le_of_ble_eq_true rfl) dX7_chip_37 ⟨Nat.le_of_ble_eq_true rfl, Nat.le_of_ble_eq_true rfl⟩ ?_
        refine x_S (up_self S 8) ?_
        refine x_goto (tgt := 45) cx dX7_chip_40 (by decide) ?_
        exact x_iret cx hr (by unfold zTellX; rw [if_neg hb5, htn]; subst hb32; rfl) (fun _ _ _ _ => rfl) dX7_chip_45
    · refine x_aload_n cx dX7_chip_20 rfl rfl ?_
      refine x_iload_n cx dX7_chip_21 rfl rfl ?_
      refine x_iload_n cx dX7_chip_22 rfl rfl ?_
      refine x_S (up_self S 8).symm ?_
      obtain ⟨w, hw, rfl⟩ := in_ix (m := 8) (by decide) hb17
      refine x_Vi (C := RX7) (T := TX7) (N := 9) (rest := []) cx (c_X7_of l G _ _ t w (by omega) (by omega)) gV_X7_47 ndX7_of rfl ⟨Nat.le_of_ble_eq_true rfl, Nat.le_of_ble_eq_true rfl⟩ (zok_8 (by decide)) (by decide) (p_M) rfl rfl rfl (Nat.le_of_ble_eq_true rfl) dX7_chip_23 ⟨Nat.le_of_ble_eq_true rfl, Nat.le_of_ble_eq_true rfl⟩ ?_
      refine x_S (up_self S 8) ?_
      refine x_goto (tgt := 45) cx dX7_chip_26 (by decide) ?_
      exact x_iret cx hr (by unfold zTellX; rw [if_neg hb5, htn, zTell_w (hW.chip ht).2.2.1 w (by omega)]) (fun _ _ _ _ => rfl) dX7_chip_45
  · refine x_iconst (v := (-1)) cx dX7_chip_8 (by decide) ?_
    exact x_iret cx hr (by unfold zTellX; rw [if_pos hb5]) (fun _ _ _ _ => rfl) dX7_chip_9

set_option maxHeartbeats 4000000 in
set_option maxRecDepth 100000 in
theorem c_X7_count (l : Launch) (G : zG) (S : zS) (hW : zWF (S 8)) (h0 : Nat) (hs : S 15 0 0 = nI h0) (h4 : h0 ≤ 4) (x : Int32) : Met l yX7_count (zws yX7_count cX7_count 2 (some .int)) (zrm 4 0 0 86) (zPc G 75 (pic G S) [.ref (zad G 8 0), .int x]) (zQi G 75 (zCount (S 8) (S 15 0 0) (S 15 0 2) x) (pic G (S))) 0 0 (zA G) := by
  refine zMet npX7_count rfl (Nat.le_of_ble_eq_true rfl) ?_
  intro p e s m args below meth cd hargs cx hr hin0
  have cx : Cx p s m args meth cd cX7_count 2 RX7 G := cx
  refine x_ls (ls' := [some (.ref (zad G 8 0)), some (.int x)]) rfl (fun _ h => h) ?_
  refine x_iload_n cx dX7_count_0 rfl rfl ?_
  rcases sw_cases x 8 (by decide) with hsw | hsw | ⟨w, hw, rfl⟩
  · refine x_tableOut (tgt := 107) cx dX7_count_1 (Or.inl hsw) (by decide) ?_
    refine x_bipush (v := (-2)) cx dX7_count_107 (by decide) ?_
    exact x_iret cx hr (zCount_out (by first | exact Or.inl hsw | exact Or.inr hsw)).symm (fun _ _ _ _ => rfl) dX7_count_109
  · refine x_tableOut (tgt := 107) cx dX7_count_1 (Or.inr hsw) (by decide) ?_
    refine x_bipush (v := (-2)) cx dX7_count_107 (by decide) ?_
    exact x_iret cx hr (zCount_out (by first | exact Or.inl hsw | exact Or.inr hsw)).symm (fun _ _ _ _ => rfl) dX7_count_109
  · rcases (show w = 0 ∨ w = 1 ∨ w = 2 ∨ w = 3 ∨ w = 4 ∨ w = 5 ∨ w = 6 ∨ w = 7 ∨ w = 8 by omega) with rfl | rfl | rfl | rfl | rfl | rfl | rfl | rfl | rfl
    · refine x_tableIn (tgt := 52) (off := 51) cx dX7_count_1 (by decide +kernel) (by decide +kernel) (by decide +kernel) (by decide) ?_
      refine x_aload_n cx dX7_count_52 rfl rfl ?_
      refine x_getX7 cx 0 (by decide) (fl_X7_7 cx) (zok_8 (by decide)) (by decide) (p_M) rfl dX7_count_53 ?_
      refine x_iconst (v := 0) cx dX7_count_56 (by decide) ?_
      refine x_iald (t := 0) cx (zok_8 (by decide)) (by decide) p_zg rfl (by decide) (by decide) (trz (by decide)) dX7_count_57 ?_
      exact x_iret cx hr ((zCount_in.1).trans (by first | rfl | exact (zSum_brk hW).symm)).symm (fun _ _ _ _ => rfl) dX7_count_58
    · refine x_tableIn (tgt := 59) (off := 58) cx dX7_count_1 (by decide +kernel) (by decide +kernel) (by decide +kernel) (by decide) ?_
      refine x_aload_n cx dX7_count_59 rfl rfl ?_
      refine x_iconst (v := 5) cx dX7_count_60 (by decide) ?_
      refine x_S (up_self S 8).symm ?_
      refine x_Vi (C := RX7) (T := TX7) (N := 9) (rest := []) cx (c_X7_sum l G _ _ hW 5 (by decide)) gV_X7_77 ndX7_sum rfl ⟨Nat.le_of_ble_eq_true rfl, Nat.le_of_ble_eq_true rfl⟩ (zok_8 (by decide)) (by decide) (p_M) rfl rfl rfl (Nat.le_of_ble_eq_true rfl) dX7_count_61 ⟨Nat.le_of_ble_eq_true rfl, Nat.le_of_ble_eq_true rfl⟩ ?_
      refine x_S (up_self S 8) ?_
      exact x_iret cx hr ((zCount_in.2.1).trans (by first | rfl | exact (zSum_brk hW).symm)).symm (fun _ _ _ _ => rfl) dX7_count_64
    · refine x_tableIn (tgt := 65) (off := 64) cx dX7_count_1 (by decide +kernel) (by decide +kernel) (by decide +kernel) (by decide) ?_
      refine x_aload_n cx dX7_count_65 rfl rfl ?_
      refine x_getX7 cx 0 (by decide) (fl_X7_7 cx) (zok_8 (by decide)) (by decide) (p_M) rfl dX7_count_66 ?_
      refine x_iconst (v := 1) cx dX7_count_69 (by decide) ?_
      refine x_iald (t := 1) cx (zok_8 (by decide)) (by decide) p_zg rfl (by decide) (by decide) (trz (by decide)) dX7_count_70 ?_
      exact x_iret cx hr ((zCount_in.2.2.1).trans (by first | rfl | exact (zSum_brk hW).symm)).symm (fun _ _ _ _ => rfl) dX7_count_71
    · refine x_tableIn (tgt := 72) (off := 71) cx dX7_count_1 (by decide +kernel) (by decide +kernel) (by decide +kernel) (by decide) ?_
      refine x_aload_n cx dX7_count_72 rfl rfl ?_
      refine x_getX7 cx 0 (by decide) (fl_X7_7 cx) (zok_8 (by decide)) (by decide) (p_M) rfl dX7_count_73 ?_
      refine x_iconst (v := 2) cx dX7_count_76 (by decide) ?_
      refine x_iald (t := 2) cx (zok_8 (by decide)) (by decide) p_zg rfl (by decide) (by decide) (trz (by decide)) dX7_count_77 ?_
      exact x_iret cx hr ((zCount_in.2.2.2.1).trans (by first | rfl | exact (zSum_brk hW).symm)).symm (fun _ _ _ _ => rfl) dX7_count_78
    · refine x_tableIn (tgt := 79) (off := 78) cx dX7_count_1 (by decide +kernel) (by decide +kernel) (by decide +kernel) (by decide) ?_
      refine x_aload_n cx dX7_count_79 rfl rfl ?_
      refine x_iconst (v := 0) cx dX7_count_80 (by decide) ?_
      refine x_S (up_self S 8).symm ?_
      refine x_Vi (C := RX7) (T := TX7) (N := 9) (rest := []) cx (c_X7_sum l G _ _ hW 0 (by decide)) gV_X7_77 ndX7_sum rfl ⟨Nat.le_of_ble_eq_true rfl, Nat.le_of_ble_eq_true rfl⟩ (zok_8 (by decide)) (by decide) (p_M) rfl rfl rfl (Nat.le_of_ble_eq_true rfl) dX7_count_81 ⟨Nat.le_of_ble_eq_true rfl, Nat.le_of_ble_eq_true rfl⟩ ?_
      refine x_S (up_self S 8) ?_
      exact x_iret cx hr ((zCount_in.2.2.2.2.1).trans (by first | rfl | exact (zSum_brk hW).symm)).symm (fun _ _ _ _ => rfl) dX7_count_84
    · refine x_tableIn (tgt := 85) (off := 84) cx dX7_count_1 (by decide +kernel) (by decide +kernel) (by decide +kernel) (by decide) ?_
      refine x_aload_n cx dX7_count_85 rfl rfl ?_
      refine x_S (up_self S 8).symm ?_
      refine x_Vi (C := RX7) (T := TX7) (N := 9) (rest := []) cx (c_X7_allBits l G _ _ hW) gV_X7_140 ndX7_allBits rfl ⟨Nat.le_of_ble_eq_true rfl, Nat.le_of_ble_eq_true rfl⟩ (zok_8 (by decide)) (by decide) (p_M) rfl rfl rfl (Nat.le_of_ble_eq_true rfl) dX7_count_86 ⟨Nat.le_of_ble_eq_true rfl, Nat.le_of_ble_eq_true rfl⟩ ?_
      refine x_S (up_self S 8) ?_
      exact x_iret cx hr ((zCount_in.2.2.2.2.2.1).trans (by first | rfl | exact (zSum_brk hW).symm)).symm (fun _ _ _ _ => rfl) dX7_count_89
    · refine x_tableIn (tgt := 90) (off := 89) cx dX7_count_1 (by decide +kernel) (by decide +kernel) (by decide +kernel) (by decide) ?_
      refine x_aload_n cx dX7_count_90 rfl rfl ?_
      refine x_getX7 cx 0 (by decide) (fl_X7_7 cx) (zok_8 (by decide)) (by decide) (p_M) rfl dX7_count_91 ?_
      refine x_iconst (v := 3) cx dX7_count_94 (by decide) ?_
      refine x_iald (t := 3) cx (zok_8 (by decide)) (by decide) p_zg rfl (by decide) (by decide) (trz (by decide)) dX7_count_95 ?_
      exact x_iret cx hr ((zCount_in.2.2.2.2.2.2.1).trans (by first | rfl | exact (zSum_brk hW).symm)).symm (fun _ _ _ _ => rfl) dX7_count_96
    · refine x_tableIn (tgt := 97) (off := 96) cx dX7_count_1 (by decide +kernel) (by decide +kernel) (by decide +kernel) (by decide) ?_
      refine x_aload_n cx dX7_count_97 rfl rfl ?_
      refine x_getX7 cx 3 (by decide) (fl_X7_32 cx) (zok_8 (by decide)) (by decide) (p_M) rfl dX7_count_98 ?_
      exact x_iret cx hr ((zCount_in.2.2.2.2.2.2.2.1).trans (by first | rfl | exact (zSum_brk hW).symm)).symm (fun _ _ _ _ => rfl) dX7_count_101
    · refine x_tableIn (tgt := 102) (off := 101) cx dX7_count_1 (by decide +kernel) (by decide +kernel) (by decide +kernel) (by decide) ?_
      refine x_aload_n cx dX7_count_102 rfl rfl ?_
      refine x_getX7 cx 7 (by decide) (fl_X7_131 cx) (zok_8 (by decide)) (by decide) (p_M) rfl dX7_count_103 ?_
      exact x_iret cx hr ((zCount_in.2.2.2.2.2.2.2.2).trans (by first | rfl | exact (zSum_brk hW).symm)).symm (fun _ _ _ _ => rfl) dX7_count_106

