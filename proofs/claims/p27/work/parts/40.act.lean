set_option maxHeartbeats 4000000 in
set_option maxRecDepth 100000 in
theorem c_L_clock (l : Launch) (G : zG) (S : zS) (hS : kWF S) (hX : XOK (S 0)) (md i : Nat) (hmd : md < 2) (hi : i < 2) : Met l yL_clock (zws yL_clock cL_clock 11 (some .int)) (zrm 6 0 0 131) (zPc G 68 (pic G S) [.ref (zad G 7 0), .int (nI md), .int (nI i)]) (zQi G 68 (zOut (S 0) (nI i)) (pic G (up (zRec S) 0 (zTick (S 0) (nI md) (nI i))))) 0 0 (zA G) := by
  refine zMet npL_clock rfl (Nat.le_of_ble_eq_true rfl) ?_
  intro p e s m args below meth cd hargs cx hr hin0
  have cx : Cx p s m args meth cd cL_clock 11 RL G := cx
  refine x_ls (ls' := [some (.ref (zad G 7 0)), some (.int (nI md)), some (.int (nI i)), none, none, none, none, none, none, none, none]) rfl (fun _ h => h) ?_
  have h6 := hS.1.n6
  have h16 := hS.1.s16
  by_cases hn0 : num (S 0) = 0
  · refine x_aload_n cx dL_clock_0 rfl rfl ?_
    refine x_iconst (v := nI 2) cx dL_clock_1 (by decide) ?_
    refine x_Vi (C := RX6) (T := TX6) (N := 6) (rest := []) cx (c_X6_count l G _ hS _) gV_L_14 ndX6_count rfl ⟨Nat.le_of_ble_eq_true rfl, Nat.le_of_ble_eq_true rfl⟩ (zok_7 (by decide)) (by decide) (p_SC) rfl rfl rfl (Nat.le_of_ble_eq_true rfl) dL_clock_2 ⟨Nat.le_of_ble_eq_true rfl, Nat.le_of_ble_eq_true rfl⟩ ?_
    refine x_eqi (cn2 hS.1) ?_
    refine x_istore_n (ls' := [_, _, _, _, _, _, _, _, _, _, _]) cx dL_clock_5 rfl (by decide) rfl ?_
    refine x_aload_n cx dL_clock_6 rfl rfl ?_
    refine x_iconst (v := nI 3) cx dL_clock_7 (by decide) ?_
    refine x_Vi (C := RX6) (T := TX6) (N := 6) (rest := []) cx (c_X6_count l G _ hS _) gV_L_14 ndX6_count rfl ⟨Nat.le_of_ble_eq_true rfl, Nat.le_of_ble_eq_true rfl⟩ (zok_7 (by decide)) (by decide) (p_SC) rfl rfl rfl (Nat.le_of_ble_eq_true rfl) dL_clock_8 ⟨Nat.le_of_ble_eq_true rfl, Nat.le_of_ble_eq_true rfl⟩ ?_
    refine x_eqi cn3 ?_
    refine x_istore (ls' := [_, _, _, _, _, _, _, _, _, _, _]) cx dL_clock_11 (by decide) rfl ?_
    refine x_aload_n cx dL_clock_13 rfl rfl ?_
    refine x_iload_n cx dL_clock_14 rfl rfl ?_
    refine x_Vi (C := RX6) (T := TX6) (N := 6) (rest := []) cx (c_X6_peek l G _ hS _) gV_L_27 ndX6_peek rfl ⟨Nat.le_of_ble_eq_true rfl, Nat.le_of_ble_eq_true rfl⟩ (zok_7 (by decide)) (by decide) (p_SC) rfl rfl rfl (Nat.le_of_ble_eq_true rfl) dL_clock_15 ⟨Nat.le_of_ble_eq_true rfl, Nat.le_of_ble_eq_true rfl⟩ ?_
    refine x_eqi (pk_01 hi) ?_
    refine x_istore (ls' := [_, _, _, _, _, _, _, _, _, _, _]) cx dL_clock_18 (by decide) rfl ?_
    refine x_aload_n cx dL_clock_20 rfl rfl ?_
    refine x_iconst (v := nI 0) cx dL_clock_21 (by decide) ?_
    refine x_Vi (C := RX6) (T := TX6) (N := 6) (rest := []) cx (c_X6_count l G _ hS _) gV_L_14 ndX6_count rfl ⟨Nat.le_of_ble_eq_true rfl, Nat.le_of_ble_eq_true rfl⟩ (zok_7 (by decide)) (by decide) (p_SC) rfl rfl rfl (Nat.le_of_ble_eq_true rfl) dL_clock_22 ⟨Nat.le_of_ble_eq_true rfl, Nat.le_of_ble_eq_true rfl⟩ ?_
    refine x_eqi (cn0 hS.1) ?_
    refine x_istore (ls' := [_, _, _, _, _, _, _, _, _, _, _]) cx dL_clock_25 (by decide) rfl ?_
    refine x_iload cx dL_clock_27 rfl ?_
    refine x_if_ne_f (tgt := 36) cx dL_clock_29 (by decide) (nI_ig (b := 0) (by omega)) ?_
    refine x_iconst (v := nI 0) cx dL_clock_32 (by decide) ?_
    refine x_goto (tgt := 58) cx dL_clock_33 (by decide) ?_
    refine x_istore (ls' := [_, _, _, _, _, _, _, _, _, _, _]) cx dL_clock_58 (by decide) rfl ?_
    refine x_iload cx dL_clock_60 rfl ?_
    refine x_if_ne_f (tgt := 69) cx dL_clock_62 (by decide) (nI_ig (b := 0) (by omega)) ?_
    refine x_iconst (v := nI 0) cx dL_clock_65 (by decide) ?_
    refine x_goto (tgt := 90) cx dL_clock_66 (by decide) ?_
    refine x_istore (ls' := [_, _, _, _, _, _, _, _, _, _, _]) cx dL_clock_90 (by decide) rfl ?_
    refine x_aload_n cx dL_clock_92 rfl rfl ?_
    refine x_iload_n cx dL_clock_93 rfl rfl ?_
    refine x_iload_n cx dL_clock_94 rfl rfl ?_
    refine x_Vi (C := RX6) (T := TX6) (N := 6) (rest := []) cx (c_X6_clock l G _ hS _ _) gV_L_50 ndX6_clock rfl ⟨Nat.le_of_ble_eq_true rfl, Nat.le_of_ble_eq_true rfl⟩ (zok_7 (by decide)) (by decide) (p_SC) rfl rfl rfl (Nat.le_of_ble_eq_true rfl) dL_clock_95 ⟨Nat.le_of_ble_eq_true rfl, Nat.le_of_ble_eq_true rfl⟩ ?_
    refine x_eqi (okE (eClk_ok hmd hi)) ?_
    refine x_S (okS (eClk_ok hmd hi)) ?_
    have hokT : XOK (zTick (S 0) (nI md) (nI i)) := XOK_tick hX ⟨i, hi, rfl⟩
    refine x_nm fun T hT => ?_
    have hT0 : T 0 = zTick (S 0) (nI md) (nI i) := by rw [hT]; exact up_same _ _ _
    have hkT : kWF T := by rw [hT]; exact (kWF_rec hS hokT.1).1
    have hXT : XOK (T 0) := by rw [hT0]; exact hokT
    have hnT : num (T 0) = num (S 0) := by rw [hT0, num_tick]
    have hsT : stt (T 0) = nx (stt (S 0)) (nI md) := by rw [hT0, stt_tick]
    have hdx : stt (T 0) = stt (S 0) ∨ dst (stt (S 0)) (stt (T 0)) = 1 := by rw [hsT]; exact dx_t (stt (S 0)) h16 md hmd
    have h16T := hkT.1.s16
    refine x_istore (ls' := [_, _, _, _, _, _, _, _, _, _, _]) cx dL_clock_98 (by decide) rfl ?_
    refine x_iload cx dL_clock_100 rfl ?_
    refine x_iload cx dL_clock_102 rfl ?_
    refine x_icmp_ne_f (tgt := 146) cx dL_clock_104 (by decide) rfl ?_
    refine x_aload_n cx dL_clock_107 rfl rfl ?_
    refine x_iconst (v := nI 3) cx dL_clock_108 (by decide) ?_
    refine x_Vi (C := RX6) (T := TX6) (N := 6) (rest := []) cx (c_X6_count l G _ hkT _) gV_L_14 ndX6_count rfl ⟨Nat.le_of_ble_eq_true rfl, Nat.le_of_ble_eq_true rfl⟩ (zok_7 (by decide)) (by decide) (p_SC) rfl rfl rfl (Nat.le_of_ble_eq_true rfl) dL_clock_109 ⟨Nat.le_of_ble_eq_true rfl, Nat.le_of_ble_eq_true rfl⟩ ?_
    refine x_eqi cn3 ?_
    refine x_iload cx dL_clock_112 rfl ?_
    refine x_iconst (v := nI 1) cx dL_clock_114 (by decide) ?_
    refine x_iadd cx dL_clock_115 ?_
    refine x_icmp_ne_f (tgt := 146) cx dL_clock_116 (by decide) (by rw [hT0, zTick_0]; rfl) ?_
    refine x_aload_n cx dL_clock_119 rfl rfl ?_
    refine x_iconst (v := nI 2) cx dL_clock_120 (by decide) ?_
    refine x_Vi (C := RX6) (T := TX6) (N := 6) (rest := []) cx (c_X6_count l G _ hkT _) gV_L_14 ndX6_count rfl ⟨Nat.le_of_ble_eq_true rfl, Nat.le_of_ble_eq_true rfl⟩ (zok_7 (by decide)) (by decide) (p_SC) rfl rfl rfl (Nat.le_of_ble_eq_true rfl) dL_clock_121 ⟨Nat.le_of_ble_eq_true rfl, Nat.le_of_ble_eq_true rfl⟩ ?_
    refine x_eqi (cn2 hkT.1) ?_
    refine x_iload_n cx dL_clock_124 rfl rfl ?_
    have K142 : Xh p l e (zrm 6 0 0 131) s m args below meth cd 11 G (MQ below (zQi G 68 (zOut (S 0) (nI i)) (pic G (up (zRec S) 0 (zTick (S 0) (nI md) (nI i))))) args s 0 0 (zA G)) 0 0 68 (pic G T) 142 [some (.ref (zad G 7 0)), some (.int (nI md)), some (.int (nI i)), some (.int (nI (stt (S 0)))), some (.int (S 0 0 2)), some (.int (zOut (S 0) (nI i))), some (.int (nI (num (S 0)))), some (.int (nI 0)), some (.int (nI 0)), some (.int (zOut (S 0) (nI i))), none] [] := by
      refine x_iconst (v := nI 1) cx dL_clock_142 (by decide) ?_
      refine x_goto (tgt := 147) cx dL_clock_143 (by decide) ?_
      refine x_istore (ls' := [_, _, _, _, _, _, _, _, _, _, _]) cx dL_clock_147 (by decide) rfl ?_
      refine x_iload cx dL_clock_149 rfl ?_
      refine x_if_le_t (tgt := 208) cx dL_clock_151 (by decide) (nI_le (b := 0) (by omega) (by decide)) ?_
      refine x_iload cx dL_clock_208 rfl ?_
      refine x_if_eq_f (tgt := 218) cx dL_clock_210 (by decide) (by decide) ?_
      refine x_iload cx dL_clock_213 rfl ?_
      refine x_goto (tgt := 220) cx dL_clock_215 (by decide) ?_
      exact x_iret cx hr rfl (by intro _ _ _ _; rw [hT]) dL_clock_220
    refine x_icmp_eq (tgt := 142) cx dL_clock_125 (by decide) (fun hb125 => ?_) (fun hb125 => ?_)
    · exact K142
    · have hne : stt (T 0) ≠ stt (S 0) := fun z => hb125 (nI_ig z)
      refine x_aload_n cx dL_clock_128 rfl rfl ?_
      refine x_iload_n cx dL_clock_129 rfl rfl ?_
      refine x_aload_n cx dL_clock_130 rfl rfl ?_
      refine x_iconst (v := nI 2) cx dL_clock_131 (by decide) ?_
      refine x_Vi (C := RX6) (T := TX6) (N := 6) (rest := [_, _]) cx (c_X6_count l G _ hkT _) gV_L_14 ndX6_count rfl ⟨Nat.le_of_ble_eq_true rfl, Nat.le_of_ble_eq_true rfl⟩ (zok_7 (by decide)) (by decide) (p_SC) rfl rfl rfl (Nat.le_of_ble_eq_true rfl) dL_clock_132 ⟨Nat.le_of_ble_eq_true rfl, Nat.le_of_ble_eq_true rfl⟩ ?_
      refine x_eqi (cn2 hkT.1) ?_
      refine x_Vi (C := RX6) (T := TX6) (N := 6) (rest := []) cx (c_X6_distance l G _ hkT _ _) gV_L_62 ndX6_distance rfl ⟨Nat.le_of_ble_eq_true rfl, Nat.le_of_ble_eq_true rfl⟩ (zok_7 (by decide)) (by decide) (p_SC) rfl rfl rfl (Nat.le_of_ble_eq_true rfl) dL_clock_135 ⟨Nat.le_of_ble_eq_true rfl, Nat.le_of_ble_eq_true rfl⟩ ?_
      refine x_eqi (zd h16 h16T) ?_
      refine x_iconst (v := nI 1) cx dL_clock_138 (by decide) ?_
      refine x_icmp_ne_f (tgt := 146) cx dL_clock_139 (by decide) (nI_ig (b := 1) (by omega)) ?_
      exact K142
  · have hc := hX.chip (t := 0) (by omega)
    have hB := cOK_B hc
    have hL := hc.1.1
    obtain ⟨m7, h7, e7⟩ := hc.2.2.1.2
    obtain ⟨m8, h8, e8⟩ := hc.2.2.2
    have h7p : m7 < 2 ^ 31 := Nat.lt_of_lt_of_le h7 (p2le (by have := hc.1.1.2.1; omega))
    have h8p : m8 < 2 ^ 31 := Nat.lt_of_lt_of_le h8 (p2le (by have := (cOK_B hc).2.2; omega))
    by_cases hst : stt (S 0) = 4
    · refine x_aload_n cx dL_clock_0 rfl rfl ?_
      refine x_iconst (v := nI 2) cx dL_clock_1 (by decide) ?_
      refine x_Vi (C := RX6) (T := TX6) (N := 6) (rest := []) cx (c_X6_count l G _ hS _) gV_L_14 ndX6_count rfl ⟨Nat.le_of_ble_eq_true rfl, Nat.le_of_ble_eq_true rfl⟩ (zok_7 (by decide)) (by decide) (p_SC) rfl rfl rfl (Nat.le_of_ble_eq_true rfl) dL_clock_2 ⟨Nat.le_of_ble_eq_true rfl, Nat.le_of_ble_eq_true rfl⟩ ?_
      refine x_eqi (cn2 hS.1) ?_
      refine x_istore_n (ls' := [_, _, _, _, _, _, _, _, _, _, _]) cx dL_clock_5 rfl (by decide) rfl ?_
      refine x_aload_n cx dL_clock_6 rfl rfl ?_
      refine x_iconst (v := nI 3) cx dL_clock_7 (by decide) ?_
      refine x_Vi (C := RX6) (T := TX6) (N := 6) (rest := []) cx (c_X6_count l G _ hS _) gV_L_14 ndX6_count rfl ⟨Nat.le_of_ble_eq_true rfl, Nat.le_of_ble_eq_true rfl⟩ (zok_7 (by decide)) (by decide) (p_SC) rfl rfl rfl (Nat.le_of_ble_eq_true rfl) dL_clock_8 ⟨Nat.le_of_ble_eq_true rfl, Nat.le_of_ble_eq_true rfl⟩ ?_
      refine x_eqi cn3 ?_
      refine x_istore (ls' := [_, _, _, _, _, _, _, _, _, _, _]) cx dL_clock_11 (by decide) rfl ?_
      refine x_aload_n cx dL_clock_13 rfl rfl ?_
      refine x_iload_n cx dL_clock_14 rfl rfl ?_
      refine x_Vi (C := RX6) (T := TX6) (N := 6) (rest := []) cx (c_X6_peek l G _ hS _) gV_L_27 ndX6_peek rfl ⟨Nat.le_of_ble_eq_true rfl, Nat.le_of_ble_eq_true rfl⟩ (zok_7 (by decide)) (by decide) (p_SC) rfl rfl rfl (Nat.le_of_ble_eq_true rfl) dL_clock_15 ⟨Nat.le_of_ble_eq_true rfl, Nat.le_of_ble_eq_true rfl⟩ ?_
      refine x_eqi (pk_01 hi) ?_
      refine x_istore (ls' := [_, _, _, _, _, _, _, _, _, _, _]) cx dL_clock_18 (by decide) rfl ?_
      refine x_aload_n cx dL_clock_20 rfl rfl ?_
      refine x_iconst (v := nI 0) cx dL_clock_21 (by decide) ?_
      refine x_Vi (C := RX6) (T := TX6) (N := 6) (rest := []) cx (c_X6_count l G _ hS _) gV_L_14 ndX6_count rfl ⟨Nat.le_of_ble_eq_true rfl, Nat.le_of_ble_eq_true rfl⟩ (zok_7 (by decide)) (by decide) (p_SC) rfl rfl rfl (Nat.le_of_ble_eq_true rfl) dL_clock_22 ⟨Nat.le_of_ble_eq_true rfl, Nat.le_of_ble_eq_true rfl⟩ ?_
      refine x_eqi (cn0 hS.1) ?_
      refine x_istore (ls' := [_, _, _, _, _, _, _, _, _, _, _]) cx dL_clock_25 (by decide) rfl ?_
      refine x_iload cx dL_clock_27 rfl ?_
      refine x_if_ne_t (tgt := 36) cx dL_clock_29 (by decide) (nI_ne0 (by omega) (by omega)) ?_
      refine x_iload_n cx dL_clock_36 rfl rfl ?_
      refine x_iconst (v := nI 4) cx dL_clock_37 (by decide) ?_
      refine x_icmp_ne_f (tgt := 51) cx dL_clock_38 (by decide) (nI_ig (by omega)) ?_
      refine x_aload_n cx dL_clock_41 rfl rfl ?_
      refine x_iconst (v := nI 0) cx dL_clock_42 (by decide) ?_
      refine x_bipush (v := nI 8) cx dL_clock_43 (by decide) ?_
      refine x_Vi (C := RX6) (T := TX6) (N := 6) (rest := []) cx (c_X6_chip l G _ hS _ _) gV_L_20 ndX6_chip rfl ⟨Nat.le_of_ble_eq_true rfl, Nat.le_of_ble_eq_true rfl⟩ (zok_7 (by decide)) (by decide) (p_SC) rfl rfl rfl (Nat.le_of_ble_eq_true rfl) dL_clock_45 ⟨Nat.le_of_ble_eq_true rfl, Nat.le_of_ble_eq_true rfl⟩ ?_
      refine x_eqi ((tl_8 hX (by omega)).trans e8) ?_
      refine x_goto (tgt := 58) cx dL_clock_48 (by decide) ?_
      refine x_istore (ls' := [_, _, _, _, _, _, _, _, _, _, _]) cx dL_clock_58 (by decide) rfl ?_
      refine x_iload cx dL_clock_60 rfl ?_
      refine x_if_ne_t (tgt := 69) cx dL_clock_62 (by decide) (nI_ne0 (by omega) (by omega)) ?_
      refine x_iload_n cx dL_clock_69 rfl rfl ?_
      refine x_iconst (v := nI 4) cx dL_clock_70 (by decide) ?_
      refine x_icmp_ne_f (tgt := 84) cx dL_clock_71 (by decide) (nI_ig (by omega)) ?_
      refine x_aload_n cx dL_clock_74 rfl rfl ?_
      refine x_iconst (v := nI 0) cx dL_clock_75 (by decide) ?_
      refine x_bipush (v := nI 9) cx dL_clock_76 (by decide) ?_
      refine x_Vi (C := RX6) (T := TX6) (N := 6) (rest := []) cx (c_X6_chip l G _ hS _ _) gV_L_20 ndX6_chip rfl ⟨Nat.le_of_ble_eq_true rfl, Nat.le_of_ble_eq_true rfl⟩ (zok_7 (by decide)) (by decide) (p_SC) rfl rfl rfl (Nat.le_of_ble_eq_true rfl) dL_clock_78 ⟨Nat.le_of_ble_eq_true rfl, Nat.le_of_ble_eq_true rfl⟩ ?_
      refine x_eqi (tl_9 hX (by omega)) ?_
      refine x_goto (tgt := 90) cx dL_clock_81 (by decide) ?_
      refine x_istore (ls' := [_, _, _, _, _, _, _, _, _, _, _]) cx dL_clock_90 (by decide) rfl ?_
      refine x_aload_n cx dL_clock_92 rfl rfl ?_
      refine x_iload_n cx dL_clock_93 rfl rfl ?_
      refine x_iload_n cx dL_clock_94 rfl rfl ?_
      refine x_Vi (C := RX6) (T := TX6) (N := 6) (rest := []) cx (c_X6_clock l G _ hS _ _) gV_L_50 ndX6_clock rfl ⟨Nat.le_of_ble_eq_true rfl, Nat.le_of_ble_eq_true rfl⟩ (zok_7 (by decide)) (by decide) (p_SC) rfl rfl rfl (Nat.le_of_ble_eq_true rfl) dL_clock_95 ⟨Nat.le_of_ble_eq_true rfl, Nat.le_of_ble_eq_true rfl⟩ ?_
      refine x_eqi (okE (eClk_ok hmd hi)) ?_
      refine x_S (okS (eClk_ok hmd hi)) ?_
      have hokT : XOK (zTick (S 0) (nI md) (nI i)) := XOK_tick hX ⟨i, hi, rfl⟩
      refine x_nm fun T hT => ?_
      have hT0 : T 0 = zTick (S 0) (nI md) (nI i) := by rw [hT]; exact up_same _ _ _
      have hkT : kWF T := by rw [hT]; exact (kWF_rec hS hokT.1).1
      have hXT : XOK (T 0) := by rw [hT0]; exact hokT
      have hnT : num (T 0) = num (S 0) := by rw [hT0, num_tick]
      have hsT : stt (T 0) = nx (stt (S 0)) (nI md) := by rw [hT0, stt_tick]
      have hdx : stt (T 0) = stt (S 0) ∨ dst (stt (S 0)) (stt (T 0)) = 1 := by rw [hsT]; exact dx_t (stt (S 0)) h16 md hmd
      have h16T := hkT.1.s16
      refine x_istore (ls' := [_, _, _, _, _, _, _, _, _, _, _]) cx dL_clock_98 (by decide) rfl ?_
      refine x_iload cx dL_clock_100 rfl ?_
      refine x_iload cx dL_clock_102 rfl ?_
      refine x_icmp_ne_f (tgt := 146) cx dL_clock_104 (by decide) rfl ?_
      refine x_aload_n cx dL_clock_107 rfl rfl ?_
      refine x_iconst (v := nI 3) cx dL_clock_108 (by decide) ?_
      refine x_Vi (C := RX6) (T := TX6) (N := 6) (rest := []) cx (c_X6_count l G _ hkT _) gV_L_14 ndX6_count rfl ⟨Nat.le_of_ble_eq_true rfl, Nat.le_of_ble_eq_true rfl⟩ (zok_7 (by decide)) (by decide) (p_SC) rfl rfl rfl (Nat.le_of_ble_eq_true rfl) dL_clock_109 ⟨Nat.le_of_ble_eq_true rfl, Nat.le_of_ble_eq_true rfl⟩ ?_
      refine x_eqi cn3 ?_
      refine x_iload cx dL_clock_112 rfl ?_
      refine x_iconst (v := nI 1) cx dL_clock_114 (by decide) ?_
      refine x_iadd cx dL_clock_115 ?_
      refine x_icmp_ne_f (tgt := 146) cx dL_clock_116 (by decide) (by rw [hT0, zTick_0]; rfl) ?_
      refine x_aload_n cx dL_clock_119 rfl rfl ?_
      refine x_iconst (v := nI 2) cx dL_clock_120 (by decide) ?_
      refine x_Vi (C := RX6) (T := TX6) (N := 6) (rest := []) cx (c_X6_count l G _ hkT _) gV_L_14 ndX6_count rfl ⟨Nat.le_of_ble_eq_true rfl, Nat.le_of_ble_eq_true rfl⟩ (zok_7 (by decide)) (by decide) (p_SC) rfl rfl rfl (Nat.le_of_ble_eq_true rfl) dL_clock_121 ⟨Nat.le_of_ble_eq_true rfl, Nat.le_of_ble_eq_true rfl⟩ ?_
      refine x_eqi (cn2 hkT.1) ?_
      refine x_iload_n cx dL_clock_124 rfl rfl ?_
      have K142 : Xh p l e (zrm 6 0 0 131) s m args below meth cd 11 G (MQ below (zQi G 68 (zOut (S 0) (nI i)) (pic G (up (zRec S) 0 (zTick (S 0) (nI md) (nI i))))) args s 0 0 (zA G)) 0 0 68 (pic G T) 142 [some (.ref (zad G 7 0)), some (.int (nI md)), some (.int (nI i)), some (.int (nI (stt (S 0)))), some (.int (S 0 0 2)), some (.int (zOut (S 0) (nI i))), some (.int (nI (num (S 0)))), some (.int (nI m8)), some (.int (nI (aB (S 0 (0 + 3))))), some (.int (zOut (S 0) (nI i))), none] [] := by
        refine x_iconst (v := nI 1) cx dL_clock_142 (by decide) ?_
        refine x_goto (tgt := 147) cx dL_clock_143 (by decide) ?_
        refine x_istore (ls' := [_, _, _, _, _, _, _, _, _, _, _]) cx dL_clock_147 (by decide) rfl ?_
        refine x_iload cx dL_clock_149 rfl ?_
        refine x_if_le_f (tgt := 208) cx dL_clock_151 (by decide) (nI_nle (by omega) (by omega)) ?_
        refine x_iload_n cx dL_clock_154 rfl rfl ?_
        refine x_iconst (v := nI 4) cx dL_clock_155 (by decide) ?_
        refine x_icmp_eq_t (tgt := 165) cx dL_clock_156 (by decide) (nI_ig (by omega)) ?_
        refine x_iload cx dL_clock_165 rfl ?_
        refine x_if_eq_f (tgt := 205) cx dL_clock_167 (by decide) (by decide) ?_
        refine x_aload_n cx dL_clock_170 rfl rfl ?_
        refine x_iconst (v := nI 0) cx dL_clock_171 (by decide) ?_
        refine x_iload_n cx dL_clock_172 rfl rfl ?_
        refine x_iconst (v := nI 4) cx dL_clock_173 (by decide) ?_
        refine x_icmp_ne_f (tgt := 182) cx dL_clock_174 (by decide) (nI_ig (by omega)) ?_
        refine x_bipush (v := nI 8) cx dL_clock_177 (by decide) ?_
        refine x_goto (tgt := 184) cx dL_clock_179 (by decide) ?_
        refine x_Vi (C := RX6) (T := TX6) (N := 6) (rest := []) cx (c_X6_chip l G _ hkT _ _) gV_L_20 ndX6_chip rfl ⟨Nat.le_of_ble_eq_true rfl, Nat.le_of_ble_eq_true rfl⟩ (zok_7 (by decide)) (by decide) (p_SC) rfl rfl rfl (Nat.le_of_ble_eq_true rfl) dL_clock_184 ⟨Nat.le_of_ble_eq_true rfl, Nat.le_of_ble_eq_true rfl⟩ ?_
        refine x_eqi (tl_8 hXT (by omega)) ?_
        refine x_iload cx dL_clock_187 rfl ?_
        refine x_iconst (v := nI 2) cx dL_clock_189 (by decide) ?_
        refine x_idiv cx dL_clock_190 (by decide) ?_
        refine x_eqi (pk_div (by omega) (by omega) (by omega)) ?_
        refine x_iload_n cx dL_clock_191 rfl rfl ?_
        refine x_iload cx dL_clock_192 rfl ?_
        refine x_iconst (v := nI 1) cx dL_clock_194 (by decide) ?_
        refine x_isub cx dL_clock_195 ?_
        refine x_eqi (nI_subN (by omega)) ?_
        refine x_ishl cx dL_clock_196 ?_
        refine x_iadd cx dL_clock_197 ?_
        refine x_icmp_ne_f (tgt := 205) cx dL_clock_198 (by decide) (by rw [hT0]; exact ck_D hX hst (by omega) hi e8 h8) ?_
        refine x_iconst (v := nI 1) cx dL_clock_201 (by decide) ?_
        refine x_goto (tgt := 206) cx dL_clock_202 (by decide) ?_
        refine x_istore (ls' := [_, _, _, _, _, _, _, _, _, _, _]) cx dL_clock_206 (by decide) rfl ?_
        refine x_iload cx dL_clock_208 rfl ?_
        refine x_if_eq_f (tgt := 218) cx dL_clock_210 (by decide) (by decide) ?_
        refine x_iload cx dL_clock_213 rfl ?_
        refine x_goto (tgt := 220) cx dL_clock_215 (by decide) ?_
        exact x_iret cx hr rfl (by intro _ _ _ _; rw [hT]) dL_clock_220
      refine x_icmp_eq (tgt := 142) cx dL_clock_125 (by decide) (fun hb125 => ?_) (fun hb125 => ?_)
      · exact K142
      · have hne : stt (T 0) ≠ stt (S 0) := fun z => hb125 (nI_ig z)
        refine x_aload_n cx dL_clock_128 rfl rfl ?_
        refine x_iload_n cx dL_clock_129 rfl rfl ?_
        refine x_aload_n cx dL_clock_130 rfl rfl ?_
        refine x_iconst (v := nI 2) cx dL_clock_131 (by decide) ?_
        refine x_Vi (C := RX6) (T := TX6) (N := 6) (rest := [_, _]) cx (c_X6_count l G _ hkT _) gV_L_14 ndX6_count rfl ⟨Nat.le_of_ble_eq_true rfl, Nat.le_of_ble_eq_true rfl⟩ (zok_7 (by decide)) (by decide) (p_SC) rfl rfl rfl (Nat.le_of_ble_eq_true rfl) dL_clock_132 ⟨Nat.le_of_ble_eq_true rfl, Nat.le_of_ble_eq_true rfl⟩ ?_
        refine x_eqi (cn2 hkT.1) ?_
        refine x_Vi (C := RX6) (T := TX6) (N := 6) (rest := []) cx (c_X6_distance l G _ hkT _ _) gV_L_62 ndX6_distance rfl ⟨Nat.le_of_ble_eq_true rfl, Nat.le_of_ble_eq_true rfl⟩ (zok_7 (by decide)) (by decide) (p_SC) rfl rfl rfl (Nat.le_of_ble_eq_true rfl) dL_clock_135 ⟨Nat.le_of_ble_eq_true rfl, Nat.le_of_ble_eq_true rfl⟩ ?_
        refine x_eqi (zd h16 h16T) ?_
        refine x_iconst (v := nI 1) cx dL_clock_138 (by decide) ?_
        refine x_icmp_ne_f (tgt := 146) cx dL_clock_139 (by decide) (nI_ig (b := 1) (by omega)) ?_
        exact K142
    · have hst4 := hst
      clear hst
      by_cases hst : stt (S 0) = 11
      · refine x_aload_n cx dL_clock_0 rfl rfl ?_
        refine x_iconst (v := nI 2) cx dL_clock_1 (by decide) ?_
        refine x_Vi (C := RX6) (T := TX6) (N := 6) (rest := []) cx (c_X6_count l G _ hS _) gV_L_14 ndX6_count rfl ⟨Nat.le_of_ble_eq_true rfl, Nat.le_of_ble_eq_true rfl⟩ (zok_7 (by decide)) (by decide) (p_SC) rfl rfl rfl (Nat.le_of_ble_eq_true rfl) dL_clock_2 ⟨Nat.le_of_ble_eq_true rfl, Nat.le_of_ble_eq_true rfl⟩ ?_
        refine x_eqi (cn2 hS.1) ?_
        refine x_istore_n (ls' := [_, _, _, _, _, _, _, _, _, _, _]) cx dL_clock_5 rfl (by decide) rfl ?_
        refine x_aload_n cx dL_clock_6 rfl rfl ?_
        refine x_iconst (v := nI 3) cx dL_clock_7 (by decide) ?_
        refine x_Vi (C := RX6) (T := TX6) (N := 6) (rest := []) cx (c_X6_count l G _ hS _) gV_L_14 ndX6_count rfl ⟨Nat.le_of_ble_eq_true rfl, Nat.le_of_ble_eq_true rfl⟩ (zok_7 (by decide)) (by decide) (p_SC) rfl rfl rfl (Nat.le_of_ble_eq_true rfl) dL_clock_8 ⟨Nat.le_of_ble_eq_true rfl, Nat.le_of_ble_eq_true rfl⟩ ?_
        refine x_eqi cn3 ?_
        refine x_istore (ls' := [_, _, _, _, _, _, _, _, _, _, _]) cx dL_clock_11 (by decide) rfl ?_
        refine x_aload_n cx dL_clock_13 rfl rfl ?_
        refine x_iload_n cx dL_clock_14 rfl rfl ?_
        refine x_Vi (C := RX6) (T := TX6) (N := 6) (rest := []) cx (c_X6_peek l G _ hS _) gV_L_27 ndX6_peek rfl ⟨Nat.le_of_ble_eq_true rfl, Nat.le_of_ble_eq_true rfl⟩ (zok_7 (by decide)) (by decide) (p_SC) rfl rfl rfl (Nat.le_of_ble_eq_true rfl) dL_clock_15 ⟨Nat.le_of_ble_eq_true rfl, Nat.le_of_ble_eq_true rfl⟩ ?_
        refine x_eqi (pk_01 hi) ?_
        refine x_istore (ls' := [_, _, _, _, _, _, _, _, _, _, _]) cx dL_clock_18 (by decide) rfl ?_
        refine x_aload_n cx dL_clock_20 rfl rfl ?_
        refine x_iconst (v := nI 0) cx dL_clock_21 (by decide) ?_
        refine x_Vi (C := RX6) (T := TX6) (N := 6) (rest := []) cx (c_X6_count l G _ hS _) gV_L_14 ndX6_count rfl ⟨Nat.le_of_ble_eq_true rfl, Nat.le_of_ble_eq_true rfl⟩ (zok_7 (by decide)) (by decide) (p_SC) rfl rfl rfl (Nat.le_of_ble_eq_true rfl) dL_clock_22 ⟨Nat.le_of_ble_eq_true rfl, Nat.le_of_ble_eq_true rfl⟩ ?_
        refine x_eqi (cn0 hS.1) ?_
        refine x_istore (ls' := [_, _, _, _, _, _, _, _, _, _, _]) cx dL_clock_25 (by decide) rfl ?_
        refine x_iload cx dL_clock_27 rfl ?_
        refine x_if_ne_t (tgt := 36) cx dL_clock_29 (by decide) (nI_ne0 (by omega) (by omega)) ?_
        refine x_iload_n cx dL_clock_36 rfl rfl ?_
        refine x_iconst (v := nI 4) cx dL_clock_37 (by decide) ?_
        refine x_icmp_ne_t (tgt := 51) cx dL_clock_38 (by decide) (nI_nq (by omega) (by omega) (by omega)) ?_
        refine x_aload_n cx dL_clock_51 rfl rfl ?_
        refine x_iconst (v := nI 0) cx dL_clock_52 (by decide) ?_
        refine x_bipush (v := nI 7) cx dL_clock_53 (by decide) ?_
        refine x_Vi (C := RX6) (T := TX6) (N := 6) (rest := []) cx (c_X6_chip l G _ hS _ _) gV_L_20 ndX6_chip rfl ⟨Nat.le_of_ble_eq_true rfl, Nat.le_of_ble_eq_true rfl⟩ (zok_7 (by decide)) (by decide) (p_SC) rfl rfl rfl (Nat.le_of_ble_eq_true rfl) dL_clock_55 ⟨Nat.le_of_ble_eq_true rfl, Nat.le_of_ble_eq_true rfl⟩ ?_
        refine x_eqi ((tl_7 hX (by omega)).trans e7) ?_
        refine x_istore (ls' := [_, _, _, _, _, _, _, _, _, _, _]) cx dL_clock_58 (by decide) rfl ?_
        refine x_iload cx dL_clock_60 rfl ?_
        refine x_if_ne_t (tgt := 69) cx dL_clock_62 (by decide) (nI_ne0 (by omega) (by omega)) ?_
        refine x_iload_n cx dL_clock_69 rfl rfl ?_
        refine x_iconst (v := nI 4) cx dL_clock_70 (by decide) ?_
        refine x_icmp_ne_t (tgt := 84) cx dL_clock_71 (by decide) (nI_nq (by omega) (by omega) (by omega)) ?_
        refine x_aload_n cx dL_clock_84 rfl rfl ?_
        refine x_iconst (v := nI 0) cx dL_clock_85 (by decide) ?_
        refine x_iconst (v := nI 0) cx dL_clock_86 (by decide) ?_
        refine x_Vi (C := RX6) (T := TX6) (N := 6) (rest := []) cx (c_X6_chip l G _ hS _ _) gV_L_20 ndX6_chip rfl ⟨Nat.le_of_ble_eq_true rfl, Nat.le_of_ble_eq_true rfl⟩ (zok_7 (by decide)) (by decide) (p_SC) rfl rfl rfl (Nat.le_of_ble_eq_true rfl) dL_clock_87 ⟨Nat.le_of_ble_eq_true rfl, Nat.le_of_ble_eq_true rfl⟩ ?_
        refine x_eqi (tl_0 hX (by omega)) ?_
        refine x_istore (ls' := [_, _, _, _, _, _, _, _, _, _, _]) cx dL_clock_90 (by decide) rfl ?_
        refine x_aload_n cx dL_clock_92 rfl rfl ?_
        refine x_iload_n cx dL_clock_93 rfl rfl ?_
        refine x_iload_n cx dL_clock_94 rfl rfl ?_
        refine x_Vi (C := RX6) (T := TX6) (N := 6) (rest := []) cx (c_X6_clock l G _ hS _ _) gV_L_50 ndX6_clock rfl ⟨Nat.le_of_ble_eq_true rfl, Nat.le_of_ble_eq_true rfl⟩ (zok_7 (by decide)) (by decide) (p_SC) rfl rfl rfl (Nat.le_of_ble_eq_true rfl) dL_clock_95 ⟨Nat.le_of_ble_eq_true rfl, Nat.le_of_ble_eq_true rfl⟩ ?_
        refine x_eqi (okE (eClk_ok hmd hi)) ?_
        refine x_S (okS (eClk_ok hmd hi)) ?_
        have hokT : XOK (zTick (S 0) (nI md) (nI i)) := XOK_tick hX ⟨i, hi, rfl⟩
        refine x_nm fun T hT => ?_
        have hT0 : T 0 = zTick (S 0) (nI md) (nI i) := by rw [hT]; exact up_same _ _ _
        have hkT : kWF T := by rw [hT]; exact (kWF_rec hS hokT.1).1
        have hXT : XOK (T 0) := by rw [hT0]; exact hokT
        have hnT : num (T 0) = num (S 0) := by rw [hT0, num_tick]
        have hsT : stt (T 0) = nx (stt (S 0)) (nI md) := by rw [hT0, stt_tick]
        have hdx : stt (T 0) = stt (S 0) ∨ dst (stt (S 0)) (stt (T 0)) = 1 := by rw [hsT]; exact dx_t (stt (S 0)) h16 md hmd
        have h16T := hkT.1.s16
        refine x_istore (ls' := [_, _, _, _, _, _, _, _, _, _, _]) cx dL_clock_98 (by decide) rfl ?_
        refine x_iload cx dL_clock_100 rfl ?_
        refine x_iload cx dL_clock_102 rfl ?_
        refine x_icmp_ne_f (tgt := 146) cx dL_clock_104 (by decide) rfl ?_
        refine x_aload_n cx dL_clock_107 rfl rfl ?_
        refine x_iconst (v := nI 3) cx dL_clock_108 (by decide) ?_
        refine x_Vi (C := RX6) (T := TX6) (N := 6) (rest := []) cx (c_X6_count l G _ hkT _) gV_L_14 ndX6_count rfl ⟨Nat.le_of_ble_eq_true rfl, Nat.le_of_ble_eq_true rfl⟩ (zok_7 (by decide)) (by decide) (p_SC) rfl rfl rfl (Nat.le_of_ble_eq_true rfl) dL_clock_109 ⟨Nat.le_of_ble_eq_true rfl, Nat.le_of_ble_eq_true rfl⟩ ?_
        refine x_eqi cn3 ?_
        refine x_iload cx dL_clock_112 rfl ?_
        refine x_iconst (v := nI 1) cx dL_clock_114 (by decide) ?_
        refine x_iadd cx dL_clock_115 ?_
        refine x_icmp_ne_f (tgt := 146) cx dL_clock_116 (by decide) (by rw [hT0, zTick_0]; rfl) ?_
        refine x_aload_n cx dL_clock_119 rfl rfl ?_
        refine x_iconst (v := nI 2) cx dL_clock_120 (by decide) ?_
        refine x_Vi (C := RX6) (T := TX6) (N := 6) (rest := []) cx (c_X6_count l G _ hkT _) gV_L_14 ndX6_count rfl ⟨Nat.le_of_ble_eq_true rfl, Nat.le_of_ble_eq_true rfl⟩ (zok_7 (by decide)) (by decide) (p_SC) rfl rfl rfl (Nat.le_of_ble_eq_true rfl) dL_clock_121 ⟨Nat.le_of_ble_eq_true rfl, Nat.le_of_ble_eq_true rfl⟩ ?_
        refine x_eqi (cn2 hkT.1) ?_
        refine x_iload_n cx dL_clock_124 rfl rfl ?_
        have K142 : Xh p l e (zrm 6 0 0 131) s m args below meth cd 11 G (MQ below (zQi G 68 (zOut (S 0) (nI i)) (pic G (up (zRec S) 0 (zTick (S 0) (nI md) (nI i))))) args s 0 0 (zA G)) 0 0 68 (pic G T) 142 [some (.ref (zad G 7 0)), some (.int (nI md)), some (.int (nI i)), some (.int (nI (stt (S 0)))), some (.int (S 0 0 2)), some (.int (zOut (S 0) (nI i))), some (.int (nI (num (S 0)))), some (.int (nI m7)), some (.int (nI (aL (S 0 (0 + 3))))), some (.int (zOut (S 0) (nI i))), none] [] := by
          refine x_iconst (v := nI 1) cx dL_clock_142 (by decide) ?_
          refine x_goto (tgt := 147) cx dL_clock_143 (by decide) ?_
          refine x_istore (ls' := [_, _, _, _, _, _, _, _, _, _, _]) cx dL_clock_147 (by decide) rfl ?_
          refine x_iload cx dL_clock_149 rfl ?_
          refine x_if_le_f (tgt := 208) cx dL_clock_151 (by decide) (nI_nle (by omega) (by omega)) ?_
          refine x_iload_n cx dL_clock_154 rfl rfl ?_
          refine x_iconst (v := nI 4) cx dL_clock_155 (by decide) ?_
          refine x_icmp_eq_f (tgt := 165) cx dL_clock_156 (by decide) (nI_nq (by omega) (by omega) (by omega)) ?_
          refine x_iload_n cx dL_clock_159 rfl rfl ?_
          refine x_bipush (v := nI 11) cx dL_clock_160 (by decide) ?_
          refine x_icmp_ne_f (tgt := 208) cx dL_clock_162 (by decide) (nI_ig (by omega)) ?_
          refine x_iload cx dL_clock_165 rfl ?_
          refine x_if_eq_f (tgt := 205) cx dL_clock_167 (by decide) (by decide) ?_
          refine x_aload_n cx dL_clock_170 rfl rfl ?_
          refine x_iconst (v := nI 0) cx dL_clock_171 (by decide) ?_
          refine x_iload_n cx dL_clock_172 rfl rfl ?_
          refine x_iconst (v := nI 4) cx dL_clock_173 (by decide) ?_
          refine x_icmp_ne_t (tgt := 182) cx dL_clock_174 (by decide) (nI_nq (by omega) (by omega) (by omega)) ?_
          refine x_bipush (v := nI 7) cx dL_clock_182 (by decide) ?_
          refine x_Vi (C := RX6) (T := TX6) (N := 6) (rest := []) cx (c_X6_chip l G _ hkT _ _) gV_L_20 ndX6_chip rfl ⟨Nat.le_of_ble_eq_true rfl, Nat.le_of_ble_eq_true rfl⟩ (zok_7 (by decide)) (by decide) (p_SC) rfl rfl rfl (Nat.le_of_ble_eq_true rfl) dL_clock_184 ⟨Nat.le_of_ble_eq_true rfl, Nat.le_of_ble_eq_true rfl⟩ ?_
          refine x_eqi (tl_7 hXT (by omega)) ?_
          refine x_iload cx dL_clock_187 rfl ?_
          refine x_iconst (v := nI 2) cx dL_clock_189 (by decide) ?_
          refine x_idiv cx dL_clock_190 (by decide) ?_
          refine x_eqi (pk_div (by omega) (by omega) (by omega)) ?_
          refine x_iload_n cx dL_clock_191 rfl rfl ?_
          refine x_iload cx dL_clock_192 rfl ?_
          refine x_iconst (v := nI 1) cx dL_clock_194 (by decide) ?_
          refine x_isub cx dL_clock_195 ?_
          refine x_eqi (nI_subN (by omega)) ?_
          refine x_ishl cx dL_clock_196 ?_
          refine x_iadd cx dL_clock_197 ?_
          refine x_icmp_ne_f (tgt := 205) cx dL_clock_198 (by decide) (by rw [hT0]; exact ck_C hX hst (by omega) hi e7 h7) ?_
          refine x_iconst (v := nI 1) cx dL_clock_201 (by decide) ?_
          refine x_goto (tgt := 206) cx dL_clock_202 (by decide) ?_
          refine x_istore (ls' := [_, _, _, _, _, _, _, _, _, _, _]) cx dL_clock_206 (by decide) rfl ?_
          refine x_iload cx dL_clock_208 rfl ?_
          refine x_if_eq_f (tgt := 218) cx dL_clock_210 (by decide) (by decide) ?_
          refine x_iload cx dL_clock_213 rfl ?_
          refine x_goto (tgt := 220) cx dL_clock_215 (by decide) ?_
          exact x_iret cx hr rfl (by intro _ _ _ _; rw [hT]) dL_clock_220
        refine x_icmp_eq (tgt := 142) cx dL_clock_125 (by decide) (fun hb125 => ?_) (fun hb125 => ?_)
        · exact K142
        · have hne : stt (T 0) ≠ stt (S 0) := fun z => hb125 (nI_ig z)
          refine x_aload_n cx dL_clock_128 rfl rfl ?_
          refine x_iload_n cx dL_clock_129 rfl rfl ?_
          refine x_aload_n cx dL_clock_130 rfl rfl ?_
          refine x_iconst (v := nI 2) cx dL_clock_131 (by decide) ?_
          refine x_Vi (C := RX6) (T := TX6) (N := 6) (rest := [_, _]) cx (c_X6_count l G _ hkT _) gV_L_14 ndX6_count rfl ⟨Nat.le_of_ble_eq_true rfl, Nat.le_of_ble_eq_true rfl⟩ (zok_7 (by decide)) (by decide) (p_SC) rfl rfl rfl (Nat.le_of_ble_eq_true rfl) dL_clock_132 ⟨Nat.le_of_ble_eq_true rfl, Nat.le_of_ble_eq_true rfl⟩ ?_
          refine x_eqi (cn2 hkT.1) ?_
          refine x_Vi (C := RX6) (T := TX6) (N := 6) (rest := []) cx (c_X6_distance l G _ hkT _ _) gV_L_62 ndX6_distance rfl ⟨Nat.le_of_ble_eq_true rfl, Nat.le_of_ble_eq_true rfl⟩ (zok_7 (by decide)) (by decide) (p_SC) rfl rfl rfl (Nat.le_of_ble_eq_true rfl) dL_clock_135 ⟨Nat.le_of_ble_eq_true rfl, Nat.le_of_ble_eq_true rfl⟩ ?_
          refine x_eqi (zd h16 h16T) ?_
          refine x_iconst (v := nI 1) cx dL_clock_138 (by decide) ?_
          refine x_icmp_ne_f (tgt := 146) cx dL_clock_139 (by decide) (nI_ig (b := 1) (by omega)) ?_
          exact K142
      · refine x_aload_n cx dL_clock_0 rfl rfl ?_
        refine x_iconst (v := nI 2) cx dL_clock_1 (by decide) ?_
        refine x_Vi (C := RX6) (T := TX6) (N := 6) (rest := []) cx (c_X6_count l G _ hS _) gV_L_14 ndX6_count rfl ⟨Nat.le_of_ble_eq_true rfl, Nat.le_of_ble_eq_true rfl⟩ (zok_7 (by decide)) (by decide) (p_SC) rfl rfl rfl (Nat.le_of_ble_eq_true rfl) dL_clock_2 ⟨Nat.le_of_ble_eq_true rfl, Nat.le_of_ble_eq_true rfl⟩ ?_
        refine x_eqi (cn2 hS.1) ?_
        refine x_istore_n (ls' := [_, _, _, _, _, _, _, _, _, _, _]) cx dL_clock_5 rfl (by decide) rfl ?_
        refine x_aload_n cx dL_clock_6 rfl rfl ?_
        refine x_iconst (v := nI 3) cx dL_clock_7 (by decide) ?_
        refine x_Vi (C := RX6) (T := TX6) (N := 6) (rest := []) cx (c_X6_count l G _ hS _) gV_L_14 ndX6_count rfl ⟨Nat.le_of_ble_eq_true rfl, Nat.le_of_ble_eq_true rfl⟩ (zok_7 (by decide)) (by decide) (p_SC) rfl rfl rfl (Nat.le_of_ble_eq_true rfl) dL_clock_8 ⟨Nat.le_of_ble_eq_true rfl, Nat.le_of_ble_eq_true rfl⟩ ?_
        refine x_eqi cn3 ?_
        refine x_istore (ls' := [_, _, _, _, _, _, _, _, _, _, _]) cx dL_clock_11 (by decide) rfl ?_
        refine x_aload_n cx dL_clock_13 rfl rfl ?_
        refine x_iload_n cx dL_clock_14 rfl rfl ?_
        refine x_Vi (C := RX6) (T := TX6) (N := 6) (rest := []) cx (c_X6_peek l G _ hS _) gV_L_27 ndX6_peek rfl ⟨Nat.le_of_ble_eq_true rfl, Nat.le_of_ble_eq_true rfl⟩ (zok_7 (by decide)) (by decide) (p_SC) rfl rfl rfl (Nat.le_of_ble_eq_true rfl) dL_clock_15 ⟨Nat.le_of_ble_eq_true rfl, Nat.le_of_ble_eq_true rfl⟩ ?_
        refine x_eqi (pk_01 hi) ?_
        refine x_istore (ls' := [_, _, _, _, _, _, _, _, _, _, _]) cx dL_clock_18 (by decide) rfl ?_
        refine x_aload_n cx dL_clock_20 rfl rfl ?_
        refine x_iconst (v := nI 0) cx dL_clock_21 (by decide) ?_
        refine x_Vi (C := RX6) (T := TX6) (N := 6) (rest := []) cx (c_X6_count l G _ hS _) gV_L_14 ndX6_count rfl ⟨Nat.le_of_ble_eq_true rfl, Nat.le_of_ble_eq_true rfl⟩ (zok_7 (by decide)) (by decide) (p_SC) rfl rfl rfl (Nat.le_of_ble_eq_true rfl) dL_clock_22 ⟨Nat.le_of_ble_eq_true rfl, Nat.le_of_ble_eq_true rfl⟩ ?_
        refine x_eqi (cn0 hS.1) ?_
        refine x_istore (ls' := [_, _, _, _, _, _, _, _, _, _, _]) cx dL_clock_25 (by decide) rfl ?_
        refine x_iload cx dL_clock_27 rfl ?_
        refine x_if_ne_t (tgt := 36) cx dL_clock_29 (by decide) (nI_ne0 (by omega) (by omega)) ?_
        refine x_iload_n cx dL_clock_36 rfl rfl ?_
        refine x_iconst (v := nI 4) cx dL_clock_37 (by decide) ?_
        refine x_icmp_ne_t (tgt := 51) cx dL_clock_38 (by decide) (nI_nq (by omega) (by omega) (by omega)) ?_
        refine x_aload_n cx dL_clock_51 rfl rfl ?_
        refine x_iconst (v := nI 0) cx dL_clock_52 (by decide) ?_
        refine x_bipush (v := nI 7) cx dL_clock_53 (by decide) ?_
        refine x_Vi (C := RX6) (T := TX6) (N := 6) (rest := []) cx (c_X6_chip l G _ hS _ _) gV_L_20 ndX6_chip rfl ⟨Nat.le_of_ble_eq_true rfl, Nat.le_of_ble_eq_true rfl⟩ (zok_7 (by decide)) (by decide) (p_SC) rfl rfl rfl (Nat.le_of_ble_eq_true rfl) dL_clock_55 ⟨Nat.le_of_ble_eq_true rfl, Nat.le_of_ble_eq_true rfl⟩ ?_
        refine x_eqi ((tl_7 hX (by omega)).trans e7) ?_
        refine x_istore (ls' := [_, _, _, _, _, _, _, _, _, _, _]) cx dL_clock_58 (by decide) rfl ?_
        refine x_iload cx dL_clock_60 rfl ?_
        refine x_if_ne_t (tgt := 69) cx dL_clock_62 (by decide) (nI_ne0 (by omega) (by omega)) ?_
        refine x_iload_n cx dL_clock_69 rfl rfl ?_
        refine x_iconst (v := nI 4) cx dL_clock_70 (by decide) ?_
        refine x_icmp_ne_t (tgt := 84) cx dL_clock_71 (by decide) (nI_nq (by omega) (by omega) (by omega)) ?_
        refine x_aload_n cx dL_clock_84 rfl rfl ?_
        refine x_iconst (v := nI 0) cx dL_clock_85 (by decide) ?_
        refine x_iconst (v := nI 0) cx dL_clock_86 (by decide) ?_
        refine x_Vi (C := RX6) (T := TX6) (N := 6) (rest := []) cx (c_X6_chip l G _ hS _ _) gV_L_20 ndX6_chip rfl ⟨Nat.le_of_ble_eq_true rfl, Nat.le_of_ble_eq_true rfl⟩ (zok_7 (by decide)) (by decide) (p_SC) rfl rfl rfl (Nat.le_of_ble_eq_true rfl) dL_clock_87 ⟨Nat.le_of_ble_eq_true rfl, Nat.le_of_ble_eq_true rfl⟩ ?_
        refine x_eqi (tl_0 hX (by omega)) ?_
        refine x_istore (ls' := [_, _, _, _, _, _, _, _, _, _, _]) cx dL_clock_90 (by decide) rfl ?_
        refine x_aload_n cx dL_clock_92 rfl rfl ?_
        refine x_iload_n cx dL_clock_93 rfl rfl ?_
        refine x_iload_n cx dL_clock_94 rfl rfl ?_
        refine x_Vi (C := RX6) (T := TX6) (N := 6) (rest := []) cx (c_X6_clock l G _ hS _ _) gV_L_50 ndX6_clock rfl ⟨Nat.le_of_ble_eq_true rfl, Nat.le_of_ble_eq_true rfl⟩ (zok_7 (by decide)) (by decide) (p_SC) rfl rfl rfl (Nat.le_of_ble_eq_true rfl) dL_clock_95 ⟨Nat.le_of_ble_eq_true rfl, Nat.le_of_ble_eq_true rfl⟩ ?_
        refine x_eqi (okE (eClk_ok hmd hi)) ?_
        refine x_S (okS (eClk_ok hmd hi)) ?_
        have hokT : XOK (zTick (S 0) (nI md) (nI i)) := XOK_tick hX ⟨i, hi, rfl⟩
        refine x_nm fun T hT => ?_
        have hT0 : T 0 = zTick (S 0) (nI md) (nI i) := by rw [hT]; exact up_same _ _ _
        have hkT : kWF T := by rw [hT]; exact (kWF_rec hS hokT.1).1
        have hXT : XOK (T 0) := by rw [hT0]; exact hokT
        have hnT : num (T 0) = num (S 0) := by rw [hT0, num_tick]
        have hsT : stt (T 0) = nx (stt (S 0)) (nI md) := by rw [hT0, stt_tick]
        have hdx : stt (T 0) = stt (S 0) ∨ dst (stt (S 0)) (stt (T 0)) = 1 := by rw [hsT]; exact dx_t (stt (S 0)) h16 md hmd
        have h16T := hkT.1.s16
        refine x_istore (ls' := [_, _, _, _, _, _, _, _, _, _, _]) cx dL_clock_98 (by decide) rfl ?_
        refine x_iload cx dL_clock_100 rfl ?_
        refine x_iload cx dL_clock_102 rfl ?_
        refine x_icmp_ne_f (tgt := 146) cx dL_clock_104 (by decide) rfl ?_
        refine x_aload_n cx dL_clock_107 rfl rfl ?_
        refine x_iconst (v := nI 3) cx dL_clock_108 (by decide) ?_
        refine x_Vi (C := RX6) (T := TX6) (N := 6) (rest := []) cx (c_X6_count l G _ hkT _) gV_L_14 ndX6_count rfl ⟨Nat.le_of_ble_eq_true rfl, Nat.le_of_ble_eq_true rfl⟩ (zok_7 (by decide)) (by decide) (p_SC) rfl rfl rfl (Nat.le_of_ble_eq_true rfl) dL_clock_109 ⟨Nat.le_of_ble_eq_true rfl, Nat.le_of_ble_eq_true rfl⟩ ?_
        refine x_eqi cn3 ?_
        refine x_iload cx dL_clock_112 rfl ?_
        refine x_iconst (v := nI 1) cx dL_clock_114 (by decide) ?_
        refine x_iadd cx dL_clock_115 ?_
        refine x_icmp_ne_f (tgt := 146) cx dL_clock_116 (by decide) (by rw [hT0, zTick_0]; rfl) ?_
        refine x_aload_n cx dL_clock_119 rfl rfl ?_
        refine x_iconst (v := nI 2) cx dL_clock_120 (by decide) ?_
        refine x_Vi (C := RX6) (T := TX6) (N := 6) (rest := []) cx (c_X6_count l G _ hkT _) gV_L_14 ndX6_count rfl ⟨Nat.le_of_ble_eq_true rfl, Nat.le_of_ble_eq_true rfl⟩ (zok_7 (by decide)) (by decide) (p_SC) rfl rfl rfl (Nat.le_of_ble_eq_true rfl) dL_clock_121 ⟨Nat.le_of_ble_eq_true rfl, Nat.le_of_ble_eq_true rfl⟩ ?_
        refine x_eqi (cn2 hkT.1) ?_
        refine x_iload_n cx dL_clock_124 rfl rfl ?_
        have K142 : Xh p l e (zrm 6 0 0 131) s m args below meth cd 11 G (MQ below (zQi G 68 (zOut (S 0) (nI i)) (pic G (up (zRec S) 0 (zTick (S 0) (nI md) (nI i))))) args s 0 0 (zA G)) 0 0 68 (pic G T) 142 [some (.ref (zad G 7 0)), some (.int (nI md)), some (.int (nI i)), some (.int (nI (stt (S 0)))), some (.int (S 0 0 2)), some (.int (zOut (S 0) (nI i))), some (.int (nI (num (S 0)))), some (.int (nI m7)), some (.int (nI (aL (S 0 (0 + 3))))), some (.int (zOut (S 0) (nI i))), none] [] := by
          refine x_iconst (v := nI 1) cx dL_clock_142 (by decide) ?_
          refine x_goto (tgt := 147) cx dL_clock_143 (by decide) ?_
          refine x_istore (ls' := [_, _, _, _, _, _, _, _, _, _, _]) cx dL_clock_147 (by decide) rfl ?_
          refine x_iload cx dL_clock_149 rfl ?_
          refine x_if_le_f (tgt := 208) cx dL_clock_151 (by decide) (nI_nle (by omega) (by omega)) ?_
          refine x_iload_n cx dL_clock_154 rfl rfl ?_
          refine x_iconst (v := nI 4) cx dL_clock_155 (by decide) ?_
          refine x_icmp_eq_f (tgt := 165) cx dL_clock_156 (by decide) (nI_nq (by omega) (by omega) (by omega)) ?_
          refine x_iload_n cx dL_clock_159 rfl rfl ?_
          refine x_bipush (v := nI 11) cx dL_clock_160 (by decide) ?_
          refine x_icmp_ne_t (tgt := 208) cx dL_clock_162 (by decide) (nI_nq (by omega) (by omega) (by omega)) ?_
          refine x_iload cx dL_clock_208 rfl ?_
          refine x_if_eq_f (tgt := 218) cx dL_clock_210 (by decide) (by decide) ?_
          refine x_iload cx dL_clock_213 rfl ?_
          refine x_goto (tgt := 220) cx dL_clock_215 (by decide) ?_
          exact x_iret cx hr rfl (by intro _ _ _ _; rw [hT]) dL_clock_220
        refine x_icmp_eq (tgt := 142) cx dL_clock_125 (by decide) (fun hb125 => ?_) (fun hb125 => ?_)
        · exact K142
        · have hne : stt (T 0) ≠ stt (S 0) := fun z => hb125 (nI_ig z)
          refine x_aload_n cx dL_clock_128 rfl rfl ?_
          refine x_iload_n cx dL_clock_129 rfl rfl ?_
          refine x_aload_n cx dL_clock_130 rfl rfl ?_
          refine x_iconst (v := nI 2) cx dL_clock_131 (by decide) ?_
          refine x_Vi (C := RX6) (T := TX6) (N := 6) (rest := [_, _]) cx (c_X6_count l G _ hkT _) gV_L_14 ndX6_count rfl ⟨Nat.le_of_ble_eq_true rfl, Nat.le_of_ble_eq_true rfl⟩ (zok_7 (by decide)) (by decide) (p_SC) rfl rfl rfl (Nat.le_of_ble_eq_true rfl) dL_clock_132 ⟨Nat.le_of_ble_eq_true rfl, Nat.le_of_ble_eq_true rfl⟩ ?_
          refine x_eqi (cn2 hkT.1) ?_
          refine x_Vi (C := RX6) (T := TX6) (N := 6) (rest := []) cx (c_X6_distance l G _ hkT _ _) gV_L_62 ndX6_distance rfl ⟨Nat.le_of_ble_eq_true rfl, Nat.le_of_ble_eq_true rfl⟩ (zok_7 (by decide)) (by decide) (p_SC) rfl rfl rfl (Nat.le_of_ble_eq_true rfl) dL_clock_135 ⟨Nat.le_of_ble_eq_true rfl, Nat.le_of_ble_eq_true rfl⟩ ?_
          refine x_eqi (zd h16 h16T) ?_
          refine x_iconst (v := nI 1) cx dL_clock_138 (by decide) ?_
          refine x_icmp_ne_f (tgt := 146) cx dL_clock_139 (by decide) (nI_ig (b := 1) (by omega)) ?_
          exact K142

