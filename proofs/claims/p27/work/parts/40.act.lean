set_option maxHeartbeats 4000000 in
set_option maxRecDepth 100000 in
theorem c_L_clock (l : Launch) (G : zG) (S : zS) (hS : kWF S) (hX : XOK (S 0)) (md i : Nat) (hmd : md < 2) (hi : i < 2) : Met l yL_clock (zws yL_clock cL_clock 11 (some .int)) (zrm 6 0 0 131) (zPc G 68 (pic G S) [.ref (zad G 7 0), .int (nI md), .int (nI i)]) (zQi G 68 (zOut (S 0) (nI i)) (pic G (up (zRec S) 0 (zTick (S 0) (nI md) (nI i))))) 0 0 (zA G) := by
  refine zMet npL_clock rfl (Nat.le_of_ble_eq_true rfl) ?_
  intro p e s m args below meth cd hargs cx hr hin0
  have cx : Cx p s m args meth cd cL_clock 11 RL G := cx
  refine x_ls (ls' := [some (.ref (zad G 7 0)), some (.int (nI md)), some (.int (nI i)), none, none, none, none, none, none, none, none]) rfl (fun _ h => h) ?_
  have h6 := hS.1.n6
  have h16 := hS.1.s16
  by_cases hn0 : num (S 0) = 0
  · refine x_aload_n cx dL_clock_0 rfl rfl ?_
    refine x_iconst (v := nI 2) cx dL_clock_1 (by decide) ?_
    refine x_Vi (C := RX6) (T := TX6) (N := 6) (rest := []) cx (c_X6_count l G _ hS _) gV_L_14 ndX6_count rfl ⟨Nat.le_of_ble_eq_true rfl, Nat.le_of_ble_eq_true rfl⟩ (zok_7 (by decide)) (by decide) (p_SC) rfl rfl rfl (Nat.le_of_ble_eq_true rfl) dL_clock_2 ⟨Nat.le_of_ble_eq_true rfl, Nat.le_of_ble_eq_true rfl⟩ ?_
    refine x_eqi (cn2 hS.1) ?_
    refine x_istore_n (ls' := [_, _, _, _, _, _, _, _, _, _, _]) cx dL_clock_5 rfl (by decide) rfl ?_
    refine x_aload_n cx dL_clock_6 rfl rfl ?_
    refine x_iconst (v := nI 3) cx dL_clock_7 (by decide) ?_
    refine x_Vi (C := RX6) (T := TX6) (N := 6) (rest := []) cx (c_X6_count l G _ hS _) gV_L_14 ndX6_count rfl ⟨Nat.le_of_ble_eq_true rfl, Nat.le_of_ble_eq_true rfl⟩ (zok_7 (by decide)) (by decide) (p_SC) rfl rfl rfl (Nat.le_of_ble_eq_true rfl) dL_clock_8 ⟨Nat.le_of_ble_eq_true rfl, Nat.le_of_ble_eq_true rfl⟩ ?_
    refine x_eqi cn3 ?_
    refine x_istore (ls' := [_, _, _, _, _, _, _, _, _, _, _]) cx dL_clock_11 (by decide) rfl ?_
    refine x_aload_n cx dL_clock_13 rfl rfl ?_
    refine x_iload_n cx dL_clock_14 rfl rfl ?_
    refine x_Vi (C := RX6) (T := TX6) (N := 6) (rest := []) cx (c_X6_peek l G _ hS _) gV_L_27 ndX6_peek rfl ⟨Nat.le_of_ble_eq_true rfl, Nat.le_of_ble_eq_true rfl⟩ (zok_7 (by decide)) (by decide) (p_SC) rfl rfl rfl (Nat.le_of_ble_eq_true rfl) dL_clock_15 ⟨Nat.le_of_ble_eq_true rfl, Nat.le_of_ble_eq_true rfl⟩ ?_
    refine x_eqi (pk_01 hi) ?_
    refine x_istore (ls' := [_, _, _, _, _, _, _, _, _, _, _]) cx dL_clock_18 (by decide) rfl ?_
    refine x_aload_n cx dL_clock_20 rfl rfl ?_
    refine x_iconst (v := nI 0) cx dL_clock_21 (by decide) ?_
    refine x_Vi (C := RX6) (T := TX6) (N := 6) (rest := []) cx (c_X6_count l G _ hS _) gV_L_14 ndX6_count rfl ⟨Nat.le_of_ble_eq_true rfl, Nat.le_of_ble_eq_true rfl⟩ (zok_7 (by decide)) (by decide) (p_SC) rfl rfl rfl (Nat.le_of_ble_eq_true rfl) dL_clock_22 ⟨Nat.le_of_ble_eq_true rfl, Nat.le_of_ble_eq_true rfl⟩ ?_
    refine x_eqi (cn0 hS.1) ?_
    refine x_istore (ls' := [_, _, _, _, _, _, _, _, _, _, _]) cx dL_clock_25 (by decide) rfl ?_
    refine x_iload cx dL_clock_27 rfl ?_
    refine x_if_ne_f (tgt := 36) cx dL_clock_29 (by decide) (nI_ig (b := 0) (by omega)) ?_
    refine x_iconst (v := nI 0) cx dL_clock_32 (by decide) ?_
    refine x_goto (tgt := 58) cx dL_clock_33 (by decide) ?_
    refine x_istore (ls' := [_, _, _, _, _, _, _, _, _, _, _]) cx dL_clock_58 (by decide) rfl ?_
    refine x_iload cx dL_clock_60 rfl ?_
    refine x_if_ne_f (tgt := 69) cx dL_clock_62 (by decide) (nI_ig (b := 0) (by omega)) ?_
    refine x_iconst (v := nI 0) cx dL_clock_65 (by decide) ?_
    refine x_goto (tgt := 90) cx dL_clock_66 (by decide) ?_
    refine x_istore (ls' := [_, _, _, _, _, _, _, _, _, _, _]) cx dL_clock_90 (by decide) rfl ?_
    refine x_aload_n cx dL_clock_92 rfl rfl ?_
    refine x_iload_n cx dL_clock_93 rfl rfl ?_
    refine x_iload_n cx dL_clock_94 rfl rfl ?_
    refine x_Vi (C := RX6) (T := TX6) (N := 6) (rest := []) cx (c_X6_clock l G _ hS _ _) gV_L_50 ndX6_clock rfl ⟨Nat.le_of_ble_eq_true rfl, Nat.le_of_ble_eq_true rfl⟩ (zok_7 (by decide)) (by decide) (p_SC) rfl rfl rfl (Nat.le_of_ble_eq_true rfl) dL_clock_95 ⟨Nat.le_of_ble_eq_true rfl, Nat.le_of_ble_eq_true rfl⟩ ?_
    refine x_eqi (okE (eClk_ok hmd hi)) ?_
    refine x_S (okS (eClk_ok hmd hi)) ?_
    have hokT : XOK (zTick (S 0) (nI md) (nI i)) := XOK_tick hX ⟨i, hi, rfl⟩
    refine x_nm fun T hT => ?_
    have hT0 : T 0 = zTick (S 0) (nI md) (nI i) := by rw [hT]; exact up_same _ _ _
    have hkT : kWF T := by rw [hT]; exact (kWF_rec hS hokT.1).1
    have hXT : XOK (T 0) := by rw [hT0]; exact hokT
    have hnT : num (T 0) = num (S 0) := by rw [hT0, num_tick]
    have hsT : stt (T 0) = nx (stt (S 0)) (nI md) := by rw [hT0, stt_tick]
    have hdx : stt (T 0) = stt (S 0) ∨ dst (stt (S 0)) (stt (T 0)) = 1 := by rw [hsT]; exact dx_t (stt (S 0)) h16 md hmd
    have h16T := hkT.1.s16
    refine x_istore (ls' := [_, _, _, _, _, _, _, _, _, _, _]) cx dL_clock_98 (by decide) rfl ?_
    refine x_iload cx dL_clock_100 rfl ?_
    refine x_iload cx dL_clock_102 rfl ?_
    refine x_icmp_ne_f (tgt := 146) cx dL_clock_104 (by decide) rfl ?_
    refine x_aload_n cx dL_clock_107 rfl rfl ?_
    refine x_iconst (v := nI 3) cx dL_clock_108 (by decide) ?_
    refine x_Vi (C := RX6) (T := TX6) (N := 6) (rest := []) cx (c_X6_count l G _ hkT _) gV_L_14 ndX6_count rfl ⟨Nat.le_of_ble_eq_true rfl, Nat.le_of_ble_eq_true rfl⟩ (zok_7 (by decide)) (by decide) (p_SC) rfl rfl rfl (Nat.le_of_ble_eq_true rfl) dL_clock_109 ⟨Nat.le_of_ble_eq_true rfl, Nat.le_of_ble_eq_true rfl⟩ ?_
    refine x_eqi cn3 ?_
    refine x_iload cx dL_clock_112 rfl ?_
    refine x_iconst (v := nI 1) cx dL_clock_114 (by decide) ?_
    refine x_iadd cx dL_clock_115 ?_
    refine x_icmp_ne_f (tgt := 146) cx dL_clock_116 (by decide) (by rw [hT0, zTick_0]; rfl) ?_
    refine x_aload_n cx dL_clock_119 rfl rfl ?_
    refine x_iconst (v := nI 2) cx dL_clock_120 (by decide) ?_
    refine x_Vi (C := RX6) (T := TX6) (N := 6) (rest := []) cx (c_X6_count l G _ hkT _) gV_L_14 ndX6_count rfl ⟨Nat.le_of_ble_eq_true rfl, Nat.le_of_ble_eq_true rfl⟩ (zok_7 (by decide)) (by decide) (p_SC) rfl rfl rfl (Nat.le_of_ble_eq_true rfl) dL_clock_121 ⟨Nat.le_of_ble_eq_true rfl, Nat.le_of_ble_eq_true rfl⟩ ?_
    refine x_eqi (cn2 hkT.1) ?_
    refine x_iload_n cx dL_clock_124 rfl rfl ?_
    have K142 : Xh p l e (zrm 6 0 0 131) s m args below meth cd 11 G (MQ below (zQi G 68 (zOut (S 0) (nI i)) (pic G (up (zRec S) 0 (zTick (S 0) (nI md) (nI i))))) args s 0 0 (zA G)) 0 0 68 (pic G T) 142 [some (.ref (zad G 7 0)), some (.int (nI md)), some (.int (nI i)), some (.int (nI (stt (S 0)))), some (.int (S 0 0 2)), some (.int (zOut (S 0) (nI i))), some (.int (nI (num (S 0)))), some (.int (nI 0)), some (.int (nI 0)), some (.int (zOut (S 0) (nI i))), none] [] := by
      refine x_iconst (v := nI 1) cx dL_clock_142 (by decide) ?_
      refine x_goto (tgt := 147) cx dL_clock_143 (by decide) ?_
      refine x_istore (ls' := [_, _, _, _, _, _, _, _, _, _, _]) cx dL_clock_147 (by decide) rfl ?_
      refine x_iload cx dL_clock_149 rfl ?_
      refine x_if_le_t (tgt := 208) cx dL_clock_151 (by decide) (nI_le (b := 0) (by omega) (by decide)) ?_
      refine x_iload cx dL_clock_208 rfl ?_
      refine x_if_eq_f (tgt := 218) cx dL_clock_210 (by decide) (by decide) ?_
      refine x_iload cx dL_clock_213 rfl ?_
      refine x_goto (tgt := 220) cx dL_clock_215 (by decide) ?_
      exact x_iret cx hr rfl (by intro _ _ _ _; rw [hT]) dL_clock_220
    refine x_icmp_eq (tgt := 142) cx dL_clock_125 (by decide) (fun hb125 => ?_) (fun hb125 => ?_)
    · exact K142
    · have hne : stt (T 0) ≠ stt (S 0) := fun z => hb125 (nI_ig z)
      refine x_aload_n cx dL_clock_128 rfl rfl ?_
      refine x_iload_n cx dL_clock_129 rfl rfl ?_
      refine x_aload_n cx dL_clock_130 rfl rfl ?_
      refine x_iconst (v := nI 2) cx dL_clock_131 (by decide) ?_
      refine x_Vi (C := RX6) (T := TX6) (N := 6) (rest := [_, _]) cx (c_X6_count l G _ hkT _) gV_L_14 ndX6_count rfl ⟨Nat.le_of_ble_eq_true rfl, Nat.le_of_ble_eq_true rfl⟩ (zok_7 (by decide)) (by decide) (p_SC) rfl rfl rfl (Nat.le_of_ble_eq_true rfl) dL_clock_132 ⟨Nat.le_of_ble_eq_true rfl, Nat.le_of_ble_eq_true rfl⟩ ?_
      refine x_eqi (cn2 hkT.1) ?_
      refine x_Vi (C := RX6) (T := TX6) (N := 6) (rest := []) cx (c_X6_distance l G _ hkT _ _) gV_L_62 ndX6_distance rfl ⟨Nat.le_of_ble_eq_true rfl, Nat.le_of_ble_eq_true rfl⟩ (zok_7 (by decide)) (by decide) (p_SC) rfl rfl rfl (Nat.le_of_ble_eq_true rfl) dL_clock_135 ⟨Nat.le_of_ble_eq_true rfl, Nat.le_of_ble_eq_true rfl⟩ ?_
      refine x_eqi (zd h16 h16T) ?_
      refine x_iconst (v := nI 1) cx dL_clock_138 (by decide) ?_
      refine x_icmp_ne_f (tgt := 146) cx dL_clock_139 (by decide) (nI_ig (b := 1) (by omega)) ?_
      exact K142
  · have hc := hX.chip (t := 0) (by omega)
    have hB := cOK_B hc
    have hL := hc.1.1
    obtain ⟨m7, h7, e7⟩ := hc.2.2.1.2
    obtain ⟨m8, h8, e8⟩ := hc.2.2.2
    have h7p : m7 < 2 ^ 31 := Nat.lt_of_lt_of_le h7 (p2le (by have := hc.1.1.2.1; omega))
    have h8p : m8 < 2 ^ 31 := Nat.lt_of_lt_of_le h8 (p2le (by have := (cOK_B hc).2.2; omega))
    by_cases hst : stt (S 0) = 4
    · refine x_aload_n cx dL_clock_0 rfl rfl ?_
      refine x_iconst (v := nI 2) cx dL_clock_1 (by decide) ?_
      refine x_Vi (C := RX6) (T := TX6) (N := 6) (rest := []) cx (c_X6_count l G _ hS _) gV_L_14 ndX6_count rfl ⟨Nat.le_of_ble_eq_true rfl, Nat.le_of_ble_eq_true rfl⟩ (zok_7 (by decide)) (by decide) (p_SC) rfl rfl rfl (Nat.le_of_ble_eq_true rfl) dL_clock_2 ⟨Nat.le_of_ble_eq_true rfl, Nat.le_of_ble_eq_true rfl⟩ ?_
      refine x_eqi (cn2 hS.1) ?_
      refine x_istore_n (ls' := [_, _, _, _, _, _, _, _, _, _, _]) cx dL_clock_5 rfl (by decide) rfl ?_
      refine x_aload_n cx dL_clock_6 rfl rfl ?_
      refine x_iconst (v := nI 3) cx dL_clock_7 (by decide) ?_
      refine x_Vi (C := RX6) (T := TX6) (N := 6) (rest := []) cx (c_X6_count l G _ hS _) gV_L_14 ndX6_count rfl ⟨Nat.le_of_ble_eq_true rfl, Nat.le_of_ble_eq_true rfl⟩ (zok_7 (by decide)) (by decide) (p_SC) rfl rfl rfl (Nat.le_of_ble_eq_true rfl) dL_clock_8 ⟨Nat.le_of_ble_eq_true rfl, Nat.le_of_ble_eq_true rfl⟩ ?_
      refine x_eqi cn3 ?_
      refine x_istore (ls' := [_, _, _, _, _, _, _, _, _, _, _]) cx dL_clock_11 (by decide) rfl ?_
      refine x_aload_n cx dL_clock_13 rfl rfl ?_
      refine x_iload_n cx dL_clock_14 rfl rfl ?_
      refine x_Vi (C := RX6) (T := TX6) (N := 6) (rest := []) cx (c_X6_peek l G _ hS _) gV_L_27 ndX6_peek rfl ⟨Nat.le_of_ble_eq_true rfl, Nat.le_of_ble_eq_true rfl⟩ (zok_7 (by decide)) (by decide) (p_SC) rfl rfl rfl (Nat.le_of_ble_eq_true rfl) dL_clock_15 ⟨Nat.le_of_ble_eq_true rfl, Nat.le_of_ble_eq_true rfl⟩ ?_
      refine x_eqi (pk_01 hi) ?_
      refine x_istore (ls' := [_, _, _, _, _, _, _, _, _, _, _]) cx dL_clock_18 (by decide) rfl ?_
      refine x_aload_n cx dL_clock_20 rfl rfl ?_
      refine x_iconst (v := nI 0) cx dL_clock_21 (by decide) ?_
      refine x_Vi (C := RX6) (T := TX6) (N := 6) (rest := []) cx (c_X6_count l G _ hS _) gV_L_14 ndX6_count rfl ⟨Nat.le_of_ble_eq_true rfl, Nat.le_of_ble_eq_true rfl⟩ (zok_7 (by decide)) (by decide) (p_SC) rfl rfl rfl (Nat.le_of_ble_eq_true rfl) dL_clock_22 ⟨Nat.le_of_ble_eq_true rfl, Nat.le_of_ble_eq_true rfl⟩ ?_
      refine x_eqi (cn0 hS.1) ?_
      refine x_istore (ls' := [_, _, _, _, _, _, _, _, _, _, _]) cx dL_clock_25 (by decide) rfl ?_
      refine x_iload cx dL_clock_27 rfl ?_
      refine x_if_ne_t (tgt := 36) cx dL_clock_29 (by decide) (nI_ne0 (by omega) (by omega)) ?_
      refine x_iload_n cx dL_clock_36 rfl rfl ?_
      refine x_iconst (v := nI 4) cx dL_clock_37 (by decide) ?_
      refine x_icmp_ne_f (tgt := 51) cx dL_clock_38 (by decide) (nI_ig (by omega)) ?_
      refine x_aload_n cx dL_clock_41 rfl rfl ?_
      refine x_iconst (v := nI 0) cx dL_clock_42 (by decide) ?_
      refine x_bipush (v := nI 8) cx dL_clock_43 (by decide) ?_
      refine x_Vi (C := RX6) (T := TX6) (N := 6) (rest := []) cx (c_X6_chip l G _ hS _ _) gV_L_20 ndX6_chip rfl ⟨Nat.le_of_ble_eq_true rfl, Nat.le_of_ble_eq_true rfl⟩ (zok_7 (by decide)) (by decide) (p_SC) rfl rfl rfl (Nat.le_of_ble_eq_true rfl) dL_clock_45 ⟨Nat.le_of_ble_eq_true rfl, Nat.le_of_ble_eq_true rfl⟩ ?_
      refine x_eqi ((tl_8 hX (by omega)).trans e8) ?_
      refine x_goto (tgt := 58) cx dL_clock_48 (by decide) ?_
      refine x_istore (ls' := [_, _, _, _, _, _, _, _, _, _, _]) cx dL_clock_58 (by decide) rfl ?_
      refine x_iload cx dL_clock_60 rfl ?_
      refine x_if_ne_t (tgt := 69) cx dL_clock_62 (by decide) (nI_ne0 (by omega) (by omega)) ?_
      refine x_iload_n cx dL_clock_69 rfl rfl ?_
      refine x_iconst (v := nI 4) cx dL_clock_70 (by decide) ?_
      refine x_icmp_ne_f (tgt := 84) cx dL_clock_71 (by decide) (nI_ig (by omega)) ?_
      refine x_aload_n cx dL_clock_74 rfl rfl ?_
      refine x_iconst (v := nI 0) cx dL_clock_75 (by decide) ?_
      refine x_bipush (v := nI 9) cx dL_clock_76 (by decide) ?_
      refine x_Vi (C := RX6) (T := TX6) (N := 6) (rest := []) cx (c_X6_chip l G _ hS _ _) gV_L_20 ndX6_chip rfl ⟨Nat.le_of_ble_eq_true rfl, Nat.le_of_ble_eq_true rfl⟩ (zok_7 (by decide)) (by decide) (p_SC) rfl rfl rfl (Nat.le_of_ble_eq_true rfl) dL_clock_78 ⟨Nat.le_of_ble_eq_true rfl, Nat.le_of_ble_eq_true rfl⟩ ?_
      refine x_eqi (tl_9 hX (by omega)) ?_
      refine x_goto (tgt := 90) cx dL_clock_81 (by decide) ?_
      refine x_istore (ls' := [_, _, _, _, _, _, _, _, _, _, _]) cx dL_clock_90 (by decide) rfl ?_
      refine x_aload_n cx dL_clock_92 rfl rfl ?_
      refine x_iload_n cx dL_clock_93 rfl rfl ?_
      refine x_iload_n cx dL_clock_94 rfl rfl ?_
      refine x_Vi (C := RX6) (T := TX6) (N := 6) (rest := []) cx (c_X6_clock l G _ hS _ _) gV_L_50 ndX6_clock rfl ⟨Nat.le_of_ble_eq_true rfl, Nat.le_of_ble_eq_true rfl⟩ (zok_7 (by decide)) (by decide) (p_SC) rfl rfl rfl (Nat.le_of_ble_eq_true rfl) dL_clock_95 ⟨Nat.le_of_ble_eq_true rfl, Nat.le_of_ble_eq_true rfl⟩ ?_
      refine x_eqi (okE (eClk_ok hmd hi)) ?_
      refine x_S (okS (eClk_ok hmd hi)) ?_
      have hokT : XOK (zTick (S 0) (nI md) (nI i)) := XOK_tick hX ⟨i, hi, rfl⟩
      refine x_nm fun T hT => ?_
      have hT0 : T 0 = zTick (S 0) (nI md) (nI i) := by rw [hT]; exact up_same _ _ _
      have hkT : kWF T := by rw [hT]; exact (kWF_rec hS hokT.1).1
      have hXT : XOK (T 0) := by rw [hT0]; exact hokT
      have hnT : num (T 0) = num (S 0) := by rw [hT0, num_tick]
      have hsT : stt (T 0) = nx (stt (S 0)) (nI md) := by rw [hT0, stt_tick]
      have hdx : stt (T 0) = stt (S 0) ∨ dst (stt (S 0)) (stt (T 0)) = 1 := by rw [hsT]; exact dx_t (stt (S 0)) h16 md hmd
      have h16T := hkT.1.s16
      refine x_istore (ls' := [_, _, _, _, _, _, _, _, _, _, _]) cx dL_clock_98 (by decide) rfl ?_
      refine x_iload cx dL_clock_100 rfl ?_
      refine x_iload cx dL_clock_102 rfl ?_
      refine x_icmp_ne_f (tgt := 146) cx dL_clock_104 (by decide) rfl ?_
      refine x_aload_n cx dL_clock_107 rfl rfl ?_
      refine x_iconst (v := nI 3) cx dL_clock_108 (by decide) ?_
      refine x_Vi (C := RX6) (T := TX6) (N := 6) (rest := []) cx (c_X6_count l G _ hkT _) gV_L_14 ndX6_count rfl ⟨Nat.le_of_ble_eq_true rfl, Nat.le_of_ble_eq_true rfl⟩ (zok_7 (by decide)) (by decide) (p_SC) rfl rfl rfl (Nat.le_of_ble_eq_true rfl) dL_clock_109 ⟨Nat.le_of_ble_eq_true rfl, Nat.le_of_ble_eq_true rfl⟩ ?_
      refine x_eqi cn3 ?_
      refine x_iload cx dL_clock_112 rfl ?_
      refine x_iconst (v := nI 1) cx dL_clock_114 (by decide) ?_
      refine x_iadd cx dL_clock_115 ?_
      refine x_icmp_ne_f (tgt := 146) cx dL_clock_116 (by decide) (by rw [hT0, zTick_0]; rfl) ?_
      refine x_aload_n cx dL_clock_119 rfl rfl ?_
      refine x_iconst (v := nI 2) cx dL_clock_120 (by decide) ?_
      refine x_Vi (C := RX6) (T := TX6) (N := 6) (rest := []) cx (c_X6_count l G _ hkT _) gV_L_14 ndX6_count rfl ⟨Nat.le_of_ble_eq_true rfl, Nat.le_of_ble_eq_true rfl⟩ (zok_7 (by decide)) (by decide) (p_SC) rfl rfl rfl (Nat.le_of_ble_eq_true rfl) dL_clock_121 ⟨Nat.le_of_ble_eq_true rfl, Nat.le_of_ble_eq_true rfl⟩ ?_
      refine x_eqi (cn2 hkT.1) ?_
      refine x_iload_n cx dL_clock_124 rfl rfl ?_
      have K142 : Xh p l e (zrm 6 0 0 131) s m args below meth cd 11 G (MQ below (zQi G 68 (zOut (S 0) (nI i)) (pic G (up (zRec S) 0 (zTick (S 0) (nI md) (nI i))))) args s 0 0 (zA G)) 0 0 68 (pic G T) 142 [some (.ref (zad G 7 0)), some (.int (nI md)), some (.int (nI i)), some (.int (nI (stt (S 0)))), some (.int (S 0 0 2)), some (.int (zOut (S 0) (nI i))), some (.int (nI (num (S 0)))), some (.int (nI m8)), some (.int (nI (aB (S 0 (0 + 3))))), some (.int (zOut (S 0) (nI i))), none] [] := by
        refine x_iconst (v := nI 1) cx dL_clock_142 (by decide) ?_
        refine x_goto (tgt := 147) cx dL_clock_143 (by decide) ?_
        refine x_istore (ls' := [_, _, _, _, _, _, _, _, _, _, _]) cx dL_clock_147 (by decide) rfl ?_
        refine x_iload cx dL_clock_149 rfl ?_
        refine x_if_le_f (tgt := 208) cx dL_clock_151 (by decide) (nI_nle (by omega) (by omega)) ?_
        refine x_iload_n cx dL_clock_154 rfl rfl ?_
        refine x_iconst (v := nI 4) cx dL_clock_155 (by decide) ?_
        refine x_icmp_eq_t (tgt := 165) cx dL_clock_156 (by decide) (nI_ig (by omega)) ?_
        refine x_iload cx dL_clock_165 rfl ?_
        refine x_if_eq_f (tgt := 205) cx dL_clock_167 (by decide) (by decide) ?_
        refine x_aload_n cx dL_clock_170 rfl rfl ?_
        refine x_iconst (v := nI 0) cx dL_clock_171 (by decide) ?_
        refine x_iload_n cx dL_clock_172 rfl rfl ?_
        refine x_iconst (v := nI 4) cx dL_clock_173 (by decide) ?_
        refine x_icmp_ne_f (tgt := 182) cx dL_clock_174 (by decide) (nI_ig (by omega)) ?_
        refine x_bipush (v := nI 8) cx dL_clock_177 (by decide) ?_
        refine x_goto (tgt := 184) cx dL_clock_179 (by decide) ?_
        refine x_Vi (C := RX6) (T := TX6) (N := 6) (rest := []) cx (c_X6_chip l G _ hkT _ _) gV_L_20 ndX6_chip rfl ⟨Nat.le_of_ble_eq_true rfl, Nat.le_of_ble_eq_true rfl⟩ (zok_7 (by decide)) (by decide) (p_SC) rfl rfl rfl (Nat.le_of_ble_eq_true rfl) dL_clock_184 ⟨Nat.le_of_ble_eq_true rfl, Nat.le_of_ble_eq_true rfl⟩ ?_
        refine x_eqi (tl_8 hXT (by omega)) ?_
        refine x_iload cx dL_clock_187 rfl ?_
        refine x_iconst (v := nI 2) cx dL_clock_189 (by decide) ?_
        refine x_idiv cx dL_clock_190 (by decide) ?_
        refine x_eqi (pk_div (by omega) (by omega) (by omega)) ?_
        refine x_iload_n cx dL_clock_191 rfl rfl ?_
        refine x_iload cx dL_clock_192 rfl ?_
        refine x_iconst (v := nI 1) cx dL_clock_194 (by decide) ?_
        refine x_isub cx dL_clock_195 ?_
        refine x_eqi (nI_subN (by omega)) ?_
        refine x_ishl cx dL_clock_196 ?_
        refine x_iadd cx dL_clock_197 ?_
        refine x_icmp_ne_f (tgt := 205) cx dL_clock_198 (by decide) (by rw [hT0]; exact ck_D hX hst (by omega) hi e8 h8) ?_
        refine x_iconst (v := nI 1) cx dL_clock_201 (by decide) ?_
        refine x_goto (tgt := 206) cx dL_clock_202 (by decide) ?_
        refine x_istore (ls' := [_, _, _, _, _, _, _, _, _, _, _]) cx dL_clock_206 (by decide) rfl ?_
        refine x_iload cx dL_clock_208 rfl ?_
        refine x_if_eq_f (tgt := 218) cx dL_clock_210 (by decide) (by decide) ?_
        refine x_iload cx dL_clock_213 rfl ?_
        refine x_goto (tgt := 220) cx dL_clock_215 (by decide) ?_
        exact x_iret cx hr rfl (by intro _ _ _ _; rw [hT]) dL_clock_220
      refine x_icmp_eq (tgt := 142) cx dL_clock_125 (by decide) (fun hb125 => ?_) (fun hb125 => ?_)
      · exact K142
      · have hne : stt (T 0) ≠ stt (S 0) := fun z => hb125 (nI_ig z)
        refine x_aload_n cx dL_clock_128 rfl rfl ?_
        refine x_iload_n cx dL_clock_129 rfl rfl ?_
        refine x_aload_n cx dL_clock_130 rfl rfl ?_
        refine x_iconst (v := nI 2) cx dL_clock_131 (by decide) ?_
        refine x_Vi (C := RX6) (T := TX6) (N := 6) (rest := [_, _]) cx (c_X6_count l G _ hkT _) gV_L_14 ndX6_count rfl ⟨Nat.le_of_ble_eq_true rfl, Nat.le_of_ble_eq_true rfl⟩ (zok_7 (by decide)) (by decide) (p_SC) rfl rfl rfl (Nat.le_of_ble_eq_true rfl) dL_clock_132 ⟨Nat.le_of_ble_eq_true rfl, Nat.le_of_ble_eq_true rfl⟩ ?_
        refine x_eqi (cn2 hkT.1) ?_
        refine x_Vi (C := RX6) (T := TX6) (N := 6) (rest := []) cx (c_X6_distance l G _ hkT _ _) gV_L_62 ndX6_distance rfl ⟨Nat.le_of_ble_eq_true rfl, Nat.le_of_ble_eq_true rfl⟩ (zok_7 (by decide)) (by decide) (p_SC) rfl rfl rfl (Nat.le_of_ble_eq_true rfl) dL_clock_135 ⟨Nat.le_of_ble_eq_true rfl, Nat.le_of_ble_eq_true rfl⟩ ?_
        refine x_eqi (zd h16 h16T) ?_
        refine x_iconst (v := nI 1) cx dL_clock_138 (by decide) ?_
        refine x_icmp_ne_f (tgt := 146) cx dL_clock_139 (by decide) (nI_ig (b := 1) (by omega)) ?_
        exact K142
    · have hst4 := hst
      clear hst
      by_cases hst : stt (S 0) = 11
      · refine x_aload_n cx dL_clock_0 rfl rfl ?_
        refine x_iconst (v := nI 2) cx dL_clock_1 (by decide) ?_
        refine x_Vi (C := RX6) (T := TX6) (N := 6) (rest := []) cx (c_X6_count l G _ hS _) gV_L_14 ndX6_count rfl ⟨Nat.le_of_ble_eq_true rfl, Nat.le_of_ble_eq_true rfl⟩ (zok_7 (by decide)) (by decide) (p_SC) rfl rfl rfl (Nat.le_of_ble_eq_true rfl) dL_clock_2 ⟨Nat.le_of_ble_eq_true rfl, Nat.le_of_ble_eq_true rfl⟩ ?_
        refine x_eqi (cn2 hS.1) ?_
        refine x_istore_n (ls' := [_, _, _, _, _, _, _, _, _, _, _]) cx dL_clock_5 rfl (by decide) rfl ?_
        refine x_aload_n cx dL_clock_6 rfl rfl ?_
        refine x_iconst (v := nI 3) cx dL_clock_7 (by decide) ?_
        refine x_Vi (C := RX6) (T := TX6) (N := 6) (rest := []) cx (c_X6_count l G _ hS _) gV_L_14 ndX6_count rfl ⟨Nat.le_of_ble_eq_true rfl, Nat.le_of_ble_eq_true rfl⟩ (zok_7 (by decide)) (by decide) (p_SC) rfl rfl rfl (Nat.le_of_ble_eq_true rfl) dL_clock_8 ⟨Nat.le_of_ble_eq_true rfl, Nat.le_of_ble_eq_true rfl⟩ ?_
        refine x_eqi cn3 ?_
        refine x_istore (ls' := [_, _, _, _, _, _, _, _, _, _, _]) cx dL_clock_11 (by decide) rfl ?_
        refine x_aload_n cx dL_clock_13 rfl rfl ?_
        refine x_iload_n cx dL_clock_14 rfl rfl ?_
        refine x_Vi (C := RX6) (T := TX6) (N := 6) (rest := []) cx (c_X6_peek l G _ hS _) gV_L_27 ndX6_peek rfl ⟨Nat.le_of_ble_eq_true rfl, Nat.le_of_ble_eq_true rfl⟩ (zok_7 (by decide)) (by decide) (p_SC) rfl rfl rfl (Nat.le_of_ble_eq_true rfl) dL_clock_15 ⟨Nat.le_of_ble_eq_true rfl, Nat.le_of_ble_eq_true rfl⟩ ?_
        refine x_eqi (pk_01 hi) ?_
        refine x_istore (ls' := [_, _, _, _, _, _, _, _, _, _, _]) cx dL_clock_18 (by decide) rfl ?_
        refine x_aload_n cx dL_clock_20 rfl rfl ?_
        refine x_iconst (v := nI 0) cx dL_clock_21 (by decide) ?_
        refine x_Vi (C := RX6) (T := TX6) (N := 6) (rest := []) cx (c_X6_count l G _ hS _) gV_L_14 ndX6_count rfl ⟨Nat.le_of_ble_eq_true rfl, Nat.le_of_ble_eq_true rfl⟩ (zok_7 (by decide)) (by decide) (p_SC) rfl rfl rfl (Nat.le_of_ble_eq_true rfl) dL_clock_22 ⟨Nat.le_of_ble_eq_true rfl, Nat.le_of_ble_eq_true rfl⟩ ?_
        refine x_eqi (cn0 hS.1) ?_
        refine x_istore (ls' := [_, _, _, _, _, _, _, _, _, _, _]) cx dL_clock_25 (by decide) rfl ?_
        refine x_iload cx dL_clock_27 rfl ?_
        refine x_if_ne_t (tgt := 36) cx dL_clock_29 (by decide) (nI_ne0 (by omega) (by omega)) ?_
        refine x_iload_n cx dL_clock_36 rfl rfl ?_
        refine x_iconst (v := nI 4) cx dL_clock_37 (by decide) ?_
        refine x_icmp_ne_t (tgt := 51) cx dL_clock_38 (by decide) (nI_nq (by omega) (by omega) (by omega)) ?_
        refine x_aload_n cx dL_clock_51 rfl rfl ?_
        refine x_iconst (v := nI 0) cx dL_clock_52 (by decide) ?_
        refine x_bipush (v := nI 7) cx dL_clock_53 (by decide) ?_
        refine x_Vi (C := RX6) (T := TX6) (N := 6) (rest := []) cx (c_X6_chip l G _ hS _ _) gV_L_20 ndX6_chip rfl ⟨Nat.le_of_ble_eq_true rfl, Nat.le_of_ble_eq_true rfl⟩ (zok_7 (by decide)) (by decide) (p_SC) rfl rfl rfl (Nat.le_of_ble_eq_true rfl) dL_clock_55 ⟨Nat.le_of_ble_eq_true rfl, Nat.le_of_ble_eq_true rfl⟩ ?_
        refine x_eqi ((tl_7 hX (by omega)).trans e7) ?_
        refine x_istore (ls' := [_, _, _, _, _, _, _, _, _, _, _]) cx dL_clock_58 (by decide) rfl ?_
        refine x_iload cx dL_clock_60 rfl ?_
        refine x_if_ne_t (tgt := 69) cx dL_clock_62 (by decide) (nI_ne0 (by omega) (by omega)) ?_
        refine x_iload_n cx dL_clock_69 rfl rfl ?_
        refine x_iconst (v := nI 4) cx dL_clock_70 (by decide) ?_
        refine x_icmp_ne_t (tgt := 84) cx dL_clock_71 (by decide) (nI_nq (by omega) (by omega) (by omega)) ?_
        refine x_aload_n cx dL_clock_84 rfl rfl ?_
        refine x_iconst (v := nI 0) cx dL_clock_85 (by decide) ?_
        refine x_iconst (v := nI 0) cx dL_clock_86 (by decide) ?_
        refine x_Vi (C := RX6) (T := TX6) (N := 6) (rest := []) cx (c_X6_chip l G _ hS _ _) gV_L_20 ndX6_chip rfl ⟨Nat.le_of_ble_eq_true rfl, Nat.le_of_ble_eq_true rfl⟩ (zok_7 (by decide)) (by decide) (p_SC) rfl rfl rfl (Nat.le_of_ble_eq_true rfl) dL_clock_87 ⟨Nat.le_of_ble_eq_true rfl, Nat.le_of_ble_eq_true rfl⟩ ?_
        refine x_eqi (tl_0 hX (by omega)) ?_
        refine x_istore (ls' := [_, _, _, _, _, _, _, _, _, _, _]) cx dL_clock_90 (by decide) rfl ?_
        refine x_aload_n cx dL_clock_92 rfl rfl ?_
        refine x_iload_n cx dL_clock_93 rfl rfl ?_
        refine x_iload_n cx dL_clock_94 rfl rfl ?_
        refine x_Vi (C := RX6) (T := TX6) (N := 6) (rest := []) cx (c_X6_clock l G _ hS _ _) gV_L_50 ndX6_clock rfl ⟨Nat.le_of_ble_eq_true rfl, Nat.le_of_ble_eq_true rfl⟩ (zok_7 (by decide)) (by decide) (p_SC) rfl rfl rfl (Nat.le_of_ble_eq_true rfl) dL_clock_95 ⟨Nat.le_of_ble_eq_true rfl, Nat.le_of_ble_eq_true rfl⟩ ?_
        refine x_eqi (okE (eClk_ok hmd hi)) ?_
        refine x_S (okS (eClk_ok hmd hi)) ?_
        have hokT : XOK (zTick (S 0) (nI md) (nI i)) := XOK_tick hX ⟨i, hi, rfl⟩
        refine x_nm fun T hT => ?_
        have hT0 : T 0 = zTick (S 0) (nI md) (nI i) := by rw [hT]; exact up_same _ _ _
        have hkT : kWF T := by rw [hT]; exact (kWF_rec hS hokT.1).1
        have hXT : XOK (T 0) := by rw [hT0]; exact hokT
        have hnT : num (T 0) = num (S 0) := by rw [hT0, num_tick]
        have hsT : stt (T 0) = nx (stt (S 0)) (nI md) := by rw [hT0, stt_tick]
        have hdx : stt (T 0) = stt (S 0) ∨ dst (stt (S 0)) (stt (T 0)) = 1 := by rw [hsT]; exact dx_t (stt (S 0)) h16 md hmd
        have h16T := hkT.1.s16
        refine x_istore (ls' := [_, _, _, _, _, _, _, _, _, _, _]) cx dL_clock_98 (by decide) rfl ?_
        refine x_iload cx dL_clock_100 rfl ?_
        refine x_iload cx dL_clock_102 rfl ?_
        refine x_icmp_ne_f (tgt := 146) cx dL_clock_104 (by decide) rfl ?_
        refine x_aload_n cx dL_clock_107 rfl rfl ?_
        refine x_iconst (v := nI 3) cx dL_clock_108 (by decide) ?_
        refine x_Vi (C := RX6) (T := TX6) (N := 6) (rest := []) cx (c_X6_count l G _ hkT _) gV_L_14 ndX6_count rfl ⟨Nat.le_of_ble_eq_true rfl, Nat.le_of_ble_eq_true rfl⟩ (zok_7 (by decide)) (by decide) (p_SC) rfl rfl rfl (Nat.le_of_ble_eq_true rfl) dL_clock_109 ⟨Nat.le_of_ble_eq_true rfl, Nat.le_of_ble_eq_true rfl⟩ ?_
        refine x_eqi cn3 ?_
        refine x_iload cx dL_clock_112 rfl ?_
        refine x_iconst (v := nI 1) cx dL_clock_114 (by decide) ?_
        refine x_iadd cx dL_clock_115 ?_
        refine x_icmp_ne_f (tgt := 146) cx dL_clock_116 (by decide) (by rw [hT0, zTick_0]; rfl) ?_
        refine x_aload_n cx dL_clock_119 rfl rfl ?_
        refine x_iconst (v := nI 2) cx dL_clock_120 (by decide) ?_
        refine x_Vi (C := RX6) (T := TX6) (N := 6) (rest := []) cx (c_X6_count l G _ hkT _) gV_L_14 ndX6_count rfl ⟨Nat.le_of_ble_eq_true rfl, Nat.le_of_ble_eq_true rfl⟩ (zok_7 (by decide)) (by decide) (p_SC) rfl rfl rfl (Nat.le_of_ble_eq_true rfl) dL_clock_121 ⟨Nat.le_of_ble_eq_true rfl, Nat.le_of_ble_eq_true rfl⟩ ?_
        refine x_eqi (cn2 hkT.1) ?_
        refine x_iload_n cx dL_clock_124 rfl rfl ?_
        have K142 : Xh p l e (zrm 6 0 0 131) s m args below meth cd 11 G (MQ below (zQi G 68 (zOut (S 0) (nI i)) (pic G (up (zRec S) 0 (zTick (S 0) (nI md) (nI i))))) args s 0 0 (zA G)) 0 0 68 (pic G T) 142 [some (.ref (zad G 7 0)), some (.int (nI md)), some (.int (nI i)), some (.int (nI (stt (S 0)))), some (.int (S 0 0 2)), some (.int (zOut (S 0) (nI i))), some (.int (nI (num (S 0)))), some (.int (nI m7)), some (.int (nI (aL (S 0 (0 + 3))))), some (.int (zOut (S 0) (nI i))), none] [] := by
          refine x_iconst (v := nI 1) cx dL_clock_142 (by decide) ?_
          refine x_goto (tgt := 147) cx dL_clock_143 (by decide) ?_
          refine x_istore (ls' := [_, _, _, _, _, _, _, _, _, _, _]) cx dL_clock_147 (by decide) rfl ?_
          refine x_iload cx dL_clock_149 rfl ?_
          refine x_if_le_f (tgt := 208) cx dL_clock_151 (by decide) (nI_nle (by omega) (by omega)) ?_
          refine x_iload_n cx dL_clock_154 rfl rfl ?_
          refine x_iconst (v := nI 4) cx dL_clock_155 (by decide) ?_
          refine x_icmp_eq_f (tgt := 165) cx dL_clock_156 (by decide) (nI_nq (by omega) (by omega) (by omega)) ?_
          refine x_iload_n cx dL_clock_159 rfl rfl ?_
          refine x_bipush (v := nI 11) cx dL_clock_160 (by decide) ?_
          refine x_icmp_ne_f (tgt := 208) cx dL_clock_162 (by decide) (nI_ig (by omega)) ?_
          refine x_iload cx dL_clock_165 rfl ?_
          refine x_if_eq_f (tgt := 205) cx dL_clock_167 (by decide) (by decide) ?_
          refine x_aload_n cx dL_clock_170 rfl rfl ?_
          refine x_iconst (v := nI 0) cx dL_clock_171 (by decide) ?_
          refine x_iload_n cx dL_clock_172 rfl rfl ?_
          refine x_iconst (v := nI 4) cx dL_clock_173 (by decide) ?_
          refine x_icmp_ne_t (tgt := 182) cx dL_clock_174 (by decide) (nI_nq (by omega) (by omega) (by omega)) ?_
          refine x_bipush (v := nI 7) cx dL_clock_182 (by decide) ?_
          refine x_Vi (C := RX6) (T := TX6) (N := 6) (rest := []) cx (c_X6_chip l G _ hkT _ _) gV_L_20 ndX6_chip rfl ⟨Nat.le_of_ble_eq_true rfl, Nat.le_of_ble_eq_true rfl⟩ (zok_7 (by decide)) (by decide) (p_SC) rfl rfl rfl (Nat.le_of_ble_eq_true rfl) dL_clock_184 ⟨Nat.le_of_ble_eq_true rfl, Nat.le_of_ble_eq_true rfl⟩ ?_
          refine x_eqi (tl_7 hXT (by omega)) ?_
          refine x_iload cx dL_clock_187 rfl ?_
          refine x_iconst (v := nI 2) cx dL_clock_189 (by decide) ?_
          refine x_idiv cx dL_clock_190 (by decide) ?_
          refine x_eqi (pk_div (by omega) (by omega) (by omega)) ?_
          refine x_iload_n cx dL_clock_191 rfl rfl ?_
          refine x_iload cx dL_clock_192 rfl ?_
          refine x_iconst (v := nI 1) cx dL_clock_194 (by decide) ?_
          refine x_isub cx dL_clock_195 ?_
          refine x_eqi (nI_subN (by omega)) ?_
          refine x_ishl cx dL_clock_196 ?_
          refine x_iadd cx dL_clock_197 ?_
          refine x_icmp_ne_f (tgt := 205) cx dL_clock_198 (by decide) (by rw [hT0]; exact ck_C hX hst (by omega) hi e7 h7) ?_
          refine x_iconst (v := nI 1) cx dL_clock_201 (by decide) ?_
          refine x_goto (tgt := 206) cx dL_clock_202 (by decide) ?_
          refine x_istore (ls' := [_, _, _, _, _, _, _, _, _, _, _]) cx dL_clock_206 (by decide) rfl ?_
          refine x_iload cx dL_clock_208 rfl ?_
          refine x_if_eq_f (tgt := 218) cx dL_clock_210 (by decide) (by decide) ?_
          refine x_iload cx dL_clock_213 rfl ?_
          refine x_goto (tgt := 220) cx dL_clock_215 (by decide) ?_
          exact x_iret cx hr rfl (by intro _ _ _ _; rw [hT]) dL_clock_220
        refine x_icmp_eq (tgt := 142) cx dL_clock_125 (by decide) (fun hb125 => ?_) (fun hb125 => ?_)
        · exact K142
        · have hne : stt (T 0) ≠ stt (S 0) := fun z => hb125 (nI_ig z)
          refine x_aload_n cx dL_clock_128 rfl rfl ?_
          refine x_iload_n cx dL_clock_129 rfl rfl ?_
          refine x_aload_n cx dL_clock_130 rfl rfl ?_
          refine x_iconst (v := nI 2) cx dL_clock_131 (by decide) ?_
          refine x_Vi (C := RX6) (T := TX6) (N := 6) (rest := [_, _]) cx (c_X6_count l G _ hkT _) gV_L_14 ndX6_count rfl ⟨Nat.le_of_ble_eq_true rfl, Nat.le_of_ble_eq_true rfl⟩ (zok_7 (by decide)) (by decide) (p_SC) rfl rfl rfl (Nat.le_of_ble_eq_true rfl) dL_clock_132 ⟨Nat.le_of_ble_eq_true rfl, Nat.le_of_ble_eq_true rfl⟩ ?_
          refine x_eqi (cn2 hkT.1) ?_
          refine x_Vi (C := RX6) (T := TX6) (N := 6) (rest := []) cx (c_X6_distance l G _ hkT _ _) gV_L_62 ndX6_distance rfl ⟨Nat.le_of_ble_eq_true rfl, Nat.le_of_ble_eq_true rfl⟩ (zok_7 (by decide)) (by decide) (p_SC) rfl rfl rfl (Nat.le_of_ble_eq_true rfl) dL_clock_135 ⟨Nat.le_of_ble_eq_true rfl, Nat.le_of_ble_eq_true rfl⟩ ?_
          refine x_eqi (zd h16 h16T) ?_
          refine x_iconst (v := nI 1) cx dL_clock_138 (by decide) ?_
          refine x_icmp_ne_f (tgt := 146) cx dL_clock_139 (by decide) (nI_ig (b := 1) (by omega)) ?_
          exact K142
      · refine x_aload_n cx dL_clock_0 rfl rfl ?_
        refine x_iconst (v := nI 2) cx dL_clock_1 (by decide) ?_
        refine x_Vi (C := RX6) (T := TX6) (N := 6) (rest := []) cx (c_X6_count l G _ hS _) gV_L_14 ndX6_count rfl ⟨Nat.le_of_ble_eq_true rfl, Nat.le_of_ble_eq_true rfl⟩ (zok_7 (by decide)) (by decide) (p_SC) rfl rfl rfl (Nat.le_of_ble_eq_true rfl) dL_clock_2 ⟨Nat.le_of_ble_eq_true rfl, Nat.le_of_ble_eq_true rfl⟩ ?_
        refine x_eqi (cn2 hS.1) ?_
        refine x_istore_n (ls' := [_, _, _, _, _, _, _, _, _, _, _]) cx dL_clock_5 rfl (by decide) rfl ?_
        refine x_aload_n cx dL_clock_6 rfl rfl ?_
        refine x_iconst (v := nI 3) cx dL_clock_7 (by decide) ?_
        refine x_Vi (C := RX6) (T := TX6) (N := 6) (rest := []) cx (c_X6_count l G _ hS _) gV_L_14 ndX6_count rfl ⟨Nat.le_of_ble_eq_true rfl, Nat.le_of_ble_eq_true rfl⟩ (zok_7 (by decide)) (by decide) (p_SC) rfl rfl rfl (Nat.le_of_ble_eq_true rfl) dL_clock_8 ⟨Nat.le_of_ble_eq_true rfl, Nat.le_of_ble_eq_true rfl⟩ ?_
        refine x_eqi cn3 ?_
        refine x_istore (ls' := [_, _, _, _, _, _, _, _, _, _, _]) cx dL_clock_11 (by decide) rfl ?_
        refine x_aload_n cx dL_clock_13 rfl rfl ?_
        refine x_iload_n cx dL_clock_14 rfl rfl ?_
        refine x_Vi (C := RX6) (T := TX6) (N := 6) (rest := []) cx (c_X6_peek l G _ hS _) gV_L_27 ndX6_peek rfl ⟨Nat.le_of_ble_eq_true rfl, Nat.le_of_ble_eq_true rfl⟩ (zok_7 (by decide)) (by decide) (p_SC) rfl rfl rfl (Nat.le_of_ble_eq_true rfl) dL_clock_15 ⟨Nat.le_of_ble_eq_true rfl, Nat.le_of_ble_eq_true rfl⟩ ?_
        refine x_eqi (pk_01 hi) ?_
        refine x_istore (ls' := [_, _, _, _, _, _, _, _, _, _, _]) cx dL_clock_18 (by decide) rfl ?_
        refine x_aload_n cx dL_clock_20 rfl rfl ?_
        refine x_iconst (v := nI 0) cx dL_clock_21 (by decide) ?_
        refine x_Vi (C := RX6) (T := TX6) (N := 6) (rest := []) cx (c_X6_count l G _ hS _) gV_L_14 ndX6_count rfl ⟨Nat.le_of_ble_eq_true rfl, Nat.le_of_ble_eq_true rfl⟩ (zok_7 (by decide)) (by decide) (p_SC) rfl rfl rfl (Nat.le_of_ble_eq_true rfl) dL_clock_22 ⟨Nat.le_of_ble_eq_true rfl, Nat.le_of_ble_eq_true rfl⟩ ?_
        refine x_eqi (cn0 hS.1) ?_
        refine x_istore (ls' := [_, _, _, _, _, _, _, _, _, _, _]) cx dL_clock_25 (by decide) rfl ?_
        refine x_iload cx dL_clock_27 rfl ?_
        refine x_if_ne_t (tgt := 36) cx dL_clock_29 (by decide) (nI_ne0 (by omega) (by omega)) ?_
        refine x_iload_n cx dL_clock_36 rfl rfl ?_
        refine x_iconst (v := nI 4) cx dL_clock_37 (by decide) ?_
        refine x_icmp_ne_t (tgt := 51) cx dL_clock_38 (by decide) (nI_nq (by omega) (by omega) (by omega)) ?_
        refine x_aload_n cx dL_clock_51 rfl rfl ?_
        refine x_iconst (v := nI 0) cx dL_clock_52 (by decide) ?_
        refine x_bipush (v := nI 7) cx dL_clock_53 (by decide) ?_
        refine x_Vi (C := RX6) (T := TX6) (N := 6) (rest := []) cx (c_X6_chip l G _ hS _ _) gV_L_20 ndX6_chip rfl ⟨Nat.le_of_ble_eq_true rfl, Nat.le_of_ble_eq_true rfl⟩ (zok_7 (by decide)) (by decide) (p_SC) rfl rfl rfl (Nat.le_of_ble_eq_true rfl) dL_clock_55 ⟨Nat.le_of_ble_eq_true rfl, Nat.le_of_ble_eq_true rfl⟩ ?_
        refine x_eqi ((tl_7 hX (by omega)).trans e7) ?_
        refine x_istore (ls' := [_, _, _, _, _, _, _, _, _, _, _]) cx dL_clock_58 (by decide) rfl ?_
        refine x_iload cx dL_clock_60 rfl ?_
        refine x_if_ne_t (tgt := 69) cx dL_clock_62 (by decide) (nI_ne0 (by omega) (by omega)) ?_
        refine x_iload_n cx dL_clock_69 rfl rfl ?_
        refine x_iconst (v := nI 4) cx dL_clock_70 (by decide) ?_
        refine x_icmp_ne_t (tgt := 84) cx dL_clock_71 (by decide) (nI_nq (by omega) (by omega) (by omega)) ?_
        refine x_aload_n cx dL_clock_84 rfl rfl ?_
        refine x_iconst (v := nI 0) cx dL_clock_85 (by decide) ?_
        refine x_iconst (v := nI 0) cx dL_clock_86 (by decide) ?_
        refine x_Vi (C := RX6) (T := TX6) (N := 6) (rest := []) cx (c_X6_chip l G _ hS _ _) gV_L_20 ndX6_chip rfl ⟨Nat.le_of_ble_eq_true rfl, Nat.le_of_ble_eq_true rfl⟩ (zok_7 (by decide)) (by decide) (p_SC) rfl rfl rfl (Nat.le_of_ble_eq_true rfl) dL_clock_87 ⟨Nat.le_of_ble_eq_true rfl, Nat.le_of_ble_eq_true rfl⟩ ?_
        refine x_eqi (tl_0 hX (by omega)) ?_
        refine x_istore (ls' := [_, _, _, _, _, _, _, _, _, _, _]) cx dL_clock_90 (by decide) rfl ?_
        refine x_aload_n cx dL_clock_92 rfl rfl ?_
        refine x_iload_n cx dL_clock_93 rfl rfl ?_
        refine x_iload_n cx dL_clock_94 rfl rfl ?_
        refine x_Vi (C := RX6) (T := TX6) (N := 6) (rest := []) cx (c_X6_clock l G _ hS _ _) gV_L_50 ndX6_clock rfl ⟨Nat.le_of_ble_eq_true rfl, Nat.le_of_ble_eq_true rfl⟩ (zok_7 (by decide)) (by decide) (p_SC) rfl rfl rfl (Nat.le_of_ble_eq_true rfl) dL_clock_95 ⟨Nat.le_of_ble_eq_true rfl, Nat.le_of_ble_eq_true rfl⟩ ?_
        refine x_eqi (okE (eClk_ok hmd hi)) ?_
        refine x_S (okS (eClk_ok hmd hi)) ?_
        have hokT : XOK (zTick (S 0) (nI md) (nI i)) := XOK_tick hX ⟨i, hi, rfl⟩
        refine x_nm fun T hT => ?_
        have hT0 : T 0 = zTick (S 0) (nI md) (nI i) := by rw [hT]; exact up_same _ _ _
        have hkT : kWF T := by rw [hT]; exact (kWF_rec hS hokT.1).1
        have hXT : XOK (T 0) := by rw [hT0]; exact hokT
        have hnT : num (T 0) = num (S 0) := by rw [hT0, num_tick]
        have hsT : stt (T 0) = nx (stt (S 0)) (nI md) := by rw [hT0, stt_tick]
        have hdx : stt (T 0) = stt (S 0) ∨ dst (stt (S 0)) (stt (T 0)) = 1 := by rw [hsT]; exact dx_t (stt (S 0)) h16 md hmd
        have h16T := hkT.1.s16
        refine x_istore (ls' := [_, _, _, _, _, _, _, _, _, _, _]) cx dL_clock_98 (by decide) rfl ?_
        refine x_iload cx dL_clock_100 rfl ?_
        refine x_iload cx dL_clock_102 rfl ?_
        refine x_icmp_ne_f (tgt := 146) cx dL_clock_104 (by decide) rfl ?_
        refine x_aload_n cx dL_clock_107 rfl rfl ?_
        refine x_iconst (v := nI 3) cx dL_clock_108 (by decide) ?_
        refine x_Vi (C := RX6) (T := TX6) (N := 6) (rest := []) cx (c_X6_count l G _ hkT _) gV_L_14 ndX6_count rfl ⟨Nat.le_of_ble_eq_true rfl, Nat.le_of_ble_eq_true rfl⟩ (zok_7 (by decide)) (by decide) (p_SC) rfl rfl rfl (Nat.le_of_ble_eq_true rfl) dL_clock_109 ⟨Nat.le_of_ble_eq_true rfl, Nat.le_of_ble_eq_true rfl⟩ ?_
        refine x_eqi cn3 ?_
        refine x_iload cx dL_clock_112 rfl ?_
        refine x_iconst (v := nI 1) cx dL_clock_114 (by decide) ?_
        refine x_iadd cx dL_clock_115 ?_
        refine x_icmp_ne_f (tgt := 146) cx dL_clock_116 (by decide) (by rw [hT0, zTick_0]; rfl) ?_
        refine x_aload_n cx dL_clock_119 rfl rfl ?_
        refine x_iconst (v := nI 2) cx dL_clock_120 (by decide) ?_
        refine x_Vi (C := RX6) (T := TX6) (N := 6) (rest := []) cx (c_X6_count l G _ hkT _) gV_L_14 ndX6_count rfl ⟨Nat.le_of_ble_eq_true rfl, Nat.le_of_ble_eq_true rfl⟩ (zok_7 (by decide)) (by decide) (p_SC) rfl rfl rfl (Nat.le_of_ble_eq_true rfl) dL_clock_121 ⟨Nat.le_of_ble_eq_true rfl, Nat.le_of_ble_eq_true rfl⟩ ?_
        refine x_eqi (cn2 hkT.1) ?_
        refine x_iload_n cx dL_clock_124 rfl rfl ?_
        have K142 : Xh p l e (zrm 6 0 0 131) s m args below meth cd 11 G (MQ below (zQi G 68 (zOut (S 0) (nI i)) (pic G (up (zRec S) 0 (zTick (S 0) (nI md) (nI i))))) args s 0 0 (zA G)) 0 0 68 (pic G T) 142 [some (.ref (zad G 7 0)), some (.int (nI md)), some (.int (nI i)), some (.int (nI (stt (S 0)))), some (.int (S 0 0 2)), some (.int (zOut (S 0) (nI i))), some (.int (nI (num (S 0)))), some (.int (nI m7)), some (.int (nI (aL (S 0 (0 + 3))))), some (.int (zOut (S 0) (nI i))), none] [] := by
          refine x_iconst (v := nI 1) cx dL_clock_142 (by decide) ?_
          refine x_goto (tgt := 147) cx dL_clock_143 (by decide) ?_
          refine x_istore (ls' := [_, _, _, _, _, _, _, _, _, _, _]) cx dL_clock_147 (by decide) rfl ?_
          refine x_iload cx dL_clock_149 rfl ?_
          refine x_if_le_f (tgt := 208) cx dL_clock_151 (by decide) (nI_nle (by omega) (by omega)) ?_
          refine x_iload_n cx dL_clock_154 rfl rfl ?_
          refine x_iconst (v := nI 4) cx dL_clock_155 (by decide) ?_
          refine x_icmp_eq_f (tgt := 165) cx dL_clock_156 (by decide) (nI_nq (by omega) (by omega) (by omega)) ?_
          refine x_iload_n cx dL_clock_159 rfl rfl ?_
          refine x_bipush (v := nI 11) cx dL_clock_160 (by decide) ?_
          refine x_icmp_ne_t (tgt := 208) cx dL_clock_162 (by decide) (nI_nq (by omega) (by omega) (by omega)) ?_
          refine x_iload cx dL_clock_208 rfl ?_
          refine x_if_eq_f (tgt := 218) cx dL_clock_210 (by decide) (by decide) ?_
          refine x_iload cx dL_clock_213 rfl ?_
          refine x_goto (tgt := 220) cx dL_clock_215 (by decide) ?_
          exact x_iret cx hr rfl (by intro _ _ _ _; rw [hT]) dL_clock_220
        refine x_icmp_eq (tgt := 142) cx dL_clock_125 (by decide) (fun hb125 => ?_) (fun hb125 => ?_)
        · exact K142
        · have hne : stt (T 0) ≠ stt (S 0) := fun z => hb125 (nI_ig z)
          refine x_aload_n cx dL_clock_128 rfl rfl ?_
          refine x_iload_n cx dL_clock_129 rfl rfl ?_
          refine x_aload_n cx dL_clock_130 rfl rfl ?_
          refine x_iconst (v := nI 2) cx dL_clock_131 (by decide) ?_
          refine x_Vi (C := RX6) (T := TX6) (N := 6) (rest := [_, _]) cx (c_X6_count l G _ hkT _) gV_L_14 ndX6_count rfl ⟨Nat.le_of_ble_eq_true rfl, Nat.le_of_ble_eq_true rfl⟩ (zok_7 (by decide)) (by decide) (p_SC) rfl rfl rfl (Nat.le_of_ble_eq_true rfl) dL_clock_132 ⟨Nat.le_of_ble_eq_true rfl, Nat.le_of_ble_eq_true rfl⟩ ?_
          refine x_eqi (cn2 hkT.1) ?_
          refine x_Vi (C := RX6) (T := TX6) (N := 6) (rest := []) cx (c_X6_distance l G _ hkT _ _) gV_L_62 ndX6_distance rfl ⟨Nat.le_of_ble_eq_true rfl, Nat.le_of_ble_eq_true rfl⟩ (zok_7 (by decide)) (by decide) (p_SC) rfl rfl rfl (Nat.le_of_ble_eq_true rfl) dL_clock_135 ⟨Nat.le_of_ble_eq_true rfl, Nat.le_of_ble_eq_true rfl⟩ ?_
          refine x_eqi (zd h16 h16T) ?_
          refine x_iconst (v := nI 1) cx dL_clock_138 (by decide) ?_
          refine x_icmp_ne_f (tgt := 146) cx dL_clock_139 (by decide) (nI_ig (b := 1) (by omega)) ?_
          exact K142

set_option maxHeartbeats 4000000 in
set_option maxRecDepth 100000 in
theorem c_L_change (l : Launch) (G : zG) (S : zS) (hS : kWF S) (hX : XOK (S 0)) (how y : Nat) (hh : how < 4) (hy : y < 2 ^ 31) : Met l yL_change (zws yL_change cL_change 8 (some .int)) (zrm 5 0 0 111) (zPc G 68 (pic G S) [.ref (zad G 7 0), .int (nI how), .int (nI y)]) (zQE G 68 (PA G S)) 0 0 (zA G) := by
  refine zMet npL_change rfl (Nat.le_of_ble_eq_true rfl) ?_
  intro p e s m args below meth cd hargs cx hr hin0
  have cx : Cx p s m args meth cd cL_change 8 RL G := cx
  refine x_ls (ls' := [some (.ref (zad G 7 0)), some (.int (nI how)), some (.int (nI y)), none, none, none, none, none]) rfl (fun _ h => h) ?_
  have h6 := hS.1.n6
  refine x_aload_n cx dL_change_0 rfl rfl ?_
  refine x_iconst (v := nI 0) cx dL_change_1 (by decide) ?_
  refine x_Vi (C := RX6) (T := TX6) (N := 6) (rest := []) cx (c_X6_count l G _ hS _) gV_L_14 ndX6_count rfl ⟨Nat.le_of_ble_eq_true rfl, Nat.le_of_ble_eq_true rfl⟩ (zok_7 (by decide)) (by decide) (p_SC) rfl rfl rfl (Nat.le_of_ble_eq_true rfl) dL_change_2 ⟨Nat.le_of_ble_eq_true rfl, Nat.le_of_ble_eq_true rfl⟩ ?_
  refine x_eqi (cn0 hS.1) ?_
  refine x_istore_n (ls' := [_, _, _, _, _, _, _, _]) cx dL_change_5 rfl (by decide) rfl ?_
  refine x_iload_n cx dL_change_6 rfl rfl ?_
  have K17 : ∀ ch : Nat, (num (S 0) ≠ 0 → ch < num (S 0)) → ch < 2 ^ 31 → Xh p l e (zrm 5 0 0 111) s m args below meth cd 8 G (MQ below (zQE G 68 (PA G S)) args s 0 0 (zA G)) 0 0 68 (pic G S) 17 [some (.ref (zad G 7 0)), some (.int (nI how)), some (.int (nI y)), some (.int (nI (num (S 0)))), none, none, none, none] [.int (nI ch)] := by
    intro ch hch0 hcp
    by_cases hA : how = 0 ∨ num (S 0) = 0
    · have K27 : Xh p l e (zrm 5 0 0 111) s m args below meth cd 8 G (MQ below (zQE G 68 (PA G S)) args s 0 0 (zA G)) 0 0 68 (pic G S) 27 [some (.ref (zad G 7 0)), some (.int (nI how)), some (.int (nI y)), some (.int (nI (num (S 0)))), some (.int (nI ch)), none, none, none] [] := by
        refine x_iconst (v := nI 2) cx dL_change_27 (by decide) ?_
        refine x_iload_n cx dL_change_28 rfl rfl ?_
        refine x_iconst (v := nI 5) cx dL_change_29 (by decide) ?_
        refine x_irem cx dL_change_30 (by decide) ?_
        refine x_eqi (pk_rem (by omega) (by omega) (by omega)) ?_
        refine x_iadd cx dL_change_31 ?_
        refine x_eqi (nI_add _ _) ?_
        refine x_istore (ls' := [_, _, _, _, _, _, _, _]) cx dL_change_32 (by decide) rfl ?_
        refine x_iload_n cx dL_change_34 rfl rfl ?_
        refine x_iconst (v := nI 5) cx dL_change_35 (by decide) ?_
        refine x_idiv cx dL_change_36 (by decide) ?_
        refine x_eqi (pk_div (by omega) (by omega) (by omega)) ?_
        refine x_iconst (v := nI 3) cx dL_change_37 (by decide) ?_
        refine x_irem cx dL_change_38 (by decide) ?_
        refine x_eqi (pk_rem (by omega) (by omega) (by omega)) ?_
        have K57 : ∀ I : Nat, I < 254 → (I = 0 ∨ I % 2 = 1) → Xh p l e (zrm 5 0 0 111) s m args below meth cd 8 G (MQ below (zQE G 68 (PA G S)) args s 0 0 (zA G)) 0 0 68 (pic G S) 57 [some (.ref (zad G 7 0)), some (.int (nI how)), some (.int (nI y)), some (.int (nI (num (S 0)))), some (.int (nI ch)), some (.int (nI (2 + (y % 5)))), none, none] [.int (nI I)] := by
          intro I hI1 hI2
          by_cases hf : num (S 0) = 6
          · refine x_istore (ls' := [_, _, _, _, _, _, _, _]) cx dL_change_57 (by decide) rfl ?_
            refine x_aload_n cx dL_change_59 rfl rfl ?_
            refine x_iload cx dL_change_60 rfl ?_
            refine x_iload cx dL_change_62 rfl ?_
            refine x_iconst (v := nI 1) cx dL_change_64 (by decide) ?_
            refine x_iload_n cx dL_change_65 rfl rfl ?_
            refine x_bipush (v := nI 7) cx dL_change_66 (by decide) ?_
            refine x_idiv cx dL_change_68 (by decide) ?_
            refine x_eqi (pk_div (by omega) (by omega) (by omega)) ?_
            refine x_bipush (v := nI 8) cx dL_change_69 (by decide) ?_
            refine x_irem cx dL_change_71 (by decide) ?_
            refine x_eqi (pk_rem (by omega) (by omega) (by omega)) ?_
            refine x_iadd cx dL_change_72 ?_
            refine x_eqi (nI_add _ _) ?_
            refine x_Vi (C := RX6) (T := TX6) (N := 6) (rest := []) cx (c_X6_add l G _ hS _ _ _) gV_L_34 ndX6_add rfl ⟨Nat.le_of_ble_eq_true rfl, Nat.le_of_ble_eq_true rfl⟩ (zok_7 (by decide)) (by decide) (p_SC) rfl rfl rfl (Nat.le_of_ble_eq_true rfl) dL_change_73 ⟨Nat.le_of_ble_eq_true rfl, Nat.le_of_ble_eq_true rfl⟩ ?_
            have he : eAdd (S 0) (nI (2 + (y % 5))) (nI I) (nI (1 + ((y / 7) % 8))) = -3 := ad_full hS.1 (by omega) (zinL_t _ (by omega) (by omega)) (zinI_t _ hI1 hI2) (zinK_t _ (by omega) (by omega))
            refine x_eqi (er he (by decide)) ?_
            refine x_S (erS he (by decide)) ?_
            refine x_istore (ls' := [_, _, _, _, _, _, _, _]) cx dL_change_76 (by decide) rfl ?_
            refine x_iload cx dL_change_78 rfl ?_
            refine x_iload_n cx dL_change_80 rfl rfl ?_
            refine x_bipush (v := nI 6) cx dL_change_81 (by decide) ?_
            refine x_icmp_ne_f (tgt := 91) cx dL_change_83 (by decide) (nI_ig (by omega)) ?_
            refine x_bipush (v := (-3)) cx dL_change_86 (by decide) ?_
            refine x_goto (tgt := 92) cx dL_change_88 (by decide) ?_
            refine x_icmp_ne_f (tgt := 198) cx dL_change_92 (by decide) rfl ?_
            refine x_iload cx dL_change_95 rfl ?_
            refine x_if_lt_t (tgt := 193) cx dL_change_97 (by decide) (by decide) ?_
            refine x_iload cx dL_change_193 rfl ?_
            refine x_goto (tgt := 200) cx dL_change_195 (by decide) ?_
            exact x_iretE cx hr (Act_no (Or.inr rfl)) dL_change_200
          · refine x_istore (ls' := [_, _, _, _, _, _, _, _]) cx dL_change_57 (by decide) rfl ?_
            refine x_aload_n cx dL_change_59 rfl rfl ?_
            refine x_iload cx dL_change_60 rfl ?_
            refine x_iload cx dL_change_62 rfl ?_
            refine x_iconst (v := nI 1) cx dL_change_64 (by decide) ?_
            refine x_iload_n cx dL_change_65 rfl rfl ?_
            refine x_bipush (v := nI 7) cx dL_change_66 (by decide) ?_
            refine x_idiv cx dL_change_68 (by decide) ?_
            refine x_eqi (pk_div (by omega) (by omega) (by omega)) ?_
            refine x_bipush (v := nI 8) cx dL_change_69 (by decide) ?_
            refine x_irem cx dL_change_71 (by decide) ?_
            refine x_eqi (pk_rem (by omega) (by omega) (by omega)) ?_
            refine x_iadd cx dL_change_72 ?_
            refine x_eqi (nI_add _ _) ?_
            refine x_Vi (C := RX6) (T := TX6) (N := 6) (rest := []) cx (c_X6_add l G _ hS _ _ _) gV_L_34 ndX6_add rfl ⟨Nat.le_of_ble_eq_true rfl, Nat.le_of_ble_eq_true rfl⟩ (zok_7 (by decide)) (by decide) (p_SC) rfl rfl rfl (Nat.le_of_ble_eq_true rfl) dL_change_73 ⟨Nat.le_of_ble_eq_true rfl, Nat.le_of_ble_eq_true rfl⟩ ?_
            have he : eAdd (S 0) (nI (2 + (y % 5))) (nI I) (nI (1 + ((y / 7) % 8))) = 0 := ad_room hS.1 (by omega) (zinL_t _ (by omega) (by omega)) (zinI_t _ hI1 hI2) (zinK_t _ (by omega) (by omega))
            refine x_eqi (okE he) ?_
            refine x_eqi hS.1.sz ?_
            refine x_S (okS he) ?_
            have hokT : XOK (zAdd (S 0) (nI (2 + (y % 5))) (nI I) (nI (1 + ((y / 7) % 8)))) := XOK_add hX (by omega) (by omega) (by omega) (by omega) (by omega) hI1 hI2 he
            refine x_nm fun T hT => ?_
            have hT0 : T 0 = zAdd (S 0) (nI (2 + (y % 5))) (nI I) (nI (1 + ((y / 7) % 8))) := by rw [hT]; exact up_same _ _ _
            have hkT : kWF T := by rw [hT]; exact (kWF_rec hS hokT.1).1
            have hXT : XOK (T 0) := by rw [hT0]; exact hokT
            have hnT : num (T 0) = num (S 0) + 1 := by rw [hT0]; exact num_add hX.1 (by omega) _ _ _
            have hrow : T 0 (num (S 0) + 3) = zNew (nI (2 + (y % 5))) (nI I) (nI (1 + ((y / 7) % 8))) := by rw [hT0]; exact add_row _ _ _ _
            refine x_istore (ls' := [_, _, _, _, _, _, _, _]) cx dL_change_76 (by decide) rfl ?_
            refine x_iload cx dL_change_78 rfl ?_
            refine x_iload_n cx dL_change_80 rfl rfl ?_
            refine x_bipush (v := nI 6) cx dL_change_81 (by decide) ?_
            refine x_icmp_ne_t (tgt := 91) cx dL_change_83 (by decide) (nI_nq (by omega) (by omega) (by omega)) ?_
            refine x_iload_n cx dL_change_91 rfl rfl ?_
            refine x_icmp_ne_f (tgt := 198) cx dL_change_92 (by decide) (nI_ig (by omega)) ?_
            refine x_iload cx dL_change_95 rfl ?_
            refine x_if_lt_f (tgt := 193) cx dL_change_97 (by decide) (nI_pos (by omega)) ?_
            refine x_aload_n cx dL_change_100 rfl rfl ?_
            refine x_iconst (v := nI 0) cx dL_change_101 (by decide) ?_
            refine x_Vi (C := RX6) (T := TX6) (N := 6) (rest := []) cx (c_X6_count l G _ hkT _) gV_L_14 ndX6_count rfl ⟨Nat.le_of_ble_eq_true rfl, Nat.le_of_ble_eq_true rfl⟩ (zok_7 (by decide)) (by decide) (p_SC) rfl rfl rfl (Nat.le_of_ble_eq_true rfl) dL_change_102 ⟨Nat.le_of_ble_eq_true rfl, Nat.le_of_ble_eq_true rfl⟩ ?_
            refine x_eqi (cn0 hkT.1) ?_
            refine x_iload_n cx dL_change_105 rfl rfl ?_
            refine x_iconst (v := nI 1) cx dL_change_106 (by decide) ?_
            refine x_iadd cx dL_change_107 ?_
            refine x_eqi (nI_add _ _) ?_
            refine x_icmp_ne_f (tgt := 198) cx dL_change_108 (by decide) (nI_ig (by omega)) ?_
            refine x_aload_n cx dL_change_111 rfl rfl ?_
            refine x_iload cx dL_change_112 rfl ?_
            refine x_iconst (v := nI 0) cx dL_change_114 (by decide) ?_
            refine x_Vi (C := RX6) (T := TX6) (N := 6) (rest := []) cx (c_X6_chip l G _ hkT _ _) gV_L_20 ndX6_chip rfl ⟨Nat.le_of_ble_eq_true rfl, Nat.le_of_ble_eq_true rfl⟩ (zok_7 (by decide)) (by decide) (p_SC) rfl rfl rfl (Nat.le_of_ble_eq_true rfl) dL_change_115 ⟨Nat.le_of_ble_eq_true rfl, Nat.le_of_ble_eq_true rfl⟩ ?_
            refine x_eqi ((tl_in hXT.1 (by omega) _).trans (show zTell (T 0 (num (S 0) + 3)) (nI 0) = nI (2 + (y % 5)) by rw [hrow]; rfl)) ?_
            refine x_iload cx dL_change_118 rfl ?_
            refine x_icmp_ne_f (tgt := 198) cx dL_change_120 (by decide) rfl ?_
            refine x_aload_n cx dL_change_123 rfl rfl ?_
            refine x_iload cx dL_change_124 rfl ?_
            refine x_iconst (v := nI 1) cx dL_change_126 (by decide) ?_
            refine x_Vi (C := RX6) (T := TX6) (N := 6) (rest := []) cx (c_X6_chip l G _ hkT _ _) gV_L_20 ndX6_chip rfl ⟨Nat.le_of_ble_eq_true rfl, Nat.le_of_ble_eq_true rfl⟩ (zok_7 (by decide)) (by decide) (p_SC) rfl rfl rfl (Nat.le_of_ble_eq_true rfl) dL_change_127 ⟨Nat.le_of_ble_eq_true rfl, Nat.le_of_ble_eq_true rfl⟩ ?_
            refine x_eqi ((tl_in hXT.1 (by omega) _).trans (show zTell (T 0 (num (S 0) + 3)) (nI 1) = nI I by rw [hrow]; rfl)) ?_
            refine x_iload cx dL_change_130 rfl ?_
            refine x_icmp_ne_f (tgt := 198) cx dL_change_132 (by decide) rfl ?_
            refine x_aload_n cx dL_change_135 rfl rfl ?_
            refine x_iload cx dL_change_136 rfl ?_
            refine x_bipush (v := nI 6) cx dL_change_138 (by decide) ?_
            refine x_Vi (C := RX6) (T := TX6) (N := 6) (rest := []) cx (c_X6_chip l G _ hkT _ _) gV_L_20 ndX6_chip rfl ⟨Nat.le_of_ble_eq_true rfl, Nat.le_of_ble_eq_true rfl⟩ (zok_7 (by decide)) (by decide) (p_SC) rfl rfl rfl (Nat.le_of_ble_eq_true rfl) dL_change_140 ⟨Nat.le_of_ble_eq_true rfl, Nat.le_of_ble_eq_true rfl⟩ ?_
            refine x_eqi ((tl_in hXT.1 (by omega) _).trans (show zTell (T 0 (num (S 0) + 3)) (nI 6) = (if nI I = 0 then zOnes (nI (2 + (y % 5))) else 1) by rw [hrow]; rfl)) ?_
            refine x_iload cx dL_change_143 rfl ?_
            refine x_if_le (tgt := 152) cx dL_change_145 (by decide) (fun hb145 => ?_) (fun hb145 => ?_)
            · refine x_iconst (v := nI 1) cx dL_change_152 (by decide) ?_
              refine x_iload cx dL_change_153 rfl ?_
              refine x_ishl cx dL_change_155 ?_
              refine x_iconst (v := nI 1) cx dL_change_156 (by decide) ?_
              refine x_isub cx dL_change_157 ?_
              refine x_icmp_ne_f (tgt := 198) cx dL_change_158 (by decide) ((if_pos (Int32.le_antisymm hb145 (nI_pos' (by omega)))).trans rfl) ?_
              refine x_aload_n cx dL_change_161 rfl rfl ?_
              refine x_iload cx dL_change_162 rfl ?_
              refine x_bipush (v := nI 7) cx dL_change_164 (by decide) ?_
              refine x_Vi (C := RX6) (T := TX6) (N := 6) (rest := []) cx (c_X6_chip l G _ hkT _ _) gV_L_20 ndX6_chip rfl ⟨Nat.le_of_ble_eq_true rfl, Nat.le_of_ble_eq_true rfl⟩ (zok_7 (by decide)) (by decide) (p_SC) rfl rfl rfl (Nat.le_of_ble_eq_true rfl) dL_change_166 ⟨Nat.le_of_ble_eq_true rfl, Nat.le_of_ble_eq_true rfl⟩ ?_
              refine x_eqi ((tl_in hXT.1 (by omega) _).trans (show zTell (T 0 (num (S 0) + 3)) (nI 7) = nI 0 by rw [hrow]; rfl)) ?_
              refine x_if_ne_f (tgt := 198) cx dL_change_169 (by decide) (by decide) ?_
              refine x_aload_n cx dL_change_172 rfl rfl ?_
              refine x_iload cx dL_change_173 rfl ?_
              refine x_bipush (v := nI 8) cx dL_change_175 (by decide) ?_
              refine x_Vi (C := RX6) (T := TX6) (N := 6) (rest := []) cx (c_X6_chip l G _ hkT _ _) gV_L_20 ndX6_chip rfl ⟨Nat.le_of_ble_eq_true rfl, Nat.le_of_ble_eq_true rfl⟩ (zok_7 (by decide)) (by decide) (p_SC) rfl rfl rfl (Nat.le_of_ble_eq_true rfl) dL_change_177 ⟨Nat.le_of_ble_eq_true rfl, Nat.le_of_ble_eq_true rfl⟩ ?_
              refine x_eqi ((tl_in hXT.1 (by omega) _).trans (show zTell (T 0 (num (S 0) + 3)) (nI 8) = nI 0 by rw [hrow]; rfl)) ?_
              refine x_if_ne_f (tgt := 198) cx dL_change_180 (by decide) (by decide) ?_
              refine x_aload_n cx dL_change_183 rfl rfl ?_
              refine x_iload cx dL_change_184 rfl ?_
              refine x_iconst (v := nI 3) cx dL_change_186 (by decide) ?_
              refine x_Vi (C := RX6) (T := TX6) (N := 6) (rest := []) cx (c_X6_chip l G _ hkT _ _) gV_L_20 ndX6_chip rfl ⟨Nat.le_of_ble_eq_true rfl, Nat.le_of_ble_eq_true rfl⟩ (zok_7 (by decide)) (by decide) (p_SC) rfl rfl rfl (Nat.le_of_ble_eq_true rfl) dL_change_187 ⟨Nat.le_of_ble_eq_true rfl, Nat.le_of_ble_eq_true rfl⟩ ?_
              refine x_eqi ((tl_in hXT.1 (by omega) _).trans (show zTell (T 0 (num (S 0) + 3)) (nI 3) = nI 0 by rw [hrow]; rfl)) ?_
              refine x_if_ne_f (tgt := 198) cx dL_change_190 (by decide) (by decide) ?_
              refine x_iload cx dL_change_193 rfl ?_
              refine x_goto (tgt := 200) cx dL_change_195 (by decide) ?_
              exact x_iretE cx hr (Act_yes rfl (by omega) hokT hT) dL_change_200
            · refine x_iconst (v := nI 1) cx dL_change_148 (by decide) ?_
              refine x_goto (tgt := 158) cx dL_change_149 (by decide) ?_
              refine x_icmp_ne_f (tgt := 198) cx dL_change_158 (by decide) ((if_neg (fun z => hb145 (by rw [z]; exact Int32.le_refl 0))).trans rfl) ?_
              refine x_aload_n cx dL_change_161 rfl rfl ?_
              refine x_iload cx dL_change_162 rfl ?_
              refine x_bipush (v := nI 7) cx dL_change_164 (by decide) ?_
              refine x_Vi (C := RX6) (T := TX6) (N := 6) (rest := []) cx (c_X6_chip l G _ hkT _ _) gV_L_20 ndX6_chip rfl ⟨Nat.le_of_ble_eq_true rfl, Nat.le_of_ble_eq_true rfl⟩ (zok_7 (by decide)) (by decide) (p_SC) rfl rfl rfl (Nat.le_of_ble_eq_true rfl) dL_change_166 ⟨Nat.le_of_ble_eq_true rfl, Nat.le_of_ble_eq_true rfl⟩ ?_
              refine x_eqi ((tl_in hXT.1 (by omega) _).trans (show zTell (T 0 (num (S 0) + 3)) (nI 7) = nI 0 by rw [hrow]; rfl)) ?_
              refine x_if_ne_f (tgt := 198) cx dL_change_169 (by decide) (by decide) ?_
              refine x_aload_n cx dL_change_172 rfl rfl ?_
              refine x_iload cx dL_change_173 rfl ?_
              refine x_bipush (v := nI 8) cx dL_change_175 (by decide) ?_
              refine x_Vi (C := RX6) (T := TX6) (N := 6) (rest := []) cx (c_X6_chip l G _ hkT _ _) gV_L_20 ndX6_chip rfl ⟨Nat.le_of_ble_eq_true rfl, Nat.le_of_ble_eq_true rfl⟩ (zok_7 (by decide)) (by decide) (p_SC) rfl rfl rfl (Nat.le_of_ble_eq_true rfl) dL_change_177 ⟨Nat.le_of_ble_eq_true rfl, Nat.le_of_ble_eq_true rfl⟩ ?_
              refine x_eqi ((tl_in hXT.1 (by omega) _).trans (show zTell (T 0 (num (S 0) + 3)) (nI 8) = nI 0 by rw [hrow]; rfl)) ?_
              refine x_if_ne_f (tgt := 198) cx dL_change_180 (by decide) (by decide) ?_
              refine x_aload_n cx dL_change_183 rfl rfl ?_
              refine x_iload cx dL_change_184 rfl ?_
              refine x_iconst (v := nI 3) cx dL_change_186 (by decide) ?_
              refine x_Vi (C := RX6) (T := TX6) (N := 6) (rest := []) cx (c_X6_chip l G _ hkT _ _) gV_L_20 ndX6_chip rfl ⟨Nat.le_of_ble_eq_true rfl, Nat.le_of_ble_eq_true rfl⟩ (zok_7 (by decide)) (by decide) (p_SC) rfl rfl rfl (Nat.le_of_ble_eq_true rfl) dL_change_187 ⟨Nat.le_of_ble_eq_true rfl, Nat.le_of_ble_eq_true rfl⟩ ?_
              refine x_eqi ((tl_in hXT.1 (by omega) _).trans (show zTell (T 0 (num (S 0) + 3)) (nI 3) = nI 0 by rw [hrow]; rfl)) ?_
              refine x_if_ne_f (tgt := 198) cx dL_change_190 (by decide) (by decide) ?_
              refine x_iload cx dL_change_193 rfl ?_
              refine x_goto (tgt := 200) cx dL_change_195 (by decide) ?_
              exact x_iretE cx hr (Act_yes rfl (by omega) hokT hT) dL_change_200
        refine x_if_ne (tgt := 46) cx dL_change_39 (by decide) (fun hb39 => ?_) (fun hb39 => ?_)
        · refine x_iconst (v := nI 1) cx dL_change_46 (by decide) ?_
          refine x_iload_n cx dL_change_47 rfl rfl ?_
          refine x_bipush (v := nI 15) cx dL_change_48 (by decide) ?_
          refine x_idiv cx dL_change_50 (by decide) ?_
          refine x_eqi (pk_div (by omega) (by omega) (by omega)) ?_
          refine x_bipush (v := nI 127) cx dL_change_51 (by decide) ?_
          refine x_irem cx dL_change_53 (by decide) ?_
          refine x_eqi (pk_rem (by omega) (by omega) (by omega)) ?_
          refine x_iconst (v := nI 2) cx dL_change_54 (by decide) ?_
          refine x_imul cx dL_change_55 ?_
          refine x_eqi (nI_mulN _ _) ?_
          refine x_iadd cx dL_change_56 ?_
          refine x_eqi (nI_add _ _) ?_
          exact K57 _ (by omega) (by omega)
        · refine x_iconst (v := nI 0) cx dL_change_42 (by decide) ?_
          refine x_goto (tgt := 57) cx dL_change_43 (by decide) ?_
          exact K57 0 (by decide) (Or.inl rfl)
      by_cases hh0 : how = 0
      · refine x_istore (ls' := [_, _, _, _, _, _, _, _]) cx dL_change_17 (by decide) rfl ?_
        refine x_iload_n cx dL_change_19 rfl rfl ?_
        refine x_if_eq_t (tgt := 27) cx dL_change_20 (by decide) (nI_ig (b := 0) (by omega)) ?_
        exact K27
      · refine x_istore (ls' := [_, _, _, _, _, _, _, _]) cx dL_change_17 (by decide) rfl ?_
        refine x_iload_n cx dL_change_19 rfl rfl ?_
        refine x_if_eq_f (tgt := 27) cx dL_change_20 (by decide) (nI_ne0 (by omega) (by omega)) ?_
        refine x_iload_n cx dL_change_23 rfl rfl ?_
        refine x_if_ne_f (tgt := 201) cx dL_change_24 (by decide) (nI_ig (b := 0) (by omega)) ?_
        exact K27
    · have hch : ch < num (S 0) := hch0 (fun z => hA (Or.inr z))
      rcases (show how = 1 ∨ how = 2 ∨ how = 3 by omega) with rfl | rfl | rfl
      · have hI := (hX.chip hch).1.2.2.1
        refine x_istore (ls' := [_, _, _, _, _, _, _, _]) cx dL_change_17 (by decide) rfl ?_
        refine x_iload_n cx dL_change_19 rfl rfl ?_
        refine x_if_eq_f (tgt := 27) cx dL_change_20 (by decide) (nI_ne0 (by omega) (by omega)) ?_
        refine x_iload_n cx dL_change_23 rfl rfl ?_
        refine x_if_ne_t (tgt := 201) cx dL_change_24 (by decide) (nI_ne0 (by omega) (by omega)) ?_
        refine x_iload_n cx dL_change_201 rfl rfl ?_
        refine x_iconst (v := nI 1) cx dL_change_202 (by decide) ?_
        refine x_icmp_ne_f (tgt := 272) cx dL_change_203 (by decide) (nI_ig (by omega)) ?_
        refine x_aload_n cx dL_change_206 rfl rfl ?_
        refine x_iload cx dL_change_207 rfl ?_
        refine x_iconst (v := nI 1) cx dL_change_209 (by decide) ?_
        refine x_Vi (C := RX6) (T := TX6) (N := 6) (rest := []) cx (c_X6_chip l G _ hS _ _) gV_L_20 ndX6_chip rfl ⟨Nat.le_of_ble_eq_true rfl, Nat.le_of_ble_eq_true rfl⟩ (zok_7 (by decide)) (by decide) (p_SC) rfl rfl rfl (Nat.le_of_ble_eq_true rfl) dL_change_210 ⟨Nat.le_of_ble_eq_true rfl, Nat.le_of_ble_eq_true rfl⟩ ?_
        refine x_eqi (tl_1 hX (by omega)) ?_
        refine x_istore (ls' := [_, _, _, _, _, _, _, _]) cx dL_change_213 (by decide) rfl ?_
        refine x_aload_n cx dL_change_215 rfl rfl ?_
        refine x_iload cx dL_change_216 rfl ?_
        refine x_iconst (v := nI 1) cx dL_change_218 (by decide) ?_
        refine x_iadd cx dL_change_219 ?_
        refine x_eqi (nI_add _ _) ?_
        refine x_iconst (v := nI 0) cx dL_change_220 (by decide) ?_
        refine x_Vi (C := RX6) (T := TX6) (N := 6) (rest := []) cx (c_X6_chip l G _ hS _ _) gV_L_20 ndX6_chip rfl ⟨Nat.le_of_ble_eq_true rfl, Nat.le_of_ble_eq_true rfl⟩ (zok_7 (by decide)) (by decide) (p_SC) rfl rfl rfl (Nat.le_of_ble_eq_true rfl) dL_change_221 ⟨Nat.le_of_ble_eq_true rfl, Nat.le_of_ble_eq_true rfl⟩ ?_
        refine x_istore (ls' := [_, _, _, _, _, _, _, _]) cx dL_change_224 (by decide) rfl ?_
        refine x_aload_n cx dL_change_226 rfl rfl ?_
        refine x_iload cx dL_change_227 rfl ?_
        refine x_Vi (C := RX6) (T := TX6) (N := 6) (rest := []) cx (c_X6_take l G _ hS _) gV_L_40 ndX6_take rfl ⟨Nat.le_of_ble_eq_true rfl, Nat.le_of_ble_eq_true rfl⟩ (zok_7 (by decide)) (by decide) (p_SC) rfl rfl rfl (Nat.le_of_ble_eq_true rfl) dL_change_229 ⟨Nat.le_of_ble_eq_true rfl, Nat.le_of_ble_eq_true rfl⟩ ?_
        have he : eHas (S 0) (nI ch) = 0 := eHas_ok hX.1 hch
        refine x_eqi (okE he) ?_
        refine x_eqi (show S 0 (tn (nI ch) + 3) 1 = nI (aI (S 0 (ch + 3))) by rw [tn_n (by omega)]; exact hI.2.2) ?_
        refine x_S (okS he) ?_
        refine x_S (show up (zRec S) 0 (zTake (S 0) (tn (nI ch))) = up (zRec S) 0 (zTake (S 0) ch) by rw [tn_n (by omega)]) ?_
        have hokT : XOK (zTake (S 0) ch) := XOK_take hX hch
        refine x_nm fun T hT => ?_
        have hT0 : T 0 = zTake (S 0) ch := by rw [hT]; exact up_same _ _ _
        have hkT : kWF T := by rw [hT]; exact (kWF_rec hS hokT.1).1
        have hXT : XOK (T 0) := by rw [hT0]; exact hokT
        have hnT : num (T 0) = num (S 0) - 1 := by rw [hT0]; exact num_take hX.1 ch (by omega)
        refine x_istore (ls' := [_, _, _, _, _, _, _, _]) cx dL_change_232 (by decide) rfl ?_
        refine x_iload cx dL_change_234 rfl ?_
        refine x_iload cx dL_change_236 rfl ?_
        refine x_icmp_ne_f (tgt := 269) cx dL_change_238 (by decide) (nI_ig (by omega)) ?_
        refine x_aload_n cx dL_change_241 rfl rfl ?_
        refine x_iconst (v := nI 0) cx dL_change_242 (by decide) ?_
        refine x_Vi (C := RX6) (T := TX6) (N := 6) (rest := []) cx (c_X6_count l G _ hkT _) gV_L_14 ndX6_count rfl ⟨Nat.le_of_ble_eq_true rfl, Nat.le_of_ble_eq_true rfl⟩ (zok_7 (by decide)) (by decide) (p_SC) rfl rfl rfl (Nat.le_of_ble_eq_true rfl) dL_change_243 ⟨Nat.le_of_ble_eq_true rfl, Nat.le_of_ble_eq_true rfl⟩ ?_
        refine x_eqi (cn0 hkT.1) ?_
        refine x_iload_n cx dL_change_246 rfl rfl ?_
        refine x_iconst (v := nI 1) cx dL_change_247 (by decide) ?_
        refine x_isub cx dL_change_248 ?_
        refine x_eqi (nI_subN (by omega)) ?_
        refine x_icmp_ne_f (tgt := 269) cx dL_change_249 (by decide) (nI_ig (by omega)) ?_
        refine x_aload_n cx dL_change_252 rfl rfl ?_
        refine x_iload cx dL_change_253 rfl ?_
        refine x_iconst (v := nI 0) cx dL_change_255 (by decide) ?_
        refine x_Vi (C := RX6) (T := TX6) (N := 6) (rest := []) cx (c_X6_chip l G _ hkT _ _) gV_L_20 ndX6_chip rfl ⟨Nat.le_of_ble_eq_true rfl, Nat.le_of_ble_eq_true rfl⟩ (zok_7 (by decide)) (by decide) (p_SC) rfl rfl rfl (Nat.le_of_ble_eq_true rfl) dL_change_256 ⟨Nat.le_of_ble_eq_true rfl, Nat.le_of_ble_eq_true rfl⟩ ?_
        refine x_iload cx dL_change_259 rfl ?_
        refine x_icmp_ne_f (tgt := 269) cx dL_change_261 (by decide) (by rw [hT0]; exact tk_next hX.1 hch _) ?_
        refine x_iload cx dL_change_264 rfl ?_
        refine x_goto (tgt := 271) cx dL_change_266 (by decide) ?_
        exact x_iretE cx hr (Act_yes rfl (by omega) hokT hT) dL_change_271
      · obtain ⟨p3, hp3, e3⟩ := (hX.chip hch).2.1.1
        have hK := (hX.chip hch).1.2.1
        have hP1 := p2le hK.2.1
        have hP0 := Nat.two_pow_pos (aK (S 0 (ch + 3)))
        have hw : ((y / 6) % 256) < 256 := Nat.mod_lt _ (by decide)
        obtain ⟨P, hP⟩ : ∃ P, P = 2 ^ aK (S 0 (ch + 3)) := ⟨_, rfl⟩
        rw [← hP] at hp3 hP0
        have hP2 : P ≤ 256 := by rw [hP]; exact hP1
        refine x_istore (ls' := [_, _, _, _, _, _, _, _]) cx dL_change_17 (by decide) rfl ?_
        refine x_iload_n cx dL_change_19 rfl rfl ?_
        refine x_if_eq_f (tgt := 27) cx dL_change_20 (by decide) (nI_ne0 (by omega) (by omega)) ?_
        refine x_iload_n cx dL_change_23 rfl rfl ?_
        refine x_if_ne_t (tgt := 201) cx dL_change_24 (by decide) (nI_ne0 (by omega) (by omega)) ?_
        refine x_iload_n cx dL_change_201 rfl rfl ?_
        refine x_iconst (v := nI 1) cx dL_change_202 (by decide) ?_
        refine x_icmp_ne_t (tgt := 272) cx dL_change_203 (by decide) (nI_nq (by omega) (by omega) (by omega)) ?_
        refine x_iload_n cx dL_change_272 rfl rfl ?_
        refine x_iconst (v := nI 2) cx dL_change_273 (by decide) ?_
        refine x_icmp_ne_f (tgt := 345) cx dL_change_274 (by decide) (nI_ig (by omega)) ?_
        refine x_aload_n cx dL_change_277 rfl rfl ?_
        refine x_iload cx dL_change_278 rfl ?_
        refine x_iconst (v := nI 3) cx dL_change_280 (by decide) ?_
        refine x_Vi (C := RX6) (T := TX6) (N := 6) (rest := []) cx (c_X6_chip l G _ hS _ _) gV_L_20 ndX6_chip rfl ⟨Nat.le_of_ble_eq_true rfl, Nat.le_of_ble_eq_true rfl⟩ (zok_7 (by decide)) (by decide) (p_SC) rfl rfl rfl (Nat.le_of_ble_eq_true rfl) dL_change_281 ⟨Nat.le_of_ble_eq_true rfl, Nat.le_of_ble_eq_true rfl⟩ ?_
        refine x_eqi ((tl_3 hX hch).trans e3) ?_
        refine x_istore (ls' := [_, _, _, _, _, _, _, _]) cx dL_change_284 (by decide) rfl ?_
        refine x_aload_n cx dL_change_286 rfl rfl ?_
        refine x_iload cx dL_change_287 rfl ?_
        refine x_iload_n cx dL_change_289 rfl rfl ?_
        refine x_bipush (v := nI 6) cx dL_change_290 (by decide) ?_
        refine x_idiv cx dL_change_292 (by decide) ?_
        refine x_eqi (pk_div (by omega) (by omega) (by omega)) ?_
        refine x_sipush (v := nI 256) cx dL_change_293 (by decide) ?_
        refine x_irem cx dL_change_296 (by decide) ?_
        refine x_eqi (pk_rem (by omega) (by omega) (by omega)) ?_
        refine x_Vi (C := RX6) (T := TX6) (N := 6) (rest := []) cx (c_X6_setPins l G _ hS _ _) gV_L_43 ndX6_setPins rfl ⟨Nat.le_of_ble_eq_true rfl, Nat.le_of_ble_eq_true rfl⟩ (zok_7 (by decide)) (by decide) (p_SC) rfl rfl rfl (Nat.le_of_ble_eq_true rfl) dL_change_297 ⟨Nat.le_of_ble_eq_true rfl, Nat.le_of_ble_eq_true rfl⟩ ?_
        have he : eArg (S 0) (nI ch) (nI ((y / 6) % 256)) 255 = 0 := eArg_ok hX.1 hch (zin8_t _ hw)
        refine x_eqi (okE he) ?_
        refine x_eqi (show S 0 (tn (nI ch) + 3) 3 = nI p3 by rw [tn_n (by omega)]; exact e3) ?_
        refine x_S (okS he) ?_
        refine x_S (show up (zRec S) 0 (zPinsX (S 0) (tn (nI ch)) (nI ((y / 6) % 256))) = up (zRec S) 0 (zPinsX (S 0) ch (nI ((y / 6) % 256))) by rw [tn_n (by omega)]) ?_
        have hokT : XOK (zPinsX (S 0) ch (nI ((y / 6) % 256))) := XOK_pins hX hw
        refine x_nm fun T hT => ?_
        have hT0 : T 0 = zPinsX (S 0) ch (nI ((y / 6) % 256)) := by rw [hT]; exact up_same _ _ _
        have hkT : kWF T := by rw [hT]; exact (kWF_rec hS hokT.1).1
        have hXT : XOK (T 0) := by rw [hT0]; exact hokT
        have hnT : num (T 0) = num (S 0) := by rw [hT0, num_pin]
        have hrow : T 0 (ch + 3) = zPins (S 0 (ch + 3)) (nI ((y / 6) % 256)) := by rw [hT0]; exact pin_row _ _ _
        have hr3 : T 0 (ch + 3) 3 = nI (((y / 6) % 256) % P) := by rw [hrow]; show nI ((y / 6) % 256) &&& zOnes ((S 0 (ch + 3)) 2) = _; rw [hK.2.2, pins_t hw (by omega), hP]
        have hr2 : T 0 (ch + 3) 2 = nI (aK (S 0 (ch + 3))) := by rw [hrow]; exact hK.2.2
        refine x_istore (ls' := [_, _, _, _, _, _, _, _]) cx dL_change_300 (by decide) rfl ?_
        refine x_iload cx dL_change_302 rfl ?_
        refine x_iload cx dL_change_304 rfl ?_
        refine x_icmp_ne_f (tgt := 342) cx dL_change_306 (by decide) (nI_ig (by omega)) ?_
        refine x_aload_n cx dL_change_309 rfl rfl ?_
        refine x_iload cx dL_change_310 rfl ?_
        refine x_iconst (v := nI 3) cx dL_change_312 (by decide) ?_
        refine x_Vi (C := RX6) (T := TX6) (N := 6) (rest := []) cx (c_X6_chip l G _ hkT _ _) gV_L_20 ndX6_chip rfl ⟨Nat.le_of_ble_eq_true rfl, Nat.le_of_ble_eq_true rfl⟩ (zok_7 (by decide)) (by decide) (p_SC) rfl rfl rfl (Nat.le_of_ble_eq_true rfl) dL_change_313 ⟨Nat.le_of_ble_eq_true rfl, Nat.le_of_ble_eq_true rfl⟩ ?_
        refine x_eqi ((tl_in hXT.1 (by omega) _).trans hr3) ?_
        refine x_iload_n cx dL_change_316 rfl rfl ?_
        refine x_bipush (v := nI 6) cx dL_change_317 (by decide) ?_
        refine x_idiv cx dL_change_319 (by decide) ?_
        refine x_eqi (pk_div (by omega) (by omega) (by omega)) ?_
        refine x_sipush (v := nI 256) cx dL_change_320 (by decide) ?_
        refine x_irem cx dL_change_323 (by decide) ?_
        refine x_eqi (pk_rem (by omega) (by omega) (by omega)) ?_
        refine x_iconst (v := nI 1) cx dL_change_324 (by decide) ?_
        refine x_aload_n cx dL_change_325 rfl rfl ?_
        refine x_iload cx dL_change_326 rfl ?_
        refine x_iconst (v := nI 2) cx dL_change_328 (by decide) ?_
        refine x_Vi (C := RX6) (T := TX6) (N := 6) (rest := [_, _, _]) cx (c_X6_chip l G _ hkT _ _) gV_L_20 ndX6_chip rfl ⟨Nat.le_of_ble_eq_true rfl, Nat.le_of_ble_eq_true rfl⟩ (zok_7 (by decide)) (by decide) (p_SC) rfl rfl rfl (Nat.le_of_ble_eq_true rfl) dL_change_329 ⟨Nat.le_of_ble_eq_true rfl, Nat.le_of_ble_eq_true rfl⟩ ?_
        refine x_eqi ((tl_in hXT.1 (by omega) _).trans hr2) ?_
        refine x_ishl cx dL_change_332 ?_
        refine x_eqi ((shl1_t (by omega)).trans (nI_ig hP.symm)) ?_
        refine x_irem cx dL_change_333 (nI_ne0 (by omega) (by omega)) ?_
        refine x_eqi (pk_rem (by omega) (by omega) (by omega)) ?_
        refine x_icmp_ne_f (tgt := 342) cx dL_change_334 (by decide) rfl ?_
        refine x_iload cx dL_change_337 rfl ?_
        refine x_goto (tgt := 344) cx dL_change_339 (by decide) ?_
        exact x_iretE cx hr (Act_yes rfl (by omega) hokT hT) dL_change_344
      · refine x_istore (ls' := [_, _, _, _, _, _, _, _]) cx dL_change_17 (by decide) rfl ?_
        refine x_iload_n cx dL_change_19 rfl rfl ?_
        refine x_if_eq_f (tgt := 27) cx dL_change_20 (by decide) (nI_ne0 (by omega) (by omega)) ?_
        refine x_iload_n cx dL_change_23 rfl rfl ?_
        refine x_if_ne_t (tgt := 201) cx dL_change_24 (by decide) (nI_ne0 (by omega) (by omega)) ?_
        refine x_iload_n cx dL_change_201 rfl rfl ?_
        refine x_iconst (v := nI 1) cx dL_change_202 (by decide) ?_
        refine x_icmp_ne_t (tgt := 272) cx dL_change_203 (by decide) (nI_nq (by omega) (by omega) (by omega)) ?_
        refine x_iload_n cx dL_change_272 rfl rfl ?_
        refine x_iconst (v := nI 2) cx dL_change_273 (by decide) ?_
        refine x_icmp_ne_t (tgt := 345) cx dL_change_274 (by decide) (nI_nq (by omega) (by omega) (by omega)) ?_
        refine x_aload_n cx dL_change_345 rfl rfl ?_
        refine x_iconst (v := nI 1) cx dL_change_346 (by decide) ?_
        refine x_Vi (C := RX6) (T := TX6) (N := 6) (rest := []) cx (c_X6_count l G _ hS _) gV_L_14 ndX6_count rfl ⟨Nat.le_of_ble_eq_true rfl, Nat.le_of_ble_eq_true rfl⟩ (zok_7 (by decide)) (by decide) (p_SC) rfl rfl rfl (Nat.le_of_ble_eq_true rfl) dL_change_347 ⟨Nat.le_of_ble_eq_true rfl, Nat.le_of_ble_eq_true rfl⟩ ?_
        refine x_eqi cn1 ?_
        refine x_aload_n cx dL_change_350 rfl rfl ?_
        refine x_iload cx dL_change_351 rfl ?_
        refine x_iconst (v := nI 5) cx dL_change_353 (by decide) ?_
        refine x_Vi (C := RX6) (T := TX6) (N := 6) (rest := [_]) cx (c_X6_chip l G _ hS _ _) gV_L_20 ndX6_chip rfl ⟨Nat.le_of_ble_eq_true rfl, Nat.le_of_ble_eq_true rfl⟩ (zok_7 (by decide)) (by decide) (p_SC) rfl rfl rfl (Nat.le_of_ble_eq_true rfl) dL_change_354 ⟨Nat.le_of_ble_eq_true rfl, Nat.le_of_ble_eq_true rfl⟩ ?_
        refine x_eqi (tl_5 hX (by omega)) ?_
        refine x_isub cx dL_change_357 ?_
        refine x_istore (ls' := [_, _, _, _, _, _, _, _]) cx dL_change_358 (by decide) rfl ?_
        refine x_iload_n cx dL_change_360 rfl rfl ?_
        refine x_bipush (v := nI 6) cx dL_change_361 (by decide) ?_
        refine x_idiv cx dL_change_363 (by decide) ?_
        refine x_eqi (pk_div (by omega) (by omega) (by omega)) ?_
        refine x_iconst (v := nI 3) cx dL_change_364 (by decide) ?_
        refine x_irem cx dL_change_365 (by decide) ?_
        refine x_eqi (pk_rem (by omega) (by omega) (by omega)) ?_
        have K374 : ∀ j : Nat, j < 2 → Xh p l e (zrm 5 0 0 111) s m args below meth cd 8 G (MQ below (zQE G 68 (PA G S)) args s 0 0 (zA G)) 0 0 68 (pic G S) 374 [some (.ref (zad G 7 0)), some (.int (nI 3)), some (.int (nI y)), some (.int (nI (num (S 0)))), some (.int (nI ch)), some (.int (zSum zBrk (S 0) - (S 0 (ch + 3)) 5)), none, none] [.int (nI j)] := by
          intro j hj
          rcases (show j = 0 ∨ j = 1 by omega) with rfl | rfl
          · have hj01 : nI 0 = 0 ∨ nI 0 = 1 := Or.inl rfl
            refine x_istore (ls' := [_, _, _, _, _, _, _, _]) cx dL_change_374 (by decide) rfl ?_
            refine x_aload_n cx dL_change_376 rfl rfl ?_
            refine x_iload cx dL_change_377 rfl ?_
            refine x_iload cx dL_change_379 rfl ?_
            refine x_Vi (C := RX6) (T := TX6) (N := 6) (rest := []) cx (c_X6_breakChip l G _ hS _ _ hj01) gV_L_46 ndX6_breakChip rfl ⟨Nat.le_of_ble_eq_true rfl, Nat.le_of_ble_eq_true rfl⟩ (zok_7 (by decide)) (by decide) (p_SC) rfl rfl rfl (Nat.le_of_ble_eq_true rfl) dL_change_381 ⟨Nat.le_of_ble_eq_true rfl, Nat.le_of_ble_eq_true rfl⟩ ?_
            have he : eHas (S 0) (nI ch) = 0 := eHas_ok hX.1 hch
            refine x_eqi (okE he) ?_
            refine x_eqi (show zSum zBrk (zBrkX (S 0) (tn (nI ch)) (nI 0)) = zSum zBrk (zBrkX (S 0) ch (nI 0)) by rw [tn_n (by omega)]) ?_
            refine x_S (okS he) ?_
            refine x_S (show up (zRec S) 0 (zBrkX (S 0) (tn (nI ch)) (nI 0)) = up (zRec S) 0 (zBrkX (S 0) ch (nI 0)) by rw [tn_n (by omega)]) ?_
            have hokT : XOK (zBrkX (S 0) ch (nI 0)) := XOK_brk hX hj01
            refine x_nm fun T hT => ?_
            have hT0 : T 0 = zBrkX (S 0) ch (nI 0) := by rw [hT]; exact up_same _ _ _
            have hkT : kWF T := by rw [hT]; exact (kWF_rec hS hokT.1).1
            have hXT : XOK (T 0) := by rw [hT0]; exact hokT
            have hnT : num (T 0) = num (S 0) := by rw [hT0, num_brk]
            have hr5 : T 0 (ch + 3) 5 = nI 0 := by rw [hT0, brk_row]; exact upd_same _ _ _
            obtain ⟨nb, hnb, enb⟩ := brk_n hokT.1
            refine x_istore (ls' := [_, _, _, _, _, _, _, _]) cx dL_change_384 (by decide) rfl ?_
            refine x_iload cx dL_change_386 rfl ?_
            refine x_iload cx dL_change_388 rfl ?_
            refine x_iload cx dL_change_390 rfl ?_
            refine x_if_eq_t (tgt := 399) cx dL_change_392 (by decide) (by decide) ?_
            refine x_iconst (v := nI 0) cx dL_change_399 (by decide) ?_
            refine x_iadd cx dL_change_400 ?_
            refine x_icmp_ne_f (tgt := 429) cx dL_change_401 (by decide) (brk_sum hX hch hj01) ?_
            refine x_aload_n cx dL_change_404 rfl rfl ?_
            refine x_iload cx dL_change_405 rfl ?_
            refine x_iconst (v := nI 5) cx dL_change_407 (by decide) ?_
            refine x_Vi (C := RX6) (T := TX6) (N := 6) (rest := []) cx (c_X6_chip l G _ hkT _ _) gV_L_20 ndX6_chip rfl ⟨Nat.le_of_ble_eq_true rfl, Nat.le_of_ble_eq_true rfl⟩ (zok_7 (by decide)) (by decide) (p_SC) rfl rfl rfl (Nat.le_of_ble_eq_true rfl) dL_change_408 ⟨Nat.le_of_ble_eq_true rfl, Nat.le_of_ble_eq_true rfl⟩ ?_
            refine x_eqi ((tl_5 hXT (by omega)).trans hr5) ?_
            refine x_iload cx dL_change_411 rfl ?_
            refine x_if_eq_t (tgt := 420) cx dL_change_413 (by decide) (by decide) ?_
            refine x_iconst (v := nI 0) cx dL_change_420 (by decide) ?_
            refine x_icmp_ne_f (tgt := 429) cx dL_change_421 (by decide) (by decide) ?_
            refine x_iload cx dL_change_424 rfl ?_
            refine x_goto (tgt := 431) cx dL_change_426 (by decide) ?_
            exact x_iretE cx hr (Act_yes enb hnb hokT hT) dL_change_431
          · have hj01 : nI 1 = 0 ∨ nI 1 = 1 := Or.inr rfl
            refine x_istore (ls' := [_, _, _, _, _, _, _, _]) cx dL_change_374 (by decide) rfl ?_
            refine x_aload_n cx dL_change_376 rfl rfl ?_
            refine x_iload cx dL_change_377 rfl ?_
            refine x_iload cx dL_change_379 rfl ?_
            refine x_Vi (C := RX6) (T := TX6) (N := 6) (rest := []) cx (c_X6_breakChip l G _ hS _ _ hj01) gV_L_46 ndX6_breakChip rfl ⟨Nat.le_of_ble_eq_true rfl, Nat.le_of_ble_eq_true rfl⟩ (zok_7 (by decide)) (by decide) (p_SC) rfl rfl rfl (Nat.le_of_ble_eq_true rfl) dL_change_381 ⟨Nat.le_of_ble_eq_true rfl, Nat.le_of_ble_eq_true rfl⟩ ?_
            have he : eHas (S 0) (nI ch) = 0 := eHas_ok hX.1 hch
            refine x_eqi (okE he) ?_
            refine x_eqi (show zSum zBrk (zBrkX (S 0) (tn (nI ch)) (nI 1)) = zSum zBrk (zBrkX (S 0) ch (nI 1)) by rw [tn_n (by omega)]) ?_
            refine x_S (okS he) ?_
            refine x_S (show up (zRec S) 0 (zBrkX (S 0) (tn (nI ch)) (nI 1)) = up (zRec S) 0 (zBrkX (S 0) ch (nI 1)) by rw [tn_n (by omega)]) ?_
            have hokT : XOK (zBrkX (S 0) ch (nI 1)) := XOK_brk hX hj01
            refine x_nm fun T hT => ?_
            have hT0 : T 0 = zBrkX (S 0) ch (nI 1) := by rw [hT]; exact up_same _ _ _
            have hkT : kWF T := by rw [hT]; exact (kWF_rec hS hokT.1).1
            have hXT : XOK (T 0) := by rw [hT0]; exact hokT
            have hnT : num (T 0) = num (S 0) := by rw [hT0, num_brk]
            have hr5 : T 0 (ch + 3) 5 = nI 1 := by rw [hT0, brk_row]; exact upd_same _ _ _
            obtain ⟨nb, hnb, enb⟩ := brk_n hokT.1
            refine x_istore (ls' := [_, _, _, _, _, _, _, _]) cx dL_change_384 (by decide) rfl ?_
            refine x_iload cx dL_change_386 rfl ?_
            refine x_iload cx dL_change_388 rfl ?_
            refine x_iload cx dL_change_390 rfl ?_
            refine x_if_eq_f (tgt := 399) cx dL_change_392 (by decide) (by decide) ?_
            refine x_iconst (v := nI 1) cx dL_change_395 (by decide) ?_
            refine x_goto (tgt := 400) cx dL_change_396 (by decide) ?_
            refine x_iadd cx dL_change_400 ?_
            refine x_icmp_ne_f (tgt := 429) cx dL_change_401 (by decide) (brk_sum hX hch hj01) ?_
            refine x_aload_n cx dL_change_404 rfl rfl ?_
            refine x_iload cx dL_change_405 rfl ?_
            refine x_iconst (v := nI 5) cx dL_change_407 (by decide) ?_
            refine x_Vi (C := RX6) (T := TX6) (N := 6) (rest := []) cx (c_X6_chip l G _ hkT _ _) gV_L_20 ndX6_chip rfl ⟨Nat.le_of_ble_eq_true rfl, Nat.le_of_ble_eq_true rfl⟩ (zok_7 (by decide)) (by decide) (p_SC) rfl rfl rfl (Nat.le_of_ble_eq_true rfl) dL_change_408 ⟨Nat.le_of_ble_eq_true rfl, Nat.le_of_ble_eq_true rfl⟩ ?_
            refine x_eqi ((tl_5 hXT (by omega)).trans hr5) ?_
            refine x_iload cx dL_change_411 rfl ?_
            refine x_if_eq_f (tgt := 420) cx dL_change_413 (by decide) (by decide) ?_
            refine x_iconst (v := nI 1) cx dL_change_416 (by decide) ?_
            refine x_goto (tgt := 421) cx dL_change_417 (by decide) ?_
            refine x_icmp_ne_f (tgt := 429) cx dL_change_421 (by decide) (by decide) ?_
            refine x_iload cx dL_change_424 rfl ?_
            refine x_goto (tgt := 431) cx dL_change_426 (by decide) ?_
            exact x_iretE cx hr (Act_yes enb hnb hokT hT) dL_change_431
        refine x_if_ne (tgt := 373) cx dL_change_366 (by decide) (fun hb366 => ?_) (fun hb366 => ?_)
        · refine x_iconst (v := nI 0) cx dL_change_373 (by decide) ?_
          exact K374 0 (by decide)
        · refine x_iconst (v := nI 1) cx dL_change_369 (by decide) ?_
          refine x_goto (tgt := 374) cx dL_change_370 (by decide) ?_
          exact K374 1 (by decide)
  by_cases hn0 : num (S 0) = 0
  · refine x_if_ne_f (tgt := 14) cx dL_change_7 (by decide) (nI_ig (b := 0) (by omega)) ?_
    refine x_iconst (v := nI 0) cx dL_change_10 (by decide) ?_
    refine x_goto (tgt := 17) cx dL_change_11 (by decide) ?_
    exact K17 0 (fun z => absurd hn0 z) (by decide)
  · have hym := Nat.mod_lt y (show num (S 0) > 0 by omega)
    refine x_if_ne_t (tgt := 14) cx dL_change_7 (by decide) (nI_ne0 (by omega) (by omega)) ?_
    refine x_iload_n cx dL_change_14 rfl rfl ?_
    refine x_iload_n cx dL_change_15 rfl rfl ?_
    refine x_irem cx dL_change_16 (nI_ne0 (by omega) (by omega)) ?_
    refine x_eqi (pk_rem (by omega) (by omega) (by omega)) ?_
    exact K17 _ (fun _ => hym) (by omega)

set_option maxHeartbeats 4000000 in
set_option maxRecDepth 100000 in
theorem c_L_act (l : Launch) (G : zG) (S : zS) (hS : kWF S) (hX : XOK (S 0)) (x : Nat) (hx : x < 2 ^ 31) : Met l yL_act (zws yL_act cL_act 8 (some .int)) (zrm 8 0 0 184) (zPc G 68 (pic G S) [.ref (zad G 7 0), .int (nI x)]) (zQE G 68 (PA G S)) 0 0 (zA G) := by
  refine zMet npL_act rfl (Nat.le_of_ble_eq_true rfl) ?_
  intro p e s m args below meth cd hargs cx hr hin0
  have cx : Cx p s m args meth cd cL_act 8 RL G := cx
  refine x_ls (ls' := [some (.ref (zad G 7 0)), some (.int (nI x)), none, none, none, none, none, none]) rfl (fun _ h => h) ?_
  have h6 := hS.1.n6
  have h16 := hS.1.s16
  rcases (show x % 16 < 4 ∨ (x % 16 = 4 ∧ num (S 0) < 2) ∨ ((3 < x % 16 ∧ x % 16 < 9) ∧ (x % 16 = 4 → 2 ≤ num (S 0))) ∨ (8 < x % 16 ∧ x % 16 < 12) ∨ x % 16 = 12 ∨ 12 < x % 16 by omega) with hq | hq | hq | hq | hq | hq
  · refine x_iload_n cx dL_act_0 rfl rfl ?_
    refine x_bipush (v := nI 16) cx dL_act_1 (by decide) ?_
    refine x_irem cx dL_act_3 (by decide) ?_
    refine x_eqi (pk_rem (by omega) (by omega) (by omega)) ?_
    refine x_istore_n (ls' := [_, _, _, _, _, _, _, _]) cx dL_act_4 rfl (by decide) rfl ?_
    refine x_iload_n cx dL_act_5 rfl rfl ?_
    refine x_bipush (v := nI 16) cx dL_act_6 (by decide) ?_
    refine x_idiv cx dL_act_8 (by decide) ?_
    refine x_eqi (pk_div (by omega) (by omega) (by omega)) ?_
    refine x_istore_n (ls' := [_, _, _, _, _, _, _, _]) cx dL_act_9 rfl (by decide) rfl ?_
    refine x_aload_n cx dL_act_10 rfl rfl ?_
    refine x_iconst (v := nI 0) cx dL_act_11 (by decide) ?_
    refine x_Vi (C := RX6) (T := TX6) (N := 6) (rest := []) cx (c_X6_count l G _ hS _) gV_L_14 ndX6_count rfl ⟨Nat.le_of_ble_eq_true rfl, Nat.le_of_ble_eq_true rfl⟩ (zok_7 (by decide)) (by decide) (p_SC) rfl rfl rfl (Nat.le_of_ble_eq_true rfl) dL_act_12 ⟨Nat.le_of_ble_eq_true rfl, Nat.le_of_ble_eq_true rfl⟩ ?_
    refine x_eqi (cn0 hS.1) ?_
    refine x_istore (ls' := [_, _, _, _, _, _, _, _]) cx dL_act_15 (by decide) rfl ?_
    refine x_iload_n cx dL_act_17 rfl rfl ?_
    refine x_iconst (v := nI 4) cx dL_act_18 (by decide) ?_
    refine x_icmp_lt_t (tgt := 33) cx dL_act_19 (by decide) (nI_lt (by omega) (by omega)) ?_
    refine x_aload_n cx dL_act_33 rfl rfl ?_
    refine x_iload_n cx dL_act_34 rfl rfl ?_
    refine x_iconst (v := nI 4) cx dL_act_35 (by decide) ?_
    refine x_irem cx dL_act_36 (by decide) ?_
    refine x_eqi (pk_rem (by omega) (by omega) (by omega)) ?_
    refine x_iload_n cx dL_act_37 rfl rfl ?_
    refine x_SE (rest := []) cx (c_L_change l G _ hS hX _ _ (by omega) (by omega)) gS_L_89 ndL_change ⟨Nat.le_of_ble_eq_true rfl, Nat.le_of_ble_eq_true rfl⟩ rfl rfl (Nat.le_of_ble_eq_true rfl) dL_act_38 ⟨Nat.le_of_ble_eq_true rfl, Nat.le_of_ble_eq_true rfl⟩ (fun r h2 hP => ?_)
    exact x_iretE cx hr hP dL_act_41
  · refine x_iload_n cx dL_act_0 rfl rfl ?_
    refine x_bipush (v := nI 16) cx dL_act_1 (by decide) ?_
    refine x_irem cx dL_act_3 (by decide) ?_
    refine x_eqi (pk_rem (by omega) (by omega) (by omega)) ?_
    refine x_istore_n (ls' := [_, _, _, _, _, _, _, _]) cx dL_act_4 rfl (by decide) rfl ?_
    refine x_iload_n cx dL_act_5 rfl rfl ?_
    refine x_bipush (v := nI 16) cx dL_act_6 (by decide) ?_
    refine x_idiv cx dL_act_8 (by decide) ?_
    refine x_eqi (pk_div (by omega) (by omega) (by omega)) ?_
    refine x_istore_n (ls' := [_, _, _, _, _, _, _, _]) cx dL_act_9 rfl (by decide) rfl ?_
    refine x_aload_n cx dL_act_10 rfl rfl ?_
    refine x_iconst (v := nI 0) cx dL_act_11 (by decide) ?_
    refine x_Vi (C := RX6) (T := TX6) (N := 6) (rest := []) cx (c_X6_count l G _ hS _) gV_L_14 ndX6_count rfl ⟨Nat.le_of_ble_eq_true rfl, Nat.le_of_ble_eq_true rfl⟩ (zok_7 (by decide)) (by decide) (p_SC) rfl rfl rfl (Nat.le_of_ble_eq_true rfl) dL_act_12 ⟨Nat.le_of_ble_eq_true rfl, Nat.le_of_ble_eq_true rfl⟩ ?_
    refine x_eqi (cn0 hS.1) ?_
    refine x_istore (ls' := [_, _, _, _, _, _, _, _]) cx dL_act_15 (by decide) rfl ?_
    refine x_iload_n cx dL_act_17 rfl rfl ?_
    refine x_iconst (v := nI 4) cx dL_act_18 (by decide) ?_
    refine x_icmp_lt_f (tgt := 33) cx dL_act_19 (by decide) (nI_nlt (by omega) (by omega)) ?_
    refine x_iload_n cx dL_act_22 rfl rfl ?_
    refine x_iconst (v := nI 4) cx dL_act_23 (by decide) ?_
    refine x_icmp_ne_f (tgt := 42) cx dL_act_24 (by decide) (nI_ig (by omega)) ?_
    refine x_iload cx dL_act_27 rfl ?_
    refine x_iconst (v := nI 2) cx dL_act_29 (by decide) ?_
    refine x_icmp_ge_f (tgt := 42) cx dL_act_30 (by decide) (nI_ge (by omega) (by omega)) ?_
    refine x_aload_n cx dL_act_33 rfl rfl ?_
    refine x_iload_n cx dL_act_34 rfl rfl ?_
    refine x_iconst (v := nI 4) cx dL_act_35 (by decide) ?_
    refine x_irem cx dL_act_36 (by decide) ?_
    refine x_eqi (pk_rem (by omega) (by omega) (by omega)) ?_
    refine x_iload_n cx dL_act_37 rfl rfl ?_
    refine x_SE (rest := []) cx (c_L_change l G _ hS hX _ _ (by omega) (by omega)) gS_L_89 ndL_change ⟨Nat.le_of_ble_eq_true rfl, Nat.le_of_ble_eq_true rfl⟩ rfl rfl (Nat.le_of_ble_eq_true rfl) dL_act_38 ⟨Nat.le_of_ble_eq_true rfl, Nat.le_of_ble_eq_true rfl⟩ (fun r h2 hP => ?_)
    exact x_iretE cx hr hP dL_act_41
  · obtain ⟨no, hno, eno⟩ := out_n (S 0) (i := ((x / 16) / 2) % 2) (by omega)
    by_cases h4 : x % 16 = 4
    · refine x_iload_n cx dL_act_0 rfl rfl ?_
      refine x_bipush (v := nI 16) cx dL_act_1 (by decide) ?_
      refine x_irem cx dL_act_3 (by decide) ?_
      refine x_eqi (pk_rem (by omega) (by omega) (by omega)) ?_
      refine x_istore_n (ls' := [_, _, _, _, _, _, _, _]) cx dL_act_4 rfl (by decide) rfl ?_
      refine x_iload_n cx dL_act_5 rfl rfl ?_
      refine x_bipush (v := nI 16) cx dL_act_6 (by decide) ?_
      refine x_idiv cx dL_act_8 (by decide) ?_
      refine x_eqi (pk_div (by omega) (by omega) (by omega)) ?_
      refine x_istore_n (ls' := [_, _, _, _, _, _, _, _]) cx dL_act_9 rfl (by decide) rfl ?_
      refine x_aload_n cx dL_act_10 rfl rfl ?_
      refine x_iconst (v := nI 0) cx dL_act_11 (by decide) ?_
      refine x_Vi (C := RX6) (T := TX6) (N := 6) (rest := []) cx (c_X6_count l G _ hS _) gV_L_14 ndX6_count rfl ⟨Nat.le_of_ble_eq_true rfl, Nat.le_of_ble_eq_true rfl⟩ (zok_7 (by decide)) (by decide) (p_SC) rfl rfl rfl (Nat.le_of_ble_eq_true rfl) dL_act_12 ⟨Nat.le_of_ble_eq_true rfl, Nat.le_of_ble_eq_true rfl⟩ ?_
      refine x_eqi (cn0 hS.1) ?_
      refine x_istore (ls' := [_, _, _, _, _, _, _, _]) cx dL_act_15 (by decide) rfl ?_
      refine x_iload_n cx dL_act_17 rfl rfl ?_
      refine x_iconst (v := nI 4) cx dL_act_18 (by decide) ?_
      refine x_icmp_lt_f (tgt := 33) cx dL_act_19 (by decide) (nI_nlt (by omega) (by omega)) ?_
      refine x_iload_n cx dL_act_22 rfl rfl ?_
      refine x_iconst (v := nI 4) cx dL_act_23 (by decide) ?_
      refine x_icmp_ne_f (tgt := 42) cx dL_act_24 (by decide) (nI_ig (by omega)) ?_
      refine x_iload cx dL_act_27 rfl ?_
      refine x_iconst (v := nI 2) cx dL_act_29 (by decide) ?_
      refine x_icmp_ge_t (tgt := 42) cx dL_act_30 (by decide) (nI_le (by omega) (by omega)) ?_
      refine x_iload_n cx dL_act_42 rfl rfl ?_
      refine x_bipush (v := nI 9) cx dL_act_43 (by decide) ?_
      refine x_icmp_ge_f (tgt := 61) cx dL_act_45 (by decide) (nI_ge (by omega) (by omega)) ?_
      refine x_aload_n cx dL_act_48 rfl rfl ?_
      refine x_iload_n cx dL_act_49 rfl rfl ?_
      refine x_iconst (v := nI 2) cx dL_act_50 (by decide) ?_
      refine x_irem cx dL_act_51 (by decide) ?_
      refine x_eqi (pk_rem (by omega) (by omega) (by omega)) ?_
      refine x_iload_n cx dL_act_52 rfl rfl ?_
      refine x_iconst (v := nI 2) cx dL_act_53 (by decide) ?_
      refine x_idiv cx dL_act_54 (by decide) ?_
      refine x_eqi (pk_div (by omega) (by omega) (by omega)) ?_
      refine x_iconst (v := nI 2) cx dL_act_55 (by decide) ?_
      refine x_irem cx dL_act_56 (by decide) ?_
      refine x_eqi (pk_rem (by omega) (by omega) (by omega)) ?_
      refine x_Si (rest := []) cx (c_L_clock l G _ hS hX _ _ (by omega) (by omega)) gS_L_93 ndL_clock ⟨Nat.le_of_ble_eq_true rfl, Nat.le_of_ble_eq_true rfl⟩ rfl rfl (Nat.le_of_ble_eq_true rfl) dL_act_57 ⟨Nat.le_of_ble_eq_true rfl, Nat.le_of_ble_eq_true rfl⟩ ?_
      exact x_iretE cx hr (Act_yes eno hno (XOK_tick hX ⟨_, (show ((x / 16) / 2) % 2 < 2 by omega), rfl⟩) rfl) dL_act_60
    · refine x_iload_n cx dL_act_0 rfl rfl ?_
      refine x_bipush (v := nI 16) cx dL_act_1 (by decide) ?_
      refine x_irem cx dL_act_3 (by decide) ?_
      refine x_eqi (pk_rem (by omega) (by omega) (by omega)) ?_
      refine x_istore_n (ls' := [_, _, _, _, _, _, _, _]) cx dL_act_4 rfl (by decide) rfl ?_
      refine x_iload_n cx dL_act_5 rfl rfl ?_
      refine x_bipush (v := nI 16) cx dL_act_6 (by decide) ?_
      refine x_idiv cx dL_act_8 (by decide) ?_
      refine x_eqi (pk_div (by omega) (by omega) (by omega)) ?_
      refine x_istore_n (ls' := [_, _, _, _, _, _, _, _]) cx dL_act_9 rfl (by decide) rfl ?_
      refine x_aload_n cx dL_act_10 rfl rfl ?_
      refine x_iconst (v := nI 0) cx dL_act_11 (by decide) ?_
      refine x_Vi (C := RX6) (T := TX6) (N := 6) (rest := []) cx (c_X6_count l G _ hS _) gV_L_14 ndX6_count rfl ⟨Nat.le_of_ble_eq_true rfl, Nat.le_of_ble_eq_true rfl⟩ (zok_7 (by decide)) (by decide) (p_SC) rfl rfl rfl (Nat.le_of_ble_eq_true rfl) dL_act_12 ⟨Nat.le_of_ble_eq_true rfl, Nat.le_of_ble_eq_true rfl⟩ ?_
      refine x_eqi (cn0 hS.1) ?_
      refine x_istore (ls' := [_, _, _, _, _, _, _, _]) cx dL_act_15 (by decide) rfl ?_
      refine x_iload_n cx dL_act_17 rfl rfl ?_
      refine x_iconst (v := nI 4) cx dL_act_18 (by decide) ?_
      refine x_icmp_lt_f (tgt := 33) cx dL_act_19 (by decide) (nI_nlt (by omega) (by omega)) ?_
      refine x_iload_n cx dL_act_22 rfl rfl ?_
      refine x_iconst (v := nI 4) cx dL_act_23 (by decide) ?_
      refine x_icmp_ne_t (tgt := 42) cx dL_act_24 (by decide) (nI_nq (by omega) (by omega) (by omega)) ?_
      refine x_iload_n cx dL_act_42 rfl rfl ?_
      refine x_bipush (v := nI 9) cx dL_act_43 (by decide) ?_
      refine x_icmp_ge_f (tgt := 61) cx dL_act_45 (by decide) (nI_ge (by omega) (by omega)) ?_
      refine x_aload_n cx dL_act_48 rfl rfl ?_
      refine x_iload_n cx dL_act_49 rfl rfl ?_
      refine x_iconst (v := nI 2) cx dL_act_50 (by decide) ?_
      refine x_irem cx dL_act_51 (by decide) ?_
      refine x_eqi (pk_rem (by omega) (by omega) (by omega)) ?_
      refine x_iload_n cx dL_act_52 rfl rfl ?_
      refine x_iconst (v := nI 2) cx dL_act_53 (by decide) ?_
      refine x_idiv cx dL_act_54 (by decide) ?_
      refine x_eqi (pk_div (by omega) (by omega) (by omega)) ?_
      refine x_iconst (v := nI 2) cx dL_act_55 (by decide) ?_
      refine x_irem cx dL_act_56 (by decide) ?_
      refine x_eqi (pk_rem (by omega) (by omega) (by omega)) ?_
      refine x_Si (rest := []) cx (c_L_clock l G _ hS hX _ _ (by omega) (by omega)) gS_L_93 ndL_clock ⟨Nat.le_of_ble_eq_true rfl, Nat.le_of_ble_eq_true rfl⟩ rfl rfl (Nat.le_of_ble_eq_true rfl) dL_act_57 ⟨Nat.le_of_ble_eq_true rfl, Nat.le_of_ble_eq_true rfl⟩ ?_
      exact x_iretE cx hr (Act_yes eno hno (XOK_tick hX ⟨_, (show ((x / 16) / 2) % 2 < 2 by omega), rfl⟩) rfl) dL_act_60
  · have hb : ((x / 16) % 16) < 16 := Nat.mod_lt _ (by decide)
    have hdl := dst_lt (stt (S 0)) h16 ((x / 16) % 16) hb
    refine x_iload_n cx dL_act_0 rfl rfl ?_
    refine x_bipush (v := nI 16) cx dL_act_1 (by decide) ?_
    refine x_irem cx dL_act_3 (by decide) ?_
    refine x_eqi (pk_rem (by omega) (by omega) (by omega)) ?_
    refine x_istore_n (ls' := [_, _, _, _, _, _, _, _]) cx dL_act_4 rfl (by decide) rfl ?_
    refine x_iload_n cx dL_act_5 rfl rfl ?_
    refine x_bipush (v := nI 16) cx dL_act_6 (by decide) ?_
    refine x_idiv cx dL_act_8 (by decide) ?_
    refine x_eqi (pk_div (by omega) (by omega) (by omega)) ?_
    refine x_istore_n (ls' := [_, _, _, _, _, _, _, _]) cx dL_act_9 rfl (by decide) rfl ?_
    refine x_aload_n cx dL_act_10 rfl rfl ?_
    refine x_iconst (v := nI 0) cx dL_act_11 (by decide) ?_
    refine x_Vi (C := RX6) (T := TX6) (N := 6) (rest := []) cx (c_X6_count l G _ hS _) gV_L_14 ndX6_count rfl ⟨Nat.le_of_ble_eq_true rfl, Nat.le_of_ble_eq_true rfl⟩ (zok_7 (by decide)) (by decide) (p_SC) rfl rfl rfl (Nat.le_of_ble_eq_true rfl) dL_act_12 ⟨Nat.le_of_ble_eq_true rfl, Nat.le_of_ble_eq_true rfl⟩ ?_
    refine x_eqi (cn0 hS.1) ?_
    refine x_istore (ls' := [_, _, _, _, _, _, _, _]) cx dL_act_15 (by decide) rfl ?_
    refine x_iload_n cx dL_act_17 rfl rfl ?_
    refine x_iconst (v := nI 4) cx dL_act_18 (by decide) ?_
    refine x_icmp_lt_f (tgt := 33) cx dL_act_19 (by decide) (nI_nlt (by omega) (by omega)) ?_
    refine x_iload_n cx dL_act_22 rfl rfl ?_
    refine x_iconst (v := nI 4) cx dL_act_23 (by decide) ?_
    refine x_icmp_ne_t (tgt := 42) cx dL_act_24 (by decide) (nI_nq (by omega) (by omega) (by omega)) ?_
    refine x_iload_n cx dL_act_42 rfl rfl ?_
    refine x_bipush (v := nI 9) cx dL_act_43 (by decide) ?_
    refine x_icmp_ge_t (tgt := 61) cx dL_act_45 (by decide) (nI_le (by omega) (by omega)) ?_
    refine x_iload_n cx dL_act_61 rfl rfl ?_
    refine x_bipush (v := nI 12) cx dL_act_62 (by decide) ?_
    refine x_icmp_ge_f (tgt := 135) cx dL_act_64 (by decide) (nI_ge (by omega) (by omega)) ?_
    refine x_iload_n cx dL_act_67 rfl rfl ?_
    refine x_bipush (v := nI 16) cx dL_act_68 (by decide) ?_
    refine x_irem cx dL_act_70 (by decide) ?_
    refine x_eqi (pk_rem (by omega) (by omega) (by omega)) ?_
    refine x_istore (ls' := [_, _, _, _, _, _, _, _]) cx dL_act_71 (by decide) rfl ?_
    refine x_aload_n cx dL_act_73 rfl rfl ?_
    refine x_aload_n cx dL_act_74 rfl rfl ?_
    refine x_iconst (v := nI 2) cx dL_act_75 (by decide) ?_
    refine x_Vi (C := RX6) (T := TX6) (N := 6) (rest := [_]) cx (c_X6_count l G _ hS _) gV_L_14 ndX6_count rfl ⟨Nat.le_of_ble_eq_true rfl, Nat.le_of_ble_eq_true rfl⟩ (zok_7 (by decide)) (by decide) (p_SC) rfl rfl rfl (Nat.le_of_ble_eq_true rfl) dL_act_76 ⟨Nat.le_of_ble_eq_true rfl, Nat.le_of_ble_eq_true rfl⟩ ?_
    refine x_eqi (cn2 hS.1) ?_
    refine x_iload cx dL_act_79 rfl ?_
    refine x_Vi (C := RX6) (T := TX6) (N := 6) (rest := []) cx (c_X6_distance l G _ hS _ _) gV_L_62 ndX6_distance rfl ⟨Nat.le_of_ble_eq_true rfl, Nat.le_of_ble_eq_true rfl⟩ (zok_7 (by decide)) (by decide) (p_SC) rfl rfl rfl (Nat.le_of_ble_eq_true rfl) dL_act_81 ⟨Nat.le_of_ble_eq_true rfl, Nat.le_of_ble_eq_true rfl⟩ ?_
    refine x_eqi (zd h16 hb) ?_
    refine x_istore (ls' := [_, _, _, _, _, _, _, _]) cx dL_act_84 (by decide) rfl ?_
    refine x_aload_n cx dL_act_86 rfl rfl ?_
    refine x_iconst (v := nI 3) cx dL_act_87 (by decide) ?_
    refine x_Vi (C := RX6) (T := TX6) (N := 6) (rest := []) cx (c_X6_count l G _ hS _) gV_L_14 ndX6_count rfl ⟨Nat.le_of_ble_eq_true rfl, Nat.le_of_ble_eq_true rfl⟩ (zok_7 (by decide)) (by decide) (p_SC) rfl rfl rfl (Nat.le_of_ble_eq_true rfl) dL_act_88 ⟨Nat.le_of_ble_eq_true rfl, Nat.le_of_ble_eq_true rfl⟩ ?_
    refine x_eqi cn3 ?_
    refine x_istore (ls' := [_, _, _, _, _, _, _, _]) cx dL_act_91 (by decide) rfl ?_
    refine x_aload_n cx dL_act_93 rfl rfl ?_
    refine x_iload cx dL_act_94 rfl ?_
    refine x_Vi (C := RX6) (T := TX6) (N := 6) (rest := []) cx (c_X6_move l G _ hS _) gV_L_53 ndX6_move rfl ⟨Nat.le_of_ble_eq_true rfl, Nat.le_of_ble_eq_true rfl⟩ (zok_7 (by decide)) (by decide) (p_SC) rfl rfl rfl (Nat.le_of_ble_eq_true rfl) dL_act_96 ⟨Nat.le_of_ble_eq_true rfl, Nat.le_of_ble_eq_true rfl⟩ ?_
    have he : eMov (nI ((x / 16) % 16)) = 0 := eMov_ok hb
    refine x_eqi (okE he) ?_
    refine x_eqi (show nI (dst (stt (S 0)) (tn (nI ((x / 16) % 16)))) = nI (dst (stt (S 0)) ((x / 16) % 16)) by rw [tn_n (by omega)]) ?_
    refine x_S (okS he) ?_
    refine x_S (show up (zRec S) 0 (zGo (S 0) (tn (nI ((x / 16) % 16)))) = up (zRec S) 0 (zGo (S 0) ((x / 16) % 16)) by rw [tn_n (by omega)]) ?_
    have hokT : XOK (zGo (S 0) ((x / 16) % 16)) := XOK_go hX
    refine x_nm fun T hT => ?_
    have hT0 : T 0 = zGo (S 0) ((x / 16) % 16) := by rw [hT]; exact up_same _ _ _
    have hkT : kWF T := by rw [hT]; exact (kWF_rec hS hokT.1).1
    have hXT : XOK (T 0) := by rw [hT0]; exact hokT
    have hsT : stt (T 0) = ((x / 16) % 16) := by rw [hT0]; exact stt_go hX.1 hb
    refine x_iload cx dL_act_99 rfl ?_
    refine x_icmp_ne_f (tgt := 132) cx dL_act_101 (by decide) (nI_ig (by omega)) ?_
    refine x_aload_n cx dL_act_104 rfl rfl ?_
    refine x_iconst (v := nI 2) cx dL_act_105 (by decide) ?_
    refine x_Vi (C := RX6) (T := TX6) (N := 6) (rest := []) cx (c_X6_count l G _ hkT _) gV_L_14 ndX6_count rfl ⟨Nat.le_of_ble_eq_true rfl, Nat.le_of_ble_eq_true rfl⟩ (zok_7 (by decide)) (by decide) (p_SC) rfl rfl rfl (Nat.le_of_ble_eq_true rfl) dL_act_106 ⟨Nat.le_of_ble_eq_true rfl, Nat.le_of_ble_eq_true rfl⟩ ?_
    refine x_eqi (cn2 hkT.1) ?_
    refine x_iload cx dL_act_109 rfl ?_
    refine x_icmp_ne_f (tgt := 132) cx dL_act_111 (by decide) (nI_ig (by omega)) ?_
    refine x_aload_n cx dL_act_114 rfl rfl ?_
    refine x_iconst (v := nI 3) cx dL_act_115 (by decide) ?_
    refine x_Vi (C := RX6) (T := TX6) (N := 6) (rest := []) cx (c_X6_count l G _ hkT _) gV_L_14 ndX6_count rfl ⟨Nat.le_of_ble_eq_true rfl, Nat.le_of_ble_eq_true rfl⟩ (zok_7 (by decide)) (by decide) (p_SC) rfl rfl rfl (Nat.le_of_ble_eq_true rfl) dL_act_116 ⟨Nat.le_of_ble_eq_true rfl, Nat.le_of_ble_eq_true rfl⟩ ?_
    refine x_eqi cn3 ?_
    refine x_iload cx dL_act_119 rfl ?_
    refine x_iload cx dL_act_121 rfl ?_
    refine x_iadd cx dL_act_123 ?_
    refine x_icmp_ne_f (tgt := 132) cx dL_act_124 (by decide) (by rw [hT0]; exact clk_go _ _) ?_
    refine x_iload cx dL_act_127 rfl ?_
    refine x_goto (tgt := 134) cx dL_act_129 (by decide) ?_
    exact x_iretE cx hr (Act_yes rfl (by omega) hokT hT) dL_act_134
  · have hc8 := (zIdent_WF hS.1).c8
    refine x_iload_n cx dL_act_0 rfl rfl ?_
    refine x_bipush (v := nI 16) cx dL_act_1 (by decide) ?_
    refine x_irem cx dL_act_3 (by decide) ?_
    refine x_eqi (pk_rem (by omega) (by omega) (by omega)) ?_
    refine x_istore_n (ls' := [_, _, _, _, _, _, _, _]) cx dL_act_4 rfl (by decide) rfl ?_
    refine x_iload_n cx dL_act_5 rfl rfl ?_
    refine x_bipush (v := nI 16) cx dL_act_6 (by decide) ?_
    refine x_idiv cx dL_act_8 (by decide) ?_
    refine x_eqi (pk_div (by omega) (by omega) (by omega)) ?_
    refine x_istore_n (ls' := [_, _, _, _, _, _, _, _]) cx dL_act_9 rfl (by decide) rfl ?_
    refine x_aload_n cx dL_act_10 rfl rfl ?_
    refine x_iconst (v := nI 0) cx dL_act_11 (by decide) ?_
    refine x_Vi (C := RX6) (T := TX6) (N := 6) (rest := []) cx (c_X6_count l G _ hS _) gV_L_14 ndX6_count rfl ⟨Nat.le_of_ble_eq_true rfl, Nat.le_of_ble_eq_true rfl⟩ (zok_7 (by decide)) (by decide) (p_SC) rfl rfl rfl (Nat.le_of_ble_eq_true rfl) dL_act_12 ⟨Nat.le_of_ble_eq_true rfl, Nat.le_of_ble_eq_true rfl⟩ ?_
    refine x_eqi (cn0 hS.1) ?_
    refine x_istore (ls' := [_, _, _, _, _, _, _, _]) cx dL_act_15 (by decide) rfl ?_
    refine x_iload_n cx dL_act_17 rfl rfl ?_
    refine x_iconst (v := nI 4) cx dL_act_18 (by decide) ?_
    refine x_icmp_lt_f (tgt := 33) cx dL_act_19 (by decide) (nI_nlt (by omega) (by omega)) ?_
    refine x_iload_n cx dL_act_22 rfl rfl ?_
    refine x_iconst (v := nI 4) cx dL_act_23 (by decide) ?_
    refine x_icmp_ne_t (tgt := 42) cx dL_act_24 (by decide) (nI_nq (by omega) (by omega) (by omega)) ?_
    refine x_iload_n cx dL_act_42 rfl rfl ?_
    refine x_bipush (v := nI 9) cx dL_act_43 (by decide) ?_
    refine x_icmp_ge_t (tgt := 61) cx dL_act_45 (by decide) (nI_le (by omega) (by omega)) ?_
    refine x_iload_n cx dL_act_61 rfl rfl ?_
    refine x_bipush (v := nI 12) cx dL_act_62 (by decide) ?_
    refine x_icmp_ge_t (tgt := 135) cx dL_act_64 (by decide) (nI_le (by omega) (by omega)) ?_
    refine x_iload_n cx dL_act_135 rfl rfl ?_
    refine x_bipush (v := nI 12) cx dL_act_136 (by decide) ?_
    refine x_icmp_ne_f (tgt := 188) cx dL_act_138 (by decide) (nI_ig (by omega)) ?_
    refine x_aload_n cx dL_act_141 rfl rfl ?_
    refine x_Vi (C := RX6) (T := TX6) (N := 6) (rest := []) cx (c_X6_ifIdentified l G _ hS) gV_L_95 ndX6_ifIdentified rfl ⟨Nat.le_of_ble_eq_true rfl, Nat.le_of_ble_eq_true rfl⟩ (zok_7 (by decide)) (by decide) (p_SC) rfl rfl rfl (Nat.le_of_ble_eq_true rfl) dL_act_142 ⟨Nat.le_of_ble_eq_true rfl, Nat.le_of_ble_eq_true rfl⟩ ?_
    refine x_eqi ((congrFun (Qident (Qcopy (Qrf (S 0))) (zCopy_WF hS.1)).1 3).trans (zIdent_WF hS.1).c3) ?_
    refine x_nm fun U hU => ?_
    have hU0 : U 0 = S 0 := by rw [hU]; exact up_ne _ _ (by decide)
    have hkU : kWF U := by rw [hU]; exact kWF_1 hS _
    have hXU : XOK (U 0) := by rw [hU0]; exact hX
    refine x_istore (ls' := [_, _, _, _, _, _, _, _]) cx dL_act_145 (by decide) rfl ?_
    refine x_aload_n cx dL_act_147 rfl rfl ?_
    refine x_Vi (C := RX6) (T := TX6) (N := 6) (rest := []) cx (c_X6_identify l G _ hkU) gV_L_98 ndX6_identify rfl ⟨Nat.le_of_ble_eq_true rfl, Nat.le_of_ble_eq_true rfl⟩ (zok_7 (by decide)) (by decide) (p_SC) rfl rfl rfl (Nat.le_of_ble_eq_true rfl) dL_act_148 ⟨Nat.le_of_ble_eq_true rfl, Nat.le_of_ble_eq_true rfl⟩ ?_
    refine x_eqi (show _ = nI (cnt (zIdent (S 0))) by rw [hU0]; exact (zIdent_WF hS.1).c3) ?_
    refine x_S (show up (zRec U) 0 (zIdent (U 0)) = up (zRec U) 0 (zIdent (S 0)) by rw [hU0]) ?_
    have hokT : XOK (zIdent (S 0)) := XOK_ident hX
    refine x_nm fun T hT => ?_
    have hT0 : T 0 = zIdent (S 0) := by rw [hT]; exact up_same _ _ _
    have hkT : kWF T := by rw [hT]; exact (kWF_rec hkU hokT.1).1
    have hXT : XOK (T 0) := by rw [hT0]; exact hokT
    have hcT : cnt (T 0) = cnt (zIdent (S 0)) := by rw [hT0]
    have hsT : stt (T 0) = 1 := by rw [hT0]; exact stt_ident hX.1
    refine x_istore (ls' := [_, _, _, _, _, _, _, _]) cx dL_act_151 (by decide) rfl ?_
    refine x_iload cx dL_act_153 rfl ?_
    refine x_iload cx dL_act_155 rfl ?_
    refine x_icmp_ne_f (tgt := 185) cx dL_act_157 (by decide) (nI_ig (by omega)) ?_
    refine x_aload_n cx dL_act_160 rfl rfl ?_
    refine x_bipush (v := nI 6) cx dL_act_161 (by decide) ?_
    refine x_Vi (C := RX6) (T := TX6) (N := 6) (rest := []) cx (c_X6_count l G _ hkT _) gV_L_14 ndX6_count rfl ⟨Nat.le_of_ble_eq_true rfl, Nat.le_of_ble_eq_true rfl⟩ (zok_7 (by decide)) (by decide) (p_SC) rfl rfl rfl (Nat.le_of_ble_eq_true rfl) dL_act_163 ⟨Nat.le_of_ble_eq_true rfl, Nat.le_of_ble_eq_true rfl⟩ ?_
    refine x_eqi (cn6 hkT.1) ?_
    refine x_iload cx dL_act_166 rfl ?_
    refine x_icmp_ne_f (tgt := 185) cx dL_act_168 (by decide) (nI_ig (by omega)) ?_
    refine x_aload_n cx dL_act_171 rfl rfl ?_
    refine x_iconst (v := nI 2) cx dL_act_172 (by decide) ?_
    refine x_Vi (C := RX6) (T := TX6) (N := 6) (rest := []) cx (c_X6_count l G _ hkT _) gV_L_14 ndX6_count rfl ⟨Nat.le_of_ble_eq_true rfl, Nat.le_of_ble_eq_true rfl⟩ (zok_7 (by decide)) (by decide) (p_SC) rfl rfl rfl (Nat.le_of_ble_eq_true rfl) dL_act_173 ⟨Nat.le_of_ble_eq_true rfl, Nat.le_of_ble_eq_true rfl⟩ ?_
    refine x_eqi (cn2 hkT.1) ?_
    refine x_iconst (v := nI 1) cx dL_act_176 (by decide) ?_
    refine x_icmp_ne_f (tgt := 185) cx dL_act_177 (by decide) (nI_ig (by omega)) ?_
    refine x_iload cx dL_act_180 rfl ?_
    refine x_goto (tgt := 187) cx dL_act_182 (by decide) ?_
    exact x_iretE cx hr (Act_yes1 (Z := zIdent (zCopy (S 1) (S 0))) rfl (by omega) hokT (by rw [hT, hU])) dL_act_187
  · refine x_iload_n cx dL_act_0 rfl rfl ?_
    refine x_bipush (v := nI 16) cx dL_act_1 (by decide) ?_
    refine x_irem cx dL_act_3 (by decide) ?_
    refine x_eqi (pk_rem (by omega) (by omega) (by omega)) ?_
    refine x_istore_n (ls' := [_, _, _, _, _, _, _, _]) cx dL_act_4 rfl (by decide) rfl ?_
    refine x_iload_n cx dL_act_5 rfl rfl ?_
    refine x_bipush (v := nI 16) cx dL_act_6 (by decide) ?_
    refine x_idiv cx dL_act_8 (by decide) ?_
    refine x_eqi (pk_div (by omega) (by omega) (by omega)) ?_
    refine x_istore_n (ls' := [_, _, _, _, _, _, _, _]) cx dL_act_9 rfl (by decide) rfl ?_
    refine x_aload_n cx dL_act_10 rfl rfl ?_
    refine x_iconst (v := nI 0) cx dL_act_11 (by decide) ?_
    refine x_Vi (C := RX6) (T := TX6) (N := 6) (rest := []) cx (c_X6_count l G _ hS _) gV_L_14 ndX6_count rfl ⟨Nat.le_of_ble_eq_true rfl, Nat.le_of_ble_eq_true rfl⟩ (zok_7 (by decide)) (by decide) (p_SC) rfl rfl rfl (Nat.le_of_ble_eq_true rfl) dL_act_12 ⟨Nat.le_of_ble_eq_true rfl, Nat.le_of_ble_eq_true rfl⟩ ?_
    refine x_eqi (cn0 hS.1) ?_
    refine x_istore (ls' := [_, _, _, _, _, _, _, _]) cx dL_act_15 (by decide) rfl ?_
    refine x_iload_n cx dL_act_17 rfl rfl ?_
    refine x_iconst (v := nI 4) cx dL_act_18 (by decide) ?_
    refine x_icmp_lt_f (tgt := 33) cx dL_act_19 (by decide) (nI_nlt (by omega) (by omega)) ?_
    refine x_iload_n cx dL_act_22 rfl rfl ?_
    refine x_iconst (v := nI 4) cx dL_act_23 (by decide) ?_
    refine x_icmp_ne_t (tgt := 42) cx dL_act_24 (by decide) (nI_nq (by omega) (by omega) (by omega)) ?_
    refine x_iload_n cx dL_act_42 rfl rfl ?_
    refine x_bipush (v := nI 9) cx dL_act_43 (by decide) ?_
    refine x_icmp_ge_t (tgt := 61) cx dL_act_45 (by decide) (nI_le (by omega) (by omega)) ?_
    refine x_iload_n cx dL_act_61 rfl rfl ?_
    refine x_bipush (v := nI 12) cx dL_act_62 (by decide) ?_
    refine x_icmp_ge_t (tgt := 135) cx dL_act_64 (by decide) (nI_le (by omega) (by omega)) ?_
    refine x_iload_n cx dL_act_135 rfl rfl ?_
    refine x_bipush (v := nI 12) cx dL_act_136 (by decide) ?_
    refine x_icmp_ne_t (tgt := 188) cx dL_act_138 (by decide) (nI_nq (by omega) (by omega) (by omega)) ?_
    refine x_iload cx dL_act_188 rfl ?_
    have K201 : ∀ ch : Nat, (num (S 0) ≠ 0 → ch < num (S 0)) → (num (S 0) = 0 → ch = 0) → ch < 2 ^ 31 → Xh p l e (zrm 8 0 0 184) s m args below meth cd 8 G (MQ below (zQE G 68 (PA G S)) args s 0 0 (zA G)) 0 0 68 (pic G S) 201 [some (.ref (zad G 7 0)), some (.int (nI x)), some (.int (nI (x % 16))), some (.int (nI (x / 16))), some (.int (nI (num (S 0)))), none, none, none] [.int (nI ch)] := by
      intro ch hch0 hc00 hcp
      by_cases h13 : x % 16 = 13
      · have hv : (((x / 16) / 6) % 64) < 64 := Nat.mod_lt _ (by decide)
        by_cases hn0 : num (S 0) = 0
        · refine x_istore (ls' := [_, _, _, _, _, _, _, _]) cx dL_act_201 (by decide) rfl ?_
          refine x_iload_n cx dL_act_203 rfl rfl ?_
          refine x_bipush (v := nI 13) cx dL_act_204 (by decide) ?_
          refine x_icmp_ne_f (tgt := 275) cx dL_act_206 (by decide) (nI_ig (by omega)) ?_
          refine x_aload_n cx dL_act_209 rfl rfl ?_
          refine x_iload cx dL_act_210 rfl ?_
          refine x_iload_n cx dL_act_212 rfl rfl ?_
          refine x_bipush (v := nI 6) cx dL_act_213 (by decide) ?_
          refine x_idiv cx dL_act_215 (by decide) ?_
          refine x_eqi (pk_div (by omega) (by omega) (by omega)) ?_
          refine x_bipush (v := nI 64) cx dL_act_216 (by decide) ?_
          refine x_irem cx dL_act_218 (by decide) ?_
          refine x_eqi (pk_rem (by omega) (by omega) (by omega)) ?_
          refine x_Vi (C := RX6) (T := TX6) (N := 6) (rest := []) cx (c_X6_load l G _ hS _ _) gV_L_56 ndX6_load rfl ⟨Nat.le_of_ble_eq_true rfl, Nat.le_of_ble_eq_true rfl⟩ (zok_7 (by decide)) (by decide) (p_SC) rfl rfl rfl (Nat.le_of_ble_eq_true rfl) dL_act_219 ⟨Nat.le_of_ble_eq_true rfl, Nat.le_of_ble_eq_true rfl⟩ ?_
          have he : eArg (S 0) (nI ch) (nI (((x / 16) / 6) % 64)) 63 = -1 := by rw [hc00 hn0]; exact eArg_no hX.1 hn0
          refine x_eqi (er he (by decide)) ?_
          refine x_S (erS he (by decide)) ?_
          refine x_istore (ls' := [_, _, _, _, _, _, _, _]) cx dL_act_222 (by decide) rfl ?_
          refine x_iload cx dL_act_224 rfl ?_
          refine x_if_ne_f (tgt := 245) cx dL_act_226 (by decide) (nI_ig (b := 0) (by omega)) ?_
          refine x_iload cx dL_act_229 rfl ?_
          refine x_iconst (v := (-1)) cx dL_act_231 (by decide) ?_
          refine x_icmp_ne_f (tgt := 240) cx dL_act_232 (by decide) rfl ?_
          refine x_iload cx dL_act_235 rfl ?_
          refine x_goto (tgt := 274) cx dL_act_237 (by decide) ?_
          exact x_iretE cx hr (Act_no (Or.inl rfl)) dL_act_274
        · have hch := hch0 hn0
          refine x_istore (ls' := [_, _, _, _, _, _, _, _]) cx dL_act_201 (by decide) rfl ?_
          refine x_iload_n cx dL_act_203 rfl rfl ?_
          refine x_bipush (v := nI 13) cx dL_act_204 (by decide) ?_
          refine x_icmp_ne_f (tgt := 275) cx dL_act_206 (by decide) (nI_ig (by omega)) ?_
          refine x_aload_n cx dL_act_209 rfl rfl ?_
          refine x_iload cx dL_act_210 rfl ?_
          refine x_iload_n cx dL_act_212 rfl rfl ?_
          refine x_bipush (v := nI 6) cx dL_act_213 (by decide) ?_
          refine x_idiv cx dL_act_215 (by decide) ?_
          refine x_eqi (pk_div (by omega) (by omega) (by omega)) ?_
          refine x_bipush (v := nI 64) cx dL_act_216 (by decide) ?_
          refine x_irem cx dL_act_218 (by decide) ?_
          refine x_eqi (pk_rem (by omega) (by omega) (by omega)) ?_
          refine x_Vi (C := RX6) (T := TX6) (N := 6) (rest := []) cx (c_X6_load l G _ hS _ _) gV_L_56 ndX6_load rfl ⟨Nat.le_of_ble_eq_true rfl, Nat.le_of_ble_eq_true rfl⟩ (zok_7 (by decide)) (by decide) (p_SC) rfl rfl rfl (Nat.le_of_ble_eq_true rfl) dL_act_219 ⟨Nat.le_of_ble_eq_true rfl, Nat.le_of_ble_eq_true rfl⟩ ?_
          have he : eArg (S 0) (nI ch) (nI (((x / 16) / 6) % 64)) 63 = 0 := eArg_ok hX.1 hch (zin6_t _ hv)
          refine x_eqi (okE he) ?_
          refine x_S (okS he) ?_
          refine x_S (show up (zRec S) 0 (zLoad (S 0) (tn (nI ch)) (nI (((x / 16) / 6) % 64))) = up (zRec S) 0 (zLoad (S 0) ch (nI (((x / 16) / 6) % 64))) by rw [tn_n (by omega)]) ?_
          have hokT : XOK (zLoad (S 0) ch (nI (((x / 16) / 6) % 64))) := XOK_load hX
          refine x_nm fun T hT => ?_
          have hT0 : T 0 = zLoad (S 0) ch (nI (((x / 16) / 6) % 64)) := by rw [hT]; exact up_same _ _ _
          have hkT : kWF T := by rw [hT]; exact (kWF_rec hS hokT.1).1
          have hXT : XOK (T 0) := by rw [hT0]; exact hokT
          have hnT : num (T 0) = num (S 0) := by rw [hT0, num_load]
          have hsT : stt (T 0) = 1 := by rw [hT0]; exact stt_load hX.1
          have hBT := cOK_B (hXT.chip (t := ch) (by omega))
          refine x_eqi (show zBits (zLoad (S 0) (tn (nI ch)) (nI (((x / 16) / 6) % 64)) (tn (nI ch) + 3)) = nI (aB (T 0 (ch + 3))) by rw [tn_n (by omega), ← hT0]; exact hBT.1) ?_
          refine x_istore (ls' := [_, _, _, _, _, _, _, _]) cx dL_act_222 (by decide) rfl ?_
          refine x_iload cx dL_act_224 rfl ?_
          refine x_if_ne_t (tgt := 245) cx dL_act_226 (by decide) (nI_ne0 (by omega) (by omega)) ?_
          refine x_iload cx dL_act_245 rfl ?_
          refine x_aload_n cx dL_act_247 rfl rfl ?_
          refine x_iload cx dL_act_248 rfl ?_
          refine x_bipush (v := nI 9) cx dL_act_250 (by decide) ?_
          refine x_Vi (C := RX6) (T := TX6) (N := 6) (rest := [_]) cx (c_X6_chip l G _ hkT _ _) gV_L_20 ndX6_chip rfl ⟨Nat.le_of_ble_eq_true rfl, Nat.le_of_ble_eq_true rfl⟩ (zok_7 (by decide)) (by decide) (p_SC) rfl rfl rfl (Nat.le_of_ble_eq_true rfl) dL_act_252 ⟨Nat.le_of_ble_eq_true rfl, Nat.le_of_ble_eq_true rfl⟩ ?_
          refine x_eqi (tl_9 hXT (by omega)) ?_
          refine x_icmp_ne_f (tgt := 272) cx dL_act_255 (by decide) (nI_ig (by omega)) ?_
          refine x_aload_n cx dL_act_258 rfl rfl ?_
          refine x_iconst (v := nI 2) cx dL_act_259 (by decide) ?_
          refine x_Vi (C := RX6) (T := TX6) (N := 6) (rest := []) cx (c_X6_count l G _ hkT _) gV_L_14 ndX6_count rfl ⟨Nat.le_of_ble_eq_true rfl, Nat.le_of_ble_eq_true rfl⟩ (zok_7 (by decide)) (by decide) (p_SC) rfl rfl rfl (Nat.le_of_ble_eq_true rfl) dL_act_260 ⟨Nat.le_of_ble_eq_true rfl, Nat.le_of_ble_eq_true rfl⟩ ?_
          refine x_eqi (cn2 hkT.1) ?_
          refine x_iconst (v := nI 1) cx dL_act_263 (by decide) ?_
          refine x_icmp_ne_f (tgt := 272) cx dL_act_264 (by decide) (nI_ig (by omega)) ?_
          refine x_iload cx dL_act_267 rfl ?_
          refine x_goto (tgt := 274) cx dL_act_269 (by decide) ?_
          exact x_iretE cx hr (Act_yes rfl (by omega) hokT hT) dL_act_274
      · have hv : (((x / 16) / 6) % 256) < 256 := Nat.mod_lt _ (by decide)
        by_cases hn0 : num (S 0) = 0
        · refine x_istore (ls' := [_, _, _, _, _, _, _, _]) cx dL_act_201 (by decide) rfl ?_
          refine x_iload_n cx dL_act_203 rfl rfl ?_
          refine x_bipush (v := nI 13) cx dL_act_204 (by decide) ?_
          refine x_icmp_ne_t (tgt := 275) cx dL_act_206 (by decide) (nI_nq (by omega) (by omega) (by omega)) ?_
          refine x_aload_n cx dL_act_275 rfl rfl ?_
          refine x_iload cx dL_act_276 rfl ?_
          refine x_iload_n cx dL_act_278 rfl rfl ?_
          refine x_bipush (v := nI 6) cx dL_act_279 (by decide) ?_
          refine x_idiv cx dL_act_281 (by decide) ?_
          refine x_eqi (pk_div (by omega) (by omega) (by omega)) ?_
          refine x_sipush (v := nI 256) cx dL_act_282 (by decide) ?_
          refine x_irem cx dL_act_285 (by decide) ?_
          refine x_eqi (pk_rem (by omega) (by omega) (by omega)) ?_
          refine x_Vi (C := RX6) (T := TX6) (N := 6) (rest := []) cx (c_X6_ifExchanged l G _ hS _ _) gV_L_65 ndX6_ifExchanged rfl ⟨Nat.le_of_ble_eq_true rfl, Nat.le_of_ble_eq_true rfl⟩ (zok_7 (by decide)) (by decide) (p_SC) rfl rfl rfl (Nat.le_of_ble_eq_true rfl) dL_act_286 ⟨Nat.le_of_ble_eq_true rfl, Nat.le_of_ble_eq_true rfl⟩ ?_
          have he : eArg (S 0) (nI ch) (nI (((x / 16) / 6) % 256)) 255 = -1 := by rw [hc00 hn0]; exact eArg_no hX.1 hn0
          refine x_eqi (er he (by decide)) ?_
          refine x_S (erS he (by decide)) ?_
          refine x_istore (ls' := [_, _, _, _, _, _, _, _]) cx dL_act_289 (by decide) rfl ?_
          refine x_aload_n cx dL_act_291 rfl rfl ?_
          refine x_iload cx dL_act_292 rfl ?_
          refine x_iload_n cx dL_act_294 rfl rfl ?_
          refine x_bipush (v := nI 6) cx dL_act_295 (by decide) ?_
          refine x_idiv cx dL_act_297 (by decide) ?_
          refine x_eqi (pk_div (by omega) (by omega) (by omega)) ?_
          refine x_sipush (v := nI 256) cx dL_act_298 (by decide) ?_
          refine x_irem cx dL_act_301 (by decide) ?_
          refine x_eqi (pk_rem (by omega) (by omega) (by omega)) ?_
          refine x_Vi (C := RX6) (T := TX6) (N := 6) (rest := []) cx (c_X6_exchange l G _ hS _ _) gV_L_59 ndX6_exchange rfl ⟨Nat.le_of_ble_eq_true rfl, Nat.le_of_ble_eq_true rfl⟩ (zok_7 (by decide)) (by decide) (p_SC) rfl rfl rfl (Nat.le_of_ble_eq_true rfl) dL_act_302 ⟨Nat.le_of_ble_eq_true rfl, Nat.le_of_ble_eq_true rfl⟩ ?_
          have he : eArg (S 0) (nI ch) (nI (((x / 16) / 6) % 256)) 255 = -1 := by rw [hc00 hn0]; exact eArg_no hX.1 hn0
          refine x_eqi (er he (by decide)) ?_
          refine x_S (erS he (by decide)) ?_
          refine x_istore (ls' := [_, _, _, _, _, _, _, _]) cx dL_act_305 (by decide) rfl ?_
          refine x_iload cx dL_act_307 rfl ?_
          refine x_iload cx dL_act_309 rfl ?_
          refine x_icmp_ne_f (tgt := 347) cx dL_act_311 (by decide) rfl ?_
          refine x_iload cx dL_act_314 rfl ?_
          refine x_if_ne_f (tgt := 328) cx dL_act_316 (by decide) (nI_ig (b := 0) (by omega)) ?_
          refine x_iload cx dL_act_319 rfl ?_
          refine x_iconst (v := (-1)) cx dL_act_321 (by decide) ?_
          refine x_icmp_ne_f (tgt := 347) cx dL_act_322 (by decide) rfl ?_
          refine x_goto (tgt := 342) cx dL_act_325 (by decide) ?_
          refine x_iload cx dL_act_342 rfl ?_
          refine x_goto (tgt := 349) cx dL_act_344 (by decide) ?_
          exact x_iretE cx hr (Act_no (Or.inl rfl)) dL_act_349
        · have hch := hch0 hn0
          obtain ⟨ex, hex0, eex⟩ := exchO_fN (X := S 0) (x := nI (((x / 16) / 6) % 256)) (q := ch) hX.1
          have hex : ex < 256 := hex0
          refine x_istore (ls' := [_, _, _, _, _, _, _, _]) cx dL_act_201 (by decide) rfl ?_
          refine x_iload_n cx dL_act_203 rfl rfl ?_
          refine x_bipush (v := nI 13) cx dL_act_204 (by decide) ?_
          refine x_icmp_ne_t (tgt := 275) cx dL_act_206 (by decide) (nI_nq (by omega) (by omega) (by omega)) ?_
          refine x_aload_n cx dL_act_275 rfl rfl ?_
          refine x_iload cx dL_act_276 rfl ?_
          refine x_iload_n cx dL_act_278 rfl rfl ?_
          refine x_bipush (v := nI 6) cx dL_act_279 (by decide) ?_
          refine x_idiv cx dL_act_281 (by decide) ?_
          refine x_eqi (pk_div (by omega) (by omega) (by omega)) ?_
          refine x_sipush (v := nI 256) cx dL_act_282 (by decide) ?_
          refine x_irem cx dL_act_285 (by decide) ?_
          refine x_eqi (pk_rem (by omega) (by omega) (by omega)) ?_
          refine x_Vi (C := RX6) (T := TX6) (N := 6) (rest := []) cx (c_X6_ifExchanged l G _ hS _ _) gV_L_65 ndX6_ifExchanged rfl ⟨Nat.le_of_ble_eq_true rfl, Nat.le_of_ble_eq_true rfl⟩ (zok_7 (by decide)) (by decide) (p_SC) rfl rfl rfl (Nat.le_of_ble_eq_true rfl) dL_act_286 ⟨Nat.le_of_ble_eq_true rfl, Nat.le_of_ble_eq_true rfl⟩ ?_
          have he : eArg (S 0) (nI ch) (nI (((x / 16) / 6) % 256)) 255 = 0 := eArg_ok hX.1 hch (zin8_t _ hv)
          refine x_eqi (okE he) ?_
          refine x_eqi (show zExchO (zCopy (S 1) (S 0)) (tn (nI ch)) (nI (((x / 16) / 6) % 256)) = nI ex by rw [tn_n (by omega), ← eex]; exact QexchO (Qcopy (Qrf _)) _ _) ?_
          refine x_S (okS he) ?_
          refine x_nm fun U hU => ?_
          have hU0 : U 0 = S 0 := by rw [hU]; exact up_ne _ _ (by decide)
          have hkU : kWF U := by rw [hU]; exact kWF_1 hS _
          have hXU : XOK (U 0) := by rw [hU0]; exact hX
          refine x_istore (ls' := [_, _, _, _, _, _, _, _]) cx dL_act_289 (by decide) rfl ?_
          refine x_aload_n cx dL_act_291 rfl rfl ?_
          refine x_iload cx dL_act_292 rfl ?_
          refine x_iload_n cx dL_act_294 rfl rfl ?_
          refine x_bipush (v := nI 6) cx dL_act_295 (by decide) ?_
          refine x_idiv cx dL_act_297 (by decide) ?_
          refine x_eqi (pk_div (by omega) (by omega) (by omega)) ?_
          refine x_sipush (v := nI 256) cx dL_act_298 (by decide) ?_
          refine x_irem cx dL_act_301 (by decide) ?_
          refine x_eqi (pk_rem (by omega) (by omega) (by omega)) ?_
          refine x_Vi (C := RX6) (T := TX6) (N := 6) (rest := []) cx (c_X6_exchange l G _ hkU _ _) gV_L_59 ndX6_exchange rfl ⟨Nat.le_of_ble_eq_true rfl, Nat.le_of_ble_eq_true rfl⟩ (zok_7 (by decide)) (by decide) (p_SC) rfl rfl rfl (Nat.le_of_ble_eq_true rfl) dL_act_302 ⟨Nat.le_of_ble_eq_true rfl, Nat.le_of_ble_eq_true rfl⟩ ?_
          have heU : eArg (U 0) (nI ch) (nI (((x / 16) / 6) % 256)) 255 = 0 := by rw [hU0]; exact he
          refine x_eqi (okE heU) ?_
          refine x_eqi (show zExchO (U 0) (tn (nI ch)) (nI (((x / 16) / 6) % 256)) = nI ex by rw [tn_n (by omega), hU0]; exact eex) ?_
          refine x_S (okS heU) ?_
          refine x_S (show up (zRec U) 0 (zExch (U 0) (tn (nI ch)) (nI (((x / 16) / 6) % 256))) = up (zRec U) 0 (zExch (S 0) ch (nI (((x / 16) / 6) % 256))) by rw [tn_n (by omega), hU0]) ?_
          have hokT : XOK (zExch (S 0) ch (nI (((x / 16) / 6) % 256))) := XOK_exch hX
          refine x_nm fun T hT => ?_
          have hT0 : T 0 = zExch (S 0) ch (nI (((x / 16) / 6) % 256)) := by rw [hT]; exact up_same _ _ _
          have hkT : kWF T := by rw [hT]; exact (kWF_rec hkU hokT.1).1
          have hXT : XOK (T 0) := by rw [hT0]; exact hokT
          have hsT : stt (T 0) = 1 := by rw [hT0]; exact stt_exch hX.1
          refine x_istore (ls' := [_, _, _, _, _, _, _, _]) cx dL_act_305 (by decide) rfl ?_
          refine x_iload cx dL_act_307 rfl ?_
          refine x_iload cx dL_act_309 rfl ?_
          refine x_icmp_ne_f (tgt := 347) cx dL_act_311 (by decide) (nI_ig (by omega)) ?_
          refine x_iload cx dL_act_314 rfl ?_
          refine x_if_ne_t (tgt := 328) cx dL_act_316 (by decide) (nI_ne0 (by omega) (by omega)) ?_
          refine x_iload cx dL_act_328 rfl ?_
          refine x_if_lt_f (tgt := 347) cx dL_act_330 (by decide) (nI_pos (by omega)) ?_
          refine x_aload_n cx dL_act_333 rfl rfl ?_
          refine x_iconst (v := nI 2) cx dL_act_334 (by decide) ?_
          refine x_Vi (C := RX6) (T := TX6) (N := 6) (rest := []) cx (c_X6_count l G _ hkT _) gV_L_14 ndX6_count rfl ⟨Nat.le_of_ble_eq_true rfl, Nat.le_of_ble_eq_true rfl⟩ (zok_7 (by decide)) (by decide) (p_SC) rfl rfl rfl (Nat.le_of_ble_eq_true rfl) dL_act_335 ⟨Nat.le_of_ble_eq_true rfl, Nat.le_of_ble_eq_true rfl⟩ ?_
          refine x_eqi (cn2 hkT.1) ?_
          refine x_iconst (v := nI 1) cx dL_act_338 (by decide) ?_
          refine x_icmp_ne_f (tgt := 347) cx dL_act_339 (by decide) (nI_ig (by omega)) ?_
          refine x_iload cx dL_act_342 rfl ?_
          refine x_goto (tgt := 349) cx dL_act_344 (by decide) ?_
          exact x_iretE cx hr (Act_yes1 (Z := zExch (zCopy (S 1) (S 0)) (tn (nI ch)) (nI (((x / 16) / 6) % 256))) rfl (by omega) hokT (by rw [hT, hU])) dL_act_349
    by_cases hn0 : num (S 0) = 0
    · refine x_if_ne_f (tgt := 197) cx dL_act_190 (by decide) (nI_ig (b := 0) (by omega)) ?_
      refine x_iconst (v := nI 0) cx dL_act_193 (by decide) ?_
      refine x_goto (tgt := 201) cx dL_act_194 (by decide) ?_
      exact K201 0 (fun z => absurd hn0 z) (fun _ => rfl) (by decide)
    · have hym := Nat.mod_lt (x / 16) (show num (S 0) > 0 by omega)
      refine x_if_ne_t (tgt := 197) cx dL_act_190 (by decide) (nI_ne0 (by omega) (by omega)) ?_
      refine x_iload_n cx dL_act_197 rfl rfl ?_
      refine x_iload cx dL_act_198 rfl ?_
      refine x_irem cx dL_act_200 (nI_ne0 (by omega) (by omega)) ?_
      refine x_eqi (pk_rem (by omega) (by omega) (by omega)) ?_
      exact K201 _ (fun _ => hym) (fun z => absurd z hn0) (by omega)

