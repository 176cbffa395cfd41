set_option maxHeartbeats 4000000 in
set_option maxRecDepth 100000 in
/-- the worlds and the words at the law's entry -/
theorem law_cx {p : Program} {s : State} {m : MethodId} {meth : Method} {c : Code} {b L : Nat} {xs : Nat → Int32} (C0 : lw_At p s m meth c b L xs) : ∃ G : zG, G.2.2 = s.heap.size ∧ Cx p s m #[.ref b] meth c cL_law 16 RL G := by
  obtain ⟨hx, hb, hr, hml, hown, hts, hX, hbl, hlocks, hgv⟩ := id C0
  have htsW : ∀ w ∈ zW, w.before #[Value.ref b] s = true := fun w hw => hts w (List.mem_filter.mp hw).1
  have hA : ∀ a : Nat, a < s.heap.size → ¬ (fun q : Nat => s.heap.size ≤ q) a := fun a h => Nat.not_le.mpr h
  obtain ⟨c0, i0, k0⟩ := u_known (C := RX0) (T := TX0) (N := 6) (n := 6) htsW zinX0 (htsW _ zt22)
  obtain ⟨c1, i1, k1⟩ := u_known (C := RX1) (T := TX1) (N := 9) (n := 9) htsW zinX1 (htsW _ zt29)
  obtain ⟨c3, i3, k3⟩ := u_known (C := RX3) (T := TX3) (N := 2) (n := 2) htsW zinX3 (htsW _ zt99)
  obtain ⟨c5, i5, k5⟩ := u_known (C := RX5) (T := TX5) (N := 2) (n := 2) htsW zinX5 (htsW _ zt116)
  obtain ⟨c6, i6, k6⟩ := u_known (C := RX6) (T := TX6) (N := 6) (n := 6) htsW zinX6 (htsW _ zt14)
  obtain ⟨aI, kI, cI, f1, f2, f3⟩ := Cond.arrayClass_spec (htsW _ zt97)
  obtain ⟨aC, kC, cC, g1, g2, g3⟩ := Cond.arrayClass_spec (htsW _ zt131)
  have w1 : (Cond.arrayOver (.object "ScanChain$Chip")).before #[Value.ref b] s = true := hts _ (List.mem_of_getElem? (i := 28) (by decide +kernel))
  have w2 : (Cond.arrayOver (.object "ScanChain$Chain")).before #[Value.ref b] s = true := hts _ (List.mem_of_getElem? (i := 105) (by decide +kernel))
  obtain ⟨pP, aP, kP, p1, p2, p3, p4, p5⟩ := Cond.arrayOver_spec w1
  obtain ⟨pN, aN, kN, n1, n2, n3, n4, n5⟩ := Cond.arrayOver_spec w2
  let G : zG := ((fun k => match k with | 0 => c0 | 1 => c1 | 2 => c3 | 3 => c5 | _ => c6, fun k => match k with | 0 => i0 | 1 => i1 | 2 => i3 | 3 => i5 | _ => i6), fun k => match k with | 0 => aI | 1 => aC | 2 => aP | _ => aN, s.heap.size)
  have hs := flat_of_before _ hgv
  have hK : va_K G.1 vwCl (ztys G) s := by
    refine ⟨fun k q hq => ?_, fun k q hq => ?_⟩
    · match k, hq with
      | 0, hq => cases hq; exact k0
      | 1, hq => cases hq; exact k1
      | 2, hq => cases hq; exact k3
      | 3, hq => cases hq; exact k5
      | 4, hq => cases hq; exact k6
      | k + 5, hq => simp [vwCl] at hq
    · match k, hq with
      | 0, hq => cases hq; exact ⟨fun N z => ⟨(fun k h => by cases h), kI, f2, cI, f3⟩, f1⟩
      | 1, hq => cases hq; exact ⟨fun N z => ⟨(fun k h => by cases h), kC, g2, cC, g3⟩, g1⟩
      | 2, hq => cases hq; exact ⟨fun N z => ⟨(fun k h => by cases h), kP, p3, pP, p4⟩, kP, pP, p3, p4, p1, p5⟩
      | 3, hq => cases hq; exact ⟨fun N z => ⟨(fun k h => by cases h), kN, n3, pN, n4⟩, kN, pN, n3, n4, n1, n5⟩
      | k + 4, hq => simp [ztys] at hq
  have hN : ∀ w ∈ zNest, va_Nw w s := by
    intro w hw
    have ho := (zNest_ok w hw).1
    rw [zNest_in] at hw
    obtain ⟨i, -, hi⟩ := List.mem_filterMap.mp hw
    exact va_Nw.of ho (hts w (List.mem_of_getElem? hi))
  have hT0 : ∃ t, va_Z "ScanChain$Controller" "NEXT_BY_MODE_0" "[I" (.ref t) (zA G) s s.heap ∧ va_T .int t 16 (fun k => .int (zN0 k)) (zA G) s s.heap := by
    obtain ⟨t, ht, hT⟩ := va_Tof (tm := .static "ScanChain$Controller" "NEXT_BY_MODE_0" "[I") (ty := .int) (N := 16) (f := fun k => .int (zN0 k)) (A := zA G) (by decide) (hs _ (by decide +kernel)) (va_eqt (hs (.eq (.length (.static "ScanChain$Controller" "NEXT_BY_MODE_0" "[I")) (.int 16)) (by decide +kernel))) (fun j hj => by
      rcases (show j = 0 ∨ j = 1 ∨ j = 2 ∨ j = 3 ∨ j = 4 ∨ j = 5 ∨ j = 6 ∨ j = 7 ∨ j = 8 ∨ j = 9 ∨ j = 10 ∨ j = 11 ∨ j = 12 ∨ j = 13 ∨ j = 14 ∨ j = 15 by omega) with rfl | rfl | rfl | rfl | rfl | rfl | rfl | rfl | rfl | rfl | rfl | rfl | rfl | rfl | rfl | rfl
      all_goals exact va_eqt (hs _ (by decide +kernel))) hA
    exact ⟨t, va_Zref (hts _ (List.mem_of_getElem? (i := 375) (by decide +kernel))) (htsW _ zt11) ht hA, hT⟩
  have hT1 : ∃ t, va_Z "ScanChain$Controller" "NEXT_BY_MODE_1" "[I" (.ref t) (zA G) s s.heap ∧ va_T .int t 16 (fun k => .int (zN1 k)) (zA G) s s.heap := by
    obtain ⟨t, ht, hT⟩ := va_Tof (tm := .static "ScanChain$Controller" "NEXT_BY_MODE_1" "[I") (ty := .int) (N := 16) (f := fun k => .int (zN1 k)) (A := zA G) (by decide) (hs _ (by decide +kernel)) (va_eqt (hs (.eq (.length (.static "ScanChain$Controller" "NEXT_BY_MODE_1" "[I")) (.int 16)) (by decide +kernel))) (fun j hj => by
      rcases (show j = 0 ∨ j = 1 ∨ j = 2 ∨ j = 3 ∨ j = 4 ∨ j = 5 ∨ j = 6 ∨ j = 7 ∨ j = 8 ∨ j = 9 ∨ j = 10 ∨ j = 11 ∨ j = 12 ∨ j = 13 ∨ j = 14 ∨ j = 15 by omega) with rfl | rfl | rfl | rfl | rfl | rfl | rfl | rfl | rfl | rfl | rfl | rfl | rfl | rfl | rfl | rfl
      all_goals exact va_eqt (hs _ (by decide +kernel))) hA
    exact ⟨t, va_Zref (hts _ (List.mem_of_getElem? (i := 377) (by decide +kernel))) (htsW _ zt11) ht hA, hT⟩
  obtain ⟨t0, z0, y0⟩ := hT0
  obtain ⟨t1, z1, y1⟩ := hT1
  exact ⟨G, rfl, ⟨⟨hx, hb, hml, hown, htsW⟩, ⟨hK, hN, va_AO.of w1, va_AO.of w2⟩, ⟨t0, t1, ⟨z0, y0⟩, ⟨z1, y1⟩⟩, hlocks⟩⟩
set_option maxHeartbeats 4000000 in
set_option maxRecDepth 100000 in
theorem law_entry {p : Program} {e : Env} {s : State} {m : MethodId} {below : List Frame} {meth : Method} {c : Code} (l : Launch) {G : zG} {b L : Nat} {xs : Nat → Int32} (hL : L ≤ 260) (cx : Cx p s m #[.ref b] meth c cL_law 16 RL G) (hXs : va_X b L xs s s.heap) (hbl : b < s.heap.size) (hG : G.2.2 = s.heap.size) (hr : meth.sig.returnType = ret) : Xh p l e room_1 s m #[.ref b] below meth c 16 G (lw_Z below #[.ref b] s) 0 0 0 (pic G S0) 0 [some (.ref b), none, none, none, none, none, none, none, none, none, none, none, none, none, none, none] [] := by
  have hb2 : G.2.2 ≤ s.heap.size := Nat.le_of_eq hG
  refine x_newX6 (fs := [.null, .null, .null, .int 0, .null, .null]) (h2 := hset (pic G S0) 7 0 (.inr (4, [.null, .null, .null, .int 0, .null, .null]))) (i := 7) (j := 0) cx zt13 zt14 zt6 (zok_7 (by decide)) rfl df_X6 ⟨Nat.le_of_ble_eq_true rfl, Nat.le_of_ble_eq_true rfl⟩ hb2 (fun _ _ _ _ => rfl) dL_law_0 ?_
  refine x_dup cx dL_law_3 rfl ?_
  refine x_Iv (As := []) (rest := [_]) cx (c_X6_init l G (pic G S0) (fun i hi => F0_fresh hi) rfl rfl F0_2 rfl F0_4) (zG0 zt17) zt6 zt15 zt16 rfl ndX6_init ⟨Nat.le_of_ble_eq_true rfl, Nat.le_of_ble_eq_true rfl⟩ rfl rfl (Nat.le_of_ble_eq_true rfl) dL_law_4 ⟨Nat.le_of_ble_eq_true rfl, Nat.le_of_ble_eq_true rfl⟩ ?_
  refine x_astore_n (ls' := [_, _, _, _, _, _, _, _, _, _, _, _, _, _, _, _]) cx dL_law_7 rfl (by decide) rfl ?_
  refine x_aload_n cx dL_law_8 rfl rfl ?_
  refine x_Vi (C := RX6) (T := TX6) (N := 6) (rest := []) cx (c_X6_undo l G _ S0_kWF) gV_L_102 ndX6_undo rfl ⟨Nat.le_of_ble_eq_true rfl, Nat.le_of_ble_eq_true rfl⟩ (zok_7 (by decide)) (by decide) (p_SC) rfl rfl rfl (Nat.le_of_ble_eq_true rfl) dL_law_9 ⟨Nat.le_of_ble_eq_true rfl, Nat.le_of_ble_eq_true rfl⟩ ?_
  refine x_eqi (if_pos hsz_S0) ?_
  refine x_S (if_pos hsz_S0) ?_
  refine x_bipush (v := (-4)) cx dL_law_12 (by decide) ?_
  refine x_icmp_ne_f (tgt := 76) cx dL_law_14 (by decide) rfl ?_
  refine x_aload_n cx dL_law_17 rfl rfl ?_
  refine x_Vi (C := RX6) (T := TX6) (N := 6) (rest := []) cx (c_X6_restore l G _ S0_kWF) gV_L_105 ndX6_restore rfl ⟨Nat.le_of_ble_eq_true rfl, Nat.le_of_ble_eq_true rfl⟩ (zok_7 (by decide)) (by decide) (p_SC) rfl rfl rfl (Nat.le_of_ble_eq_true rfl) dL_law_18 ⟨Nat.le_of_ble_eq_true rfl, Nat.le_of_ble_eq_true rfl⟩ ?_
  refine x_eqi (if_pos rfl) ?_
  refine x_S (if_pos rfl) ?_
  refine x_iconst (v := (-1)) cx dL_law_21 (by decide) ?_
  refine x_icmp_ne_f (tgt := 76) cx dL_law_22 (by decide) rfl ?_
  refine x_aload_n cx dL_law_25 rfl rfl ?_
  refine x_iconst (v := nI 2) cx dL_law_26 (by decide) ?_
  refine x_Vi (C := RX6) (T := TX6) (N := 6) (rest := []) cx (c_X6_count l G _ S0_kWF _) gV_L_14 ndX6_count rfl ⟨Nat.le_of_ble_eq_true rfl, Nat.le_of_ble_eq_true rfl⟩ (zok_7 (by decide)) (by decide) (p_SC) rfl rfl rfl (Nat.le_of_ble_eq_true rfl) dL_law_27 ⟨Nat.le_of_ble_eq_true rfl, Nat.le_of_ble_eq_true rfl⟩ ?_
  refine x_eqi (cn2 S0_kWF.1) ?_
  refine x_if_ne_f (tgt := 76) cx dL_law_30 (by decide) (by decide) ?_
  refine x_aload_n cx dL_law_33 rfl rfl ?_
  refine x_iconst (v := nI 3) cx dL_law_34 (by decide) ?_
  refine x_Vi (C := RX6) (T := TX6) (N := 6) (rest := []) cx (c_X6_count l G _ S0_kWF _) gV_L_14 ndX6_count rfl ⟨Nat.le_of_ble_eq_true rfl, Nat.le_of_ble_eq_true rfl⟩ (zok_7 (by decide)) (by decide) (p_SC) rfl rfl rfl (Nat.le_of_ble_eq_true rfl) dL_law_35 ⟨Nat.le_of_ble_eq_true rfl, Nat.le_of_ble_eq_true rfl⟩ ?_
  refine x_eqi cn3 ?_
  refine x_if_ne_f (tgt := 76) cx dL_law_38 (by decide) (by decide) ?_
  refine x_aload_n cx dL_law_41 rfl rfl ?_
  refine x_iconst (v := nI 0) cx dL_law_42 (by decide) ?_
  refine x_Si (rest := []) cx (c_L_refuses l G _ S0_kWF rfl _ (by omega)) gS_L_108 ndL_refuses ⟨Nat.le_of_ble_eq_true rfl, Nat.le_of_ble_eq_true rfl⟩ rfl rfl (Nat.le_of_ble_eq_true rfl) dL_law_43 ⟨Nat.le_of_ble_eq_true rfl, Nat.le_of_ble_eq_true rfl⟩ ?_
  refine x_if_eq_f (tgt := 76) cx dL_law_46 (by decide) (by decide) ?_
  refine x_aload_n cx dL_law_49 rfl rfl ?_
  refine x_iconst (v := nI 1) cx dL_law_50 (by decide) ?_
  refine x_Si (rest := []) cx (c_L_refuses l G _ S0_kWF rfl _ (by omega)) gS_L_108 ndL_refuses ⟨Nat.le_of_ble_eq_true rfl, Nat.le_of_ble_eq_true rfl⟩ rfl rfl (Nat.le_of_ble_eq_true rfl) dL_law_51 ⟨Nat.le_of_ble_eq_true rfl, Nat.le_of_ble_eq_true rfl⟩ ?_
  refine x_if_eq_f (tgt := 76) cx dL_law_54 (by decide) (by decide) ?_
  refine x_aload_n cx dL_law_57 rfl rfl ?_
  refine x_iconst (v := nI 2) cx dL_law_58 (by decide) ?_
  refine x_Si (rest := []) cx (c_L_refuses l G _ S0_kWF rfl _ (by omega)) gS_L_108 ndL_refuses ⟨Nat.le_of_ble_eq_true rfl, Nat.le_of_ble_eq_true rfl⟩ rfl rfl (Nat.le_of_ble_eq_true rfl) dL_law_59 ⟨Nat.le_of_ble_eq_true rfl, Nat.le_of_ble_eq_true rfl⟩ ?_
  refine x_if_eq_f (tgt := 76) cx dL_law_62 (by decide) (by decide) ?_
  refine x_aload_n cx dL_law_65 rfl rfl ?_
  refine x_Vi (C := RX6) (T := TX6) (N := 6) (rest := []) cx (c_X6_save l G _ S0_kWF) gV_L_111 ndX6_save rfl ⟨Nat.le_of_ble_eq_true rfl, Nat.le_of_ble_eq_true rfl⟩ (zok_7 (by decide)) (by decide) (p_SC) rfl rfl rfl (Nat.le_of_ble_eq_true rfl) dL_law_66 ⟨Nat.le_of_ble_eq_true rfl, Nat.le_of_ble_eq_true rfl⟩ ?_
  refine x_eqi (show S0 0 0 0 = 0 from rfl) ?_
  refine x_nm fun Y hY => ?_
  obtain ⟨y1, y2, y3, y4⟩ := J_save S0_kWF S0_XOK rfl hY
  refine x_if_ne_f (tgt := 76) cx dL_law_69 (by decide) rfl ?_
  refine x_iconst (v := nI 1) cx dL_law_72 (by decide) ?_
  refine x_goto (tgt := 77) cx dL_law_73 (by decide) ?_
  refine x_istore_n (ls' := [_, _, _, _, _, _, _, _, _, _, _, _, _, _, _, _]) cx dL_law_77 rfl (by decide) rfl ?_
  refine x_aload_n cx dL_law_78 rfl rfl ?_
  refine x_Sl (rest := []) cx (c_L_seen l G _ y1.1) gS_L_81 ndL_seen ⟨Nat.le_of_ble_eq_true rfl, Nat.le_of_ble_eq_true rfl⟩ rfl rfl (Nat.le_of_ble_eq_true rfl) dL_law_79 ⟨Nat.le_of_ble_eq_true rfl, Nat.le_of_ble_eq_true rfl⟩ ?_
  refine x_lstore_n (ls' := [_, _, _, _, _, _, _, _, _, _, _, _, _, _, _, _]) cx dL_law_82 rfl (by decide) rfl ?_
  refine x_iconst (v := nI 0) cx dL_law_83 (by decide) ?_
  refine x_istore (ls' := [_, _, _, _, _, _, _, _, _, _, _, _, _, _, _, _]) cx dL_law_84 (by decide) rfl ?_
  refine x_iconst (v := nI 0) cx dL_law_86 (by decide) ?_
  refine x_istore (ls' := [_, _, _, _, _, _, _, _, _, _, _, _, _, _, _, _]) cx dL_law_87 (by decide) rfl ?_
  exact law_loop l hL cx hXs hbl hG hr 60 0 Y _ _ (by decide) y1 (by rw [y2, y4]) (by rw [y3]; rfl)
