set_option maxHeartbeats 1000000 in
set_option maxRecDepth 100000 in
theorem law_c12 {p : Program} {e : Env} {s : State} {m : MethodId} {below : List Frame} {meth : Method} {c : Code} (l : Launch) {G : zG} {b L : Nat} {xs : Nat → Int32} (hL : L ≤ 2048) (cx : Cx p s m #[.ref b] meth c cL_law 8 RL G) (hX : va_X b L xs s s.heap) (hbl : b < s.heap.size) (hG : G.2.2 = s.heap.size) {i : Nat} {S : zS} (hi : i + 3 < L) (h : Sim S) (ih : ∀ S : zS, Sim S → Xh p l e room_1 s m #[.ref b] below meth c 8 G (lw_Z below #[.ref b] s) 75 1179 75 (pic G S) 18 [some (.ref b), some (.ref (zad G 7 0)), some (.ref (zad G 8 0)), some (.int (nI (i + 4))), none, none, none, none] []) : Xh p l e room_1 s m #[.ref b] below meth c 8 G (lw_Z below #[.ref b] s) 75 1179 75 (pic G S) 476 [some (.ref b), some (.ref (zad G 7 0)), some (.ref (zad G 8 0)), some (.int (nI i)), none, none, none, none] [] := by
  have hk7 := Sim_k h
  have hq := Sim_q h
  have hW : zWF (S 0) := hk7.1
  obtain ⟨L0, hL7, hL15, hL80, hLt⟩ := Sim_L h
  refine x_aload_n cx dL_law_476 rfl rfl ?_
  refine x_Vi (C := RX6) (T := TX6) (N := 6) (rest := []) cx (c_X6_run l G _ hk7 L0 hL7 hL80) gV_L_66 ndX6_run rfl ⟨Nat.le_of_ble_eq_true rfl, Nat.le_of_ble_eq_true rfl⟩ (zok_7 (by decide)) (by decide) (p_SC) rfl rfl rfl (Nat.le_of_ble_eq_true rfl) dL_law_477 ⟨Nat.le_of_ble_eq_true rfl, Nat.le_of_ble_eq_true rfl⟩ ?_
  refine x_kp (S := S) (kp8_if (kp8_up (by decide) (kp8_rec hk7.2.1)) kp8_rf) (fun S1 hS1 hk => ?_)
  refine x_aload_n cx dL_law_480 rfl rfl ?_
  refine x_Vi (C := RX7) (T := TX7) (N := 9) (rest := [_]) cx (c_X7_run l G _ (kp8_W h hk) (hsz S) (kp8_hs h hk) (Sim_hs h).2 L0 (by rw [hk 15 (by decide)]; exact hL15) hL80) gV_L_69 ndX7_run rfl ⟨Nat.le_of_ble_eq_true rfl, Nat.le_of_ble_eq_true rfl⟩ (zok_8 (by decide)) (by decide) (p_M) rfl rfl rfl (Nat.le_of_ble_eq_true rfl) dL_law_481 ⟨Nat.le_of_ble_eq_true rfl, Nat.le_of_ble_eq_true rfl⟩ ?_
  refine x_icmp_eq_t (tgt := 752) cx dL_law_484 (by decide) (by rw [hk 8 (by decide), hk 15 (by decide)]; exact A_run h hL80 hLt) ?_
  refine x_iinc (v := nI (i + 4)) (ls' := [_, _, _, _, _, _, _, _]) cx dL_law_752 rfl (nI_add i 4) (by decide) rfl ?_
  refine x_goto (tgt := 18) cx dL_law_755 (by decide) ?_
  exact ih _ (sim_run h hL80 hLt hk hS1)

set_option maxHeartbeats 1000000 in
set_option maxRecDepth 100000 in
theorem law_c13 {p : Program} {e : Env} {s : State} {m : MethodId} {below : List Frame} {meth : Method} {c : Code} (l : Launch) {G : zG} {b L : Nat} {xs : Nat → Int32} (hL : L ≤ 2048) (cx : Cx p s m #[.ref b] meth c cL_law 8 RL G) (hX : va_X b L xs s s.heap) (hbl : b < s.heap.size) (hG : G.2.2 = s.heap.size) {i : Nat} {S : zS} (hi : i + 3 < L) (h : Sim S) (ih : ∀ S : zS, Sim S → Xh p l e room_1 s m #[.ref b] below meth c 8 G (lw_Z below #[.ref b] s) 75 1179 75 (pic G S) 18 [some (.ref b), some (.ref (zad G 7 0)), some (.ref (zad G 8 0)), some (.int (nI (i + 4))), none, none, none, none] []) : Xh p l e room_1 s m #[.ref b] below meth c 8 G (lw_Z below #[.ref b] s) 75 1179 75 (pic G S) 489 [some (.ref b), some (.ref (zad G 7 0)), some (.ref (zad G 8 0)), some (.int (nI i)), none, none, none, none] [] := by
  have hk7 := Sim_k h
  have hq := Sim_q h
  have hW : zWF (S 0) := hk7.1
  obtain ⟨L0, hL7, hL15, hL80, hLt⟩ := Sim_L h
  refine x_aload_n cx dL_law_489 rfl rfl ?_
  refine x_Vi (C := RX6) (T := TX6) (N := 6) (rest := []) cx (c_X6_undo l G _ hk7) gV_L_70 ndX6_undo rfl ⟨Nat.le_of_ble_eq_true rfl, Nat.le_of_ble_eq_true rfl⟩ (zok_7 (by decide)) (by decide) (p_SC) rfl rfl rfl (Nat.le_of_ble_eq_true rfl) dL_law_490 ⟨Nat.le_of_ble_eq_true rfl, Nat.le_of_ble_eq_true rfl⟩ ?_
  refine x_kp (S := S) (kp8_if kp8_rf kp8_back) (fun S1 hS1 hk => ?_)
  refine x_aload_n cx dL_law_493 rfl rfl ?_
  refine x_Vi (C := RX7) (T := TX7) (N := 9) (rest := [_]) cx (c_X7_undo l G _ (hsz S) (kp8_hs h hk) (Sim_hs h).2) gV_L_73 ndX7_undo rfl ⟨Nat.le_of_ble_eq_true rfl, Nat.le_of_ble_eq_true rfl⟩ (zok_8 (by decide)) (by decide) (p_M) rfl rfl rfl (Nat.le_of_ble_eq_true rfl) dL_law_494 ⟨Nat.le_of_ble_eq_true rfl, Nat.le_of_ble_eq_true rfl⟩ ?_
  refine x_icmp_eq_t (tgt := 752) cx dL_law_497 (by decide) (A_undo h hk) ?_
  refine x_iinc (v := nI (i + 4)) (ls' := [_, _, _, _, _, _, _, _]) cx dL_law_752 rfl (nI_add i 4) (by decide) rfl ?_
  refine x_goto (tgt := 18) cx dL_law_755 (by decide) ?_
  exact ih _ (sim_undo h hS1)

set_option maxHeartbeats 1000000 in
set_option maxRecDepth 100000 in
theorem law_c14 {p : Program} {e : Env} {s : State} {m : MethodId} {below : List Frame} {meth : Method} {c : Code} (l : Launch) {G : zG} {b L : Nat} {xs : Nat → Int32} (hL : L ≤ 2048) (cx : Cx p s m #[.ref b] meth c cL_law 8 RL G) (hX : va_X b L xs s s.heap) (hbl : b < s.heap.size) (hG : G.2.2 = s.heap.size) {i : Nat} {S : zS} (hi : i + 3 < L) (h : Sim S) (ih : ∀ S : zS, Sim S → Xh p l e room_1 s m #[.ref b] below meth c 8 G (lw_Z below #[.ref b] s) 75 1179 75 (pic G S) 18 [some (.ref b), some (.ref (zad G 7 0)), some (.ref (zad G 8 0)), some (.int (nI (i + 4))), none, none, none, none] []) : Xh p l e room_1 s m #[.ref b] below meth c 8 G (lw_Z below #[.ref b] s) 75 1179 75 (pic G S) 502 [some (.ref b), some (.ref (zad G 7 0)), some (.ref (zad G 8 0)), some (.int (nI i)), none, none, none, none] [] := by
  have hk7 := Sim_k h
  have hq := Sim_q h
  have hW : zWF (S 0) := hk7.1
  obtain ⟨L0, hL7, hL15, hL80, hLt⟩ := Sim_L h
  refine x_aload_n cx dL_law_502 rfl rfl ?_
  refine x_Vi (C := RX6) (T := TX6) (N := 6) (rest := []) cx (c_X6_save l G _ hk7) gV_L_74 ndX6_save rfl ⟨Nat.le_of_ble_eq_true rfl, Nat.le_of_ble_eq_true rfl⟩ (zok_7 (by decide)) (by decide) (p_SC) rfl rfl rfl (Nat.le_of_ble_eq_true rfl) dL_law_503 ⟨Nat.le_of_ble_eq_true rfl, Nat.le_of_ble_eq_true rfl⟩ ?_
  refine x_kp (S := S) (kp8_up (by decide) (kp8_up (by decide) kp8_rf)) (fun S1 hS1 hk => ?_)
  refine x_aload_n cx dL_law_506 rfl rfl ?_
  refine x_Vi (C := RX7) (T := TX7) (N := 9) (rest := [_]) cx (c_X7_save l G _) gV_L_77 ndX7_save rfl ⟨Nat.le_of_ble_eq_true rfl, Nat.le_of_ble_eq_true rfl⟩ (zok_8 (by decide)) (by decide) (p_M) rfl rfl rfl (Nat.le_of_ble_eq_true rfl) dL_law_507 ⟨Nat.le_of_ble_eq_true rfl, Nat.le_of_ble_eq_true rfl⟩ ?_
  refine x_icmp_eq_t (tgt := 752) cx dL_law_510 (by decide) (by rw [hk 8 (by decide), hq.1]) ?_
  refine x_iinc (v := nI (i + 4)) (ls' := [_, _, _, _, _, _, _, _]) cx dL_law_752 rfl (nI_add i 4) (by decide) rfl ?_
  refine x_goto (tgt := 18) cx dL_law_755 (by decide) ?_
  exact ih _ (sim_save h hS1)

set_option maxHeartbeats 1000000 in
set_option maxRecDepth 100000 in
theorem law_c15 {p : Program} {e : Env} {s : State} {m : MethodId} {below : List Frame} {meth : Method} {c : Code} (l : Launch) {G : zG} {b L : Nat} {xs : Nat → Int32} (hL : L ≤ 2048) (cx : Cx p s m #[.ref b] meth c cL_law 8 RL G) (hX : va_X b L xs s s.heap) (hbl : b < s.heap.size) (hG : G.2.2 = s.heap.size) {i : Nat} {S : zS} (hi : i + 3 < L) (h : Sim S) (ih : ∀ S : zS, Sim S → Xh p l e room_1 s m #[.ref b] below meth c 8 G (lw_Z below #[.ref b] s) 75 1179 75 (pic G S) 18 [some (.ref b), some (.ref (zad G 7 0)), some (.ref (zad G 8 0)), some (.int (nI (i + 4))), none, none, none, none] []) : Xh p l e room_1 s m #[.ref b] below meth c 8 G (lw_Z below #[.ref b] s) 75 1179 75 (pic G S) 515 [some (.ref b), some (.ref (zad G 7 0)), some (.ref (zad G 8 0)), some (.int (nI i)), none, none, none, none] [] := by
  have hk7 := Sim_k h
  have hq := Sim_q h
  have hW : zWF (S 0) := hk7.1
  obtain ⟨L0, hL7, hL15, hL80, hLt⟩ := Sim_L h
  refine x_aload_n cx dL_law_515 rfl rfl ?_
  refine x_Vi (C := RX6) (T := TX6) (N := 6) (rest := []) cx (c_X6_restore l G _ hk7) gV_L_78 ndX6_restore rfl ⟨Nat.le_of_ble_eq_true rfl, Nat.le_of_ble_eq_true rfl⟩ (zok_7 (by decide)) (by decide) (p_SC) rfl rfl rfl (Nat.le_of_ble_eq_true rfl) dL_law_516 ⟨Nat.le_of_ble_eq_true rfl, Nat.le_of_ble_eq_true rfl⟩ ?_
  refine x_kp (S := S) (kp8_if kp8_rf (kp8_up (by decide) (kp8_rec hk7.2.1))) (fun S1 hS1 hk => ?_)
  refine x_aload_n cx dL_law_519 rfl rfl ?_
  refine x_Vi (C := RX7) (T := TX7) (N := 9) (rest := [_]) cx (c_X7_restore l G _ (hsz S) (kp8_hs h hk) (Sim_hs h).2) gV_L_81 ndX7_restore rfl ⟨Nat.le_of_ble_eq_true rfl, Nat.le_of_ble_eq_true rfl⟩ (zok_8 (by decide)) (by decide) (p_M) rfl rfl rfl (Nat.le_of_ble_eq_true rfl) dL_law_520 ⟨Nat.le_of_ble_eq_true rfl, Nat.le_of_ble_eq_true rfl⟩ ?_
  refine x_icmp_eq_t (tgt := 752) cx dL_law_523 (by decide) (A_restore h hk) ?_
  refine x_iinc (v := nI (i + 4)) (ls' := [_, _, _, _, _, _, _, _]) cx dL_law_752 rfl (nI_add i 4) (by decide) rfl ?_
  refine x_goto (tgt := 18) cx dL_law_755 (by decide) ?_
  exact ih _ (sim_restore h hS1)

set_option maxHeartbeats 1000000 in
set_option maxRecDepth 100000 in
theorem law_c16 {p : Program} {e : Env} {s : State} {m : MethodId} {below : List Frame} {meth : Method} {c : Code} (l : Launch) {G : zG} {b L : Nat} {xs : Nat → Int32} (hL : L ≤ 2048) (cx : Cx p s m #[.ref b] meth c cL_law 8 RL G) (hX : va_X b L xs s s.heap) (hbl : b < s.heap.size) (hG : G.2.2 = s.heap.size) {i : Nat} {S : zS} (hi : i + 3 < L) (h : Sim S) (ih : ∀ S : zS, Sim S → Xh p l e room_1 s m #[.ref b] below meth c 8 G (lw_Z below #[.ref b] s) 75 1179 75 (pic G S) 18 [some (.ref b), some (.ref (zad G 7 0)), some (.ref (zad G 8 0)), some (.int (nI (i + 4))), none, none, none, none] []) : Xh p l e room_1 s m #[.ref b] below meth c 8 G (lw_Z below #[.ref b] s) 75 1179 75 (pic G S) 528 [some (.ref b), some (.ref (zad G 7 0)), some (.ref (zad G 8 0)), some (.int (nI i)), none, none, none, none] [] := by
  have hk7 := Sim_k h
  have hq := Sim_q h
  have hW : zWF (S 0) := hk7.1
  obtain ⟨L0, hL7, hL15, hL80, hLt⟩ := Sim_L h
  refine x_aload_n cx dL_law_528 rfl rfl ?_
  refine x_aload_n cx dL_law_529 rfl rfl ?_
  refine x_iload_n cx dL_law_530 rfl rfl ?_
  refine x_iconst (v := 1) cx dL_law_531 (by decide) ?_
  refine x_iadd cx dL_law_532 ?_
  refine x_eqi (nI_add i 1) ?_
  refine x_sld (t := (i + 1)) cx hX hbl hG rfl (by omega) hL dL_law_533 ?_
  refine x_aload_n cx dL_law_534 rfl rfl ?_
  refine x_iload_n cx dL_law_535 rfl rfl ?_
  refine x_iconst (v := 2) cx dL_law_536 (by decide) ?_
  refine x_iadd cx dL_law_537 ?_
  refine x_eqi (nI_add i 2) ?_
  refine x_sld (t := (i + 2)) cx hX hbl hG rfl (by omega) hL dL_law_538 ?_
  refine x_Vi (C := RX6) (T := TX6) (N := 6) (rest := []) cx (c_X6_chip l G _ hk7 _ _) gV_L_82 ndX6_chip rfl ⟨Nat.le_of_ble_eq_true rfl, Nat.le_of_ble_eq_true rfl⟩ (zok_7 (by decide)) (by decide) (p_SC) rfl rfl rfl (Nat.le_of_ble_eq_true rfl) dL_law_539 ⟨Nat.le_of_ble_eq_true rfl, Nat.le_of_ble_eq_true rfl⟩ ?_
  refine x_kp (S := S) kp8_rf (fun S1 hS1 hk => ?_)
  refine x_aload_n cx dL_law_542 rfl rfl ?_
  refine x_aload_n cx dL_law_543 rfl rfl ?_
  refine x_iload_n cx dL_law_544 rfl rfl ?_
  refine x_iconst (v := 1) cx dL_law_545 (by decide) ?_
  refine x_iadd cx dL_law_546 ?_
  refine x_eqi (nI_add i 1) ?_
  refine x_sld (t := (i + 1)) cx hX hbl hG rfl (by omega) hL dL_law_547 ?_
  refine x_aload_n cx dL_law_548 rfl rfl ?_
  refine x_iload_n cx dL_law_549 rfl rfl ?_
  refine x_iconst (v := 2) cx dL_law_550 (by decide) ?_
  refine x_iadd cx dL_law_551 ?_
  refine x_eqi (nI_add i 2) ?_
  refine x_sld (t := (i + 2)) cx hX hbl hG rfl (by omega) hL dL_law_552 ?_
  refine x_Vi (C := RX7) (T := TX7) (N := 9) (rest := [_]) cx (c_X7_chip l G _ (kp8_W h hk) (hsz S) (kp8_hs h hk) (Sim_hs h).2 _ _) gV_L_85 ndX7_chip rfl ⟨Nat.le_of_ble_eq_true rfl, Nat.le_of_ble_eq_true rfl⟩ (zok_8 (by decide)) (by decide) (p_M) rfl rfl rfl (Nat.le_of_ble_eq_true rfl) dL_law_553 ⟨Nat.le_of_ble_eq_true rfl, Nat.le_of_ble_eq_true rfl⟩ ?_
  refine x_icmp_eq_t (tgt := 752) cx dL_law_556 (by decide) (by rw [hk 8 (by decide), Qtell hq hW]) ?_
  refine x_iinc (v := nI (i + 4)) (ls' := [_, _, _, _, _, _, _, _]) cx dL_law_752 rfl (nI_add i 4) (by decide) rfl ?_
  refine x_goto (tgt := 18) cx dL_law_755 (by decide) ?_
  exact ih _ (by subst hS1; exact h)

set_option maxHeartbeats 1000000 in
set_option maxRecDepth 100000 in
theorem law_c17 {p : Program} {e : Env} {s : State} {m : MethodId} {below : List Frame} {meth : Method} {c : Code} (l : Launch) {G : zG} {b L : Nat} {xs : Nat → Int32} (hL : L ≤ 2048) (cx : Cx p s m #[.ref b] meth c cL_law 8 RL G) (hX : va_X b L xs s s.heap) (hbl : b < s.heap.size) (hG : G.2.2 = s.heap.size) {i : Nat} {S : zS} (hi : i + 3 < L) (h : Sim S) (ih : ∀ S : zS, Sim S → Xh p l e room_1 s m #[.ref b] below meth c 8 G (lw_Z below #[.ref b] s) 75 1179 75 (pic G S) 18 [some (.ref b), some (.ref (zad G 7 0)), some (.ref (zad G 8 0)), some (.int (nI (i + 4))), none, none, none, none] []) : Xh p l e room_1 s m #[.ref b] below meth c 8 G (lw_Z below #[.ref b] s) 75 1179 75 (pic G S) 561 [some (.ref b), some (.ref (zad G 7 0)), some (.ref (zad G 8 0)), some (.int (nI i)), none, none, none, none] [] := by
  have hk7 := Sim_k h
  have hq := Sim_q h
  have hW : zWF (S 0) := hk7.1
  obtain ⟨L0, hL7, hL15, hL80, hLt⟩ := Sim_L h
  refine x_aload_n cx dL_law_561 rfl rfl ?_
  refine x_aload_n cx dL_law_562 rfl rfl ?_
  refine x_iload_n cx dL_law_563 rfl rfl ?_
  refine x_iconst (v := 1) cx dL_law_564 (by decide) ?_
  refine x_iadd cx dL_law_565 ?_
  refine x_eqi (nI_add i 1) ?_
  refine x_sld (t := (i + 1)) cx hX hbl hG rfl (by omega) hL dL_law_566 ?_
  refine x_Vi (C := RX6) (T := TX6) (N := 6) (rest := []) cx (c_X6_count l G _ hk7 _) gV_L_86 ndX6_count rfl ⟨Nat.le_of_ble_eq_true rfl, Nat.le_of_ble_eq_true rfl⟩ (zok_7 (by decide)) (by decide) (p_SC) rfl rfl rfl (Nat.le_of_ble_eq_true rfl) dL_law_567 ⟨Nat.le_of_ble_eq_true rfl, Nat.le_of_ble_eq_true rfl⟩ ?_
  refine x_kp (S := S) kp8_rf (fun S1 hS1 hk => ?_)
  refine x_aload_n cx dL_law_570 rfl rfl ?_
  refine x_aload_n cx dL_law_571 rfl rfl ?_
  refine x_iload_n cx dL_law_572 rfl rfl ?_
  refine x_iconst (v := 1) cx dL_law_573 (by decide) ?_
  refine x_iadd cx dL_law_574 ?_
  refine x_eqi (nI_add i 1) ?_
  refine x_sld (t := (i + 1)) cx hX hbl hG rfl (by omega) hL dL_law_575 ?_
  refine x_Vi (C := RX7) (T := TX7) (N := 9) (rest := [_]) cx (c_X7_count l G _ (kp8_W h hk) (hsz S) (kp8_hs h hk) (Sim_hs h).2 _) gV_L_89 ndX7_count rfl ⟨Nat.le_of_ble_eq_true rfl, Nat.le_of_ble_eq_true rfl⟩ (zok_8 (by decide)) (by decide) (p_M) rfl rfl rfl (Nat.le_of_ble_eq_true rfl) dL_law_576 ⟨Nat.le_of_ble_eq_true rfl, Nat.le_of_ble_eq_true rfl⟩ ?_
  refine x_icmp_eq_t (tgt := 752) cx dL_law_579 (by decide) (by rw [hk 8 (by decide), hk 15 (by decide), h.2.2.1, h.2.2.2.2.2.2.1, Qcount hq]) ?_
  refine x_iinc (v := nI (i + 4)) (ls' := [_, _, _, _, _, _, _, _]) cx dL_law_752 rfl (nI_add i 4) (by decide) rfl ?_
  refine x_goto (tgt := 18) cx dL_law_755 (by decide) ?_
  exact ih _ (by subst hS1; exact h)

set_option maxHeartbeats 1000000 in
set_option maxRecDepth 100000 in
theorem law_c18 {p : Program} {e : Env} {s : State} {m : MethodId} {below : List Frame} {meth : Method} {c : Code} (l : Launch) {G : zG} {b L : Nat} {xs : Nat → Int32} (hL : L ≤ 2048) (cx : Cx p s m #[.ref b] meth c cL_law 8 RL G) (hX : va_X b L xs s s.heap) (hbl : b < s.heap.size) (hG : G.2.2 = s.heap.size) {i : Nat} {S : zS} (hi : i + 3 < L) (h : Sim S) (ih : ∀ S : zS, Sim S → Xh p l e room_1 s m #[.ref b] below meth c 8 G (lw_Z below #[.ref b] s) 75 1179 75 (pic G S) 18 [some (.ref b), some (.ref (zad G 7 0)), some (.ref (zad G 8 0)), some (.int (nI (i + 4))), none, none, none, none] []) : Xh p l e room_1 s m #[.ref b] below meth c 8 G (lw_Z below #[.ref b] s) 75 1179 75 (pic G S) 584 [some (.ref b), some (.ref (zad G 7 0)), some (.ref (zad G 8 0)), some (.int (nI i)), none, none, none, none] [] := by
  have hk7 := Sim_k h
  have hq := Sim_q h
  have hW : zWF (S 0) := hk7.1
  obtain ⟨L0, hL7, hL15, hL80, hLt⟩ := Sim_L h
  refine x_aload_n cx dL_law_584 rfl rfl ?_
  refine x_aload_n cx dL_law_585 rfl rfl ?_
  refine x_iload_n cx dL_law_586 rfl rfl ?_
  refine x_iconst (v := 1) cx dL_law_587 (by decide) ?_
  refine x_iadd cx dL_law_588 ?_
  refine x_eqi (nI_add i 1) ?_
  refine x_sld (t := (i + 1)) cx hX hbl hG rfl (by omega) hL dL_law_589 ?_
  refine x_Vi (C := RX6) (T := TX6) (N := 6) (rest := []) cx (c_X6_found l G _ hk7 _) gV_L_90 ndX6_found rfl ⟨Nat.le_of_ble_eq_true rfl, Nat.le_of_ble_eq_true rfl⟩ (zok_7 (by decide)) (by decide) (p_SC) rfl rfl rfl (Nat.le_of_ble_eq_true rfl) dL_law_590 ⟨Nat.le_of_ble_eq_true rfl, Nat.le_of_ble_eq_true rfl⟩ ?_
  refine x_kp (S := S) kp8_rf (fun S1 hS1 hk => ?_)
  refine x_aload_n cx dL_law_593 rfl rfl ?_
  refine x_aload_n cx dL_law_594 rfl rfl ?_
  refine x_iload_n cx dL_law_595 rfl rfl ?_
  refine x_iconst (v := 1) cx dL_law_596 (by decide) ?_
  refine x_iadd cx dL_law_597 ?_
  refine x_eqi (nI_add i 1) ?_
  refine x_sld (t := (i + 1)) cx hX hbl hG rfl (by omega) hL dL_law_598 ?_
  refine x_Vi (C := RX7) (T := TX7) (N := 9) (rest := [_]) cx (c_X7_found l G _ (kp8_W h hk) (hsz S) (kp8_hs h hk) (Sim_hs h).2 _) gV_L_93 ndX7_found rfl ⟨Nat.le_of_ble_eq_true rfl, Nat.le_of_ble_eq_true rfl⟩ (zok_8 (by decide)) (by decide) (p_M) rfl rfl rfl (Nat.le_of_ble_eq_true rfl) dL_law_599 ⟨Nat.le_of_ble_eq_true rfl, Nat.le_of_ble_eq_true rfl⟩ ?_
  refine x_icmp_eq_t (tgt := 752) cx dL_law_602 (by decide) (by rw [hk 8 (by decide), Qfound hq hW]) ?_
  refine x_iinc (v := nI (i + 4)) (ls' := [_, _, _, _, _, _, _, _]) cx dL_law_752 rfl (nI_add i 4) (by decide) rfl ?_
  refine x_goto (tgt := 18) cx dL_law_755 (by decide) ?_
  exact ih _ (by subst hS1; exact h)

set_option maxHeartbeats 1000000 in
set_option maxRecDepth 100000 in
theorem law_c19 {p : Program} {e : Env} {s : State} {m : MethodId} {below : List Frame} {meth : Method} {c : Code} (l : Launch) {G : zG} {b L : Nat} {xs : Nat → Int32} (hL : L ≤ 2048) (cx : Cx p s m #[.ref b] meth c cL_law 8 RL G) (hX : va_X b L xs s s.heap) (hbl : b < s.heap.size) (hG : G.2.2 = s.heap.size) {i : Nat} {S : zS} (hi : i + 3 < L) (h : Sim S) (ih : ∀ S : zS, Sim S → Xh p l e room_1 s m #[.ref b] below meth c 8 G (lw_Z below #[.ref b] s) 75 1179 75 (pic G S) 18 [some (.ref b), some (.ref (zad G 7 0)), some (.ref (zad G 8 0)), some (.int (nI (i + 4))), none, none, none, none] []) : Xh p l e room_1 s m #[.ref b] below meth c 8 G (lw_Z below #[.ref b] s) 75 1179 75 (pic G S) 607 [some (.ref b), some (.ref (zad G 7 0)), some (.ref (zad G 8 0)), some (.int (nI i)), none, none, none, none] [] := by
  have hk7 := Sim_k h
  have hq := Sim_q h
  have hW : zWF (S 0) := hk7.1
  obtain ⟨L0, hL7, hL15, hL80, hLt⟩ := Sim_L h
  refine x_aload_n cx dL_law_607 rfl rfl ?_
  refine x_aload_n cx dL_law_608 rfl rfl ?_
  refine x_iload_n cx dL_law_609 rfl rfl ?_
  refine x_iconst (v := 1) cx dL_law_610 (by decide) ?_
  refine x_iadd cx dL_law_611 ?_
  refine x_eqi (nI_add i 1) ?_
  refine x_sld (t := (i + 1)) cx hX hbl hG rfl (by omega) hL dL_law_612 ?_
  refine x_aload_n cx dL_law_613 rfl rfl ?_
  refine x_iload_n cx dL_law_614 rfl rfl ?_
  refine x_iconst (v := 2) cx dL_law_615 (by decide) ?_
  refine x_iadd cx dL_law_616 ?_
  refine x_eqi (nI_add i 2) ?_
  refine x_sld (t := (i + 2)) cx hX hbl hG rfl (by omega) hL dL_law_617 ?_
  refine x_Vi (C := RX6) (T := TX6) (N := 6) (rest := []) cx (c_X6_distance l G _ hk7 _ _) gV_L_94 ndX6_distance rfl ⟨Nat.le_of_ble_eq_true rfl, Nat.le_of_ble_eq_true rfl⟩ (zok_7 (by decide)) (by decide) (p_SC) rfl rfl rfl (Nat.le_of_ble_eq_true rfl) dL_law_618 ⟨Nat.le_of_ble_eq_true rfl, Nat.le_of_ble_eq_true rfl⟩ ?_
  refine x_kp (S := S) kp8_rf (fun S1 hS1 hk => ?_)
  refine x_aload_n cx dL_law_621 rfl rfl ?_
  refine x_aload_n cx dL_law_622 rfl rfl ?_
  refine x_iload_n cx dL_law_623 rfl rfl ?_
  refine x_iconst (v := 1) cx dL_law_624 (by decide) ?_
  refine x_iadd cx dL_law_625 ?_
  refine x_eqi (nI_add i 1) ?_
  refine x_sld (t := (i + 1)) cx hX hbl hG rfl (by omega) hL dL_law_626 ?_
  refine x_aload_n cx dL_law_627 rfl rfl ?_
  refine x_iload_n cx dL_law_628 rfl rfl ?_
  refine x_iconst (v := 2) cx dL_law_629 (by decide) ?_
  refine x_iadd cx dL_law_630 ?_
  refine x_eqi (nI_add i 2) ?_
  refine x_sld (t := (i + 2)) cx hX hbl hG rfl (by omega) hL dL_law_631 ?_
  refine x_Vi (C := RX7) (T := TX7) (N := 9) (rest := [_]) cx (c_X7_distance l G _ (kp8_W h hk) (hsz S) (kp8_hs h hk) (Sim_hs h).2 _ _) gV_L_97 ndX7_distance rfl ⟨Nat.le_of_ble_eq_true rfl, Nat.le_of_ble_eq_true rfl⟩ (zok_8 (by decide)) (by decide) (p_M) rfl rfl rfl (Nat.le_of_ble_eq_true rfl) dL_law_632 ⟨Nat.le_of_ble_eq_true rfl, Nat.le_of_ble_eq_true rfl⟩ ?_
  refine x_icmp_eq_t (tgt := 752) cx dL_law_635 (by decide) rfl ?_
  refine x_iinc (v := nI (i + 4)) (ls' := [_, _, _, _, _, _, _, _]) cx dL_law_752 rfl (nI_add i 4) (by decide) rfl ?_
  refine x_goto (tgt := 18) cx dL_law_755 (by decide) ?_
  exact ih _ (by subst hS1; (repeat' split) <;> first | exact h | exact sim_fr h _)

set_option maxHeartbeats 1000000 in
set_option maxRecDepth 100000 in
theorem law_c20 {p : Program} {e : Env} {s : State} {m : MethodId} {below : List Frame} {meth : Method} {c : Code} (l : Launch) {G : zG} {b L : Nat} {xs : Nat → Int32} (hL : L ≤ 2048) (cx : Cx p s m #[.ref b] meth c cL_law 8 RL G) (hX : va_X b L xs s s.heap) (hbl : b < s.heap.size) (hG : G.2.2 = s.heap.size) {i : Nat} {S : zS} (hi : i + 3 < L) (h : Sim S) (ih : ∀ S : zS, Sim S → Xh p l e room_1 s m #[.ref b] below meth c 8 G (lw_Z below #[.ref b] s) 75 1179 75 (pic G S) 18 [some (.ref b), some (.ref (zad G 7 0)), some (.ref (zad G 8 0)), some (.int (nI (i + 4))), none, none, none, none] []) : Xh p l e room_1 s m #[.ref b] below meth c 8 G (lw_Z below #[.ref b] s) 75 1179 75 (pic G S) 640 [some (.ref b), some (.ref (zad G 7 0)), some (.ref (zad G 8 0)), some (.int (nI i)), none, none, none, none] [] := by
  have hk7 := Sim_k h
  have hq := Sim_q h
  have hW : zWF (S 0) := hk7.1
  obtain ⟨L0, hL7, hL15, hL80, hLt⟩ := Sim_L h
  refine x_aload_n cx dL_law_640 rfl rfl ?_
  refine x_aload_n cx dL_law_641 rfl rfl ?_
  refine x_iload_n cx dL_law_642 rfl rfl ?_
  refine x_iconst (v := 1) cx dL_law_643 (by decide) ?_
  refine x_iadd cx dL_law_644 ?_
  refine x_eqi (nI_add i 1) ?_
  refine x_sld (t := (i + 1)) cx hX hbl hG rfl (by omega) hL dL_law_645 ?_
  refine x_Vi (C := RX6) (T := TX6) (N := 6) (rest := []) cx (c_X6_peek l G _ hk7 _) gV_L_98 ndX6_peek rfl ⟨Nat.le_of_ble_eq_true rfl, Nat.le_of_ble_eq_true rfl⟩ (zok_7 (by decide)) (by decide) (p_SC) rfl rfl rfl (Nat.le_of_ble_eq_true rfl) dL_law_646 ⟨Nat.le_of_ble_eq_true rfl, Nat.le_of_ble_eq_true rfl⟩ ?_
  refine x_kp (S := S) kp8_rf (fun S1 hS1 hk => ?_)
  refine x_aload_n cx dL_law_649 rfl rfl ?_
  refine x_aload_n cx dL_law_650 rfl rfl ?_
  refine x_iload_n cx dL_law_651 rfl rfl ?_
  refine x_iconst (v := 1) cx dL_law_652 (by decide) ?_
  refine x_iadd cx dL_law_653 ?_
  refine x_eqi (nI_add i 1) ?_
  refine x_sld (t := (i + 1)) cx hX hbl hG rfl (by omega) hL dL_law_654 ?_
  refine x_Vi (C := RX7) (T := TX7) (N := 9) (rest := [_]) cx (c_X7_peek l G _ (kp8_W h hk) (hsz S) (kp8_hs h hk) (Sim_hs h).2 _) gV_L_101 ndX7_peek rfl ⟨Nat.le_of_ble_eq_true rfl, Nat.le_of_ble_eq_true rfl⟩ (zok_8 (by decide)) (by decide) (p_M) rfl rfl rfl (Nat.le_of_ble_eq_true rfl) dL_law_655 ⟨Nat.le_of_ble_eq_true rfl, Nat.le_of_ble_eq_true rfl⟩ ?_
  refine x_icmp_eq_t (tgt := 752) cx dL_law_658 (by decide) (by rw [hk 8 (by decide), Qpeek hq]) ?_
  refine x_iinc (v := nI (i + 4)) (ls' := [_, _, _, _, _, _, _, _]) cx dL_law_752 rfl (nI_add i 4) (by decide) rfl ?_
  refine x_goto (tgt := 18) cx dL_law_755 (by decide) ?_
  exact ih _ (by subst hS1; exact h)

set_option maxHeartbeats 1000000 in
set_option maxRecDepth 100000 in
theorem law_c21 {p : Program} {e : Env} {s : State} {m : MethodId} {below : List Frame} {meth : Method} {c : Code} (l : Launch) {G : zG} {b L : Nat} {xs : Nat → Int32} (hL : L ≤ 2048) (cx : Cx p s m #[.ref b] meth c cL_law 8 RL G) (hX : va_X b L xs s s.heap) (hbl : b < s.heap.size) (hG : G.2.2 = s.heap.size) {i : Nat} {S : zS} (hi : i + 3 < L) (h : Sim S) (ih : ∀ S : zS, Sim S → Xh p l e room_1 s m #[.ref b] below meth c 8 G (lw_Z below #[.ref b] s) 75 1179 75 (pic G S) 18 [some (.ref b), some (.ref (zad G 7 0)), some (.ref (zad G 8 0)), some (.int (nI (i + 4))), none, none, none, none] []) : Xh p l e room_1 s m #[.ref b] below meth c 8 G (lw_Z below #[.ref b] s) 75 1179 75 (pic G S) 663 [some (.ref b), some (.ref (zad G 7 0)), some (.ref (zad G 8 0)), some (.int (nI i)), none, none, none, none] [] := by
  have hk7 := Sim_k h
  have hq := Sim_q h
  have hW : zWF (S 0) := hk7.1
  obtain ⟨L0, hL7, hL15, hL80, hLt⟩ := Sim_L h
  refine x_aload_n cx dL_law_663 rfl rfl ?_
  refine x_Vi (C := RX6) (T := TX6) (N := 6) (rest := []) cx (c_X6_ifIdentified l G _ hk7) gV_L_102 ndX6_ifIdentified rfl ⟨Nat.le_of_ble_eq_true rfl, Nat.le_of_ble_eq_true rfl⟩ (zok_7 (by decide)) (by decide) (p_SC) rfl rfl rfl (Nat.le_of_ble_eq_true rfl) dL_law_664 ⟨Nat.le_of_ble_eq_true rfl, Nat.le_of_ble_eq_true rfl⟩ ?_
  refine x_kp (S := S) (kp8_up (by decide) kp8_rf) (fun S1 hS1 hk => ?_)
  refine x_aload_n cx dL_law_667 rfl rfl ?_
  refine x_Vi (C := RX7) (T := TX7) (N := 9) (rest := [_]) cx (c_X7_ifIdentified l G _ (kp8_W h hk) (hsz S) (kp8_hs h hk) (Sim_hs h).2) gV_L_105 ndX7_ifIdentified rfl ⟨Nat.le_of_ble_eq_true rfl, Nat.le_of_ble_eq_true rfl⟩ (zok_8 (by decide)) (by decide) (p_M) rfl rfl rfl (Nat.le_of_ble_eq_true rfl) dL_law_668 ⟨Nat.le_of_ble_eq_true rfl, Nat.le_of_ble_eq_true rfl⟩ ?_
  refine x_icmp_eq_t (tgt := 752) cx dL_law_671 (by decide) (by rw [hk 8 (by decide), (Qident (Qcopy (Z := S 1) hq) (zCopy_WF hW)).1]) ?_
  refine x_iinc (v := nI (i + 4)) (ls' := [_, _, _, _, _, _, _, _]) cx dL_law_752 rfl (nI_add i 4) (by decide) rfl ?_
  refine x_goto (tgt := 18) cx dL_law_755 (by decide) ?_
  exact ih _ (by subst hS1; exact sim_sp (sim_1 h _) _)

set_option maxHeartbeats 1000000 in
set_option maxRecDepth 100000 in
theorem law_c22 {p : Program} {e : Env} {s : State} {m : MethodId} {below : List Frame} {meth : Method} {c : Code} (l : Launch) {G : zG} {b L : Nat} {xs : Nat → Int32} (hL : L ≤ 2048) (cx : Cx p s m #[.ref b] meth c cL_law 8 RL G) (hX : va_X b L xs s s.heap) (hbl : b < s.heap.size) (hG : G.2.2 = s.heap.size) {i : Nat} {S : zS} (hi : i + 3 < L) (h : Sim S) (ih : ∀ S : zS, Sim S → Xh p l e room_1 s m #[.ref b] below meth c 8 G (lw_Z below #[.ref b] s) 75 1179 75 (pic G S) 18 [some (.ref b), some (.ref (zad G 7 0)), some (.ref (zad G 8 0)), some (.int (nI (i + 4))), none, none, none, none] []) : Xh p l e room_1 s m #[.ref b] below meth c 8 G (lw_Z below #[.ref b] s) 75 1179 75 (pic G S) 676 [some (.ref b), some (.ref (zad G 7 0)), some (.ref (zad G 8 0)), some (.int (nI i)), none, none, none, none] [] := by
  have hk7 := Sim_k h
  have hq := Sim_q h
  have hW : zWF (S 0) := hk7.1
  obtain ⟨L0, hL7, hL15, hL80, hLt⟩ := Sim_L h
  refine x_aload_n cx dL_law_676 rfl rfl ?_
  refine x_aload_n cx dL_law_677 rfl rfl ?_
  refine x_iload_n cx dL_law_678 rfl rfl ?_
  refine x_iconst (v := 1) cx dL_law_679 (by decide) ?_
  refine x_iadd cx dL_law_680 ?_
  refine x_eqi (nI_add i 1) ?_
  refine x_sld (t := (i + 1)) cx hX hbl hG rfl (by omega) hL dL_law_681 ?_
  refine x_aload_n cx dL_law_682 rfl rfl ?_
  refine x_iload_n cx dL_law_683 rfl rfl ?_
  refine x_iconst (v := 2) cx dL_law_684 (by decide) ?_
  refine x_iadd cx dL_law_685 ?_
  refine x_eqi (nI_add i 2) ?_
  refine x_sld (t := (i + 2)) cx hX hbl hG rfl (by omega) hL dL_law_686 ?_
  refine x_Vi (C := RX6) (T := TX6) (N := 6) (rest := []) cx (c_X6_ifExchanged l G _ hk7 _ _) gV_L_106 ndX6_ifExchanged rfl ⟨Nat.le_of_ble_eq_true rfl, Nat.le_of_ble_eq_true rfl⟩ (zok_7 (by decide)) (by decide) (p_SC) rfl rfl rfl (Nat.le_of_ble_eq_true rfl) dL_law_687 ⟨Nat.le_of_ble_eq_true rfl, Nat.le_of_ble_eq_true rfl⟩ ?_
  refine x_kp (S := S) (kp8_if (kp8_up (by decide) kp8_rf) kp8_rf) (fun S1 hS1 hk => ?_)
  refine x_aload_n cx dL_law_690 rfl rfl ?_
  refine x_aload_n cx dL_law_691 rfl rfl ?_
  refine x_iload_n cx dL_law_692 rfl rfl ?_
  refine x_iconst (v := 1) cx dL_law_693 (by decide) ?_
  refine x_iadd cx dL_law_694 ?_
  refine x_eqi (nI_add i 1) ?_
  refine x_sld (t := (i + 1)) cx hX hbl hG rfl (by omega) hL dL_law_695 ?_
  refine x_aload_n cx dL_law_696 rfl rfl ?_
  refine x_iload_n cx dL_law_697 rfl rfl ?_
  refine x_iconst (v := 2) cx dL_law_698 (by decide) ?_
  refine x_iadd cx dL_law_699 ?_
  refine x_eqi (nI_add i 2) ?_
  refine x_sld (t := (i + 2)) cx hX hbl hG rfl (by omega) hL dL_law_700 ?_
  refine x_Vi (C := RX7) (T := TX7) (N := 9) (rest := [_]) cx (c_X7_ifExchanged l G _ (kp8_W h hk) (hsz S) (kp8_hs h hk) (Sim_hs h).2 _ _) gV_L_109 ndX7_ifExchanged rfl ⟨Nat.le_of_ble_eq_true rfl, Nat.le_of_ble_eq_true rfl⟩ (zok_8 (by decide)) (by decide) (p_M) rfl rfl rfl (Nat.le_of_ble_eq_true rfl) dL_law_701 ⟨Nat.le_of_ble_eq_true rfl, Nat.le_of_ble_eq_true rfl⟩ ?_
  refine x_icmp_eq_t (tgt := 752) cx dL_law_704 (by decide) (by rw [hk 8 (by decide), Qerr hq, QexchO (Qcopy (Z := S 1) hq)]) ?_
  refine x_iinc (v := nI (i + 4)) (ls' := [_, _, _, _, _, _, _, _]) cx dL_law_752 rfl (nI_add i 4) (by decide) rfl ?_
  refine x_goto (tgt := 18) cx dL_law_755 (by decide) ?_
  exact ih _ (by have hs1 : Sim S1 := (by rw [hS1]; split <;> first | exact sim_1 h _ | exact h); split <;> first | exact sim_sp hs1 _ | exact hs1)

set_option maxHeartbeats 1000000 in
set_option maxRecDepth 100000 in
theorem law_c23 {p : Program} {e : Env} {s : State} {m : MethodId} {below : List Frame} {meth : Method} {c : Code} (l : Launch) {G : zG} {b L : Nat} {xs : Nat → Int32} (hL : L ≤ 2048) (cx : Cx p s m #[.ref b] meth c cL_law 8 RL G) (hX : va_X b L xs s s.heap) (hbl : b < s.heap.size) (hG : G.2.2 = s.heap.size) {i : Nat} {S : zS} (hi : i + 3 < L) (h : Sim S) (ih : ∀ S : zS, Sim S → Xh p l e room_1 s m #[.ref b] below meth c 8 G (lw_Z below #[.ref b] s) 75 1179 75 (pic G S) 18 [some (.ref b), some (.ref (zad G 7 0)), some (.ref (zad G 8 0)), some (.int (nI (i + 4))), none, none, none, none] []) : Xh p l e room_1 s m #[.ref b] below meth c 8 G (lw_Z below #[.ref b] s) 75 1179 75 (pic G S) 709 [some (.ref b), some (.ref (zad G 7 0)), some (.ref (zad G 8 0)), some (.int (nI i)), none, none, none, none] [] := by
  have hk7 := Sim_k h
  have hq := Sim_q h
  have hW : zWF (S 0) := hk7.1
  obtain ⟨L0, hL7, hL15, hL80, hLt⟩ := Sim_L h
  refine x_aload_n cx dL_law_709 rfl rfl ?_
  refine x_Vf (C := RX6) (T := TX6) (N := 6) (rest := []) cx (c_X6_bypassed l G _ hk7) gV_L_110 ndX6_bypassed rfl ⟨Nat.le_of_ble_eq_true rfl, Nat.le_of_ble_eq_true rfl⟩ (zok_7 (by decide)) (by decide) (p_SC) rfl rfl rfl (Nat.le_of_ble_eq_true rfl) dL_law_710 ⟨Nat.le_of_ble_eq_true rfl, Nat.le_of_ble_eq_true rfl⟩ ?_
  exact x_law23 cx l hq hW h (ih S h)
