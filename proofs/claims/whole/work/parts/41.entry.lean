set_option maxHeartbeats 4000000 in
set_option maxRecDepth 100000 in
theorem law_entry {p : Program} {e : Env} {s : State} {m : MethodId} {below : List Frame} {meth : Method} {c : Code} (l : Launch) {G : zG} {b L : Nat} {xs : Nat → Int32} (hL : L ≤ 2048) (cx : Cx p s m #[.ref b] meth c cL_law 8 RL G) (hX : va_X b L xs s s.heap) (hbl : b < s.heap.size) (hG : G.2.2 = s.heap.size) (hr : meth.sig.returnType = ret) : Xh p l e room_1 s m #[.ref b] below meth c 8 G (lw_Z below #[.ref b] s) 0 0 0 (pic G S0) 0 [some (.ref b), none, none, none, none, none, none, none] [] := by
  have hb2 : G.2.2 ≤ s.heap.size := Nat.le_of_eq hG
  refine x_newX6 (fs := [.null, .null, .null, .int 0, .null, .null]) (h2 := hset (pic G S0) 7 0 (.inr (4, [.null, .null, .null, .int 0, .null, .null]))) (i := 7) (j := 0) cx zt39 zt40 zt31 (zok_7 (by decide)) rfl df_X6 ⟨Nat.le_of_ble_eq_true rfl, Nat.le_of_ble_eq_true rfl⟩ hb2 (fun _ _ _ _ => rfl) dL_law_0 ?_
  refine x_dup cx dL_law_3 rfl ?_
  refine x_Iv (As := []) (rest := [_]) cx (c_X6_init l G (pic G S0) (fun i hi => F0_fresh hi) rfl rfl F0_2 rfl F0_4) (zG0 zt43) zt31 zt41 zt42 rfl ndX6_init ⟨Nat.le_of_ble_eq_true rfl, Nat.le_of_ble_eq_true rfl⟩ rfl rfl (Nat.le_of_ble_eq_true rfl) dL_law_4 ⟨Nat.le_of_ble_eq_true rfl, Nat.le_of_ble_eq_true rfl⟩ ?_
  refine x_astore_n (ls' := [some (.ref b), some (.ref (zad G 7 0)), none, none, none, none, none, none]) cx dL_law_7 rfl (by decide) rfl ?_
  refine x_newX7 (fs := [.null, .null, .null, .int 0, .null, .int 0, .null, .int 0, .null]) (h2 := hset (pic G S0) 8 0 (.inr (5, [.null, .null, .null, .int 0, .null, .int 0, .null, .int 0, .null]))) (i := 8) (j := 0) cx zt501 zt502 zt36 (zok_8 (by decide)) rfl df_X7 ⟨Nat.le_of_ble_eq_true rfl, Nat.le_of_ble_eq_true rfl⟩ hb2 (fun _ _ _ _ => rfl) dL_law_8 ?_
  refine x_dup cx dL_law_11 rfl ?_
  refine x_Iv (As := []) (rest := [_]) cx (c_X7_init l G (pic G S0) rfl F0_81 F0_82 F0_83 F0_84 F0_85 F0_86) (zG0 zt505) zt36 zt503 zt504 rfl ndX7_init ⟨Nat.le_of_ble_eq_true rfl, Nat.le_of_ble_eq_true rfl⟩ rfl rfl (Nat.le_of_ble_eq_true rfl) dL_law_12 ⟨Nat.le_of_ble_eq_true rfl, Nat.le_of_ble_eq_true rfl⟩ ?_
  refine x_astore_n (ls' := [some (.ref b), some (.ref (zad G 7 0)), some (.ref (zad G 8 0)), none, none, none, none, none]) cx dL_law_15 rfl (by decide) rfl ?_
  refine x_iconst (v := 0) cx dL_law_16 (by decide) ?_
  refine x_istore_n (ls' := [some (.ref b), some (.ref (zad G 7 0)), some (.ref (zad G 8 0)), some (.int (nI 0)), none, none, none, none]) cx dL_law_17 rfl (by decide) rfl ?_
  exact law_loop l hL cx hX hbl hG hr L 0 S0 (by omega) (by omega) S0_Sim
