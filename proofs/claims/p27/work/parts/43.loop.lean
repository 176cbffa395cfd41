set_option maxHeartbeats 4000000 in
set_option maxRecDepth 100000 in
theorem law_tail {p : Program} {e : Env} {s : State} {m : MethodId} {below : List Frame} {meth : Method} {c : Code} (l : Launch) {G : zG} {b L : Nat} {xs : Nat → Int32} (hL : L ≤ 260) (cx : Cx p s m #[.ref b] meth c cL_law 16 RL G) (hXs : va_X b L xs s s.heap) (hbl : b < s.heap.size) (hG : G.2.2 = s.heap.size) (hr : meth.sig.returnType = ret) {i : Nat} (hi : i < 60) {V : zS} {kp : Int64} {cp : Int32} (hJ : J V) (hkp : kp = zSeen (V 2)) (hcp : cp = V 2 0 0) (ih : ∀ (S : zS) (kp : Int64) (cp : Int32), J S → kp = zSeen (S 2) → cp = S 2 0 0 → Xh p l e room_1 s m #[.ref b] below meth c 16 G (lw_Z below #[.ref b] s) 68 612 68 (pic G S) 89 [some (.ref b), some (.ref (zad G 7 0)), some (.int (nI 1)), some (.long kp), none, some (.int (cp)), some (.int (nI (i + 1))), none, none, none, none, none, none, none, none, none] []) : Xh p l e room_1 s m #[.ref b] below meth c 16 G (lw_Z below #[.ref b] s) 68 612 68 (pic G V) 290 [some (.ref b), some (.ref (zad G 7 0)), some (.int (nI 1)), some (.long kp), none, some (.int (cp)), some (.int (nI i)), none, none, none, none, none, none, none, none, none] [] := by
  have h6 := hJ.1.1.n6
  have h1 : ¬ V 7 0 1 = 0 := by rw [hJ.2.2.2.1]; decide
  by_cases h15 : i % 15 = 14
  · refine x_iload_n cx dL_law_290 rfl rfl ?_
    refine x_if_eq_f (tgt := 374) cx dL_law_291 (by decide) (by decide) ?_
    refine x_iload cx dL_law_294 rfl ?_
    refine x_bipush (v := nI 15) cx dL_law_296 (by decide) ?_
    refine x_irem cx dL_law_298 (by decide) ?_
    refine x_eqi (pk_rem (by omega) (by omega) (by omega)) ?_
    refine x_bipush (v := nI 14) cx dL_law_299 (by decide) ?_
    refine x_icmp_ne_f (tgt := 374) cx dL_law_301 (by decide) (nI_ig (by omega)) ?_
    refine x_aload_n cx dL_law_304 rfl rfl ?_
    refine x_Sl (rest := []) cx (c_L_seen l G _ hJ.1) gS_L_81 ndL_seen ⟨Nat.le_of_ble_eq_true rfl, Nat.le_of_ble_eq_true rfl⟩ rfl rfl (Nat.le_of_ble_eq_true rfl) dL_law_305 ⟨Nat.le_of_ble_eq_true rfl, Nat.le_of_ble_eq_true rfl⟩ ?_
    refine x_lstore (ls' := [_, _, _, _, _, _, _, _, _, _, _, _, _, _, _, _]) cx dL_law_308 (by decide) rfl ?_
    refine x_aload_n cx dL_law_310 rfl rfl ?_
    refine x_iconst (v := nI 0) cx dL_law_311 (by decide) ?_
    refine x_Vi (C := RX6) (T := TX6) (N := 6) (rest := []) cx (c_X6_count l G _ hJ.1 _) gV_L_14 ndX6_count rfl ⟨Nat.le_of_ble_eq_true rfl, Nat.le_of_ble_eq_true rfl⟩ (zok_7 (by decide)) (by decide) (p_SC) rfl rfl rfl (Nat.le_of_ble_eq_true rfl) dL_law_312 ⟨Nat.le_of_ble_eq_true rfl, Nat.le_of_ble_eq_true rfl⟩ ?_
    refine x_eqi (cn0 hJ.1.1) ?_
    refine x_istore (ls' := [_, _, _, _, _, _, _, _, _, _, _, _, _, _, _, _]) cx dL_law_315 (by decide) rfl ?_
    refine x_aload_n cx dL_law_317 rfl rfl ?_
    refine x_Vi (C := RX6) (T := TX6) (N := 6) (rest := []) cx (c_X6_restore l G _ hJ.1) gV_L_105 ndX6_restore rfl ⟨Nat.le_of_ble_eq_true rfl, Nat.le_of_ble_eq_true rfl⟩ (zok_7 (by decide)) (by decide) (p_SC) rfl rfl rfl (Nat.le_of_ble_eq_true rfl) dL_law_318 ⟨Nat.le_of_ble_eq_true rfl, Nat.le_of_ble_eq_true rfl⟩ ?_
    refine x_eqi (if_neg h1) ?_
    refine x_S (if_neg h1) ?_
    refine x_nm fun W hW => ?_
    obtain ⟨w1, w2, w3, w4, w5, w6, w7, w8, w9⟩ := J_rec (T := W) hJ (XOK_copy (V 0) hJ.2.2.2.2) (Z := V 1) (by rw [up_self]; exact hW)
    have w10 := w1.1.2.1.1.2
    refine x_iload cx dL_law_321 rfl ?_
    refine x_icmp_ne_f (tgt := 365) cx dL_law_323 (by decide) hcp.symm ?_
    refine x_aload_n cx dL_law_326 rfl rfl ?_
    refine x_Sl (rest := []) cx (c_L_seen l G _ w1.1) gS_L_81 ndL_seen ⟨Nat.le_of_ble_eq_true rfl, Nat.le_of_ble_eq_true rfl⟩ rfl rfl (Nat.le_of_ble_eq_true rfl) dL_law_327 ⟨Nat.le_of_ble_eq_true rfl, Nat.le_of_ble_eq_true rfl⟩ ?_
    refine x_lload_n cx dL_law_330 rfl rfl ?_
    refine x_lcmp cx dL_law_331 ?_
    refine x_eqi (cmp_eq (show zSeen (W 0) = kp by rw [w2, hkp]; exact seen_Q (Qcopy (Qrf _)) (zCopy_WF hJ.2.2.2.2.1))) ?_
    refine x_if_ne_f (tgt := 365) cx dL_law_332 (by decide) rfl ?_
    refine x_aload_n cx dL_law_335 rfl rfl ?_
    refine x_Vi (C := RX6) (T := TX6) (N := 6) (rest := []) cx (c_X6_undo l G _ w1.1) gV_L_102 ndX6_undo rfl ⟨Nat.le_of_ble_eq_true rfl, Nat.le_of_ble_eq_true rfl⟩ (zok_7 (by decide)) (by decide) (p_SC) rfl rfl rfl (Nat.le_of_ble_eq_true rfl) dL_law_336 ⟨Nat.le_of_ble_eq_true rfl, Nat.le_of_ble_eq_true rfl⟩ ?_
    refine x_eqi (un_a w5) ?_
    refine x_S (un_S w5) ?_
    refine x_nm fun U hU => ?_
    have u1 : J U := by rw [hU]; exact w6
    have u2 : Qv (U 0) (V 0) := by rw [hU]; exact w9
    refine x_if_lt_f (tgt := 365) cx dL_law_339 (by decide) (nI_pos (by omega)) ?_
    refine x_aload_n cx dL_law_342 rfl rfl ?_
    refine x_Sl (rest := []) cx (c_L_seen l G _ u1.1) gS_L_81 ndL_seen ⟨Nat.le_of_ble_eq_true rfl, Nat.le_of_ble_eq_true rfl⟩ rfl rfl (Nat.le_of_ble_eq_true rfl) dL_law_343 ⟨Nat.le_of_ble_eq_true rfl, Nat.le_of_ble_eq_true rfl⟩ ?_
    refine x_lload cx dL_law_346 rfl ?_
    refine x_lcmp cx dL_law_348 ?_
    refine x_eqi (cmp_eq (seen_Q u2 u1.1.1)) ?_
    refine x_if_ne_f (tgt := 365) cx dL_law_349 (by decide) rfl ?_
    refine x_aload_n cx dL_law_352 rfl rfl ?_
    refine x_Vi (C := RX6) (T := TX6) (N := 6) (rest := []) cx (c_X6_save l G _ u1.1) gV_L_111 ndX6_save rfl ⟨Nat.le_of_ble_eq_true rfl, Nat.le_of_ble_eq_true rfl⟩ (zok_7 (by decide)) (by decide) (p_SC) rfl rfl rfl (Nat.le_of_ble_eq_true rfl) dL_law_353 ⟨Nat.le_of_ble_eq_true rfl, Nat.le_of_ble_eq_true rfl⟩ ?_
    refine x_eqi (show _ = nI (num (V 0)) by rw [u2.1]; exact hJ.1.1.sz) ?_
    refine x_nm fun Y hY => ?_
    obtain ⟨y1, y2, y3, y4⟩ := J_save u1.1 u1.2.1 u1.2.2.1 hY
    refine x_iload cx dL_law_356 rfl ?_
    refine x_icmp_ne_f (tgt := 365) cx dL_law_358 (by decide) (nI_ig (by omega)) ?_
    refine x_iconst (v := nI 1) cx dL_law_361 (by decide) ?_
    refine x_goto (tgt := 366) cx dL_law_362 (by decide) ?_
    refine x_istore_n (ls' := [_, _, _, _, _, _, _, _, _, _, _, _, _, _, _, _]) cx dL_law_366 rfl (by decide) rfl ?_
    refine x_lload cx dL_law_367 rfl ?_
    refine x_lstore_n (ls' := [_, _, _, _, _, _, _, _, _, _, _, _, _, _, _, _]) cx dL_law_369 rfl (by decide) rfl ?_
    refine x_iload cx dL_law_370 rfl ?_
    refine x_istore (ls' := [_, _, _, _, _, _, _, _, _, _, _, _, _, _, _, _]) cx dL_law_372 (by decide) rfl ?_
    refine x_iinc (v := nI (i + 1)) (ls' := [_, _, _, _, _, _, _, _, _, _, _, _, _, _, _, _]) cx dL_law_374 rfl (nI_inc _) (by decide) rfl ?_
    refine x_goto (tgt := 89) cx dL_law_377 (by decide) ?_
    exact x_ls rfl (by simp [lo]) (ih Y (zSeen (V 0)) (nI (num (V 0))) y1 (by rw [y2]; exact (seen_Q u2 u1.1.1).symm) (by rw [y3, u2.1]; exact hJ.1.1.sz.symm))
  · refine x_iload_n cx dL_law_290 rfl rfl ?_
    refine x_if_eq_f (tgt := 374) cx dL_law_291 (by decide) (by decide) ?_
    refine x_iload cx dL_law_294 rfl ?_
    refine x_bipush (v := nI 15) cx dL_law_296 (by decide) ?_
    refine x_irem cx dL_law_298 (by decide) ?_
    refine x_eqi (pk_rem (by omega) (by omega) (by omega)) ?_
    refine x_bipush (v := nI 14) cx dL_law_299 (by decide) ?_
    refine x_icmp_ne_t (tgt := 374) cx dL_law_301 (by decide) (nI_nq (by omega) (by omega) (by omega)) ?_
    refine x_iinc (v := nI (i + 1)) (ls' := [_, _, _, _, _, _, _, _, _, _, _, _, _, _, _, _]) cx dL_law_374 rfl (nI_inc _) (by decide) rfl ?_
    refine x_goto (tgt := 89) cx dL_law_377 (by decide) ?_
    exact x_ls rfl (by simp [lo]) (ih V kp cp hJ hkp hcp)

set_option maxHeartbeats 4000000 in
set_option maxRecDepth 100000 in
theorem law_mid {p : Program} {e : Env} {s : State} {m : MethodId} {below : List Frame} {meth : Method} {c : Code} (l : Launch) {G : zG} {b L : Nat} {xs : Nat → Int32} (hL : L ≤ 260) (cx : Cx p s m #[.ref b] meth c cL_law 16 RL G) (hXs : va_X b L xs s s.heap) (hbl : b < s.heap.size) (hG : G.2.2 = s.heap.size) (hr : meth.sig.returnType = ret) {i x : Nat} (hi : i < 60) (hx : x < 2 ^ 31) {T : zS} {kp was : Int64} {cp r hd sz : Int32} (hJ : J T) (kk : Xh p l e room_1 s m #[.ref b] below meth c 16 G (lw_Z below #[.ref b] s) 68 612 68 (pic G T) 240 [some (.ref b), some (.ref (zad G 7 0)), some (.int (nI 1)), some (.long kp), none, some (.int (cp)), some (.int (nI i)), some (.int (nI x)), some (.long was), none, some (.int (hd)), some (.int (r)), some (.int (sz)), none, none, none] []) : Xh p l e room_1 s m #[.ref b] below meth c 16 G (lw_Z below #[.ref b] s) 68 612 68 (pic G T) 189 [some (.ref b), some (.ref (zad G 7 0)), some (.int (nI 1)), some (.long kp), none, some (.int (cp)), some (.int (nI i)), some (.int (nI x)), some (.long was), none, some (.int (hd)), some (.int (r)), some (.int (sz)), none, none, none] [] := by
  have K230 : Xh p l e room_1 s m #[.ref b] below meth c 16 G (lw_Z below #[.ref b] s) 68 612 68 (pic G T) 230 [some (.ref b), some (.ref (zad G 7 0)), some (.int (nI 1)), some (.long kp), none, some (.int (cp)), some (.int (nI i)), some (.int (nI x)), some (.long was), none, some (.int (hd)), some (.int (r)), some (.int (sz)), none, none, none] [] := by
    refine x_iconst (v := nI 1) cx dL_law_230 (by decide) ?_
    refine x_goto (tgt := 235) cx dL_law_231 (by decide) ?_
    refine x_istore_n (ls' := [_, _, _, _, _, _, _, _, _, _, _, _, _, _, _, _]) cx dL_law_235 rfl (by decide) rfl ?_
    refine x_iload_n cx dL_law_236 rfl rfl ?_
    refine x_if_eq_f (tgt := 290) cx dL_law_237 (by decide) (by decide) ?_
    exact kk
  by_cases h7 : i % 7 = 6
  · refine x_aload_n cx dL_law_189 rfl rfl ?_
    refine x_Si (rest := []) cx (c_L_isWhole l G _ hJ.1 hJ.2.1) gS_L_122 ndL_isWhole ⟨Nat.le_of_ble_eq_true rfl, Nat.le_of_ble_eq_true rfl⟩ rfl rfl (Nat.le_of_ble_eq_true rfl) dL_law_190 ⟨Nat.le_of_ble_eq_true rfl, Nat.le_of_ble_eq_true rfl⟩ ?_
    refine x_if_eq_f (tgt := 234) cx dL_law_193 (by decide) (by decide) ?_
    refine x_iload cx dL_law_196 rfl ?_
    refine x_bipush (v := nI 7) cx dL_law_198 (by decide) ?_
    refine x_irem cx dL_law_200 (by decide) ?_
    refine x_eqi (pk_rem (by omega) (by omega) (by omega)) ?_
    refine x_bipush (v := nI 6) cx dL_law_201 (by decide) ?_
    refine x_icmp_ne_f (tgt := 230) cx dL_law_203 (by decide) (nI_ig (by omega)) ?_
    refine x_aload_n cx dL_law_206 rfl rfl ?_
    refine x_iload cx dL_law_207 rfl ?_
    refine x_bipush (v := nI 7) cx dL_law_209 (by decide) ?_
    refine x_idiv cx dL_law_211 (by decide) ?_
    refine x_eqi (pk_div (by omega) (by omega) (by omega)) ?_
    refine x_Si (rest := []) cx (c_L_refuses l G _ hJ.1 hJ.2.2.1 _ (by omega)) gS_L_108 ndL_refuses ⟨Nat.le_of_ble_eq_true rfl, Nat.le_of_ble_eq_true rfl⟩ rfl rfl (Nat.le_of_ble_eq_true rfl) dL_law_212 ⟨Nat.le_of_ble_eq_true rfl, Nat.le_of_ble_eq_true rfl⟩ ?_
    refine x_if_eq_f (tgt := 234) cx dL_law_215 (by decide) (by decide) ?_
    refine x_aload_n cx dL_law_218 rfl rfl ?_
    refine x_iload cx dL_law_219 rfl ?_
    refine x_bipush (v := nI 16) cx dL_law_221 (by decide) ?_
    refine x_irem cx dL_law_223 (by decide) ?_
    refine x_eqi (pk_rem (by omega) (by omega) (by omega)) ?_
    refine x_Si (rest := []) cx (c_L_areWays l G _ hJ.1 _ (by omega)) gS_L_126 ndL_areWays ⟨Nat.le_of_ble_eq_true rfl, Nat.le_of_ble_eq_true rfl⟩ rfl rfl (Nat.le_of_ble_eq_true rfl) dL_law_224 ⟨Nat.le_of_ble_eq_true rfl, Nat.le_of_ble_eq_true rfl⟩ ?_
    refine x_if_eq_f (tgt := 234) cx dL_law_227 (by decide) (by decide) ?_
    exact K230
  · refine x_aload_n cx dL_law_189 rfl rfl ?_
    refine x_Si (rest := []) cx (c_L_isWhole l G _ hJ.1 hJ.2.1) gS_L_122 ndL_isWhole ⟨Nat.le_of_ble_eq_true rfl, Nat.le_of_ble_eq_true rfl⟩ rfl rfl (Nat.le_of_ble_eq_true rfl) dL_law_190 ⟨Nat.le_of_ble_eq_true rfl, Nat.le_of_ble_eq_true rfl⟩ ?_
    refine x_if_eq_f (tgt := 234) cx dL_law_193 (by decide) (by decide) ?_
    refine x_iload cx dL_law_196 rfl ?_
    refine x_bipush (v := nI 7) cx dL_law_198 (by decide) ?_
    refine x_irem cx dL_law_200 (by decide) ?_
    refine x_eqi (pk_rem (by omega) (by omega) (by omega)) ?_
    refine x_bipush (v := nI 6) cx dL_law_201 (by decide) ?_
    refine x_icmp_ne_t (tgt := 230) cx dL_law_203 (by decide) (nI_nq (by omega) (by omega) (by omega)) ?_
    exact K230

set_option maxHeartbeats 4000000 in
set_option maxRecDepth 100000 in
theorem law_step {p : Program} {e : Env} {s : State} {m : MethodId} {below : List Frame} {meth : Method} {c : Code} (l : Launch) {G : zG} {b L : Nat} {xs : Nat → Int32} (hL : L ≤ 260) (cx : Cx p s m #[.ref b] meth c cL_law 16 RL G) (hXs : va_X b L xs s s.heap) (hbl : b < s.heap.size) (hG : G.2.2 = s.heap.size) (hr : meth.sig.returnType = ret) {i : Nat} (hi : i < 60) {S : zS} {kp : Int64} {cp : Int32} (hJ : J S) (hkp : kp = zSeen (S 2)) (hcp : cp = S 2 0 0) (ih : ∀ (S : zS) (kp : Int64) (cp : Int32), J S → kp = zSeen (S 2) → cp = S 2 0 0 → Xh p l e room_1 s m #[.ref b] below meth c 16 G (lw_Z below #[.ref b] s) 68 612 68 (pic G S) 89 [some (.ref b), some (.ref (zad G 7 0)), some (.int (nI 1)), some (.long kp), none, some (.int (cp)), some (.int (nI (i + 1))), none, none, none, none, none, none, none, none, none] []) : Xh p l e room_1 s m #[.ref b] below meth c 16 G (lw_Z below #[.ref b] s) 68 612 68 (pic G S) 89 [some (.ref b), some (.ref (zad G 7 0)), some (.int (nI 1)), some (.long kp), none, some (.int (cp)), some (.int (nI i)), none, none, none, none, none, none, none, none, none] [] := by
  have hbG : b < G.2.2 := by omega
  obtain ⟨x, hx, ex⟩ := zcl_n L xs i
  have hs40 := hJ.1.2.1.1.2
  refine x_iload cx dL_law_89 rfl ?_
  refine x_bipush (v := nI 60) cx dL_law_91 (by decide) ?_
  refine x_icmp_ge_f (tgt := 380) cx dL_law_93 (by decide) (nI_ge (by omega) (by omega)) ?_
  refine x_iload_n cx dL_law_96 rfl rfl ?_
  refine x_if_eq_f (tgt := 380) cx dL_law_97 (by decide) (by decide) ?_
  refine x_aload_n cx dL_law_100 rfl rfl ?_
  refine x_iload cx dL_law_101 rfl ?_
  refine x_SX (rest := []) cx hXs hbl hbG (c_L_cell l G 68 (pic G S) b L xs (by omega) hbG i (by omega)) gS_L_114 ndL_cell ⟨Nat.le_of_ble_eq_true rfl, Nat.le_of_ble_eq_true rfl⟩ rfl rfl (Nat.le_of_ble_eq_true rfl) dL_law_103 ⟨Nat.le_of_ble_eq_true rfl, Nat.le_of_ble_eq_true rfl⟩ ?_
  refine x_eqi ex ?_
  refine x_istore (ls' := [_, _, _, _, _, _, _, _, _, _, _, _, _, _, _, _]) cx dL_law_106 (by decide) rfl ?_
  refine x_aload_n cx dL_law_108 rfl rfl ?_
  refine x_Sl (rest := []) cx (c_L_seen l G _ hJ.1) gS_L_81 ndL_seen ⟨Nat.le_of_ble_eq_true rfl, Nat.le_of_ble_eq_true rfl⟩ rfl rfl (Nat.le_of_ble_eq_true rfl) dL_law_109 ⟨Nat.le_of_ble_eq_true rfl, Nat.le_of_ble_eq_true rfl⟩ ?_
  refine x_lstore (ls' := [_, _, _, _, _, _, _, _, _, _, _, _, _, _, _, _]) cx dL_law_112 (by decide) rfl ?_
  refine x_aload_n cx dL_law_114 rfl rfl ?_
  refine x_bipush (v := nI 7) cx dL_law_115 (by decide) ?_
  refine x_Vi (C := RX6) (T := TX6) (N := 6) (rest := []) cx (c_X6_count l G _ hJ.1 _) gV_L_14 ndX6_count rfl ⟨Nat.le_of_ble_eq_true rfl, Nat.le_of_ble_eq_true rfl⟩ (zok_7 (by decide)) (by decide) (p_SC) rfl rfl rfl (Nat.le_of_ble_eq_true rfl) dL_law_117 ⟨Nat.le_of_ble_eq_true rfl, Nat.le_of_ble_eq_true rfl⟩ ?_
  refine x_eqi (cn7 hJ.1) ?_
  refine x_istore (ls' := [_, _, _, _, _, _, _, _, _, _, _, _, _, _, _, _]) cx dL_law_120 (by decide) rfl ?_
  refine x_aload_n cx dL_law_122 rfl rfl ?_
  refine x_iload cx dL_law_123 rfl ?_
  refine x_SE (rest := []) cx (c_L_act l G _ hJ.1 hJ.2.1 _ (by omega)) gS_L_118 ndL_act ⟨Nat.le_of_ble_eq_true rfl, Nat.le_of_ble_eq_true rfl⟩ rfl rfl (Nat.le_of_ble_eq_true rfl) dL_law_125 ⟨Nat.le_of_ble_eq_true rfl, Nat.le_of_ble_eq_true rfl⟩ (fun r h2 hP => ?_)
  obtain ⟨T, rfl, hA⟩ := hP
  rcases hA with ⟨hrr, hTS⟩ | ⟨⟨n, hn, hrn⟩, Z, X, hXo, hT⟩
  · refine x_S hTS ?_
    rcases hrr with hrr | hrr
    · refine x_eqi hrr ?_
      refine x_istore (ls' := [_, _, _, _, _, _, _, _, _, _, _, _, _, _, _, _]) cx dL_law_128 (by decide) rfl ?_
      refine x_aload_n cx dL_law_130 rfl rfl ?_
      refine x_bipush (v := nI 7) cx dL_law_131 (by decide) ?_
      refine x_Vi (C := RX6) (T := TX6) (N := 6) (rest := []) cx (c_X6_count l G _ hJ.1 _) gV_L_14 ndX6_count rfl ⟨Nat.le_of_ble_eq_true rfl, Nat.le_of_ble_eq_true rfl⟩ (zok_7 (by decide)) (by decide) (p_SC) rfl rfl rfl (Nat.le_of_ble_eq_true rfl) dL_law_133 ⟨Nat.le_of_ble_eq_true rfl, Nat.le_of_ble_eq_true rfl⟩ ?_
      refine x_eqi (cn7 hJ.1) ?_
      refine x_istore (ls' := [_, _, _, _, _, _, _, _, _, _, _, _, _, _, _, _]) cx dL_law_136 (by decide) rfl ?_
      refine x_iload cx dL_law_138 rfl ?_
      refine x_bipush (v := (-9)) cx dL_law_140 (by decide) ?_
      refine x_icmp_le_f (tgt := 234) cx dL_law_142 (by decide) (by decide) ?_
      refine x_iload cx dL_law_145 rfl ?_
      refine x_if_ge_f (tgt := 170) cx dL_law_147 (by decide) (by decide) ?_
      refine x_iload cx dL_law_150 rfl ?_
      refine x_iload cx dL_law_152 rfl ?_
      refine x_icmp_ne_f (tgt := 234) cx dL_law_154 (by decide) (nI_ig (by omega)) ?_
      refine x_aload_n cx dL_law_157 rfl rfl ?_
      refine x_Sl (rest := []) cx (c_L_seen l G _ hJ.1) gS_L_81 ndL_seen ⟨Nat.le_of_ble_eq_true rfl, Nat.le_of_ble_eq_true rfl⟩ rfl rfl (Nat.le_of_ble_eq_true rfl) dL_law_158 ⟨Nat.le_of_ble_eq_true rfl, Nat.le_of_ble_eq_true rfl⟩ ?_
      refine x_lload cx dL_law_161 rfl ?_
      refine x_lcmp cx dL_law_163 ?_
      refine x_eqi (cmp_self _) ?_
      refine x_if_ne_f (tgt := 234) cx dL_law_164 (by decide) rfl ?_
      refine x_goto (tgt := 189) cx dL_law_167 (by decide) ?_
      refine law_mid l hL cx hXs hbl hG hr hi hx hJ ?_
      refine x_iload cx dL_law_240 rfl ?_
      refine x_if_lt_t (tgt := 290) cx dL_law_242 (by decide) (by decide) ?_
      exact x_ls rfl (by simp [lo]) (law_tail (kp := kp) (cp := cp) l hL cx hXs hbl hG hr hi hJ hkp hcp ih)
    · refine x_eqi hrr ?_
      refine x_istore (ls' := [_, _, _, _, _, _, _, _, _, _, _, _, _, _, _, _]) cx dL_law_128 (by decide) rfl ?_
      refine x_aload_n cx dL_law_130 rfl rfl ?_
      refine x_bipush (v := nI 7) cx dL_law_131 (by decide) ?_
      refine x_Vi (C := RX6) (T := TX6) (N := 6) (rest := []) cx (c_X6_count l G _ hJ.1 _) gV_L_14 ndX6_count rfl ⟨Nat.le_of_ble_eq_true rfl, Nat.le_of_ble_eq_true rfl⟩ (zok_7 (by decide)) (by decide) (p_SC) rfl rfl rfl (Nat.le_of_ble_eq_true rfl) dL_law_133 ⟨Nat.le_of_ble_eq_true rfl, Nat.le_of_ble_eq_true rfl⟩ ?_
      refine x_eqi (cn7 hJ.1) ?_
      refine x_istore (ls' := [_, _, _, _, _, _, _, _, _, _, _, _, _, _, _, _]) cx dL_law_136 (by decide) rfl ?_
      refine x_iload cx dL_law_138 rfl ?_
      refine x_bipush (v := (-9)) cx dL_law_140 (by decide) ?_
      refine x_icmp_le_f (tgt := 234) cx dL_law_142 (by decide) (by decide) ?_
      refine x_iload cx dL_law_145 rfl ?_
      refine x_if_ge_f (tgt := 170) cx dL_law_147 (by decide) (by decide) ?_
      refine x_iload cx dL_law_150 rfl ?_
      refine x_iload cx dL_law_152 rfl ?_
      refine x_icmp_ne_f (tgt := 234) cx dL_law_154 (by decide) (nI_ig (by omega)) ?_
      refine x_aload_n cx dL_law_157 rfl rfl ?_
      refine x_Sl (rest := []) cx (c_L_seen l G _ hJ.1) gS_L_81 ndL_seen ⟨Nat.le_of_ble_eq_true rfl, Nat.le_of_ble_eq_true rfl⟩ rfl rfl (Nat.le_of_ble_eq_true rfl) dL_law_158 ⟨Nat.le_of_ble_eq_true rfl, Nat.le_of_ble_eq_true rfl⟩ ?_
      refine x_lload cx dL_law_161 rfl ?_
      refine x_lcmp cx dL_law_163 ?_
      refine x_eqi (cmp_self _) ?_
      refine x_if_ne_f (tgt := 234) cx dL_law_164 (by decide) rfl ?_
      refine x_goto (tgt := 189) cx dL_law_167 (by decide) ?_
      refine law_mid l hL cx hXs hbl hG hr hi hx hJ ?_
      refine x_iload cx dL_law_240 rfl ?_
      refine x_if_lt_t (tgt := 290) cx dL_law_242 (by decide) (by decide) ?_
      exact x_ls rfl (by simp [lo]) (law_tail (kp := kp) (cp := cp) l hL cx hXs hbl hG hr hi hJ hkp hcp ih)
  · obtain ⟨w1, w2, w3, w4, w5, w6, w7, w8, w9⟩ := J_rec hJ hXo hT
    have w10 := w1.1.2.1.1.2
    refine x_eqi hrn ?_
    by_cases hs4 : hsz S < 4
    · rw [if_pos hs4] at w4
      refine x_istore (ls' := [_, _, _, _, _, _, _, _, _, _, _, _, _, _, _, _]) cx dL_law_128 (by decide) rfl ?_
      refine x_aload_n cx dL_law_130 rfl rfl ?_
      refine x_bipush (v := nI 7) cx dL_law_131 (by decide) ?_
      refine x_Vi (C := RX6) (T := TX6) (N := 6) (rest := []) cx (c_X6_count l G _ w1.1 _) gV_L_14 ndX6_count rfl ⟨Nat.le_of_ble_eq_true rfl, Nat.le_of_ble_eq_true rfl⟩ (zok_7 (by decide)) (by decide) (p_SC) rfl rfl rfl (Nat.le_of_ble_eq_true rfl) dL_law_133 ⟨Nat.le_of_ble_eq_true rfl, Nat.le_of_ble_eq_true rfl⟩ ?_
      refine x_eqi (cn7 w1.1) ?_
      refine x_istore (ls' := [_, _, _, _, _, _, _, _, _, _, _, _, _, _, _, _]) cx dL_law_136 (by decide) rfl ?_
      refine x_iload cx dL_law_138 rfl ?_
      refine x_bipush (v := (-9)) cx dL_law_140 (by decide) ?_
      refine x_icmp_le_f (tgt := 234) cx dL_law_142 (by decide) (ge9 hn) ?_
      refine x_iload cx dL_law_145 rfl ?_
      refine x_if_ge_t (tgt := 170) cx dL_law_147 (by decide) (nI_pos' (by omega)) ?_
      refine x_iload cx dL_law_170 rfl ?_
      refine x_iload cx dL_law_172 rfl ?_
      refine x_iconst (v := nI 4) cx dL_law_174 (by decide) ?_
      refine x_icmp_ge_f (tgt := 185) cx dL_law_175 (by decide) (nI_ge (by omega) (by omega)) ?_
      refine x_iload cx dL_law_178 rfl ?_
      refine x_iconst (v := nI 1) cx dL_law_180 (by decide) ?_
      refine x_iadd cx dL_law_181 ?_
      refine x_eqi (nI_add _ _) ?_
      refine x_goto (tgt := 186) cx dL_law_182 (by decide) ?_
      refine x_icmp_ne_f (tgt := 234) cx dL_law_186 (by decide) (nI_ig (by omega)) ?_
      refine law_mid l hL cx hXs hbl hG hr hi hx w1 ?_
      by_cases hu : x / 17 % 4 = 0
      · refine x_iload cx dL_law_240 rfl ?_
        refine x_if_lt_f (tgt := 290) cx dL_law_242 (by decide) (nI_pos (by omega)) ?_
        refine x_iload cx dL_law_245 rfl ?_
        refine x_bipush (v := nI 17) cx dL_law_247 (by decide) ?_
        refine x_idiv cx dL_law_249 (by decide) ?_
        refine x_eqi (pk_div (by omega) (by omega) (by omega)) ?_
        refine x_iconst (v := nI 4) cx dL_law_250 (by decide) ?_
        refine x_irem cx dL_law_251 (by decide) ?_
        refine x_eqi (pk_rem (by omega) (by omega) (by omega)) ?_
        refine x_if_ne_f (tgt := 290) cx dL_law_252 (by decide) (nI_ig (b := 0) (by omega)) ?_
        refine x_aload_n cx dL_law_255 rfl rfl ?_
        refine x_Vi (C := RX6) (T := TX6) (N := 6) (rest := []) cx (c_X6_undo l G _ w1.1) gV_L_102 ndX6_undo rfl ⟨Nat.le_of_ble_eq_true rfl, Nat.le_of_ble_eq_true rfl⟩ (zok_7 (by decide)) (by decide) (p_SC) rfl rfl rfl (Nat.le_of_ble_eq_true rfl) dL_law_256 ⟨Nat.le_of_ble_eq_true rfl, Nat.le_of_ble_eq_true rfl⟩ ?_
        refine x_eqi (un_a w5) ?_
        refine x_S (un_S w5) ?_
        refine x_nm fun V hV => ?_
        have v1 : J V := by rw [hV]; exact w6
        have v2 : Qv (V 0) (S 0) := by rw [hV]; exact w9
        have v3 : V 2 = S 2 := by rw [hV]; exact w7
        refine x_iload cx dL_law_259 rfl ?_
        refine x_iconst (v := nI 4) cx dL_law_261 (by decide) ?_
        refine x_icmp_ge_f (tgt := 270) cx dL_law_262 (by decide) (nI_ge (by omega) (by omega)) ?_
        refine x_iload cx dL_law_265 rfl ?_
        refine x_goto (tgt := 271) cx dL_law_267 (by decide) ?_
        refine x_icmp_ne_f (tgt := 288) cx dL_law_271 (by decide) (nI_ig (by omega)) ?_
        refine x_aload_n cx dL_law_274 rfl rfl ?_
        refine x_Sl (rest := []) cx (c_L_seen l G _ v1.1) gS_L_81 ndL_seen ⟨Nat.le_of_ble_eq_true rfl, Nat.le_of_ble_eq_true rfl⟩ rfl rfl (Nat.le_of_ble_eq_true rfl) dL_law_275 ⟨Nat.le_of_ble_eq_true rfl, Nat.le_of_ble_eq_true rfl⟩ ?_
        refine x_lload cx dL_law_278 rfl ?_
        refine x_lcmp cx dL_law_280 ?_
        refine x_eqi (cmp_eq (seen_Q v2 v1.1.1)) ?_
        refine x_if_ne_f (tgt := 288) cx dL_law_281 (by decide) rfl ?_
        refine x_iconst (v := nI 1) cx dL_law_284 (by decide) ?_
        refine x_goto (tgt := 289) cx dL_law_285 (by decide) ?_
        refine x_istore_n (ls' := [_, _, _, _, _, _, _, _, _, _, _, _, _, _, _, _]) cx dL_law_289 rfl (by decide) rfl ?_
        exact x_ls rfl (by simp [lo]) (law_tail (kp := kp) (cp := cp) l hL cx hXs hbl hG hr hi v1 (by rw [v3]; exact hkp) (by rw [v3]; exact hcp) ih)
      · refine x_iload cx dL_law_240 rfl ?_
        refine x_if_lt_f (tgt := 290) cx dL_law_242 (by decide) (nI_pos (by omega)) ?_
        refine x_iload cx dL_law_245 rfl ?_
        refine x_bipush (v := nI 17) cx dL_law_247 (by decide) ?_
        refine x_idiv cx dL_law_249 (by decide) ?_
        refine x_eqi (pk_div (by omega) (by omega) (by omega)) ?_
        refine x_iconst (v := nI 4) cx dL_law_250 (by decide) ?_
        refine x_irem cx dL_law_251 (by decide) ?_
        refine x_eqi (pk_rem (by omega) (by omega) (by omega)) ?_
        refine x_if_ne_t (tgt := 290) cx dL_law_252 (by decide) (nI_ne0 (by omega) (by omega)) ?_
        exact x_ls rfl (by simp [lo]) (law_tail (kp := kp) (cp := cp) l hL cx hXs hbl hG hr hi w1 (by rw [w3]; exact hkp) (by rw [w3]; exact hcp) ih)
    · rw [if_neg hs4] at w4
      refine x_istore (ls' := [_, _, _, _, _, _, _, _, _, _, _, _, _, _, _, _]) cx dL_law_128 (by decide) rfl ?_
      refine x_aload_n cx dL_law_130 rfl rfl ?_
      refine x_bipush (v := nI 7) cx dL_law_131 (by decide) ?_
      refine x_Vi (C := RX6) (T := TX6) (N := 6) (rest := []) cx (c_X6_count l G _ w1.1 _) gV_L_14 ndX6_count rfl ⟨Nat.le_of_ble_eq_true rfl, Nat.le_of_ble_eq_true rfl⟩ (zok_7 (by decide)) (by decide) (p_SC) rfl rfl rfl (Nat.le_of_ble_eq_true rfl) dL_law_133 ⟨Nat.le_of_ble_eq_true rfl, Nat.le_of_ble_eq_true rfl⟩ ?_
      refine x_eqi (cn7 w1.1) ?_
      refine x_istore (ls' := [_, _, _, _, _, _, _, _, _, _, _, _, _, _, _, _]) cx dL_law_136 (by decide) rfl ?_
      refine x_iload cx dL_law_138 rfl ?_
      refine x_bipush (v := (-9)) cx dL_law_140 (by decide) ?_
      refine x_icmp_le_f (tgt := 234) cx dL_law_142 (by decide) (ge9 hn) ?_
      refine x_iload cx dL_law_145 rfl ?_
      refine x_if_ge_t (tgt := 170) cx dL_law_147 (by decide) (nI_pos' (by omega)) ?_
      refine x_iload cx dL_law_170 rfl ?_
      refine x_iload cx dL_law_172 rfl ?_
      refine x_iconst (v := nI 4) cx dL_law_174 (by decide) ?_
      refine x_icmp_ge_t (tgt := 185) cx dL_law_175 (by decide) (nI_le (by omega) (by omega)) ?_
      refine x_iconst (v := nI 4) cx dL_law_185 (by decide) ?_
      refine x_icmp_ne_f (tgt := 234) cx dL_law_186 (by decide) (nI_ig (by omega)) ?_
      refine law_mid l hL cx hXs hbl hG hr hi hx w1 ?_
      by_cases hu : x / 17 % 4 = 0
      · refine x_iload cx dL_law_240 rfl ?_
        refine x_if_lt_f (tgt := 290) cx dL_law_242 (by decide) (nI_pos (by omega)) ?_
        refine x_iload cx dL_law_245 rfl ?_
        refine x_bipush (v := nI 17) cx dL_law_247 (by decide) ?_
        refine x_idiv cx dL_law_249 (by decide) ?_
        refine x_eqi (pk_div (by omega) (by omega) (by omega)) ?_
        refine x_iconst (v := nI 4) cx dL_law_250 (by decide) ?_
        refine x_irem cx dL_law_251 (by decide) ?_
        refine x_eqi (pk_rem (by omega) (by omega) (by omega)) ?_
        refine x_if_ne_f (tgt := 290) cx dL_law_252 (by decide) (nI_ig (b := 0) (by omega)) ?_
        refine x_aload_n cx dL_law_255 rfl rfl ?_
        refine x_Vi (C := RX6) (T := TX6) (N := 6) (rest := []) cx (c_X6_undo l G _ w1.1) gV_L_102 ndX6_undo rfl ⟨Nat.le_of_ble_eq_true rfl, Nat.le_of_ble_eq_true rfl⟩ (zok_7 (by decide)) (by decide) (p_SC) rfl rfl rfl (Nat.le_of_ble_eq_true rfl) dL_law_256 ⟨Nat.le_of_ble_eq_true rfl, Nat.le_of_ble_eq_true rfl⟩ ?_
        refine x_eqi (un_a w5) ?_
        refine x_S (un_S w5) ?_
        refine x_nm fun V hV => ?_
        have v1 : J V := by rw [hV]; exact w6
        have v2 : Qv (V 0) (S 0) := by rw [hV]; exact w9
        have v3 : V 2 = S 2 := by rw [hV]; exact w7
        refine x_iload cx dL_law_259 rfl ?_
        refine x_iconst (v := nI 4) cx dL_law_261 (by decide) ?_
        refine x_icmp_ge_t (tgt := 270) cx dL_law_262 (by decide) (nI_le (by omega) (by omega)) ?_
        refine x_iconst (v := nI 3) cx dL_law_270 (by decide) ?_
        refine x_icmp_ne_f (tgt := 288) cx dL_law_271 (by decide) (nI_ig (by omega)) ?_
        refine x_aload_n cx dL_law_274 rfl rfl ?_
        refine x_Sl (rest := []) cx (c_L_seen l G _ v1.1) gS_L_81 ndL_seen ⟨Nat.le_of_ble_eq_true rfl, Nat.le_of_ble_eq_true rfl⟩ rfl rfl (Nat.le_of_ble_eq_true rfl) dL_law_275 ⟨Nat.le_of_ble_eq_true rfl, Nat.le_of_ble_eq_true rfl⟩ ?_
        refine x_lload cx dL_law_278 rfl ?_
        refine x_lcmp cx dL_law_280 ?_
        refine x_eqi (cmp_eq (seen_Q v2 v1.1.1)) ?_
        refine x_if_ne_f (tgt := 288) cx dL_law_281 (by decide) rfl ?_
        refine x_iconst (v := nI 1) cx dL_law_284 (by decide) ?_
        refine x_goto (tgt := 289) cx dL_law_285 (by decide) ?_
        refine x_istore_n (ls' := [_, _, _, _, _, _, _, _, _, _, _, _, _, _, _, _]) cx dL_law_289 rfl (by decide) rfl ?_
        exact x_ls rfl (by simp [lo]) (law_tail (kp := kp) (cp := cp) l hL cx hXs hbl hG hr hi v1 (by rw [v3]; exact hkp) (by rw [v3]; exact hcp) ih)
      · refine x_iload cx dL_law_240 rfl ?_
        refine x_if_lt_f (tgt := 290) cx dL_law_242 (by decide) (nI_pos (by omega)) ?_
        refine x_iload cx dL_law_245 rfl ?_
        refine x_bipush (v := nI 17) cx dL_law_247 (by decide) ?_
        refine x_idiv cx dL_law_249 (by decide) ?_
        refine x_eqi (pk_div (by omega) (by omega) (by omega)) ?_
        refine x_iconst (v := nI 4) cx dL_law_250 (by decide) ?_
        refine x_irem cx dL_law_251 (by decide) ?_
        refine x_eqi (pk_rem (by omega) (by omega) (by omega)) ?_
        refine x_if_ne_t (tgt := 290) cx dL_law_252 (by decide) (nI_ne0 (by omega) (by omega)) ?_
        exact x_ls rfl (by simp [lo]) (law_tail (kp := kp) (cp := cp) l hL cx hXs hbl hG hr hi w1 (by rw [w3]; exact hkp) (by rw [w3]; exact hcp) ih)

set_option maxHeartbeats 4000000 in
set_option maxRecDepth 100000 in
theorem law_loop {p : Program} {e : Env} {s : State} {m : MethodId} {below : List Frame} {meth : Method} {c : Code} (l : Launch) {G : zG} {b L : Nat} {xs : Nat → Int32} (hL : L ≤ 260) (cx : Cx p s m #[.ref b] meth c cL_law 16 RL G) (hXs : va_X b L xs s s.heap) (hbl : b < s.heap.size) (hG : G.2.2 = s.heap.size) (hr : meth.sig.returnType = ret) : ∀ (f i : Nat) (S : zS) (kp : Int64) (cp : Int32), i + f = 60 → J S → kp = zSeen (S 2) → cp = S 2 0 0 → Xh p l e room_1 s m #[.ref b] below meth c 16 G (lw_Z below #[.ref b] s) 68 612 68 (pic G S) 89 [some (.ref b), some (.ref (zad G 7 0)), some (.int (nI 1)), some (.long kp), none, some (.int (cp)), some (.int (nI i)), none, none, none, none, none, none, none, none, none] [] := by
  intro f
  induction f with
  | zero =>
    intro i S kp cp hi hJ hkp hcp
    obtain rfl : i = 60 := by omega
    refine x_iload cx dL_law_89 rfl ?_
    refine x_bipush (v := nI 60) cx dL_law_91 (by decide) ?_
    refine x_icmp_ge_t (tgt := 380) cx dL_law_93 (by decide) (by decide) ?_
    refine x_iload_n cx dL_law_380 rfl rfl ?_
    exact x_lend cx hG hr (by decide) (by decide) dL_law_381
  | succ f ih =>
    intro i S kp cp hi hJ hkp hcp
    exact law_step l hL cx hXs hbl hG hr (by omega) hJ hkp hcp (fun S kp cp h1 h2 h3 => ih (i + 1) S kp cp (by omega) h1 h2 h3)
