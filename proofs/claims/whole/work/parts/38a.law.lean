set_option maxHeartbeats 1000000 in
set_option maxRecDepth 100000 in
theorem law_c0 {p : Program} {e : Env} {s : State} {m : MethodId} {below : List Frame} {meth : Method} {c : Code} (l : Launch) {G : zG} {b L : Nat} {xs : Nat → Int32} (hL : L ≤ 2048) (cx : Cx p s m #[.ref b] meth c cL_law 8 RL G) (hX : va_X b L xs s s.heap) (hbl : b < s.heap.size) (hG : G.2.2 = s.heap.size) {i : Nat} {S : zS} (hi : i + 3 < L) (h : Sim S) (ih : ∀ S : zS, Sim S → Xh p l e room_1 s m #[.ref b] below meth c 8 G (lw_Z below #[.ref b] s) 75 1179 75 (pic G S) 18 [some (.ref b), some (.ref (zad G 7 0)), some (.ref (zad G 8 0)), some (.int (nI (i + 4))), none, none, none, none] []) : Xh p l e room_1 s m #[.ref b] below meth c 8 G (lw_Z below #[.ref b] s) 75 1179 75 (pic G S) 144 [some (.ref b), some (.ref (zad G 7 0)), some (.ref (zad G 8 0)), some (.int (nI i)), none, none, none, none] [] := by
  have hk7 := Sim_k h
  have hq := Sim_q h
  have hW : zWF (S 0) := hk7.1
  obtain ⟨L0, hL7, hL15, hL80, hLt⟩ := Sim_L h
  refine x_aload_n cx dL_law_144 rfl rfl ?_
  refine x_aload_n cx dL_law_145 rfl rfl ?_
  refine x_iload_n cx dL_law_146 rfl rfl ?_
  refine x_iconst (v := 1) cx dL_law_147 (by decide) ?_
  refine x_iadd cx dL_law_148 ?_
  refine x_eqi (nI_add i 1) ?_
  refine x_sld (t := (i + 1)) cx hX hbl hG rfl (by omega) hL dL_law_149 ?_
  refine x_aload_n cx dL_law_150 rfl rfl ?_
  refine x_iload_n cx dL_law_151 rfl rfl ?_
  refine x_iconst (v := 2) cx dL_law_152 (by decide) ?_
  refine x_iadd cx dL_law_153 ?_
  refine x_eqi (nI_add i 2) ?_
  refine x_sld (t := (i + 2)) cx hX hbl hG rfl (by omega) hL dL_law_154 ?_
  refine x_aload_n cx dL_law_155 rfl rfl ?_
  refine x_iload_n cx dL_law_156 rfl rfl ?_
  refine x_iconst (v := 3) cx dL_law_157 (by decide) ?_
  refine x_iadd cx dL_law_158 ?_
  refine x_eqi (nI_add i 3) ?_
  refine x_sld (t := (i + 3)) cx hX hbl hG rfl (by omega) hL dL_law_159 ?_
  refine x_Vi (C := RX6) (T := TX6) (N := 6) (rest := []) cx (c_X6_add l G _ hk7 _ _ _) gV_L_13 ndX6_add rfl ⟨Nat.le_of_ble_eq_true rfl, Nat.le_of_ble_eq_true rfl⟩ (zok_7 (by decide)) (by decide) (p_SC) rfl rfl rfl (Nat.le_of_ble_eq_true rfl) dL_law_160 ⟨Nat.le_of_ble_eq_true rfl, Nat.le_of_ble_eq_true rfl⟩ ?_
  refine x_kp (S := S) (kp8_if (kp8_up (by decide) (kp8_rec hk7.2.1)) kp8_rf) (fun S1 hS1 hk => ?_)
  refine x_aload_n cx dL_law_163 rfl rfl ?_
  refine x_aload_n cx dL_law_164 rfl rfl ?_
  refine x_iload_n cx dL_law_165 rfl rfl ?_
  refine x_iconst (v := 1) cx dL_law_166 (by decide) ?_
  refine x_iadd cx dL_law_167 ?_
  refine x_eqi (nI_add i 1) ?_
  refine x_sld (t := (i + 1)) cx hX hbl hG rfl (by omega) hL dL_law_168 ?_
  refine x_aload_n cx dL_law_169 rfl rfl ?_
  refine x_iload_n cx dL_law_170 rfl rfl ?_
  refine x_iconst (v := 2) cx dL_law_171 (by decide) ?_
  refine x_iadd cx dL_law_172 ?_
  refine x_eqi (nI_add i 2) ?_
  refine x_sld (t := (i + 2)) cx hX hbl hG rfl (by omega) hL dL_law_173 ?_
  refine x_aload_n cx dL_law_174 rfl rfl ?_
  refine x_iload_n cx dL_law_175 rfl rfl ?_
  refine x_iconst (v := 3) cx dL_law_176 (by decide) ?_
  refine x_iadd cx dL_law_177 ?_
  refine x_eqi (nI_add i 3) ?_
  refine x_sld (t := (i + 3)) cx hX hbl hG rfl (by omega) hL dL_law_178 ?_
  refine x_Vi (C := RX7) (T := TX7) (N := 9) (rest := [_]) cx (c_X7_add l G _ (kp8_W h hk) (hsz S) (kp8_hs h hk) (Sim_hs h).2 _ _ _) gV_L_17 ndX7_add rfl ⟨Nat.le_of_ble_eq_true rfl, Nat.le_of_ble_eq_true rfl⟩ (zok_8 (by decide)) (by decide) (p_M) rfl rfl rfl (Nat.le_of_ble_eq_true rfl) dL_law_179 ⟨Nat.le_of_ble_eq_true rfl, Nat.le_of_ble_eq_true rfl⟩ ?_
  refine x_icmp_eq_t (tgt := 752) cx dL_law_182 (by decide) (by rw [hk 8 (by decide), QeAdd hq, hq.1]) ?_
  refine x_iinc (v := nI (i + 4)) (ls' := [_, _, _, _, _, _, _, _]) cx dL_law_752 rfl (nI_add i 4) (by decide) rfl ?_
  refine x_goto (tgt := 18) cx dL_law_755 (by decide) ?_
  exact ih _ (by rw [hk 8 (by decide)]; subst hS1; exact sim_a h (QeAdd hq _ _ _).symm (fun z => ⟨zAdd_WF hW (eAdd_6 hW z) z, Qadd hq hW (eAdd_6 hW z) _ _ _⟩))

set_option maxHeartbeats 1000000 in
set_option maxRecDepth 100000 in
theorem law_c1 {p : Program} {e : Env} {s : State} {m : MethodId} {below : List Frame} {meth : Method} {c : Code} (l : Launch) {G : zG} {b L : Nat} {xs : Nat → Int32} (hL : L ≤ 2048) (cx : Cx p s m #[.ref b] meth c cL_law 8 RL G) (hX : va_X b L xs s s.heap) (hbl : b < s.heap.size) (hG : G.2.2 = s.heap.size) {i : Nat} {S : zS} (hi : i + 3 < L) (h : Sim S) (ih : ∀ S : zS, Sim S → Xh p l e room_1 s m #[.ref b] below meth c 8 G (lw_Z below #[.ref b] s) 75 1179 75 (pic G S) 18 [some (.ref b), some (.ref (zad G 7 0)), some (.ref (zad G 8 0)), some (.int (nI (i + 4))), none, none, none, none] []) : Xh p l e room_1 s m #[.ref b] below meth c 8 G (lw_Z below #[.ref b] s) 75 1179 75 (pic G S) 187 [some (.ref b), some (.ref (zad G 7 0)), some (.ref (zad G 8 0)), some (.int (nI i)), none, none, none, none] [] := by
  have hk7 := Sim_k h
  have hq := Sim_q h
  have hW : zWF (S 0) := hk7.1
  obtain ⟨L0, hL7, hL15, hL80, hLt⟩ := Sim_L h
  refine x_aload_n cx dL_law_187 rfl rfl ?_
  refine x_aload_n cx dL_law_188 rfl rfl ?_
  refine x_iload_n cx dL_law_189 rfl rfl ?_
  refine x_iconst (v := 1) cx dL_law_190 (by decide) ?_
  refine x_iadd cx dL_law_191 ?_
  refine x_eqi (nI_add i 1) ?_
  refine x_sld (t := (i + 1)) cx hX hbl hG rfl (by omega) hL dL_law_192 ?_
  refine x_Vi (C := RX6) (T := TX6) (N := 6) (rest := []) cx (c_X6_take l G _ hk7 _) gV_L_18 ndX6_take rfl ⟨Nat.le_of_ble_eq_true rfl, Nat.le_of_ble_eq_true rfl⟩ (zok_7 (by decide)) (by decide) (p_SC) rfl rfl rfl (Nat.le_of_ble_eq_true rfl) dL_law_193 ⟨Nat.le_of_ble_eq_true rfl, Nat.le_of_ble_eq_true rfl⟩ ?_
  refine x_kp (S := S) (kp8_if (kp8_up (by decide) (kp8_rec hk7.2.1)) kp8_rf) (fun S1 hS1 hk => ?_)
  refine x_aload_n cx dL_law_196 rfl rfl ?_
  refine x_aload_n cx dL_law_197 rfl rfl ?_
  refine x_iload_n cx dL_law_198 rfl rfl ?_
  refine x_iconst (v := 1) cx dL_law_199 (by decide) ?_
  refine x_iadd cx dL_law_200 ?_
  refine x_eqi (nI_add i 1) ?_
  refine x_sld (t := (i + 1)) cx hX hbl hG rfl (by omega) hL dL_law_201 ?_
  refine x_Vi (C := RX7) (T := TX7) (N := 9) (rest := [_]) cx (c_X7_take l G _ (kp8_W h hk) (hsz S) (kp8_hs h hk) (Sim_hs h).2 _) gV_L_22 ndX7_take rfl ⟨Nat.le_of_ble_eq_true rfl, Nat.le_of_ble_eq_true rfl⟩ (zok_8 (by decide)) (by decide) (p_M) rfl rfl rfl (Nat.le_of_ble_eq_true rfl) dL_law_202 ⟨Nat.le_of_ble_eq_true rfl, Nat.le_of_ble_eq_true rfl⟩ ?_
  refine x_icmp_eq_t (tgt := 752) cx dL_law_205 (by decide) (by rw [hk 8 (by decide)]; exact A_take hq hW _) ?_
  refine x_iinc (v := nI (i + 4)) (ls' := [_, _, _, _, _, _, _, _]) cx dL_law_752 rfl (nI_add i 4) (by decide) rfl ?_
  refine x_goto (tgt := 18) cx dL_law_755 (by decide) ?_
  exact ih _ (by rw [hk 8 (by decide)]; subst hS1; exact sim_a h (QeHas hq _).symm (fun z => ⟨zTake_WF hW (has_tn hW (eHas_h z)), Qtake hq hW (has_tn hW (eHas_h z))⟩))

set_option maxHeartbeats 1000000 in
set_option maxRecDepth 100000 in
theorem law_c2 {p : Program} {e : Env} {s : State} {m : MethodId} {below : List Frame} {meth : Method} {c : Code} (l : Launch) {G : zG} {b L : Nat} {xs : Nat → Int32} (hL : L ≤ 2048) (cx : Cx p s m #[.ref b] meth c cL_law 8 RL G) (hX : va_X b L xs s s.heap) (hbl : b < s.heap.size) (hG : G.2.2 = s.heap.size) {i : Nat} {S : zS} (hi : i + 3 < L) (h : Sim S) (ih : ∀ S : zS, Sim S → Xh p l e room_1 s m #[.ref b] below meth c 8 G (lw_Z below #[.ref b] s) 75 1179 75 (pic G S) 18 [some (.ref b), some (.ref (zad G 7 0)), some (.ref (zad G 8 0)), some (.int (nI (i + 4))), none, none, none, none] []) : Xh p l e room_1 s m #[.ref b] below meth c 8 G (lw_Z below #[.ref b] s) 75 1179 75 (pic G S) 210 [some (.ref b), some (.ref (zad G 7 0)), some (.ref (zad G 8 0)), some (.int (nI i)), none, none, none, none] [] := by
  have hk7 := Sim_k h
  have hq := Sim_q h
  have hW : zWF (S 0) := hk7.1
  obtain ⟨L0, hL7, hL15, hL80, hLt⟩ := Sim_L h
  refine x_aload_n cx dL_law_210 rfl rfl ?_
  refine x_aload_n cx dL_law_211 rfl rfl ?_
  refine x_iload_n cx dL_law_212 rfl rfl ?_
  refine x_iconst (v := 1) cx dL_law_213 (by decide) ?_
  refine x_iadd cx dL_law_214 ?_
  refine x_eqi (nI_add i 1) ?_
  refine x_sld (t := (i + 1)) cx hX hbl hG rfl (by omega) hL dL_law_215 ?_
  refine x_aload_n cx dL_law_216 rfl rfl ?_
  refine x_iload_n cx dL_law_217 rfl rfl ?_
  refine x_iconst (v := 2) cx dL_law_218 (by decide) ?_
  refine x_iadd cx dL_law_219 ?_
  refine x_eqi (nI_add i 2) ?_
  refine x_sld (t := (i + 2)) cx hX hbl hG rfl (by omega) hL dL_law_220 ?_
  refine x_Vi (C := RX6) (T := TX6) (N := 6) (rest := []) cx (c_X6_setPins l G _ hk7 _ _) gV_L_23 ndX6_setPins rfl ⟨Nat.le_of_ble_eq_true rfl, Nat.le_of_ble_eq_true rfl⟩ (zok_7 (by decide)) (by decide) (p_SC) rfl rfl rfl (Nat.le_of_ble_eq_true rfl) dL_law_221 ⟨Nat.le_of_ble_eq_true rfl, Nat.le_of_ble_eq_true rfl⟩ ?_
  refine x_kp (S := S) (kp8_if (kp8_up (by decide) (kp8_rec hk7.2.1)) kp8_rf) (fun S1 hS1 hk => ?_)
  refine x_aload_n cx dL_law_224 rfl rfl ?_
  refine x_aload_n cx dL_law_225 rfl rfl ?_
  refine x_iload_n cx dL_law_226 rfl rfl ?_
  refine x_iconst (v := 1) cx dL_law_227 (by decide) ?_
  refine x_iadd cx dL_law_228 ?_
  refine x_eqi (nI_add i 1) ?_
  refine x_sld (t := (i + 1)) cx hX hbl hG rfl (by omega) hL dL_law_229 ?_
  refine x_aload_n cx dL_law_230 rfl rfl ?_
  refine x_iload_n cx dL_law_231 rfl rfl ?_
  refine x_iconst (v := 2) cx dL_law_232 (by decide) ?_
  refine x_iadd cx dL_law_233 ?_
  refine x_eqi (nI_add i 2) ?_
  refine x_sld (t := (i + 2)) cx hX hbl hG rfl (by omega) hL dL_law_234 ?_
  refine x_Vi (C := RX7) (T := TX7) (N := 9) (rest := [_]) cx (c_X7_setPins l G _ (kp8_W h hk) (hsz S) (kp8_hs h hk) (Sim_hs h).2 _ _) gV_L_27 ndX7_setPins rfl ⟨Nat.le_of_ble_eq_true rfl, Nat.le_of_ble_eq_true rfl⟩ (zok_8 (by decide)) (by decide) (p_M) rfl rfl rfl (Nat.le_of_ble_eq_true rfl) dL_law_235 ⟨Nat.le_of_ble_eq_true rfl, Nat.le_of_ble_eq_true rfl⟩ ?_
  refine x_icmp_eq_t (tgt := 752) cx dL_law_238 (by decide) (by rw [hk 8 (by decide)]; exact A_pins hq hW _ _) ?_
  refine x_iinc (v := nI (i + 4)) (ls' := [_, _, _, _, _, _, _, _]) cx dL_law_752 rfl (nI_add i 4) (by decide) rfl ?_
  refine x_goto (tgt := 18) cx dL_law_755 (by decide) ?_
  exact ih _ (by rw [hk 8 (by decide)]; subst hS1; exact sim_a h (Qerr hq _ _ _).symm (fun z => ⟨zPins_WF hW, QpinX hq (has_tn hW (eArg_h z)) _⟩))

set_option maxHeartbeats 1000000 in
set_option maxRecDepth 100000 in
theorem law_c3 {p : Program} {e : Env} {s : State} {m : MethodId} {below : List Frame} {meth : Method} {c : Code} (l : Launch) {G : zG} {b L : Nat} {xs : Nat → Int32} (hL : L ≤ 2048) (cx : Cx p s m #[.ref b] meth c cL_law 8 RL G) (hX : va_X b L xs s s.heap) (hbl : b < s.heap.size) (hG : G.2.2 = s.heap.size) {i : Nat} {S : zS} (hi : i + 3 < L) (h : Sim S) (ih : ∀ S : zS, Sim S → Xh p l e room_1 s m #[.ref b] below meth c 8 G (lw_Z below #[.ref b] s) 75 1179 75 (pic G S) 18 [some (.ref b), some (.ref (zad G 7 0)), some (.ref (zad G 8 0)), some (.int (nI (i + 4))), none, none, none, none] []) : Xh p l e room_1 s m #[.ref b] below meth c 8 G (lw_Z below #[.ref b] s) 75 1179 75 (pic G S) 243 [some (.ref b), some (.ref (zad G 7 0)), some (.ref (zad G 8 0)), some (.int (nI i)), none, none, none, none] [] := by
  have hk7 := Sim_k h
  have hq := Sim_q h
  have hW : zWF (S 0) := hk7.1
  obtain ⟨L0, hL7, hL15, hL80, hLt⟩ := Sim_L h
  refine x_aload_n cx dL_law_243 rfl rfl ?_
  refine x_aload_n cx dL_law_244 rfl rfl ?_
  refine x_iload_n cx dL_law_245 rfl rfl ?_
  refine x_iconst (v := 1) cx dL_law_246 (by decide) ?_
  refine x_iadd cx dL_law_247 ?_
  refine x_eqi (nI_add i 1) ?_
  refine x_sld (t := (i + 1)) cx hX hbl hG rfl (by omega) hL dL_law_248 ?_
  refine x_aload_n cx dL_law_249 rfl rfl ?_
  refine x_iload_n cx dL_law_250 rfl rfl ?_
  refine x_iconst (v := 2) cx dL_law_251 (by decide) ?_
  refine x_iadd cx dL_law_252 ?_
  refine x_eqi (nI_add i 2) ?_
  refine x_sld (t := (i + 2)) cx hX hbl hG rfl (by omega) hL dL_law_253 ?_
  refine x_if_eq (tgt := 261) cx dL_law_254 (by decide) (fun hb254 => ?_) (fun hb254 => ?_)
  · refine x_iconst (v := 0) cx dL_law_261 (by decide) ?_
    refine x_Vi (C := RX6) (T := TX6) (N := 6) (rest := []) cx (c_X6_breakChip l G _ hk7 _ _ (by first | exact Or.inl rfl | exact Or.inr rfl)) gV_L_28 ndX6_breakChip rfl ⟨Nat.le_of_ble_eq_true rfl, Nat.le_of_ble_eq_true rfl⟩ (zok_7 (by decide)) (by decide) (p_SC) rfl rfl rfl (Nat.le_of_ble_eq_true rfl) dL_law_262 ⟨Nat.le_of_ble_eq_true rfl, Nat.le_of_ble_eq_true rfl⟩ ?_
    refine x_kp (S := S) (kp8_if (kp8_up (by decide) (kp8_rec hk7.2.1)) kp8_rf) (fun S1 hS1 hk => ?_)
    refine x_aload_n cx dL_law_265 rfl rfl ?_
    refine x_aload_n cx dL_law_266 rfl rfl ?_
    refine x_iload_n cx dL_law_267 rfl rfl ?_
    refine x_iconst (v := 1) cx dL_law_268 (by decide) ?_
    refine x_iadd cx dL_law_269 ?_
    refine x_eqi (nI_add i 1) ?_
    refine x_sld (t := (i + 1)) cx hX hbl hG rfl (by omega) hL dL_law_270 ?_
    refine x_aload_n cx dL_law_271 rfl rfl ?_
    refine x_iload_n cx dL_law_272 rfl rfl ?_
    refine x_iconst (v := 2) cx dL_law_273 (by decide) ?_
    refine x_iadd cx dL_law_274 ?_
    refine x_eqi (nI_add i 2) ?_
    refine x_sld (t := (i + 2)) cx hX hbl hG rfl (by omega) hL dL_law_275 ?_
    refine x_if_eq_t (tgt := 283) cx dL_law_276 (by decide) hb254 ?_
    refine x_iconst (v := 0) cx dL_law_283 (by decide) ?_
    refine x_Vi (C := RX7) (T := TX7) (N := 9) (rest := [_]) cx (c_X7_breakChip l G _ (kp8_W h hk) (hsz S) (kp8_hs h hk) (Sim_hs h).2 _ _ (by first | exact Or.inl rfl | exact Or.inr rfl)) gV_L_32 ndX7_breakChip rfl ⟨Nat.le_of_ble_eq_true rfl, Nat.le_of_ble_eq_true rfl⟩ (zok_8 (by decide)) (by decide) (p_M) rfl rfl rfl (Nat.le_of_ble_eq_true rfl) dL_law_284 ⟨Nat.le_of_ble_eq_true rfl, Nat.le_of_ble_eq_true rfl⟩ ?_
    refine x_icmp_eq_t (tgt := 752) cx dL_law_287 (by decide) (by rw [hk 8 (by decide)]; exact A_brk hq hW _ _) ?_
    refine x_iinc (v := nI (i + 4)) (ls' := [_, _, _, _, _, _, _, _]) cx dL_law_752 rfl (nI_add i 4) (by decide) rfl ?_
    refine x_goto (tgt := 18) cx dL_law_755 (by decide) ?_
    exact ih _ (by rw [hk 8 (by decide)]; subst hS1; exact sim_a h (QeHas hq _).symm (fun z => ⟨zBrkX_WF hW (by first | exact Or.inl rfl | exact Or.inr rfl), QbrkX hq (has_tn hW (eHas_h z)) _⟩))
  · refine x_iconst (v := 1) cx dL_law_257 (by decide) ?_
    refine x_goto (tgt := 262) cx dL_law_258 (by decide) ?_
    refine x_Vi (C := RX6) (T := TX6) (N := 6) (rest := []) cx (c_X6_breakChip l G _ hk7 _ _ (by first | exact Or.inl rfl | exact Or.inr rfl)) gV_L_28 ndX6_breakChip rfl ⟨Nat.le_of_ble_eq_true rfl, Nat.le_of_ble_eq_true rfl⟩ (zok_7 (by decide)) (by decide) (p_SC) rfl rfl rfl (Nat.le_of_ble_eq_true rfl) dL_law_262 ⟨Nat.le_of_ble_eq_true rfl, Nat.le_of_ble_eq_true rfl⟩ ?_
    refine x_kp (S := S) (kp8_if (kp8_up (by decide) (kp8_rec hk7.2.1)) kp8_rf) (fun S1 hS1 hk => ?_)
    refine x_aload_n cx dL_law_265 rfl rfl ?_
    refine x_aload_n cx dL_law_266 rfl rfl ?_
    refine x_iload_n cx dL_law_267 rfl rfl ?_
    refine x_iconst (v := 1) cx dL_law_268 (by decide) ?_
    refine x_iadd cx dL_law_269 ?_
    refine x_eqi (nI_add i 1) ?_
    refine x_sld (t := (i + 1)) cx hX hbl hG rfl (by omega) hL dL_law_270 ?_
    refine x_aload_n cx dL_law_271 rfl rfl ?_
    refine x_iload_n cx dL_law_272 rfl rfl ?_
    refine x_iconst (v := 2) cx dL_law_273 (by decide) ?_
    refine x_iadd cx dL_law_274 ?_
    refine x_eqi (nI_add i 2) ?_
    refine x_sld (t := (i + 2)) cx hX hbl hG rfl (by omega) hL dL_law_275 ?_
    refine x_if_eq_f (tgt := 283) cx dL_law_276 (by decide) hb254 ?_
    refine x_iconst (v := 1) cx dL_law_279 (by decide) ?_
    refine x_goto (tgt := 284) cx dL_law_280 (by decide) ?_
    refine x_Vi (C := RX7) (T := TX7) (N := 9) (rest := [_]) cx (c_X7_breakChip l G _ (kp8_W h hk) (hsz S) (kp8_hs h hk) (Sim_hs h).2 _ _ (by first | exact Or.inl rfl | exact Or.inr rfl)) gV_L_32 ndX7_breakChip rfl ⟨Nat.le_of_ble_eq_true rfl, Nat.le_of_ble_eq_true rfl⟩ (zok_8 (by decide)) (by decide) (p_M) rfl rfl rfl (Nat.le_of_ble_eq_true rfl) dL_law_284 ⟨Nat.le_of_ble_eq_true rfl, Nat.le_of_ble_eq_true rfl⟩ ?_
    refine x_icmp_eq_t (tgt := 752) cx dL_law_287 (by decide) (by rw [hk 8 (by decide)]; exact A_brk hq hW _ _) ?_
    refine x_iinc (v := nI (i + 4)) (ls' := [_, _, _, _, _, _, _, _]) cx dL_law_752 rfl (nI_add i 4) (by decide) rfl ?_
    refine x_goto (tgt := 18) cx dL_law_755 (by decide) ?_
    exact ih _ (by rw [hk 8 (by decide)]; subst hS1; exact sim_a h (QeHas hq _).symm (fun z => ⟨zBrkX_WF hW (by first | exact Or.inl rfl | exact Or.inr rfl), QbrkX hq (has_tn hW (eHas_h z)) _⟩))

set_option maxHeartbeats 1000000 in
set_option maxRecDepth 100000 in
theorem law_c4 {p : Program} {e : Env} {s : State} {m : MethodId} {below : List Frame} {meth : Method} {c : Code} (l : Launch) {G : zG} {b L : Nat} {xs : Nat → Int32} (hL : L ≤ 2048) (cx : Cx p s m #[.ref b] meth c cL_law 8 RL G) (hX : va_X b L xs s s.heap) (hbl : b < s.heap.size) (hG : G.2.2 = s.heap.size) {i : Nat} {S : zS} (hi : i + 3 < L) (h : Sim S) (ih : ∀ S : zS, Sim S → Xh p l e room_1 s m #[.ref b] below meth c 8 G (lw_Z below #[.ref b] s) 75 1179 75 (pic G S) 18 [some (.ref b), some (.ref (zad G 7 0)), some (.ref (zad G 8 0)), some (.int (nI (i + 4))), none, none, none, none] []) : Xh p l e room_1 s m #[.ref b] below meth c 8 G (lw_Z below #[.ref b] s) 75 1179 75 (pic G S) 292 [some (.ref b), some (.ref (zad G 7 0)), some (.ref (zad G 8 0)), some (.int (nI i)), none, none, none, none] [] := by
  have hk7 := Sim_k h
  have hq := Sim_q h
  have hW : zWF (S 0) := hk7.1
  obtain ⟨L0, hL7, hL15, hL80, hLt⟩ := Sim_L h
  refine x_aload_n cx dL_law_292 rfl rfl ?_
  refine x_aload_n cx dL_law_293 rfl rfl ?_
  refine x_iload_n cx dL_law_294 rfl rfl ?_
  refine x_iconst (v := 1) cx dL_law_295 (by decide) ?_
  refine x_iadd cx dL_law_296 ?_
  refine x_eqi (nI_add i 1) ?_
  refine x_sld (t := (i + 1)) cx hX hbl hG rfl (by omega) hL dL_law_297 ?_
  refine x_aload_n cx dL_law_298 rfl rfl ?_
  refine x_iload_n cx dL_law_299 rfl rfl ?_
  refine x_iconst (v := 2) cx dL_law_300 (by decide) ?_
  refine x_iadd cx dL_law_301 ?_
  refine x_eqi (nI_add i 2) ?_
  refine x_sld (t := (i + 2)) cx hX hbl hG rfl (by omega) hL dL_law_302 ?_
  refine x_Vi (C := RX6) (T := TX6) (N := 6) (rest := []) cx (c_X6_clock l G _ hk7 _ _) gV_L_33 ndX6_clock rfl ⟨Nat.le_of_ble_eq_true rfl, Nat.le_of_ble_eq_true rfl⟩ (zok_7 (by decide)) (by decide) (p_SC) rfl rfl rfl (Nat.le_of_ble_eq_true rfl) dL_law_303 ⟨Nat.le_of_ble_eq_true rfl, Nat.le_of_ble_eq_true rfl⟩ ?_
  refine x_kp (S := S) (kp8_if (kp8_up (by decide) (kp8_rec hk7.2.1)) kp8_rf) (fun S1 hS1 hk => ?_)
  refine x_aload_n cx dL_law_306 rfl rfl ?_
  refine x_aload_n cx dL_law_307 rfl rfl ?_
  refine x_iload_n cx dL_law_308 rfl rfl ?_
  refine x_iconst (v := 1) cx dL_law_309 (by decide) ?_
  refine x_iadd cx dL_law_310 ?_
  refine x_eqi (nI_add i 1) ?_
  refine x_sld (t := (i + 1)) cx hX hbl hG rfl (by omega) hL dL_law_311 ?_
  refine x_aload_n cx dL_law_312 rfl rfl ?_
  refine x_iload_n cx dL_law_313 rfl rfl ?_
  refine x_iconst (v := 2) cx dL_law_314 (by decide) ?_
  refine x_iadd cx dL_law_315 ?_
  refine x_eqi (nI_add i 2) ?_
  refine x_sld (t := (i + 2)) cx hX hbl hG rfl (by omega) hL dL_law_316 ?_
  refine x_Vi (C := RX7) (T := TX7) (N := 9) (rest := [_]) cx (c_X7_clock l G _ (kp8_W h hk) (hsz S) (kp8_hs h hk) (Sim_hs h).2 _ _) gV_L_36 ndX7_clock rfl ⟨Nat.le_of_ble_eq_true rfl, Nat.le_of_ble_eq_true rfl⟩ (zok_8 (by decide)) (by decide) (p_M) rfl rfl rfl (Nat.le_of_ble_eq_true rfl) dL_law_317 ⟨Nat.le_of_ble_eq_true rfl, Nat.le_of_ble_eq_true rfl⟩ ?_
  refine x_icmp_eq_t (tgt := 752) cx dL_law_320 (by decide) (by rw [hk 8 (by decide), Qout hq]) ?_
  refine x_iinc (v := nI (i + 4)) (ls' := [_, _, _, _, _, _, _, _]) cx dL_law_752 rfl (nI_add i 4) (by decide) rfl ?_
  refine x_goto (tgt := 18) cx dL_law_755 (by decide) ?_
  exact ih _ (by rw [hk 8 (by decide)]; subst hS1; exact sim_a h rfl (fun z => ⟨zTick_WF hW, Qtick hq _ _⟩))

set_option maxHeartbeats 1000000 in
set_option maxRecDepth 100000 in
theorem law_c5 {p : Program} {e : Env} {s : State} {m : MethodId} {below : List Frame} {meth : Method} {c : Code} (l : Launch) {G : zG} {b L : Nat} {xs : Nat → Int32} (hL : L ≤ 2048) (cx : Cx p s m #[.ref b] meth c cL_law 8 RL G) (hX : va_X b L xs s s.heap) (hbl : b < s.heap.size) (hG : G.2.2 = s.heap.size) {i : Nat} {S : zS} (hi : i + 3 < L) (h : Sim S) (ih : ∀ S : zS, Sim S → Xh p l e room_1 s m #[.ref b] below meth c 8 G (lw_Z below #[.ref b] s) 75 1179 75 (pic G S) 18 [some (.ref b), some (.ref (zad G 7 0)), some (.ref (zad G 8 0)), some (.int (nI (i + 4))), none, none, none, none] []) : Xh p l e room_1 s m #[.ref b] below meth c 8 G (lw_Z below #[.ref b] s) 75 1179 75 (pic G S) 325 [some (.ref b), some (.ref (zad G 7 0)), some (.ref (zad G 8 0)), some (.int (nI i)), none, none, none, none] [] := by
  have hk7 := Sim_k h
  have hq := Sim_q h
  have hW : zWF (S 0) := hk7.1
  obtain ⟨L0, hL7, hL15, hL80, hLt⟩ := Sim_L h
  refine x_aload_n cx dL_law_325 rfl rfl ?_
  refine x_aload_n cx dL_law_326 rfl rfl ?_
  refine x_iload_n cx dL_law_327 rfl rfl ?_
  refine x_iconst (v := 1) cx dL_law_328 (by decide) ?_
  refine x_iadd cx dL_law_329 ?_
  refine x_eqi (nI_add i 1) ?_
  refine x_sld (t := (i + 1)) cx hX hbl hG rfl (by omega) hL dL_law_330 ?_
  refine x_Vi (C := RX6) (T := TX6) (N := 6) (rest := []) cx (c_X6_move l G _ hk7 _) gV_L_37 ndX6_move rfl ⟨Nat.le_of_ble_eq_true rfl, Nat.le_of_ble_eq_true rfl⟩ (zok_7 (by decide)) (by decide) (p_SC) rfl rfl rfl (Nat.le_of_ble_eq_true rfl) dL_law_331 ⟨Nat.le_of_ble_eq_true rfl, Nat.le_of_ble_eq_true rfl⟩ ?_
  refine x_kp (S := S) (kp8_if (kp8_up (by decide) (kp8_rec hk7.2.1)) kp8_rf) (fun S1 hS1 hk => ?_)
  refine x_aload_n cx dL_law_334 rfl rfl ?_
  refine x_aload_n cx dL_law_335 rfl rfl ?_
  refine x_iload_n cx dL_law_336 rfl rfl ?_
  refine x_iconst (v := 1) cx dL_law_337 (by decide) ?_
  refine x_iadd cx dL_law_338 ?_
  refine x_eqi (nI_add i 1) ?_
  refine x_sld (t := (i + 1)) cx hX hbl hG rfl (by omega) hL dL_law_339 ?_
  refine x_Vi (C := RX7) (T := TX7) (N := 9) (rest := [_]) cx (c_X7_move l G _ (kp8_W h hk) (hsz S) (kp8_hs h hk) (Sim_hs h).2 _) gV_L_40 ndX7_move rfl ⟨Nat.le_of_ble_eq_true rfl, Nat.le_of_ble_eq_true rfl⟩ (zok_8 (by decide)) (by decide) (p_M) rfl rfl rfl (Nat.le_of_ble_eq_true rfl) dL_law_340 ⟨Nat.le_of_ble_eq_true rfl, Nat.le_of_ble_eq_true rfl⟩ ?_
  refine x_icmp_eq_t (tgt := 752) cx dL_law_343 (by decide) (by rw [hk 8 (by decide), Qstt hq]) ?_
  refine x_iinc (v := nI (i + 4)) (ls' := [_, _, _, _, _, _, _, _]) cx dL_law_752 rfl (nI_add i 4) (by decide) rfl ?_
  refine x_goto (tgt := 18) cx dL_law_755 (by decide) ?_
  exact ih _ (by rw [hk 8 (by decide)]; subst hS1; exact sim_b h rfl (fun z => ⟨zGo_WF hW, Qgo hq _⟩))

set_option maxHeartbeats 1000000 in
set_option maxRecDepth 100000 in
theorem law_c6 {p : Program} {e : Env} {s : State} {m : MethodId} {below : List Frame} {meth : Method} {c : Code} (l : Launch) {G : zG} {b L : Nat} {xs : Nat → Int32} (hL : L ≤ 2048) (cx : Cx p s m #[.ref b] meth c cL_law 8 RL G) (hX : va_X b L xs s s.heap) (hbl : b < s.heap.size) (hG : G.2.2 = s.heap.size) {i : Nat} {S : zS} (hi : i + 3 < L) (h : Sim S) (ih : ∀ S : zS, Sim S → Xh p l e room_1 s m #[.ref b] below meth c 8 G (lw_Z below #[.ref b] s) 75 1179 75 (pic G S) 18 [some (.ref b), some (.ref (zad G 7 0)), some (.ref (zad G 8 0)), some (.int (nI (i + 4))), none, none, none, none] []) : Xh p l e room_1 s m #[.ref b] below meth c 8 G (lw_Z below #[.ref b] s) 75 1179 75 (pic G S) 348 [some (.ref b), some (.ref (zad G 7 0)), some (.ref (zad G 8 0)), some (.int (nI i)), none, none, none, none] [] := by
  have hk7 := Sim_k h
  have hq := Sim_q h
  have hW : zWF (S 0) := hk7.1
  obtain ⟨L0, hL7, hL15, hL80, hLt⟩ := Sim_L h
  refine x_aload_n cx dL_law_348 rfl rfl ?_
  refine x_Vi (C := RX6) (T := TX6) (N := 6) (rest := []) cx (c_X6_identify l G _ hk7) gV_L_41 ndX6_identify rfl ⟨Nat.le_of_ble_eq_true rfl, Nat.le_of_ble_eq_true rfl⟩ (zok_7 (by decide)) (by decide) (p_SC) rfl rfl rfl (Nat.le_of_ble_eq_true rfl) dL_law_349 ⟨Nat.le_of_ble_eq_true rfl, Nat.le_of_ble_eq_true rfl⟩ ?_
  refine x_kp (S := S) (kp8_up (by decide) (kp8_rec hk7.2.1)) (fun S1 hS1 hk => ?_)
  refine x_aload_n cx dL_law_352 rfl rfl ?_
  refine x_Vi (C := RX7) (T := TX7) (N := 9) (rest := [_]) cx (c_X7_identify l G _ (kp8_W h hk) (hsz S) (kp8_hs h hk) (Sim_hs h).2) gV_L_45 ndX7_identify rfl ⟨Nat.le_of_ble_eq_true rfl, Nat.le_of_ble_eq_true rfl⟩ (zok_8 (by decide)) (by decide) (p_M) rfl rfl rfl (Nat.le_of_ble_eq_true rfl) dL_law_353 ⟨Nat.le_of_ble_eq_true rfl, Nat.le_of_ble_eq_true rfl⟩ ?_
  refine x_icmp_eq_t (tgt := 752) cx dL_law_356 (by decide) (by rw [hk 8 (by decide), (Qident hq hW).1]) ?_
  refine x_iinc (v := nI (i + 4)) (ls' := [_, _, _, _, _, _, _, _]) cx dL_law_752 rfl (nI_add i 4) (by decide) rfl ?_
  refine x_goto (tgt := 18) cx dL_law_755 (by decide) ?_
  exact ih _ (by rw [hk 8 (by decide)]; subst hS1; exact sim_c h ⟨zIdent_WF hW, Qident hq hW⟩)

set_option maxHeartbeats 1000000 in
set_option maxRecDepth 100000 in
theorem law_c7 {p : Program} {e : Env} {s : State} {m : MethodId} {below : List Frame} {meth : Method} {c : Code} (l : Launch) {G : zG} {b L : Nat} {xs : Nat → Int32} (hL : L ≤ 2048) (cx : Cx p s m #[.ref b] meth c cL_law 8 RL G) (hX : va_X b L xs s s.heap) (hbl : b < s.heap.size) (hG : G.2.2 = s.heap.size) {i : Nat} {S : zS} (hi : i + 3 < L) (h : Sim S) (ih : ∀ S : zS, Sim S → Xh p l e room_1 s m #[.ref b] below meth c 8 G (lw_Z below #[.ref b] s) 75 1179 75 (pic G S) 18 [some (.ref b), some (.ref (zad G 7 0)), some (.ref (zad G 8 0)), some (.int (nI (i + 4))), none, none, none, none] []) : Xh p l e room_1 s m #[.ref b] below meth c 8 G (lw_Z below #[.ref b] s) 75 1179 75 (pic G S) 361 [some (.ref b), some (.ref (zad G 7 0)), some (.ref (zad G 8 0)), some (.int (nI i)), none, none, none, none] [] := by
  have hk7 := Sim_k h
  have hq := Sim_q h
  have hW : zWF (S 0) := hk7.1
  obtain ⟨L0, hL7, hL15, hL80, hLt⟩ := Sim_L h
  refine x_aload_n cx dL_law_361 rfl rfl ?_
  refine x_aload_n cx dL_law_362 rfl rfl ?_
  refine x_iload_n cx dL_law_363 rfl rfl ?_
  refine x_iconst (v := 1) cx dL_law_364 (by decide) ?_
  refine x_iadd cx dL_law_365 ?_
  refine x_eqi (nI_add i 1) ?_
  refine x_sld (t := (i + 1)) cx hX hbl hG rfl (by omega) hL dL_law_366 ?_
  refine x_aload_n cx dL_law_367 rfl rfl ?_
  refine x_iload_n cx dL_law_368 rfl rfl ?_
  refine x_iconst (v := 2) cx dL_law_369 (by decide) ?_
  refine x_iadd cx dL_law_370 ?_
  refine x_eqi (nI_add i 2) ?_
  refine x_sld (t := (i + 2)) cx hX hbl hG rfl (by omega) hL dL_law_371 ?_
  refine x_Vi (C := RX6) (T := TX6) (N := 6) (rest := []) cx (c_X6_load l G _ hk7 _ _) gV_L_46 ndX6_load rfl ⟨Nat.le_of_ble_eq_true rfl, Nat.le_of_ble_eq_true rfl⟩ (zok_7 (by decide)) (by decide) (p_SC) rfl rfl rfl (Nat.le_of_ble_eq_true rfl) dL_law_372 ⟨Nat.le_of_ble_eq_true rfl, Nat.le_of_ble_eq_true rfl⟩ ?_
  refine x_kp (S := S) (kp8_if (kp8_up (by decide) (kp8_rec hk7.2.1)) kp8_rf) (fun S1 hS1 hk => ?_)
  refine x_aload_n cx dL_law_375 rfl rfl ?_
  refine x_aload_n cx dL_law_376 rfl rfl ?_
  refine x_iload_n cx dL_law_377 rfl rfl ?_
  refine x_iconst (v := 1) cx dL_law_378 (by decide) ?_
  refine x_iadd cx dL_law_379 ?_
  refine x_eqi (nI_add i 1) ?_
  refine x_sld (t := (i + 1)) cx hX hbl hG rfl (by omega) hL dL_law_380 ?_
  refine x_aload_n cx dL_law_381 rfl rfl ?_
  refine x_iload_n cx dL_law_382 rfl rfl ?_
  refine x_iconst (v := 2) cx dL_law_383 (by decide) ?_
  refine x_iadd cx dL_law_384 ?_
  refine x_eqi (nI_add i 2) ?_
  refine x_sld (t := (i + 2)) cx hX hbl hG rfl (by omega) hL dL_law_385 ?_
  refine x_Vi (C := RX7) (T := TX7) (N := 9) (rest := [_]) cx (c_X7_load l G _ (kp8_W h hk) (hsz S) (kp8_hs h hk) (Sim_hs h).2 _ _) gV_L_49 ndX7_load rfl ⟨Nat.le_of_ble_eq_true rfl, Nat.le_of_ble_eq_true rfl⟩ (zok_8 (by decide)) (by decide) (p_M) rfl rfl rfl (Nat.le_of_ble_eq_true rfl) dL_law_386 ⟨Nat.le_of_ble_eq_true rfl, Nat.le_of_ble_eq_true rfl⟩ ?_
  refine x_icmp_eq_t (tgt := 752) cx dL_law_389 (by decide) (by rw [hk 8 (by decide)]; exact A_load hq hW _ _) ?_
  refine x_iinc (v := nI (i + 4)) (ls' := [_, _, _, _, _, _, _, _]) cx dL_law_752 rfl (nI_add i 4) (by decide) rfl ?_
  refine x_goto (tgt := 18) cx dL_law_755 (by decide) ?_
  exact ih _ (by rw [hk 8 (by decide)]; subst hS1; exact sim_b h (Qerr hq _ _ _).symm (fun z => ⟨zLoad_WF hW, Qload hq _ _⟩))

set_option maxHeartbeats 1000000 in
set_option maxRecDepth 100000 in
theorem law_c8 {p : Program} {e : Env} {s : State} {m : MethodId} {below : List Frame} {meth : Method} {c : Code} (l : Launch) {G : zG} {b L : Nat} {xs : Nat → Int32} (hL : L ≤ 2048) (cx : Cx p s m #[.ref b] meth c cL_law 8 RL G) (hX : va_X b L xs s s.heap) (hbl : b < s.heap.size) (hG : G.2.2 = s.heap.size) {i : Nat} {S : zS} (hi : i + 3 < L) (h : Sim S) (ih : ∀ S : zS, Sim S → Xh p l e room_1 s m #[.ref b] below meth c 8 G (lw_Z below #[.ref b] s) 75 1179 75 (pic G S) 18 [some (.ref b), some (.ref (zad G 7 0)), some (.ref (zad G 8 0)), some (.int (nI (i + 4))), none, none, none, none] []) : Xh p l e room_1 s m #[.ref b] below meth c 8 G (lw_Z below #[.ref b] s) 75 1179 75 (pic G S) 394 [some (.ref b), some (.ref (zad G 7 0)), some (.ref (zad G 8 0)), some (.int (nI i)), none, none, none, none] [] := by
  have hk7 := Sim_k h
  have hq := Sim_q h
  have hW : zWF (S 0) := hk7.1
  obtain ⟨L0, hL7, hL15, hL80, hLt⟩ := Sim_L h
  refine x_aload_n cx dL_law_394 rfl rfl ?_
  refine x_aload_n cx dL_law_395 rfl rfl ?_
  refine x_iload_n cx dL_law_396 rfl rfl ?_
  refine x_iconst (v := 1) cx dL_law_397 (by decide) ?_
  refine x_iadd cx dL_law_398 ?_
  refine x_eqi (nI_add i 1) ?_
  refine x_sld (t := (i + 1)) cx hX hbl hG rfl (by omega) hL dL_law_399 ?_
  refine x_aload_n cx dL_law_400 rfl rfl ?_
  refine x_iload_n cx dL_law_401 rfl rfl ?_
  refine x_iconst (v := 2) cx dL_law_402 (by decide) ?_
  refine x_iadd cx dL_law_403 ?_
  refine x_eqi (nI_add i 2) ?_
  refine x_sld (t := (i + 2)) cx hX hbl hG rfl (by omega) hL dL_law_404 ?_
  refine x_Vi (C := RX6) (T := TX6) (N := 6) (rest := []) cx (c_X6_exchange l G _ hk7 _ _) gV_L_50 ndX6_exchange rfl ⟨Nat.le_of_ble_eq_true rfl, Nat.le_of_ble_eq_true rfl⟩ (zok_7 (by decide)) (by decide) (p_SC) rfl rfl rfl (Nat.le_of_ble_eq_true rfl) dL_law_405 ⟨Nat.le_of_ble_eq_true rfl, Nat.le_of_ble_eq_true rfl⟩ ?_
  refine x_kp (S := S) (kp8_if (kp8_up (by decide) (kp8_rec hk7.2.1)) kp8_rf) (fun S1 hS1 hk => ?_)
  refine x_aload_n cx dL_law_408 rfl rfl ?_
  refine x_aload_n cx dL_law_409 rfl rfl ?_
  refine x_iload_n cx dL_law_410 rfl rfl ?_
  refine x_iconst (v := 1) cx dL_law_411 (by decide) ?_
  refine x_iadd cx dL_law_412 ?_
  refine x_eqi (nI_add i 1) ?_
  refine x_sld (t := (i + 1)) cx hX hbl hG rfl (by omega) hL dL_law_413 ?_
  refine x_aload_n cx dL_law_414 rfl rfl ?_
  refine x_iload_n cx dL_law_415 rfl rfl ?_
  refine x_iconst (v := 2) cx dL_law_416 (by decide) ?_
  refine x_iadd cx dL_law_417 ?_
  refine x_eqi (nI_add i 2) ?_
  refine x_sld (t := (i + 2)) cx hX hbl hG rfl (by omega) hL dL_law_418 ?_
  refine x_Vi (C := RX7) (T := TX7) (N := 9) (rest := [_]) cx (c_X7_exchange l G _ (kp8_W h hk) (hsz S) (kp8_hs h hk) (Sim_hs h).2 _ _) gV_L_53 ndX7_exchange rfl ⟨Nat.le_of_ble_eq_true rfl, Nat.le_of_ble_eq_true rfl⟩ (zok_8 (by decide)) (by decide) (p_M) rfl rfl rfl (Nat.le_of_ble_eq_true rfl) dL_law_419 ⟨Nat.le_of_ble_eq_true rfl, Nat.le_of_ble_eq_true rfl⟩ ?_
  refine x_icmp_eq_t (tgt := 752) cx dL_law_422 (by decide) (by rw [hk 8 (by decide), Qerr hq, QexchO hq]) ?_
  refine x_iinc (v := nI (i + 4)) (ls' := [_, _, _, _, _, _, _, _]) cx dL_law_752 rfl (nI_add i 4) (by decide) rfl ?_
  refine x_goto (tgt := 18) cx dL_law_755 (by decide) ?_
  exact ih _ (by rw [hk 8 (by decide)]; subst hS1; exact sim_b h (Qerr hq _ _ _).symm (fun z => ⟨zExch_WF hW, Qexch hq _ _⟩))

set_option maxHeartbeats 1000000 in
set_option maxRecDepth 100000 in
theorem law_c9 {p : Program} {e : Env} {s : State} {m : MethodId} {below : List Frame} {meth : Method} {c : Code} (l : Launch) {G : zG} {b L : Nat} {xs : Nat → Int32} (hL : L ≤ 2048) (cx : Cx p s m #[.ref b] meth c cL_law 8 RL G) (hX : va_X b L xs s s.heap) (hbl : b < s.heap.size) (hG : G.2.2 = s.heap.size) {i : Nat} {S : zS} (hi : i + 3 < L) (h : Sim S) (ih : ∀ S : zS, Sim S → Xh p l e room_1 s m #[.ref b] below meth c 8 G (lw_Z below #[.ref b] s) 75 1179 75 (pic G S) 18 [some (.ref b), some (.ref (zad G 7 0)), some (.ref (zad G 8 0)), some (.int (nI (i + 4))), none, none, none, none] []) : Xh p l e room_1 s m #[.ref b] below meth c 8 G (lw_Z below #[.ref b] s) 75 1179 75 (pic G S) 427 [some (.ref b), some (.ref (zad G 7 0)), some (.ref (zad G 8 0)), some (.int (nI i)), none, none, none, none] [] := by
  have hk7 := Sim_k h
  have hq := Sim_q h
  have hW : zWF (S 0) := hk7.1
  obtain ⟨L0, hL7, hL15, hL80, hLt⟩ := Sim_L h
  refine x_aload_n cx dL_law_427 rfl rfl ?_
  refine x_aload_n cx dL_law_428 rfl rfl ?_
  refine x_iload_n cx dL_law_429 rfl rfl ?_
  refine x_iconst (v := 1) cx dL_law_430 (by decide) ?_
  refine x_iadd cx dL_law_431 ?_
  refine x_eqi (nI_add i 1) ?_
  refine x_sld (t := (i + 1)) cx hX hbl hG rfl (by omega) hL dL_law_432 ?_
  refine x_Vi (C := RX6) (T := TX6) (N := 6) (rest := []) cx (c_X6_append l G _ hk7 L0 hL7 hL80 _) gV_L_54 ndX6_append rfl ⟨Nat.le_of_ble_eq_true rfl, Nat.le_of_ble_eq_true rfl⟩ (zok_7 (by decide)) (by decide) (p_SC) rfl rfl rfl (Nat.le_of_ble_eq_true rfl) dL_law_433 ⟨Nat.le_of_ble_eq_true rfl, Nat.le_of_ble_eq_true rfl⟩ ?_
  refine x_kp (S := S) (kp8_if (kp8_up (by decide) kp8_rf) kp8_rf) (fun S1 hS1 hk => ?_)
  refine x_aload_n cx dL_law_436 rfl rfl ?_
  refine x_aload_n cx dL_law_437 rfl rfl ?_
  refine x_iload_n cx dL_law_438 rfl rfl ?_
  refine x_iconst (v := 1) cx dL_law_439 (by decide) ?_
  refine x_iadd cx dL_law_440 ?_
  refine x_eqi (nI_add i 1) ?_
  refine x_sld (t := (i + 1)) cx hX hbl hG rfl (by omega) hL dL_law_441 ?_
  refine x_Vi (C := RX7) (T := TX7) (N := 9) (rest := [_]) cx (c_X7_append l G _ (kp8_W h hk) (hsz S) (kp8_hs h hk) (Sim_hs h).2 L0 (by rw [hk 15 (by decide)]; exact hL15) hL80 _) gV_L_57 ndX7_append rfl ⟨Nat.le_of_ble_eq_true rfl, Nat.le_of_ble_eq_true rfl⟩ (zok_8 (by decide)) (by decide) (p_M) rfl rfl rfl (Nat.le_of_ble_eq_true rfl) dL_law_442 ⟨Nat.le_of_ble_eq_true rfl, Nat.le_of_ble_eq_true rfl⟩ ?_
  refine x_icmp_eq_t (tgt := 752) cx dL_law_445 (by decide) rfl ?_
  refine x_iinc (v := nI (i + 4)) (ls' := [_, _, _, _, _, _, _, _]) cx dL_law_752 rfl (nI_add i 4) (by decide) rfl ?_
  refine x_goto (tgt := 18) cx dL_law_755 (by decide) ?_
  exact ih _ (sim_append h hL7 hL15 hL80 _ hS1)

set_option maxHeartbeats 1000000 in
set_option maxRecDepth 100000 in
theorem law_c10 {p : Program} {e : Env} {s : State} {m : MethodId} {below : List Frame} {meth : Method} {c : Code} (l : Launch) {G : zG} {b L : Nat} {xs : Nat → Int32} (hL : L ≤ 2048) (cx : Cx p s m #[.ref b] meth c cL_law 8 RL G) (hX : va_X b L xs s s.heap) (hbl : b < s.heap.size) (hG : G.2.2 = s.heap.size) {i : Nat} {S : zS} (hi : i + 3 < L) (h : Sim S) (ih : ∀ S : zS, Sim S → Xh p l e room_1 s m #[.ref b] below meth c 8 G (lw_Z below #[.ref b] s) 75 1179 75 (pic G S) 18 [some (.ref b), some (.ref (zad G 7 0)), some (.ref (zad G 8 0)), some (.int (nI (i + 4))), none, none, none, none] []) : Xh p l e room_1 s m #[.ref b] below meth c 8 G (lw_Z below #[.ref b] s) 75 1179 75 (pic G S) 450 [some (.ref b), some (.ref (zad G 7 0)), some (.ref (zad G 8 0)), some (.int (nI i)), none, none, none, none] [] := by
  have hk7 := Sim_k h
  have hq := Sim_q h
  have hW : zWF (S 0) := hk7.1
  obtain ⟨L0, hL7, hL15, hL80, hLt⟩ := Sim_L h
  refine x_aload_n cx dL_law_450 rfl rfl ?_
  refine x_Vi (C := RX6) (T := TX6) (N := 6) (rest := []) cx (c_X6_clearText l G _ hk7) gV_L_58 ndX6_clearText rfl ⟨Nat.le_of_ble_eq_true rfl, Nat.le_of_ble_eq_true rfl⟩ (zok_7 (by decide)) (by decide) (p_SC) rfl rfl rfl (Nat.le_of_ble_eq_true rfl) dL_law_451 ⟨Nat.le_of_ble_eq_true rfl, Nat.le_of_ble_eq_true rfl⟩ ?_
  refine x_kp (S := S) (kp8_up (by decide) kp8_rf) (fun S1 hS1 hk => ?_)
  refine x_aload_n cx dL_law_454 rfl rfl ?_
  refine x_Vi (C := RX7) (T := TX7) (N := 9) (rest := [_]) cx (c_X7_clearText l G _ (kp8_W h hk) (hsz S) (kp8_hs h hk) (Sim_hs h).2) gV_L_61 ndX7_clearText rfl ⟨Nat.le_of_ble_eq_true rfl, Nat.le_of_ble_eq_true rfl⟩ (zok_8 (by decide)) (by decide) (p_M) rfl rfl rfl (Nat.le_of_ble_eq_true rfl) dL_law_455 ⟨Nat.le_of_ble_eq_true rfl, Nat.le_of_ble_eq_true rfl⟩ ?_
  refine x_icmp_eq_t (tgt := 752) cx dL_law_458 (by decide) (by rw [hk 15 (by decide)]; exact h.2.2.2.2.2.2.1.symm) ?_
  refine x_iinc (v := nI (i + 4)) (ls' := [_, _, _, _, _, _, _, _]) cx dL_law_752 rfl (nI_add i 4) (by decide) rfl ?_
  refine x_goto (tgt := 18) cx dL_law_755 (by decide) ?_
  exact ih _ (sim_clear h hS1)

set_option maxHeartbeats 1000000 in
set_option maxRecDepth 100000 in
theorem law_c11 {p : Program} {e : Env} {s : State} {m : MethodId} {below : List Frame} {meth : Method} {c : Code} (l : Launch) {G : zG} {b L : Nat} {xs : Nat → Int32} (hL : L ≤ 2048) (cx : Cx p s m #[.ref b] meth c cL_law 8 RL G) (hX : va_X b L xs s s.heap) (hbl : b < s.heap.size) (hG : G.2.2 = s.heap.size) {i : Nat} {S : zS} (hi : i + 3 < L) (h : Sim S) (ih : ∀ S : zS, Sim S → Xh p l e room_1 s m #[.ref b] below meth c 8 G (lw_Z below #[.ref b] s) 75 1179 75 (pic G S) 18 [some (.ref b), some (.ref (zad G 7 0)), some (.ref (zad G 8 0)), some (.int (nI (i + 4))), none, none, none, none] []) : Xh p l e room_1 s m #[.ref b] below meth c 8 G (lw_Z below #[.ref b] s) 75 1179 75 (pic G S) 463 [some (.ref b), some (.ref (zad G 7 0)), some (.ref (zad G 8 0)), some (.int (nI i)), none, none, none, none] [] := by
  have hk7 := Sim_k h
  have hq := Sim_q h
  have hW : zWF (S 0) := hk7.1
  obtain ⟨L0, hL7, hL15, hL80, hLt⟩ := Sim_L h
  refine x_aload_n cx dL_law_463 rfl rfl ?_
  refine x_Vi (C := RX6) (T := TX6) (N := 6) (rest := []) cx (c_X6_fault l G _ hk7 L0 hL7 hL80) gV_L_62 ndX6_fault rfl ⟨Nat.le_of_ble_eq_true rfl, Nat.le_of_ble_eq_true rfl⟩ (zok_7 (by decide)) (by decide) (p_SC) rfl rfl rfl (Nat.le_of_ble_eq_true rfl) dL_law_464 ⟨Nat.le_of_ble_eq_true rfl, Nat.le_of_ble_eq_true rfl⟩ ?_
  refine x_kp (S := S) kp8_rf (fun S1 hS1 hk => ?_)
  refine x_aload_n cx dL_law_467 rfl rfl ?_
  refine x_Vi (C := RX7) (T := TX7) (N := 9) (rest := [_]) cx (c_X7_fault l G _ L0 (by rw [hk 15 (by decide)]; exact hL15) hL80) gV_L_65 ndX7_fault rfl ⟨Nat.le_of_ble_eq_true rfl, Nat.le_of_ble_eq_true rfl⟩ (zok_8 (by decide)) (by decide) (p_M) rfl rfl rfl (Nat.le_of_ble_eq_true rfl) dL_law_468 ⟨Nat.le_of_ble_eq_true rfl, Nat.le_of_ble_eq_true rfl⟩ ?_
  refine x_icmp_eq_t (tgt := 752) cx dL_law_471 (by decide) (by rw [hk 15 (by decide)]; exact Qfault hLt) ?_
  refine x_iinc (v := nI (i + 4)) (ls' := [_, _, _, _, _, _, _, _]) cx dL_law_752 rfl (nI_add i 4) (by decide) rfl ?_
  refine x_goto (tgt := 18) cx dL_law_755 (by decide) ?_
  exact ih _ (by subst hS1; exact h)
