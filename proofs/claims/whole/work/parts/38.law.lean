set_option maxHeartbeats 16000000 in
set_option maxRecDepth 100000 in
theorem law_loop {p : Program} {e : Env} {s : State} {m : MethodId} {below : List Frame} {meth : Method} {c : Code} (l : Launch) {G : zG} {b L : Nat} {xs : Nat → Int32} (hL : L ≤ 2048) (cx : Cx p s m #[.ref b] meth c cL_law 8 RL G) (hX : va_X b L xs s s.heap) (hbl : b < s.heap.size) (hG : G.2.2 = s.heap.size) (hr : meth.sig.returnType = ret) : ∀ (f i : Nat) (S : zS), L ≤ i + f → i ≤ L + 4 → Sim S → Xh p l e room_1 s m #[.ref b] below meth c 8 G (lw_Z below #[.ref b] s) 75 1179 75 (pic G S) 18 [some (.ref b), some (.ref (zad G 7 0)), some (.ref (zad G 8 0)), some (.int (nI i)), none, none, none, none] [] := by
  intro f
  induction f with
  | zero =>
    intro i S hf hi h
    refine x_iload_n cx dL_law_18 rfl rfl ?_
    refine x_aload_n cx dL_law_19 rfl rfl ?_
    refine x_slen cx hX hbl hG dL_law_20 ?_
    refine x_iconst (v := 4) cx dL_law_21 (by decide) ?_
    refine x_isub cx dL_law_22 ?_
    refine x_icmp_gt_t (tgt := 758) cx dL_law_23 (by decide) ((law_cmp (by omega) hL).mpr (by omega)) ?_
    refine x_iconst (v := 1) cx dL_law_758 (by decide) ?_
    exact x_lend cx hG hr (by decide) (by decide) dL_law_759
  | succ f ih =>
    intro i S hf hi h
    have hk7 := Sim_k h
    have hq := Sim_q h
    have hW : zWF (S 0) := hk7.1
    obtain ⟨L0, hL7, hL15, hL80, hLt⟩ := Sim_L h
    by_cases hc : L < i + 4
    · refine x_iload_n cx dL_law_18 rfl rfl ?_
      refine x_aload_n cx dL_law_19 rfl rfl ?_
      refine x_slen cx hX hbl hG dL_law_20 ?_
      refine x_iconst (v := 4) cx dL_law_21 (by decide) ?_
      refine x_isub cx dL_law_22 ?_
      refine x_icmp_gt_t (tgt := 758) cx dL_law_23 (by decide) ((law_cmp (by omega) hL).mpr hc) ?_
      refine x_iconst (v := 1) cx dL_law_758 (by decide) ?_
      exact x_lend cx hG hr (by decide) (by decide) dL_law_759
    ·
      refine x_iload_n cx dL_law_18 rfl rfl ?_
      refine x_aload_n cx dL_law_19 rfl rfl ?_
      refine x_slen cx hX hbl hG dL_law_20 ?_
      refine x_iconst (v := 4) cx dL_law_21 (by decide) ?_
      refine x_isub cx dL_law_22 ?_
      refine x_icmp_gt_f (tgt := 758) cx dL_law_23 (by decide) (fun z => hc ((law_cmp (by omega) hL).mp z)) ?_
      refine x_aload_n cx dL_law_26 rfl rfl ?_
      refine x_iload_n cx dL_law_27 rfl rfl ?_
      refine x_sld (t := i) cx hX hbl hG rfl (by omega) hL dL_law_28 ?_
      refine x_bipush (v := 31) cx dL_law_29 (by decide) ?_
      refine x_iand cx dL_law_31 ?_
      generalize xs i &&& 31 = v
      rcases sw_cases v 23 (by decide) with hsw | hsw | ⟨w, hw, rfl⟩
      · refine x_tableOut (tgt := 752) cx dL_law_32 (Or.inl hsw) (by decide) ?_
        refine x_iinc (v := nI (i + 4)) (ls' := [_, _, _, _, _, _, _, _]) cx dL_law_752 rfl (nI_add i 4) (by decide) rfl ?_
        refine x_goto (tgt := 18) cx dL_law_755 (by decide) ?_
        exact ih (i + 4) S (by omega) (by omega) h
      · refine x_tableOut (tgt := 752) cx dL_law_32 (Or.inr hsw) (by decide) ?_
        refine x_iinc (v := nI (i + 4)) (ls' := [_, _, _, _, _, _, _, _]) cx dL_law_752 rfl (nI_add i 4) (by decide) rfl ?_
        refine x_goto (tgt := 18) cx dL_law_755 (by decide) ?_
        exact ih (i + 4) S (by omega) (by omega) h
      · rcases (show w = 0 ∨ w = 1 ∨ w = 2 ∨ w = 3 ∨ w = 4 ∨ w = 5 ∨ w = 6 ∨ w = 7 ∨ w = 8 ∨ w = 9 ∨ w = 10 ∨ w = 11 ∨ w = 12 ∨ w = 13 ∨ w = 14 ∨ w = 15 ∨ w = 16 ∨ w = 17 ∨ w = 18 ∨ w = 19 ∨ w = 20 ∨ w = 21 ∨ w = 22 ∨ w = 23 by omega) with rfl | rfl | rfl | rfl | rfl | rfl | rfl | rfl | rfl | rfl | rfl | rfl | rfl | rfl | rfl | rfl | rfl | rfl | rfl | rfl | rfl | rfl | rfl | rfl
        · refine x_tableIn (tgt := 144) (off := 112) cx dL_law_32 (by decide +kernel) (by decide +kernel) (by decide +kernel) (by decide) ?_
          refine x_aload_n cx dL_law_144 rfl rfl ?_
          refine x_aload_n cx dL_law_145 rfl rfl ?_
          refine x_iload_n cx dL_law_146 rfl rfl ?_
          refine x_iconst (v := 1) cx dL_law_147 (by decide) ?_
          refine x_iadd cx dL_law_148 ?_
          refine x_eqi (nI_add i 1) ?_
          refine x_sld (t := (i + 1)) cx hX hbl hG rfl (by omega) hL dL_law_149 ?_
          refine x_aload_n cx dL_law_150 rfl rfl ?_
          refine x_iload_n cx dL_law_151 rfl rfl ?_
          refine x_iconst (v := 2) cx dL_law_152 (by decide) ?_
          refine x_iadd cx dL_law_153 ?_
          refine x_eqi (nI_add i 2) ?_
          refine x_sld (t := (i + 2)) cx hX hbl hG rfl (by omega) hL dL_law_154 ?_
          refine x_aload_n cx dL_law_155 rfl rfl ?_
          refine x_iload_n cx dL_law_156 rfl rfl ?_
          refine x_iconst (v := 3) cx dL_law_157 (by decide) ?_
          refine x_iadd cx dL_law_158 ?_
          refine x_eqi (nI_add i 3) ?_
          refine x_sld (t := (i + 3)) cx hX hbl hG rfl (by omega) hL dL_law_159 ?_
          refine x_Vi (C := RX6) (T := TX6) (N := 6) (rest := []) cx (c_X6_add l G _ hk7 _ _ _) gV_L_13 ndX6_add rfl ⟨Nat.le_of_ble_eq_true rfl, Nat.le_of_ble_eq_true rfl⟩ (zok_7 (by decide)) (by decide) (p_SC) rfl rfl rfl (Nat.le_of_ble_eq_true rfl) dL_law_160 ⟨Nat.le_of_ble_eq_true rfl, Nat.le_of_ble_eq_true rfl⟩ ?_
          refine x_kp (S := S) (kp8_if (kp8_up (by decide) (kp8_rec hk7.2.1)) kp8_rf) (fun S1 hS1 hk => ?_)
          refine x_aload_n cx dL_law_163 rfl rfl ?_
          refine x_aload_n cx dL_law_164 rfl rfl ?_
          refine x_iload_n cx dL_law_165 rfl rfl ?_
          refine x_iconst (v := 1) cx dL_law_166 (by decide) ?_
          refine x_iadd cx dL_law_167 ?_
          refine x_eqi (nI_add i 1) ?_
          refine x_sld (t := (i + 1)) cx hX hbl hG rfl (by omega) hL dL_law_168 ?_
          refine x_aload_n cx dL_law_169 rfl rfl ?_
          refine x_iload_n cx dL_law_170 rfl rfl ?_
          refine x_iconst (v := 2) cx dL_law_171 (by decide) ?_
          refine x_iadd cx dL_law_172 ?_
          refine x_eqi (nI_add i 2) ?_
          refine x_sld (t := (i + 2)) cx hX hbl hG rfl (by omega) hL dL_law_173 ?_
          refine x_aload_n cx dL_law_174 rfl rfl ?_
          refine x_iload_n cx dL_law_175 rfl rfl ?_
          refine x_iconst (v := 3) cx dL_law_176 (by decide) ?_
          refine x_iadd cx dL_law_177 ?_
          refine x_eqi (nI_add i 3) ?_
          refine x_sld (t := (i + 3)) cx hX hbl hG rfl (by omega) hL dL_law_178 ?_
          refine x_Vi (C := RX7) (T := TX7) (N := 9) (rest := [_]) cx (c_X7_add l G _ (kp8_W h hk) (hsz S) (kp8_hs h hk) (Sim_hs h).2 _ _ _) gV_L_17 ndX7_add rfl ⟨Nat.le_of_ble_eq_true rfl, Nat.le_of_ble_eq_true rfl⟩ (zok_8 (by decide)) (by decide) (p_M) rfl rfl rfl (Nat.le_of_ble_eq_true rfl) dL_law_179 ⟨Nat.le_of_ble_eq_true rfl, Nat.le_of_ble_eq_true rfl⟩ ?_
          refine x_icmp_eq_t (tgt := 752) cx dL_law_182 (by decide) (by rw [hk 8 (by decide), QeAdd hq, hq.1]) ?_
          refine x_iinc (v := nI (i + 4)) (ls' := [_, _, _, _, _, _, _, _]) cx dL_law_752 rfl (nI_add i 4) (by decide) rfl ?_
          refine x_goto (tgt := 18) cx dL_law_755 (by decide) ?_
          exact ih (i + 4) _ (by omega) (by omega) (by rw [hk 8 (by decide)]; subst hS1; exact sim_a h (QeAdd hq _ _ _).symm (fun z => ⟨zAdd_WF hW (eAdd_6 hW z) z, Qadd hq hW (eAdd_6 hW z) _ _ _⟩))
        · refine x_tableIn (tgt := 187) (off := 155) cx dL_law_32 (by decide +kernel) (by decide +kernel) (by decide +kernel) (by decide) ?_
          refine x_aload_n cx dL_law_187 rfl rfl ?_
          refine x_aload_n cx dL_law_188 rfl rfl ?_
          refine x_iload_n cx dL_law_189 rfl rfl ?_
          refine x_iconst (v := 1) cx dL_law_190 (by decide) ?_
          refine x_iadd cx dL_law_191 ?_
          refine x_eqi (nI_add i 1) ?_
          refine x_sld (t := (i + 1)) cx hX hbl hG rfl (by omega) hL dL_law_192 ?_
          refine x_Vi (C := RX6) (T := TX6) (N := 6) (rest := []) cx (c_X6_take l G _ hk7 _) gV_L_18 ndX6_take rfl ⟨Nat.le_of_ble_eq_true rfl, Nat.le_of_ble_eq_true rfl⟩ (zok_7 (by decide)) (by decide) (p_SC) rfl rfl rfl (Nat.le_of_ble_eq_true rfl) dL_law_193 ⟨Nat.le_of_ble_eq_true rfl, Nat.le_of_ble_eq_true rfl⟩ ?_
          refine x_kp (S := S) (kp8_if (kp8_up (by decide) (kp8_rec hk7.2.1)) kp8_rf) (fun S1 hS1 hk => ?_)
          refine x_aload_n cx dL_law_196 rfl rfl ?_
          refine x_aload_n cx dL_law_197 rfl rfl ?_
          refine x_iload_n cx dL_law_198 rfl rfl ?_
          refine x_iconst (v := 1) cx dL_law_199 (by decide) ?_
          refine x_iadd cx dL_law_200 ?_
          refine x_eqi (nI_add i 1) ?_
          refine x_sld (t := (i + 1)) cx hX hbl hG rfl (by omega) hL dL_law_201 ?_
          refine x_Vi (C := RX7) (T := TX7) (N := 9) (rest := [_]) cx (c_X7_take l G _ (kp8_W h hk) (hsz S) (kp8_hs h hk) (Sim_hs h).2 _) gV_L_22 ndX7_take rfl ⟨Nat.le_of_ble_eq_true rfl, Nat.le_of_ble_eq_true rfl⟩ (zok_8 (by decide)) (by decide) (p_M) rfl rfl rfl (Nat.le_of_ble_eq_true rfl) dL_law_202 ⟨Nat.le_of_ble_eq_true rfl, Nat.le_of_ble_eq_true rfl⟩ ?_
          refine x_icmp_eq_t (tgt := 752) cx dL_law_205 (by decide) (by rw [hk 8 (by decide)]; exact (A_take hq hW _).symm) ?_
          refine x_iinc (v := nI (i + 4)) (ls' := [_, _, _, _, _, _, _, _]) cx dL_law_752 rfl (nI_add i 4) (by decide) rfl ?_
          refine x_goto (tgt := 18) cx dL_law_755 (by decide) ?_
          exact ih (i + 4) _ (by omega) (by omega) (by rw [hk 8 (by decide)]; subst hS1; exact sim_a h (QeHas hq _).symm (fun z => ⟨zTake_WF hW (has_tn hW (eHas_h z)), Qtake hq hW (has_tn hW (eHas_h z))⟩))
        · refine x_tableIn (tgt := 210) (off := 178) cx dL_law_32 (by decide +kernel) (by decide +kernel) (by decide +kernel) (by decide) ?_
          refine x_aload_n cx dL_law_210 rfl rfl ?_
          refine x_aload_n cx dL_law_211 rfl rfl ?_
          refine x_iload_n cx dL_law_212 rfl rfl ?_
          refine x_iconst (v := 1) cx dL_law_213 (by decide) ?_
          refine x_iadd cx dL_law_214 ?_
          refine x_eqi (nI_add i 1) ?_
          refine x_sld (t := (i + 1)) cx hX hbl hG rfl (by omega) hL dL_law_215 ?_
          refine x_aload_n cx dL_law_216 rfl rfl ?_
          refine x_iload_n cx dL_law_217 rfl rfl ?_
          refine x_iconst (v := 2) cx dL_law_218 (by decide) ?_
          refine x_iadd cx dL_law_219 ?_
          refine x_eqi (nI_add i 2) ?_
          refine x_sld (t := (i + 2)) cx hX hbl hG rfl (by omega) hL dL_law_220 ?_
          refine x_Vi (C := RX6) (T := TX6) (N := 6) (rest := []) cx (c_X6_setPins l G _ hk7 _ _) gV_L_23 ndX6_setPins rfl ⟨Nat.le_of_ble_eq_true rfl, Nat.le_of_ble_eq_true rfl⟩ (zok_7 (by decide)) (by decide) (p_SC) rfl rfl rfl (Nat.le_of_ble_eq_true rfl) dL_law_221 ⟨Nat.le_of_ble_eq_true rfl, Nat.le_of_ble_eq_true rfl⟩ ?_
          refine x_kp (S := S) (kp8_if (kp8_up (by decide) (kp8_rec hk7.2.1)) kp8_rf) (fun S1 hS1 hk => ?_)
          refine x_aload_n cx dL_law_224 rfl rfl ?_
          refine x_aload_n cx dL_law_225 rfl rfl ?_
          refine x_iload_n cx dL_law_226 rfl rfl ?_
          refine x_iconst (v := 1) cx dL_law_227 (by decide) ?_
          refine x_iadd cx dL_law_228 ?_
          refine x_eqi (nI_add i 1) ?_
          refine x_sld (t := (i + 1)) cx hX hbl hG rfl (by omega) hL dL_law_229 ?_
          refine x_aload_n cx dL_law_230 rfl rfl ?_
          refine x_iload_n cx dL_law_231 rfl rfl ?_
          refine x_iconst (v := 2) cx dL_law_232 (by decide) ?_
          refine x_iadd cx dL_law_233 ?_
          refine x_eqi (nI_add i 2) ?_
          refine x_sld (t := (i + 2)) cx hX hbl hG rfl (by omega) hL dL_law_234 ?_
          refine x_Vi (C := RX7) (T := TX7) (N := 9) (rest := [_]) cx (c_X7_setPins l G _ (kp8_W h hk) (hsz S) (kp8_hs h hk) (Sim_hs h).2 _ _) gV_L_27 ndX7_setPins rfl ⟨Nat.le_of_ble_eq_true rfl, Nat.le_of_ble_eq_true rfl⟩ (zok_8 (by decide)) (by decide) (p_M) rfl rfl rfl (Nat.le_of_ble_eq_true rfl) dL_law_235 ⟨Nat.le_of_ble_eq_true rfl, Nat.le_of_ble_eq_true rfl⟩ ?_
          refine x_icmp_eq_t (tgt := 752) cx dL_law_238 (by decide) (by rw [hk 8 (by decide)]; exact (A_pins hq hW _ _).symm) ?_
          refine x_iinc (v := nI (i + 4)) (ls' := [_, _, _, _, _, _, _, _]) cx dL_law_752 rfl (nI_add i 4) (by decide) rfl ?_
          refine x_goto (tgt := 18) cx dL_law_755 (by decide) ?_
          exact ih (i + 4) _ (by omega) (by omega) (by rw [hk 8 (by decide)]; subst hS1; exact sim_a h (Qerr hq _ _ _).symm (fun z => ⟨zPins_WF hW, QpinX hq (has_tn hW (eArg_h z)) _⟩))
        · refine x_tableIn (tgt := 243) (off := 211) cx dL_law_32 (by decide +kernel) (by decide +kernel) (by decide +kernel) (by decide) ?_
          refine x_aload_n cx dL_law_243 rfl rfl ?_
          refine x_aload_n cx dL_law_244 rfl rfl ?_
          refine x_iload_n cx dL_law_245 rfl rfl ?_
          refine x_iconst (v := 1) cx dL_law_246 (by decide) ?_
          refine x_iadd cx dL_law_247 ?_
          refine x_eqi (nI_add i 1) ?_
          refine x_sld (t := (i + 1)) cx hX hbl hG rfl (by omega) hL dL_law_248 ?_
          refine x_aload_n cx dL_law_249 rfl rfl ?_
          refine x_iload_n cx dL_law_250 rfl rfl ?_
          refine x_iconst (v := 2) cx dL_law_251 (by decide) ?_
          refine x_iadd cx dL_law_252 ?_
          refine x_eqi (nI_add i 2) ?_
          refine x_sld (t := (i + 2)) cx hX hbl hG rfl (by omega) hL dL_law_253 ?_
          refine x_if_eq (tgt := 261) cx dL_law_254 (by decide) (fun hb254 => ?_) (fun hb254 => ?_)
          · refine x_iconst (v := 0) cx dL_law_261 (by decide) ?_
            refine x_Vi (C := RX6) (T := TX6) (N := 6) (rest := []) cx (c_X6_breakChip l G _ hk7 _ _ (by first | exact Or.inl rfl | exact Or.inr rfl)) gV_L_28 ndX6_breakChip rfl ⟨Nat.le_of_ble_eq_true rfl, Nat.le_of_ble_eq_true rfl⟩ (zok_7 (by decide)) (by decide) (p_SC) rfl rfl rfl (Nat.le_of_ble_eq_true rfl) dL_law_262 ⟨Nat.le_of_ble_eq_true rfl, Nat.le_of_ble_eq_true rfl⟩ ?_
            refine x_kp (S := S) (kp8_if (kp8_up (by decide) (kp8_rec hk7.2.1)) kp8_rf) (fun S1 hS1 hk => ?_)
            refine x_aload_n cx dL_law_265 rfl rfl ?_
            refine x_aload_n cx dL_law_266 rfl rfl ?_
            refine x_iload_n cx dL_law_267 rfl rfl ?_
            refine x_iconst (v := 1) cx dL_law_268 (by decide) ?_
            refine x_iadd cx dL_law_269 ?_
            refine x_eqi (nI_add i 1) ?_
            refine x_sld (t := (i + 1)) cx hX hbl hG rfl (by omega) hL dL_law_270 ?_
            refine x_aload_n cx dL_law_271 rfl rfl ?_
            refine x_iload_n cx dL_law_272 rfl rfl ?_
            refine x_iconst (v := 2) cx dL_law_273 (by decide) ?_
            refine x_iadd cx dL_law_274 ?_
            refine x_eqi (nI_add i 2) ?_
            refine x_sld (t := (i + 2)) cx hX hbl hG rfl (by omega) hL dL_law_275 ?_
            refine x_if_eq_t (tgt := 283) cx dL_law_276 (by decide) hb254 ?_
            refine x_iconst (v := 0) cx dL_law_283 (by decide) ?_
            refine x_Vi (C := RX7) (T := TX7) (N := 9) (rest := [_]) cx (c_X7_breakChip l G _ (kp8_W h hk) (hsz S) (kp8_hs h hk) (Sim_hs h).2 _ _ (by first | exact Or.inl rfl | exact Or.inr rfl)) gV_L_32 ndX7_breakChip rfl ⟨Nat.le_of_ble_eq_true rfl, Nat.le_of_ble_eq_true rfl⟩ (zok_8 (by decide)) (by decide) (p_M) rfl rfl rfl (Nat.le_of_ble_eq_true rfl) dL_law_284 ⟨Nat.le_of_ble_eq_true rfl, Nat.le_of_ble_eq_true rfl⟩ ?_
            refine x_icmp_eq_t (tgt := 752) cx dL_law_287 (by decide) (by rw [hk 8 (by decide)]; exact (A_brk hq hW _ _).symm) ?_
            refine x_iinc (v := nI (i + 4)) (ls' := [_, _, _, _, _, _, _, _]) cx dL_law_752 rfl (nI_add i 4) (by decide) rfl ?_
            refine x_goto (tgt := 18) cx dL_law_755 (by decide) ?_
            exact ih (i + 4) _ (by omega) (by omega) (by rw [hk 8 (by decide)]; subst hS1; exact sim_a h (QeHas hq _).symm (fun z => ⟨zBrkX_WF hW (by first | exact Or.inl rfl | exact Or.inr rfl), QbrkX hq (has_tn hW (eHas_h z)) _⟩))
          · refine x_iconst (v := 1) cx dL_law_257 (by decide) ?_
            refine x_goto (tgt := 262) cx dL_law_258 (by decide) ?_
            refine x_Vi (C := RX6) (T := TX6) (N := 6) (rest := []) cx (c_X6_breakChip l G _ hk7 _ _ (by first | exact Or.inl rfl | exact Or.inr rfl)) gV_L_28 ndX6_breakChip rfl ⟨Nat.le_of_ble_eq_true rfl, Nat.le_of_ble_eq_true rfl⟩ (zok_7 (by decide)) (by decide) (p_SC) rfl rfl rfl (Nat.le_of_ble_eq_true rfl) dL_law_262 ⟨Nat.le_of_ble_eq_true rfl, Nat.le_of_ble_eq_true rfl⟩ ?_
            refine x_kp (S := S) (kp8_if (kp8_up (by decide) (kp8_rec hk7.2.1)) kp8_rf) (fun S1 hS1 hk => ?_)
            refine x_aload_n cx dL_law_265 rfl rfl ?_
            refine x_aload_n cx dL_law_266 rfl rfl ?_
            refine x_iload_n cx dL_law_267 rfl rfl ?_
            refine x_iconst (v := 1) cx dL_law_268 (by decide) ?_
            refine x_iadd cx dL_law_269 ?_
            refine x_eqi (nI_add i 1) ?_
            refine x_sld (t := (i + 1)) cx hX hbl hG rfl (by omega) hL dL_law_270 ?_
            refine x_aload_n cx dL_law_271 rfl rfl ?_
            refine x_iload_n cx dL_law_272 rfl rfl ?_
            refine x_iconst (v := 2) cx dL_law_273 (by decide) ?_
            refine x_iadd cx dL_law_274 ?_
            refine x_eqi (nI_add i 2) ?_
            refine x_sld (t := (i + 2)) cx hX hbl hG rfl (by omega) hL dL_law_275 ?_
            refine x_if_eq_f (tgt := 283) cx dL_law_276 (by decide) hb254 ?_
            refine x_iconst (v := 1) cx dL_law_279 (by decide) ?_
            refine x_goto (tgt := 284) cx dL_law_280 (by decide) ?_
            refine x_Vi (C := RX7) (T := TX7) (N := 9) (rest := [_]) cx (c_X7_breakChip l G _ (kp8_W h hk) (hsz S) (kp8_hs h hk) (Sim_hs h).2 _ _ (by first | exact Or.inl rfl | exact Or.inr rfl)) gV_L_32 ndX7_breakChip rfl ⟨Nat.le_of_ble_eq_true rfl, Nat.le_of_ble_eq_true rfl⟩ (zok_8 (by decide)) (by decide) (p_M) rfl rfl rfl (Nat.le_of_ble_eq_true rfl) dL_law_284 ⟨Nat.le_of_ble_eq_true rfl, Nat.le_of_ble_eq_true rfl⟩ ?_
            refine x_icmp_eq_t (tgt := 752) cx dL_law_287 (by decide) (by rw [hk 8 (by decide)]; exact (A_brk hq hW _ _).symm) ?_
            refine x_iinc (v := nI (i + 4)) (ls' := [_, _, _, _, _, _, _, _]) cx dL_law_752 rfl (nI_add i 4) (by decide) rfl ?_
            refine x_goto (tgt := 18) cx dL_law_755 (by decide) ?_
            exact ih (i + 4) _ (by omega) (by omega) (by rw [hk 8 (by decide)]; subst hS1; exact sim_a h (QeHas hq _).symm (fun z => ⟨zBrkX_WF hW (by first | exact Or.inl rfl | exact Or.inr rfl), QbrkX hq (has_tn hW (eHas_h z)) _⟩))
        · refine x_tableIn (tgt := 292) (off := 260) cx dL_law_32 (by decide +kernel) (by decide +kernel) (by decide +kernel) (by decide) ?_
          refine x_aload_n cx dL_law_292 rfl rfl ?_
          refine x_aload_n cx dL_law_293 rfl rfl ?_
          refine x_iload_n cx dL_law_294 rfl rfl ?_
          refine x_iconst (v := 1) cx dL_law_295 (by decide) ?_
          refine x_iadd cx dL_law_296 ?_
          refine x_eqi (nI_add i 1) ?_
          refine x_sld (t := (i + 1)) cx hX hbl hG rfl (by omega) hL dL_law_297 ?_
          refine x_aload_n cx dL_law_298 rfl rfl ?_
          refine x_iload_n cx dL_law_299 rfl rfl ?_
          refine x_iconst (v := 2) cx dL_law_300 (by decide) ?_
          refine x_iadd cx dL_law_301 ?_
          refine x_eqi (nI_add i 2) ?_
          refine x_sld (t := (i + 2)) cx hX hbl hG rfl (by omega) hL dL_law_302 ?_
          refine x_Vi (C := RX6) (T := TX6) (N := 6) (rest := []) cx (c_X6_clock l G _ hk7 _ _) gV_L_33 ndX6_clock rfl ⟨Nat.le_of_ble_eq_true rfl, Nat.le_of_ble_eq_true rfl⟩ (zok_7 (by decide)) (by decide) (p_SC) rfl rfl rfl (Nat.le_of_ble_eq_true rfl) dL_law_303 ⟨Nat.le_of_ble_eq_true rfl, Nat.le_of_ble_eq_true rfl⟩ ?_
          refine x_kp (S := S) (kp8_if (kp8_up (by decide) (kp8_rec hk7.2.1)) kp8_rf) (fun S1 hS1 hk => ?_)
          refine x_aload_n cx dL_law_306 rfl rfl ?_
          refine x_aload_n cx dL_law_307 rfl rfl ?_
          refine x_iload_n cx dL_law_308 rfl rfl ?_
          refine x_iconst (v := 1) cx dL_law_309 (by decide) ?_
          refine x_iadd cx dL_law_310 ?_
          refine x_eqi (nI_add i 1) ?_
          refine x_sld (t := (i + 1)) cx hX hbl hG rfl (by omega) hL dL_law_311 ?_
          refine x_aload_n cx dL_law_312 rfl rfl ?_
          refine x_iload_n cx dL_law_313 rfl rfl ?_
          refine x_iconst (v := 2) cx dL_law_314 (by decide) ?_
          refine x_iadd cx dL_law_315 ?_
          refine x_eqi (nI_add i 2) ?_
          refine x_sld (t := (i + 2)) cx hX hbl hG rfl (by omega) hL dL_law_316 ?_
          refine x_Vi (C := RX7) (T := TX7) (N := 9) (rest := [_]) cx (c_X7_clock l G _ (kp8_W h hk) (hsz S) (kp8_hs h hk) (Sim_hs h).2 _ _) gV_L_36 ndX7_clock rfl ⟨Nat.le_of_ble_eq_true rfl, Nat.le_of_ble_eq_true rfl⟩ (zok_8 (by decide)) (by decide) (p_M) rfl rfl rfl (Nat.le_of_ble_eq_true rfl) dL_law_317 ⟨Nat.le_of_ble_eq_true rfl, Nat.le_of_ble_eq_true rfl⟩ ?_
          refine x_icmp_eq_t (tgt := 752) cx dL_law_320 (by decide) (by rw [hk 8 (by decide), Qout hq]) ?_
          refine x_iinc (v := nI (i + 4)) (ls' := [_, _, _, _, _, _, _, _]) cx dL_law_752 rfl (nI_add i 4) (by decide) rfl ?_
          refine x_goto (tgt := 18) cx dL_law_755 (by decide) ?_
          exact ih (i + 4) _ (by omega) (by omega) (by rw [hk 8 (by decide)]; subst hS1; exact sim_a h rfl (fun z => ⟨zTick_WF hW, Qtick hq _ _⟩))
        · refine x_tableIn (tgt := 325) (off := 293) cx dL_law_32 (by decide +kernel) (by decide +kernel) (by decide +kernel) (by decide) ?_
          refine x_aload_n cx dL_law_325 rfl rfl ?_
          refine x_aload_n cx dL_law_326 rfl rfl ?_
          refine x_iload_n cx dL_law_327 rfl rfl ?_
          refine x_iconst (v := 1) cx dL_law_328 (by decide) ?_
          refine x_iadd cx dL_law_329 ?_
          refine x_eqi (nI_add i 1) ?_
          refine x_sld (t := (i + 1)) cx hX hbl hG rfl (by omega) hL dL_law_330 ?_
          refine x_Vi (C := RX6) (T := TX6) (N := 6) (rest := []) cx (c_X6_move l G _ hk7 _) gV_L_37 ndX6_move rfl ⟨Nat.le_of_ble_eq_true rfl, Nat.le_of_ble_eq_true rfl⟩ (zok_7 (by decide)) (by decide) (p_SC) rfl rfl rfl (Nat.le_of_ble_eq_true rfl) dL_law_331 ⟨Nat.le_of_ble_eq_true rfl, Nat.le_of_ble_eq_true rfl⟩ ?_
          refine x_kp (S := S) (kp8_if (kp8_up (by decide) (kp8_rec hk7.2.1)) kp8_rf) (fun S1 hS1 hk => ?_)
          refine x_aload_n cx dL_law_334 rfl rfl ?_
          refine x_aload_n cx dL_law_335 rfl rfl ?_
          refine x_iload_n cx dL_law_336 rfl rfl ?_
          refine x_iconst (v := 1) cx dL_law_337 (by decide) ?_
          refine x_iadd cx dL_law_338 ?_
          refine x_eqi (nI_add i 1) ?_
          refine x_sld (t := (i + 1)) cx hX hbl hG rfl (by omega) hL dL_law_339 ?_
          refine x_Vi (C := RX7) (T := TX7) (N := 9) (rest := [_]) cx (c_X7_move l G _ (kp8_W h hk) (hsz S) (kp8_hs h hk) (Sim_hs h).2 _) gV_L_40 ndX7_move rfl ⟨Nat.le_of_ble_eq_true rfl, Nat.le_of_ble_eq_true rfl⟩ (zok_8 (by decide)) (by decide) (p_M) rfl rfl rfl (Nat.le_of_ble_eq_true rfl) dL_law_340 ⟨Nat.le_of_ble_eq_true rfl, Nat.le_of_ble_eq_true rfl⟩ ?_
          refine x_icmp_eq_t (tgt := 752) cx dL_law_343 (by decide) (by rw [hk 8 (by decide), Qstt hq]) ?_
          refine x_iinc (v := nI (i + 4)) (ls' := [_, _, _, _, _, _, _, _]) cx dL_law_752 rfl (nI_add i 4) (by decide) rfl ?_
          refine x_goto (tgt := 18) cx dL_law_755 (by decide) ?_
          exact ih (i + 4) _ (by omega) (by omega) (by rw [hk 8 (by decide)]; subst hS1; exact sim_b h rfl (fun z => ⟨zGo_WF hW, Qgo hq _⟩))
        · refine x_tableIn (tgt := 348) (off := 316) cx dL_law_32 (by decide +kernel) (by decide +kernel) (by decide +kernel) (by decide) ?_
          refine x_aload_n cx dL_law_348 rfl rfl ?_
          refine x_Vi (C := RX6) (T := TX6) (N := 6) (rest := []) cx (c_X6_identify l G _ hk7) gV_L_41 ndX6_identify rfl ⟨Nat.le_of_ble_eq_true rfl, Nat.le_of_ble_eq_true rfl⟩ (zok_7 (by decide)) (by decide) (p_SC) rfl rfl rfl (Nat.le_of_ble_eq_true rfl) dL_law_349 ⟨Nat.le_of_ble_eq_true rfl, Nat.le_of_ble_eq_true rfl⟩ ?_
          refine x_kp (S := S) (kp8_up (by decide) (kp8_rec hk7.2.1)) (fun S1 hS1 hk => ?_)
          refine x_aload_n cx dL_law_352 rfl rfl ?_
          refine x_Vi (C := RX7) (T := TX7) (N := 9) (rest := [_]) cx (c_X7_identify l G _ (kp8_W h hk) (hsz S) (kp8_hs h hk) (Sim_hs h).2) gV_L_45 ndX7_identify rfl ⟨Nat.le_of_ble_eq_true rfl, Nat.le_of_ble_eq_true rfl⟩ (zok_8 (by decide)) (by decide) (p_M) rfl rfl rfl (Nat.le_of_ble_eq_true rfl) dL_law_353 ⟨Nat.le_of_ble_eq_true rfl, Nat.le_of_ble_eq_true rfl⟩ ?_
          refine x_icmp_eq_t (tgt := 752) cx dL_law_356 (by decide) (by rw [hk 8 (by decide), (Qident hq hW).1]) ?_
          refine x_iinc (v := nI (i + 4)) (ls' := [_, _, _, _, _, _, _, _]) cx dL_law_752 rfl (nI_add i 4) (by decide) rfl ?_
          refine x_goto (tgt := 18) cx dL_law_755 (by decide) ?_
          exact ih (i + 4) _ (by omega) (by omega) (by rw [hk 8 (by decide)]; subst hS1; exact sim_c h ⟨zIdent_WF hW, Qident hq hW⟩)
        · refine x_tableIn (tgt := 361) (off := 329) cx dL_law_32 (by decide +kernel) (by decide +kernel) (by decide +kernel) (by decide) ?_
          refine x_aload_n cx dL_law_361 rfl rfl ?_
          refine x_aload_n cx dL_law_362 rfl rfl ?_
          refine x_iload_n cx dL_law_363 rfl rfl ?_
          refine x_iconst (v := 1) cx dL_law_364 (by decide) ?_
          refine x_iadd cx dL_law_365 ?_
          refine x_eqi (nI_add i 1) ?_
          refine x_sld (t := (i + 1)) cx hX hbl hG rfl (by omega) hL dL_law_366 ?_
          refine x_aload_n cx dL_law_367 rfl rfl ?_
          refine x_iload_n cx dL_law_368 rfl rfl ?_
          refine x_iconst (v := 2) cx dL_law_369 (by decide) ?_
          refine x_iadd cx dL_law_370 ?_
          refine x_eqi (nI_add i 2) ?_
          refine x_sld (t := (i + 2)) cx hX hbl hG rfl (by omega) hL dL_law_371 ?_
          refine x_Vi (C := RX6) (T := TX6) (N := 6) (rest := []) cx (c_X6_load l G _ hk7 _ _) gV_L_46 ndX6_load rfl ⟨Nat.le_of_ble_eq_true rfl, Nat.le_of_ble_eq_true rfl⟩ (zok_7 (by decide)) (by decide) (p_SC) rfl rfl rfl (Nat.le_of_ble_eq_true rfl) dL_law_372 ⟨Nat.le_of_ble_eq_true rfl, Nat.le_of_ble_eq_true rfl⟩ ?_
          refine x_kp (S := S) (kp8_if (kp8_up (by decide) (kp8_rec hk7.2.1)) kp8_rf) (fun S1 hS1 hk => ?_)
          refine x_aload_n cx dL_law_375 rfl rfl ?_
          refine x_aload_n cx dL_law_376 rfl rfl ?_
          refine x_iload_n cx dL_law_377 rfl rfl ?_
          refine x_iconst (v := 1) cx dL_law_378 (by decide) ?_
          refine x_iadd cx dL_law_379 ?_
          refine x_eqi (nI_add i 1) ?_
          refine x_sld (t := (i + 1)) cx hX hbl hG rfl (by omega) hL dL_law_380 ?_
          refine x_aload_n cx dL_law_381 rfl rfl ?_
          refine x_iload_n cx dL_law_382 rfl rfl ?_
          refine x_iconst (v := 2) cx dL_law_383 (by decide) ?_
          refine x_iadd cx dL_law_384 ?_
          refine x_eqi (nI_add i 2) ?_
          refine x_sld (t := (i + 2)) cx hX hbl hG rfl (by omega) hL dL_law_385 ?_
          refine x_Vi (C := RX7) (T := TX7) (N := 9) (rest := [_]) cx (c_X7_load l G _ (kp8_W h hk) (hsz S) (kp8_hs h hk) (Sim_hs h).2 _ _) gV_L_49 ndX7_load rfl ⟨Nat.le_of_ble_eq_true rfl, Nat.le_of_ble_eq_true rfl⟩ (zok_8 (by decide)) (by decide) (p_M) rfl rfl rfl (Nat.le_of_ble_eq_true rfl) dL_law_386 ⟨Nat.le_of_ble_eq_true rfl, Nat.le_of_ble_eq_true rfl⟩ ?_
          refine x_icmp_eq_t (tgt := 752) cx dL_law_389 (by decide) (by rw [hk 8 (by decide)]; exact (A_load hq hW _ _).symm) ?_
          refine x_iinc (v := nI (i + 4)) (ls' := [_, _, _, _, _, _, _, _]) cx dL_law_752 rfl (nI_add i 4) (by decide) rfl ?_
          refine x_goto (tgt := 18) cx dL_law_755 (by decide) ?_
          exact ih (i + 4) _ (by omega) (by omega) (by rw [hk 8 (by decide)]; subst hS1; exact sim_b h (Qerr hq _ _ _).symm (fun z => ⟨zLoad_WF hW, Qload hq _ _⟩))
        · refine x_tableIn (tgt := 394) (off := 362) cx dL_law_32 (by decide +kernel) (by decide +kernel) (by decide +kernel) (by decide) ?_
          refine x_aload_n cx dL_law_394 rfl rfl ?_
          refine x_aload_n cx dL_law_395 rfl rfl ?_
          refine x_iload_n cx dL_law_396 rfl rfl ?_
          refine x_iconst (v := 1) cx dL_law_397 (by decide) ?_
          refine x_iadd cx dL_law_398 ?_
          refine x_eqi (nI_add i 1) ?_
          refine x_sld (t := (i + 1)) cx hX hbl hG rfl (by omega) hL dL_law_399 ?_
          refine x_aload_n cx dL_law_400 rfl rfl ?_
          refine x_iload_n cx dL_law_401 rfl rfl ?_
          refine x_iconst (v := 2) cx dL_law_402 (by decide) ?_
          refine x_iadd cx dL_law_403 ?_
          refine x_eqi (nI_add i 2) ?_
          refine x_sld (t := (i + 2)) cx hX hbl hG rfl (by omega) hL dL_law_404 ?_
          refine x_Vi (C := RX6) (T := TX6) (N := 6) (rest := []) cx (c_X6_exchange l G _ hk7 _ _) gV_L_50 ndX6_exchange rfl ⟨Nat.le_of_ble_eq_true rfl, Nat.le_of_ble_eq_true rfl⟩ (zok_7 (by decide)) (by decide) (p_SC) rfl rfl rfl (Nat.le_of_ble_eq_true rfl) dL_law_405 ⟨Nat.le_of_ble_eq_true rfl, Nat.le_of_ble_eq_true rfl⟩ ?_
          refine x_kp (S := S) (kp8_if (kp8_up (by decide) (kp8_rec hk7.2.1)) kp8_rf) (fun S1 hS1 hk => ?_)
          refine x_aload_n cx dL_law_408 rfl rfl ?_
          refine x_aload_n cx dL_law_409 rfl rfl ?_
          refine x_iload_n cx dL_law_410 rfl rfl ?_
          refine x_iconst (v := 1) cx dL_law_411 (by decide) ?_
          refine x_iadd cx dL_law_412 ?_
          refine x_eqi (nI_add i 1) ?_
          refine x_sld (t := (i + 1)) cx hX hbl hG rfl (by omega) hL dL_law_413 ?_
          refine x_aload_n cx dL_law_414 rfl rfl ?_
          refine x_iload_n cx dL_law_415 rfl rfl ?_
          refine x_iconst (v := 2) cx dL_law_416 (by decide) ?_
          refine x_iadd cx dL_law_417 ?_
          refine x_eqi (nI_add i 2) ?_
          refine x_sld (t := (i + 2)) cx hX hbl hG rfl (by omega) hL dL_law_418 ?_
          refine x_Vi (C := RX7) (T := TX7) (N := 9) (rest := [_]) cx (c_X7_exchange l G _ (kp8_W h hk) (hsz S) (kp8_hs h hk) (Sim_hs h).2 _ _) gV_L_53 ndX7_exchange rfl ⟨Nat.le_of_ble_eq_true rfl, Nat.le_of_ble_eq_true rfl⟩ (zok_8 (by decide)) (by decide) (p_M) rfl rfl rfl (Nat.le_of_ble_eq_true rfl) dL_law_419 ⟨Nat.le_of_ble_eq_true rfl, Nat.le_of_ble_eq_true rfl⟩ ?_
          refine x_icmp_eq_t (tgt := 752) cx dL_law_422 (by decide) (by rw [hk 8 (by decide), Qerr hq, QexchO hq]) ?_
          refine x_iinc (v := nI (i + 4)) (ls' := [_, _, _, _, _, _, _, _]) cx dL_law_752 rfl (nI_add i 4) (by decide) rfl ?_
          refine x_goto (tgt := 18) cx dL_law_755 (by decide) ?_
          exact ih (i + 4) _ (by omega) (by omega) (by rw [hk 8 (by decide)]; subst hS1; exact sim_b h (Qerr hq _ _ _).symm (fun z => ⟨zExch_WF hW, Qexch hq _ _⟩))
        · refine x_tableIn (tgt := 427) (off := 395) cx dL_law_32 (by decide +kernel) (by decide +kernel) (by decide +kernel) (by decide) ?_
          refine x_aload_n cx dL_law_427 rfl rfl ?_
          refine x_aload_n cx dL_law_428 rfl rfl ?_
          refine x_iload_n cx dL_law_429 rfl rfl ?_
          refine x_iconst (v := 1) cx dL_law_430 (by decide) ?_
          refine x_iadd cx dL_law_431 ?_
          refine x_eqi (nI_add i 1) ?_
          refine x_sld (t := (i + 1)) cx hX hbl hG rfl (by omega) hL dL_law_432 ?_
          refine x_Vi (C := RX6) (T := TX6) (N := 6) (rest := []) cx (c_X6_append l G _ hk7 L0 hL7 hL80 _) gV_L_54 ndX6_append rfl ⟨Nat.le_of_ble_eq_true rfl, Nat.le_of_ble_eq_true rfl⟩ (zok_7 (by decide)) (by decide) (p_SC) rfl rfl rfl (Nat.le_of_ble_eq_true rfl) dL_law_433 ⟨Nat.le_of_ble_eq_true rfl, Nat.le_of_ble_eq_true rfl⟩ ?_
          refine x_kp (S := S) (kp8_if (kp8_up (by decide) kp8_rf) kp8_rf) (fun S1 hS1 hk => ?_)
          refine x_aload_n cx dL_law_436 rfl rfl ?_
          refine x_aload_n cx dL_law_437 rfl rfl ?_
          refine x_iload_n cx dL_law_438 rfl rfl ?_
          refine x_iconst (v := 1) cx dL_law_439 (by decide) ?_
          refine x_iadd cx dL_law_440 ?_
          refine x_eqi (nI_add i 1) ?_
          refine x_sld (t := (i + 1)) cx hX hbl hG rfl (by omega) hL dL_law_441 ?_
          refine x_Vi (C := RX7) (T := TX7) (N := 9) (rest := [_]) cx (c_X7_append l G _ (kp8_W h hk) (hsz S) (kp8_hs h hk) (Sim_hs h).2 L0 (by rw [hk 15 (by decide)]; exact hL15) hL80 _) gV_L_57 ndX7_append rfl ⟨Nat.le_of_ble_eq_true rfl, Nat.le_of_ble_eq_true rfl⟩ (zok_8 (by decide)) (by decide) (p_M) rfl rfl rfl (Nat.le_of_ble_eq_true rfl) dL_law_442 ⟨Nat.le_of_ble_eq_true rfl, Nat.le_of_ble_eq_true rfl⟩ ?_
          refine x_icmp_eq_t (tgt := 752) cx dL_law_445 (by decide) rfl ?_
          refine x_iinc (v := nI (i + 4)) (ls' := [_, _, _, _, _, _, _, _]) cx dL_law_752 rfl (nI_add i 4) (by decide) rfl ?_
          refine x_goto (tgt := 18) cx dL_law_755 (by decide) ?_
          exact ih (i + 4) _ (by omega) (by omega) (sim_append h hL7 hL15 hL80 _ hS1)
        · refine x_tableIn (tgt := 450) (off := 418) cx dL_law_32 (by decide +kernel) (by decide +kernel) (by decide +kernel) (by decide) ?_
          refine x_aload_n cx dL_law_450 rfl rfl ?_
          refine x_Vi (C := RX6) (T := TX6) (N := 6) (rest := []) cx (c_X6_clearText l G _ hk7) gV_L_58 ndX6_clearText rfl ⟨Nat.le_of_ble_eq_true rfl, Nat.le_of_ble_eq_true rfl⟩ (zok_7 (by decide)) (by decide) (p_SC) rfl rfl rfl (Nat.le_of_ble_eq_true rfl) dL_law_451 ⟨Nat.le_of_ble_eq_true rfl, Nat.le_of_ble_eq_true rfl⟩ ?_
          refine x_kp (S := S) (kp8_up (by decide) kp8_rf) (fun S1 hS1 hk => ?_)
          refine x_aload_n cx dL_law_454 rfl rfl ?_
          refine x_Vi (C := RX7) (T := TX7) (N := 9) (rest := [_]) cx (c_X7_clearText l G _ (kp8_W h hk) (hsz S) (kp8_hs h hk) (Sim_hs h).2) gV_L_61 ndX7_clearText rfl ⟨Nat.le_of_ble_eq_true rfl, Nat.le_of_ble_eq_true rfl⟩ (zok_8 (by decide)) (by decide) (p_M) rfl rfl rfl (Nat.le_of_ble_eq_true rfl) dL_law_455 ⟨Nat.le_of_ble_eq_true rfl, Nat.le_of_ble_eq_true rfl⟩ ?_
          refine x_icmp_eq_t (tgt := 752) cx dL_law_458 (by decide) (by rw [hk 15 (by decide)]; exact h.2.2.2.2.2.2.1) ?_
          refine x_iinc (v := nI (i + 4)) (ls' := [_, _, _, _, _, _, _, _]) cx dL_law_752 rfl (nI_add i 4) (by decide) rfl ?_
          refine x_goto (tgt := 18) cx dL_law_755 (by decide) ?_
          exact ih (i + 4) _ (by omega) (by omega) (sim_clear h hS1)
        · refine x_tableIn (tgt := 463) (off := 431) cx dL_law_32 (by decide +kernel) (by decide +kernel) (by decide +kernel) (by decide) ?_
          refine x_aload_n cx dL_law_463 rfl rfl ?_
          refine x_Vi (C := RX6) (T := TX6) (N := 6) (rest := []) cx (c_X6_fault l G _ hk7 L0 hL7 hL80) gV_L_62 ndX6_fault rfl ⟨Nat.le_of_ble_eq_true rfl, Nat.le_of_ble_eq_true rfl⟩ (zok_7 (by decide)) (by decide) (p_SC) rfl rfl rfl (Nat.le_of_ble_eq_true rfl) dL_law_464 ⟨Nat.le_of_ble_eq_true rfl, Nat.le_of_ble_eq_true rfl⟩ ?_
          refine x_kp (S := S) kp8_rf (fun S1 hS1 hk => ?_)
          refine x_aload_n cx dL_law_467 rfl rfl ?_
          refine x_Vi (C := RX7) (T := TX7) (N := 9) (rest := [_]) cx (c_X7_fault l G _ L0 (by rw [hk 15 (by decide)]; exact hL15) hL80) gV_L_65 ndX7_fault rfl ⟨Nat.le_of_ble_eq_true rfl, Nat.le_of_ble_eq_true rfl⟩ (zok_8 (by decide)) (by decide) (p_M) rfl rfl rfl (Nat.le_of_ble_eq_true rfl) dL_law_468 ⟨Nat.le_of_ble_eq_true rfl, Nat.le_of_ble_eq_true rfl⟩ ?_
          refine x_icmp_eq_t (tgt := 752) cx dL_law_471 (by decide) (by rw [hk 15 (by decide)]; exact (Qfault hLt).symm) ?_
          refine x_iinc (v := nI (i + 4)) (ls' := [_, _, _, _, _, _, _, _]) cx dL_law_752 rfl (nI_add i 4) (by decide) rfl ?_
          refine x_goto (tgt := 18) cx dL_law_755 (by decide) ?_
          exact ih (i + 4) _ (by omega) (by omega) (by subst hS1; exact h)
        · refine x_tableIn (tgt := 476) (off := 444) cx dL_law_32 (by decide +kernel) (by decide +kernel) (by decide +kernel) (by decide) ?_
          refine x_aload_n cx dL_law_476 rfl rfl ?_
          refine x_Vi (C := RX6) (T := TX6) (N := 6) (rest := []) cx (c_X6_run l G _ hk7 L0 hL7 hL80) gV_L_66 ndX6_run rfl ⟨Nat.le_of_ble_eq_true rfl, Nat.le_of_ble_eq_true rfl⟩ (zok_7 (by decide)) (by decide) (p_SC) rfl rfl rfl (Nat.le_of_ble_eq_true rfl) dL_law_477 ⟨Nat.le_of_ble_eq_true rfl, Nat.le_of_ble_eq_true rfl⟩ ?_
          refine x_kp (S := S) (kp8_if (kp8_up (by decide) (kp8_rec hk7.2.1)) kp8_rf) (fun S1 hS1 hk => ?_)
          refine x_aload_n cx dL_law_480 rfl rfl ?_
          refine x_Vi (C := RX7) (T := TX7) (N := 9) (rest := [_]) cx (c_X7_run l G _ (kp8_W h hk) (hsz S) (kp8_hs h hk) (Sim_hs h).2 L0 (by rw [hk 15 (by decide)]; exact hL15) hL80) gV_L_69 ndX7_run rfl ⟨Nat.le_of_ble_eq_true rfl, Nat.le_of_ble_eq_true rfl⟩ (zok_8 (by decide)) (by decide) (p_M) rfl rfl rfl (Nat.le_of_ble_eq_true rfl) dL_law_481 ⟨Nat.le_of_ble_eq_true rfl, Nat.le_of_ble_eq_true rfl⟩ ?_
          refine x_icmp_eq_t (tgt := 752) cx dL_law_484 (by decide) (by rw [hk 8 (by decide), hk 15 (by decide)]; exact (A_run h hL80 hLt).symm) ?_
          refine x_iinc (v := nI (i + 4)) (ls' := [_, _, _, _, _, _, _, _]) cx dL_law_752 rfl (nI_add i 4) (by decide) rfl ?_
          refine x_goto (tgt := 18) cx dL_law_755 (by decide) ?_
          exact ih (i + 4) _ (by omega) (by omega) (sim_run h hL80 hLt hk hS1)
        · refine x_tableIn (tgt := 489) (off := 457) cx dL_law_32 (by decide +kernel) (by decide +kernel) (by decide +kernel) (by decide) ?_
          refine x_aload_n cx dL_law_489 rfl rfl ?_
          refine x_Vi (C := RX6) (T := TX6) (N := 6) (rest := []) cx (c_X6_undo l G _ hk7) gV_L_70 ndX6_undo rfl ⟨Nat.le_of_ble_eq_true rfl, Nat.le_of_ble_eq_true rfl⟩ (zok_7 (by decide)) (by decide) (p_SC) rfl rfl rfl (Nat.le_of_ble_eq_true rfl) dL_law_490 ⟨Nat.le_of_ble_eq_true rfl, Nat.le_of_ble_eq_true rfl⟩ ?_
          refine x_kp (S := S) (kp8_if kp8_rf kp8_back) (fun S1 hS1 hk => ?_)
          refine x_aload_n cx dL_law_493 rfl rfl ?_
          refine x_Vi (C := RX7) (T := TX7) (N := 9) (rest := [_]) cx (c_X7_undo l G _ (hsz S) (kp8_hs h hk) (Sim_hs h).2) gV_L_73 ndX7_undo rfl ⟨Nat.le_of_ble_eq_true rfl, Nat.le_of_ble_eq_true rfl⟩ (zok_8 (by decide)) (by decide) (p_M) rfl rfl rfl (Nat.le_of_ble_eq_true rfl) dL_law_494 ⟨Nat.le_of_ble_eq_true rfl, Nat.le_of_ble_eq_true rfl⟩ ?_
          refine x_icmp_eq_t (tgt := 752) cx dL_law_497 (by decide) (A_undo h hk).symm ?_
          refine x_iinc (v := nI (i + 4)) (ls' := [_, _, _, _, _, _, _, _]) cx dL_law_752 rfl (nI_add i 4) (by decide) rfl ?_
          refine x_goto (tgt := 18) cx dL_law_755 (by decide) ?_
          exact ih (i + 4) _ (by omega) (by omega) (sim_undo h hS1)
        · refine x_tableIn (tgt := 502) (off := 470) cx dL_law_32 (by decide +kernel) (by decide +kernel) (by decide +kernel) (by decide) ?_
          refine x_aload_n cx dL_law_502 rfl rfl ?_
          refine x_Vi (C := RX6) (T := TX6) (N := 6) (rest := []) cx (c_X6_save l G _ hk7) gV_L_74 ndX6_save rfl ⟨Nat.le_of_ble_eq_true rfl, Nat.le_of_ble_eq_true rfl⟩ (zok_7 (by decide)) (by decide) (p_SC) rfl rfl rfl (Nat.le_of_ble_eq_true rfl) dL_law_503 ⟨Nat.le_of_ble_eq_true rfl, Nat.le_of_ble_eq_true rfl⟩ ?_
          refine x_kp (S := S) (kp8_up (by decide) (kp8_up (by decide) kp8_rf)) (fun S1 hS1 hk => ?_)
          refine x_aload_n cx dL_law_506 rfl rfl ?_
          refine x_Vi (C := RX7) (T := TX7) (N := 9) (rest := [_]) cx (c_X7_save l G _) gV_L_77 ndX7_save rfl ⟨Nat.le_of_ble_eq_true rfl, Nat.le_of_ble_eq_true rfl⟩ (zok_8 (by decide)) (by decide) (p_M) rfl rfl rfl (Nat.le_of_ble_eq_true rfl) dL_law_507 ⟨Nat.le_of_ble_eq_true rfl, Nat.le_of_ble_eq_true rfl⟩ ?_
          refine x_icmp_eq_t (tgt := 752) cx dL_law_510 (by decide) (by rw [hk 8 (by decide), hq.1]) ?_
          refine x_iinc (v := nI (i + 4)) (ls' := [_, _, _, _, _, _, _, _]) cx dL_law_752 rfl (nI_add i 4) (by decide) rfl ?_
          refine x_goto (tgt := 18) cx dL_law_755 (by decide) ?_
          exact ih (i + 4) _ (by omega) (by omega) (sim_save h hS1)
        · refine x_tableIn (tgt := 515) (off := 483) cx dL_law_32 (by decide +kernel) (by decide +kernel) (by decide +kernel) (by decide) ?_
          refine x_aload_n cx dL_law_515 rfl rfl ?_
          refine x_Vi (C := RX6) (T := TX6) (N := 6) (rest := []) cx (c_X6_restore l G _ hk7) gV_L_78 ndX6_restore rfl ⟨Nat.le_of_ble_eq_true rfl, Nat.le_of_ble_eq_true rfl⟩ (zok_7 (by decide)) (by decide) (p_SC) rfl rfl rfl (Nat.le_of_ble_eq_true rfl) dL_law_516 ⟨Nat.le_of_ble_eq_true rfl, Nat.le_of_ble_eq_true rfl⟩ ?_
          refine x_kp (S := S) (kp8_if kp8_rf (kp8_up (by decide) (kp8_rec hk7.2.1))) (fun S1 hS1 hk => ?_)
          refine x_aload_n cx dL_law_519 rfl rfl ?_
          refine x_Vi (C := RX7) (T := TX7) (N := 9) (rest := [_]) cx (c_X7_restore l G _ (hsz S) (kp8_hs h hk) (Sim_hs h).2) gV_L_81 ndX7_restore rfl ⟨Nat.le_of_ble_eq_true rfl, Nat.le_of_ble_eq_true rfl⟩ (zok_8 (by decide)) (by decide) (p_M) rfl rfl rfl (Nat.le_of_ble_eq_true rfl) dL_law_520 ⟨Nat.le_of_ble_eq_true rfl, Nat.le_of_ble_eq_true rfl⟩ ?_
          refine x_icmp_eq_t (tgt := 752) cx dL_law_523 (by decide) (A_restore h hk).symm ?_
          refine x_iinc (v := nI (i + 4)) (ls' := [_, _, _, _, _, _, _, _]) cx dL_law_752 rfl (nI_add i 4) (by decide) rfl ?_
          refine x_goto (tgt := 18) cx dL_law_755 (by decide) ?_
          exact ih (i + 4) _ (by omega) (by omega) (sim_restore h hS1)
        · refine x_tableIn (tgt := 528) (off := 496) cx dL_law_32 (by decide +kernel) (by decide +kernel) (by decide +kernel) (by decide) ?_
          refine x_aload_n cx dL_law_528 rfl rfl ?_
          refine x_aload_n cx dL_law_529 rfl rfl ?_
          refine x_iload_n cx dL_law_530 rfl rfl ?_
          refine x_iconst (v := 1) cx dL_law_531 (by decide) ?_
          refine x_iadd cx dL_law_532 ?_
          refine x_eqi (nI_add i 1) ?_
          refine x_sld (t := (i + 1)) cx hX hbl hG rfl (by omega) hL dL_law_533 ?_
          refine x_aload_n cx dL_law_534 rfl rfl ?_
          refine x_iload_n cx dL_law_535 rfl rfl ?_
          refine x_iconst (v := 2) cx dL_law_536 (by decide) ?_
          refine x_iadd cx dL_law_537 ?_
          refine x_eqi (nI_add i 2) ?_
          refine x_sld (t := (i + 2)) cx hX hbl hG rfl (by omega) hL dL_law_538 ?_
          refine x_Vi (C := RX6) (T := TX6) (N := 6) (rest := []) cx (c_X6_chip l G _ hk7 _ _) gV_L_82 ndX6_chip rfl ⟨Nat.le_of_ble_eq_true rfl, Nat.le_of_ble_eq_true rfl⟩ (zok_7 (by decide)) (by decide) (p_SC) rfl rfl rfl (Nat.le_of_ble_eq_true rfl) dL_law_539 ⟨Nat.le_of_ble_eq_true rfl, Nat.le_of_ble_eq_true rfl⟩ ?_
          refine x_kp (S := S) kp8_rf (fun S1 hS1 hk => ?_)
          refine x_aload_n cx dL_law_542 rfl rfl ?_
          refine x_aload_n cx dL_law_543 rfl rfl ?_
          refine x_iload_n cx dL_law_544 rfl rfl ?_
          refine x_iconst (v := 1) cx dL_law_545 (by decide) ?_
          refine x_iadd cx dL_law_546 ?_
          refine x_eqi (nI_add i 1) ?_
          refine x_sld (t := (i + 1)) cx hX hbl hG rfl (by omega) hL dL_law_547 ?_
          refine x_aload_n cx dL_law_548 rfl rfl ?_
          refine x_iload_n cx dL_law_549 rfl rfl ?_
          refine x_iconst (v := 2) cx dL_law_550 (by decide) ?_
          refine x_iadd cx dL_law_551 ?_
          refine x_eqi (nI_add i 2) ?_
          refine x_sld (t := (i + 2)) cx hX hbl hG rfl (by omega) hL dL_law_552 ?_
          refine x_Vi (C := RX7) (T := TX7) (N := 9) (rest := [_]) cx (c_X7_chip l G _ (kp8_W h hk) (hsz S) (kp8_hs h hk) (Sim_hs h).2 _ _) gV_L_85 ndX7_chip rfl ⟨Nat.le_of_ble_eq_true rfl, Nat.le_of_ble_eq_true rfl⟩ (zok_8 (by decide)) (by decide) (p_M) rfl rfl rfl (Nat.le_of_ble_eq_true rfl) dL_law_553 ⟨Nat.le_of_ble_eq_true rfl, Nat.le_of_ble_eq_true rfl⟩ ?_
          refine x_icmp_eq_t (tgt := 752) cx dL_law_556 (by decide) (by rw [hk 8 (by decide), Qtell hq hW]) ?_
          refine x_iinc (v := nI (i + 4)) (ls' := [_, _, _, _, _, _, _, _]) cx dL_law_752 rfl (nI_add i 4) (by decide) rfl ?_
          refine x_goto (tgt := 18) cx dL_law_755 (by decide) ?_
          exact ih (i + 4) _ (by omega) (by omega) (by subst hS1; exact h)
        · refine x_tableIn (tgt := 561) (off := 529) cx dL_law_32 (by decide +kernel) (by decide +kernel) (by decide +kernel) (by decide) ?_
          refine x_aload_n cx dL_law_561 rfl rfl ?_
          refine x_aload_n cx dL_law_562 rfl rfl ?_
          refine x_iload_n cx dL_law_563 rfl rfl ?_
          refine x_iconst (v := 1) cx dL_law_564 (by decide) ?_
          refine x_iadd cx dL_law_565 ?_
          refine x_eqi (nI_add i 1) ?_
          refine x_sld (t := (i + 1)) cx hX hbl hG rfl (by omega) hL dL_law_566 ?_
          refine x_Vi (C := RX6) (T := TX6) (N := 6) (rest := []) cx (c_X6_count l G _ hk7 _) gV_L_86 ndX6_count rfl ⟨Nat.le_of_ble_eq_true rfl, Nat.le_of_ble_eq_true rfl⟩ (zok_7 (by decide)) (by decide) (p_SC) rfl rfl rfl (Nat.le_of_ble_eq_true rfl) dL_law_567 ⟨Nat.le_of_ble_eq_true rfl, Nat.le_of_ble_eq_true rfl⟩ ?_
          refine x_kp (S := S) kp8_rf (fun S1 hS1 hk => ?_)
          refine x_aload_n cx dL_law_570 rfl rfl ?_
          refine x_aload_n cx dL_law_571 rfl rfl ?_
          refine x_iload_n cx dL_law_572 rfl rfl ?_
          refine x_iconst (v := 1) cx dL_law_573 (by decide) ?_
          refine x_iadd cx dL_law_574 ?_
          refine x_eqi (nI_add i 1) ?_
          refine x_sld (t := (i + 1)) cx hX hbl hG rfl (by omega) hL dL_law_575 ?_
          refine x_Vi (C := RX7) (T := TX7) (N := 9) (rest := [_]) cx (c_X7_count l G _ (kp8_W h hk) (hsz S) (kp8_hs h hk) (Sim_hs h).2 _) gV_L_89 ndX7_count rfl ⟨Nat.le_of_ble_eq_true rfl, Nat.le_of_ble_eq_true rfl⟩ (zok_8 (by decide)) (by decide) (p_M) rfl rfl rfl (Nat.le_of_ble_eq_true rfl) dL_law_576 ⟨Nat.le_of_ble_eq_true rfl, Nat.le_of_ble_eq_true rfl⟩ ?_
          refine x_icmp_eq_t (tgt := 752) cx dL_law_579 (by decide) (by rw [hk 8 (by decide), hk 15 (by decide), h.2.2.1, h.2.2.2.2.2.2.1, Qcount hq]) ?_
          refine x_iinc (v := nI (i + 4)) (ls' := [_, _, _, _, _, _, _, _]) cx dL_law_752 rfl (nI_add i 4) (by decide) rfl ?_
          refine x_goto (tgt := 18) cx dL_law_755 (by decide) ?_
          exact ih (i + 4) _ (by omega) (by omega) (by subst hS1; exact h)
        · refine x_tableIn (tgt := 584) (off := 552) cx dL_law_32 (by decide +kernel) (by decide +kernel) (by decide +kernel) (by decide) ?_
          refine x_aload_n cx dL_law_584 rfl rfl ?_
          refine x_aload_n cx dL_law_585 rfl rfl ?_
          refine x_iload_n cx dL_law_586 rfl rfl ?_
          refine x_iconst (v := 1) cx dL_law_587 (by decide) ?_
          refine x_iadd cx dL_law_588 ?_
          refine x_eqi (nI_add i 1) ?_
          refine x_sld (t := (i + 1)) cx hX hbl hG rfl (by omega) hL dL_law_589 ?_
          refine x_Vi (C := RX6) (T := TX6) (N := 6) (rest := []) cx (c_X6_found l G _ hk7 _) gV_L_90 ndX6_found rfl ⟨Nat.le_of_ble_eq_true rfl, Nat.le_of_ble_eq_true rfl⟩ (zok_7 (by decide)) (by decide) (p_SC) rfl rfl rfl (Nat.le_of_ble_eq_true rfl) dL_law_590 ⟨Nat.le_of_ble_eq_true rfl, Nat.le_of_ble_eq_true rfl⟩ ?_
          refine x_kp (S := S) kp8_rf (fun S1 hS1 hk => ?_)
          refine x_aload_n cx dL_law_593 rfl rfl ?_
          refine x_aload_n cx dL_law_594 rfl rfl ?_
          refine x_iload_n cx dL_law_595 rfl rfl ?_
          refine x_iconst (v := 1) cx dL_law_596 (by decide) ?_
          refine x_iadd cx dL_law_597 ?_
          refine x_eqi (nI_add i 1) ?_
          refine x_sld (t := (i + 1)) cx hX hbl hG rfl (by omega) hL dL_law_598 ?_
          refine x_Vi (C := RX7) (T := TX7) (N := 9) (rest := [_]) cx (c_X7_found l G _ (kp8_W h hk) (hsz S) (kp8_hs h hk) (Sim_hs h).2 _) gV_L_93 ndX7_found rfl ⟨Nat.le_of_ble_eq_true rfl, Nat.le_of_ble_eq_true rfl⟩ (zok_8 (by decide)) (by decide) (p_M) rfl rfl rfl (Nat.le_of_ble_eq_true rfl) dL_law_599 ⟨Nat.le_of_ble_eq_true rfl, Nat.le_of_ble_eq_true rfl⟩ ?_
          refine x_icmp_eq_t (tgt := 752) cx dL_law_602 (by decide) (by rw [hk 8 (by decide), Qfound hq hW]) ?_
          refine x_iinc (v := nI (i + 4)) (ls' := [_, _, _, _, _, _, _, _]) cx dL_law_752 rfl (nI_add i 4) (by decide) rfl ?_
          refine x_goto (tgt := 18) cx dL_law_755 (by decide) ?_
          exact ih (i + 4) _ (by omega) (by omega) (by subst hS1; exact h)
        · refine x_tableIn (tgt := 607) (off := 575) cx dL_law_32 (by decide +kernel) (by decide +kernel) (by decide +kernel) (by decide) ?_
          refine x_aload_n cx dL_law_607 rfl rfl ?_
          refine x_aload_n cx dL_law_608 rfl rfl ?_
          refine x_iload_n cx dL_law_609 rfl rfl ?_
          refine x_iconst (v := 1) cx dL_law_610 (by decide) ?_
          refine x_iadd cx dL_law_611 ?_
          refine x_eqi (nI_add i 1) ?_
          refine x_sld (t := (i + 1)) cx hX hbl hG rfl (by omega) hL dL_law_612 ?_
          refine x_aload_n cx dL_law_613 rfl rfl ?_
          refine x_iload_n cx dL_law_614 rfl rfl ?_
          refine x_iconst (v := 2) cx dL_law_615 (by decide) ?_
          refine x_iadd cx dL_law_616 ?_
          refine x_eqi (nI_add i 2) ?_
          refine x_sld (t := (i + 2)) cx hX hbl hG rfl (by omega) hL dL_law_617 ?_
          refine x_Vi (C := RX6) (T := TX6) (N := 6) (rest := []) cx (c_X6_distance l G _ hk7 _ _) gV_L_94 ndX6_distance rfl ⟨Nat.le_of_ble_eq_true rfl, Nat.le_of_ble_eq_true rfl⟩ (zok_7 (by decide)) (by decide) (p_SC) rfl rfl rfl (Nat.le_of_ble_eq_true rfl) dL_law_618 ⟨Nat.le_of_ble_eq_true rfl, Nat.le_of_ble_eq_true rfl⟩ ?_
          refine x_kp (S := S) kp8_rf (fun S1 hS1 hk => ?_)
          refine x_aload_n cx dL_law_621 rfl rfl ?_
          refine x_aload_n cx dL_law_622 rfl rfl ?_
          refine x_iload_n cx dL_law_623 rfl rfl ?_
          refine x_iconst (v := 1) cx dL_law_624 (by decide) ?_
          refine x_iadd cx dL_law_625 ?_
          refine x_eqi (nI_add i 1) ?_
          refine x_sld (t := (i + 1)) cx hX hbl hG rfl (by omega) hL dL_law_626 ?_
          refine x_aload_n cx dL_law_627 rfl rfl ?_
          refine x_iload_n cx dL_law_628 rfl rfl ?_
          refine x_iconst (v := 2) cx dL_law_629 (by decide) ?_
          refine x_iadd cx dL_law_630 ?_
          refine x_eqi (nI_add i 2) ?_
          refine x_sld (t := (i + 2)) cx hX hbl hG rfl (by omega) hL dL_law_631 ?_
          refine x_Vi (C := RX7) (T := TX7) (N := 9) (rest := [_]) cx (c_X7_distance l G _ (kp8_W h hk) (hsz S) (kp8_hs h hk) (Sim_hs h).2 _ _) gV_L_97 ndX7_distance rfl ⟨Nat.le_of_ble_eq_true rfl, Nat.le_of_ble_eq_true rfl⟩ (zok_8 (by decide)) (by decide) (p_M) rfl rfl rfl (Nat.le_of_ble_eq_true rfl) dL_law_632 ⟨Nat.le_of_ble_eq_true rfl, Nat.le_of_ble_eq_true rfl⟩ ?_
          refine x_icmp_eq_t (tgt := 752) cx dL_law_635 (by decide) rfl ?_
          refine x_iinc (v := nI (i + 4)) (ls' := [_, _, _, _, _, _, _, _]) cx dL_law_752 rfl (nI_add i 4) (by decide) rfl ?_
          refine x_goto (tgt := 18) cx dL_law_755 (by decide) ?_
          exact ih (i + 4) _ (by omega) (by omega) (by subst hS1; (repeat' split) <;> first | exact h | exact sim_fr h _)
        · refine x_tableIn (tgt := 640) (off := 608) cx dL_law_32 (by decide +kernel) (by decide +kernel) (by decide +kernel) (by decide) ?_
          refine x_aload_n cx dL_law_640 rfl rfl ?_
          refine x_aload_n cx dL_law_641 rfl rfl ?_
          refine x_iload_n cx dL_law_642 rfl rfl ?_
          refine x_iconst (v := 1) cx dL_law_643 (by decide) ?_
          refine x_iadd cx dL_law_644 ?_
          refine x_eqi (nI_add i 1) ?_
          refine x_sld (t := (i + 1)) cx hX hbl hG rfl (by omega) hL dL_law_645 ?_
          refine x_Vi (C := RX6) (T := TX6) (N := 6) (rest := []) cx (c_X6_peek l G _ hk7 _) gV_L_98 ndX6_peek rfl ⟨Nat.le_of_ble_eq_true rfl, Nat.le_of_ble_eq_true rfl⟩ (zok_7 (by decide)) (by decide) (p_SC) rfl rfl rfl (Nat.le_of_ble_eq_true rfl) dL_law_646 ⟨Nat.le_of_ble_eq_true rfl, Nat.le_of_ble_eq_true rfl⟩ ?_
          refine x_kp (S := S) kp8_rf (fun S1 hS1 hk => ?_)
          refine x_aload_n cx dL_law_649 rfl rfl ?_
          refine x_aload_n cx dL_law_650 rfl rfl ?_
          refine x_iload_n cx dL_law_651 rfl rfl ?_
          refine x_iconst (v := 1) cx dL_law_652 (by decide) ?_
          refine x_iadd cx dL_law_653 ?_
          refine x_eqi (nI_add i 1) ?_
          refine x_sld (t := (i + 1)) cx hX hbl hG rfl (by omega) hL dL_law_654 ?_
          refine x_Vi (C := RX7) (T := TX7) (N := 9) (rest := [_]) cx (c_X7_peek l G _ (kp8_W h hk) (hsz S) (kp8_hs h hk) (Sim_hs h).2 _) gV_L_101 ndX7_peek rfl ⟨Nat.le_of_ble_eq_true rfl, Nat.le_of_ble_eq_true rfl⟩ (zok_8 (by decide)) (by decide) (p_M) rfl rfl rfl (Nat.le_of_ble_eq_true rfl) dL_law_655 ⟨Nat.le_of_ble_eq_true rfl, Nat.le_of_ble_eq_true rfl⟩ ?_
          refine x_icmp_eq_t (tgt := 752) cx dL_law_658 (by decide) (by rw [hk 8 (by decide), Qpeek hq]) ?_
          refine x_iinc (v := nI (i + 4)) (ls' := [_, _, _, _, _, _, _, _]) cx dL_law_752 rfl (nI_add i 4) (by decide) rfl ?_
          refine x_goto (tgt := 18) cx dL_law_755 (by decide) ?_
          exact ih (i + 4) _ (by omega) (by omega) (by subst hS1; exact h)
        · refine x_tableIn (tgt := 663) (off := 631) cx dL_law_32 (by decide +kernel) (by decide +kernel) (by decide +kernel) (by decide) ?_
          refine x_aload_n cx dL_law_663 rfl rfl ?_
          refine x_Vi (C := RX6) (T := TX6) (N := 6) (rest := []) cx (c_X6_ifIdentified l G _ hk7) gV_L_102 ndX6_ifIdentified rfl ⟨Nat.le_of_ble_eq_true rfl, Nat.le_of_ble_eq_true rfl⟩ (zok_7 (by decide)) (by decide) (p_SC) rfl rfl rfl (Nat.le_of_ble_eq_true rfl) dL_law_664 ⟨Nat.le_of_ble_eq_true rfl, Nat.le_of_ble_eq_true rfl⟩ ?_
          refine x_kp (S := S) (kp8_up (by decide) kp8_rf) (fun S1 hS1 hk => ?_)
          refine x_aload_n cx dL_law_667 rfl rfl ?_
          refine x_Vi (C := RX7) (T := TX7) (N := 9) (rest := [_]) cx (c_X7_ifIdentified l G _ (kp8_W h hk) (hsz S) (kp8_hs h hk) (Sim_hs h).2) gV_L_105 ndX7_ifIdentified rfl ⟨Nat.le_of_ble_eq_true rfl, Nat.le_of_ble_eq_true rfl⟩ (zok_8 (by decide)) (by decide) (p_M) rfl rfl rfl (Nat.le_of_ble_eq_true rfl) dL_law_668 ⟨Nat.le_of_ble_eq_true rfl, Nat.le_of_ble_eq_true rfl⟩ ?_
          refine x_icmp_eq_t (tgt := 752) cx dL_law_671 (by decide) (by rw [hk 8 (by decide), (Qident (Qcopy (Z := S 1) hq) (zCopy_WF hW)).1]) ?_
          refine x_iinc (v := nI (i + 4)) (ls' := [_, _, _, _, _, _, _, _]) cx dL_law_752 rfl (nI_add i 4) (by decide) rfl ?_
          refine x_goto (tgt := 18) cx dL_law_755 (by decide) ?_
          exact ih (i + 4) _ (by omega) (by omega) (by subst hS1; exact sim_sp (sim_1 h _) _)
        · refine x_tableIn (tgt := 676) (off := 644) cx dL_law_32 (by decide +kernel) (by decide +kernel) (by decide +kernel) (by decide) ?_
          refine x_aload_n cx dL_law_676 rfl rfl ?_
          refine x_aload_n cx dL_law_677 rfl rfl ?_
          refine x_iload_n cx dL_law_678 rfl rfl ?_
          refine x_iconst (v := 1) cx dL_law_679 (by decide) ?_
          refine x_iadd cx dL_law_680 ?_
          refine x_eqi (nI_add i 1) ?_
          refine x_sld (t := (i + 1)) cx hX hbl hG rfl (by omega) hL dL_law_681 ?_
          refine x_aload_n cx dL_law_682 rfl rfl ?_
          refine x_iload_n cx dL_law_683 rfl rfl ?_
          refine x_iconst (v := 2) cx dL_law_684 (by decide) ?_
          refine x_iadd cx dL_law_685 ?_
          refine x_eqi (nI_add i 2) ?_
          refine x_sld (t := (i + 2)) cx hX hbl hG rfl (by omega) hL dL_law_686 ?_
          refine x_Vi (C := RX6) (T := TX6) (N := 6) (rest := []) cx (c_X6_ifExchanged l G _ hk7 _ _) gV_L_106 ndX6_ifExchanged rfl ⟨Nat.le_of_ble_eq_true rfl, Nat.le_of_ble_eq_true rfl⟩ (zok_7 (by decide)) (by decide) (p_SC) rfl rfl rfl (Nat.le_of_ble_eq_true rfl) dL_law_687 ⟨Nat.le_of_ble_eq_true rfl, Nat.le_of_ble_eq_true rfl⟩ ?_
          refine x_kp (S := S) (kp8_if (kp8_up (by decide) kp8_rf) kp8_rf) (fun S1 hS1 hk => ?_)
          refine x_aload_n cx dL_law_690 rfl rfl ?_
          refine x_aload_n cx dL_law_691 rfl rfl ?_
          refine x_iload_n cx dL_law_692 rfl rfl ?_
          refine x_iconst (v := 1) cx dL_law_693 (by decide) ?_
          refine x_iadd cx dL_law_694 ?_
          refine x_eqi (nI_add i 1) ?_
          refine x_sld (t := (i + 1)) cx hX hbl hG rfl (by omega) hL dL_law_695 ?_
          refine x_aload_n cx dL_law_696 rfl rfl ?_
          refine x_iload_n cx dL_law_697 rfl rfl ?_
          refine x_iconst (v := 2) cx dL_law_698 (by decide) ?_
          refine x_iadd cx dL_law_699 ?_
          refine x_eqi (nI_add i 2) ?_
          refine x_sld (t := (i + 2)) cx hX hbl hG rfl (by omega) hL dL_law_700 ?_
          refine x_Vi (C := RX7) (T := TX7) (N := 9) (rest := [_]) cx (c_X7_ifExchanged l G _ (kp8_W h hk) (hsz S) (kp8_hs h hk) (Sim_hs h).2 _ _) gV_L_109 ndX7_ifExchanged rfl ⟨Nat.le_of_ble_eq_true rfl, Nat.le_of_ble_eq_true rfl⟩ (zok_8 (by decide)) (by decide) (p_M) rfl rfl rfl (Nat.le_of_ble_eq_true rfl) dL_law_701 ⟨Nat.le_of_ble_eq_true rfl, Nat.le_of_ble_eq_true rfl⟩ ?_
          refine x_icmp_eq_t (tgt := 752) cx dL_law_704 (by decide) (by rw [hk 8 (by decide), Qerr hq, QexchO (Qcopy (Z := S 1) hq)]) ?_
          refine x_iinc (v := nI (i + 4)) (ls' := [_, _, _, _, _, _, _, _]) cx dL_law_752 rfl (nI_add i 4) (by decide) rfl ?_
          refine x_goto (tgt := 18) cx dL_law_755 (by decide) ?_
          exact ih (i + 4) _ (by omega) (by omega) (by have hs1 : Sim S1 := (by rw [hS1]; split <;> first | exact sim_1 h _ | exact h); split <;> first | exact sim_sp hs1 _ | exact hs1)
        · refine x_tableIn (tgt := 709) (off := 677) cx dL_law_32 (by decide +kernel) (by decide +kernel) (by decide +kernel) (by decide) ?_
          refine x_aload_n cx dL_law_709 rfl rfl ?_
          refine x_Vf (C := RX6) (T := TX6) (N := 6) (rest := []) cx (c_X6_bypassed l G _ hk7) gV_L_110 ndX6_bypassed rfl ⟨Nat.le_of_ble_eq_true rfl, Nat.le_of_ble_eq_true rfl⟩ (zok_7 (by decide)) (by decide) (p_SC) rfl rfl rfl (Nat.le_of_ble_eq_true rfl) dL_law_710 ⟨Nat.le_of_ble_eq_true rfl, Nat.le_of_ble_eq_true rfl⟩ ?_
          exact x_law23 cx l hq hW h (ih (i + 4) S (by omega) (by omega) h)
