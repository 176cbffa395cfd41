set_option maxHeartbeats 4000000 in
set_option maxRecDepth 100000 in
theorem law_loop {p : Program} {e : Env} {s : State} {m : MethodId} {below : List Frame} {meth : Method} {c : Code} (l : Launch) {G : zG} {b L : Nat} {xs : Nat → Int32} (hL : L ≤ 2048) (cx : Cx p s m #[.ref b] meth c cL_law 8 RL G) (hX : va_X b L xs s s.heap) (hbl : b < s.heap.size) (hG : G.2.2 = s.heap.size) (hr : meth.sig.returnType = ret) : ∀ (f i : Nat) (S : zS), L ≤ i + f → i ≤ L + 4 → Sim S → Xh p l e room_1 s m #[.ref b] below meth c 8 G (lw_Z below #[.ref b] s) 75 1179 75 (pic G S) 18 [some (.ref b), some (.ref (zad G 7 0)), some (.ref (zad G 8 0)), some (.int (nI i)), none, none, none, none] [] := by
  intro f
  induction f with
  | zero =>
    intro i S hf hi h
    refine x_iload_n cx dL_law_18 rfl rfl ?_
    refine x_aload_n cx dL_law_19 rfl rfl ?_
    refine x_slen cx hX hbl hG dL_law_20 ?_
    refine x_iconst (v := 4) cx dL_law_21 (by decide) ?_
    refine x_isub cx dL_law_22 ?_
    refine x_icmp_gt_t (tgt := 758) cx dL_law_23 (by decide) ((law_cmp (by omega) hL).mpr (by omega)) ?_
    refine x_iconst (v := 1) cx dL_law_758 (by decide) ?_
    exact x_lend cx hG hr (by decide) (by decide) dL_law_759
  | succ f ih =>
    intro i S hf hi h
    by_cases hc : L < i + 4
    · refine x_iload_n cx dL_law_18 rfl rfl ?_
      refine x_aload_n cx dL_law_19 rfl rfl ?_
      refine x_slen cx hX hbl hG dL_law_20 ?_
      refine x_iconst (v := 4) cx dL_law_21 (by decide) ?_
      refine x_isub cx dL_law_22 ?_
      refine x_icmp_gt_t (tgt := 758) cx dL_law_23 (by decide) ((law_cmp (by omega) hL).mpr hc) ?_
      refine x_iconst (v := 1) cx dL_law_758 (by decide) ?_
      exact x_lend cx hG hr (by decide) (by decide) dL_law_759
    · have hi2 : i + 3 < L := by omega
      have ihS : ∀ S : zS, Sim S → Xh p l e room_1 s m #[.ref b] below meth c 8 G (lw_Z below #[.ref b] s) 75 1179 75 (pic G S) 18 [some (.ref b), some (.ref (zad G 7 0)), some (.ref (zad G 8 0)), some (.int (nI (i + 4))), none, none, none, none] [] := fun S hS => ih (i + 4) S (by omega) (by omega) hS
      refine x_iload_n cx dL_law_18 rfl rfl ?_
      refine x_aload_n cx dL_law_19 rfl rfl ?_
      refine x_slen cx hX hbl hG dL_law_20 ?_
      refine x_iconst (v := 4) cx dL_law_21 (by decide) ?_
      refine x_isub cx dL_law_22 ?_
      refine x_icmp_gt_f (tgt := 758) cx dL_law_23 (by decide) (fun z => hc ((law_cmp (by omega) hL).mp z)) ?_
      refine x_aload_n cx dL_law_26 rfl rfl ?_
      refine x_iload_n cx dL_law_27 rfl rfl ?_
      refine x_sld (t := i) cx hX hbl hG rfl (by omega) hL dL_law_28 ?_
      refine x_bipush (v := 31) cx dL_law_29 (by decide) ?_
      refine x_iand cx dL_law_31 ?_
      generalize xs i &&& 31 = v
      rcases sw_cases v 23 (by decide) with hsw | hsw | ⟨w, hw, rfl⟩
      · refine x_tableOut (tgt := 752) cx dL_law_32 (Or.inl hsw) (by decide) ?_
        refine x_iinc (v := nI (i + 4)) (ls' := [_, _, _, _, _, _, _, _]) cx dL_law_752 rfl (nI_add i 4) (by decide) rfl ?_
        refine x_goto (tgt := 18) cx dL_law_755 (by decide) ?_
        exact ihS S h
      · refine x_tableOut (tgt := 752) cx dL_law_32 (Or.inr hsw) (by decide) ?_
        refine x_iinc (v := nI (i + 4)) (ls' := [_, _, _, _, _, _, _, _]) cx dL_law_752 rfl (nI_add i 4) (by decide) rfl ?_
        refine x_goto (tgt := 18) cx dL_law_755 (by decide) ?_
        exact ihS S h
      · rcases (show w = 0 ∨ w = 1 ∨ w = 2 ∨ w = 3 ∨ w = 4 ∨ w = 5 ∨ w = 6 ∨ w = 7 ∨ w = 8 ∨ w = 9 ∨ w = 10 ∨ w = 11 ∨ w = 12 ∨ w = 13 ∨ w = 14 ∨ w = 15 ∨ w = 16 ∨ w = 17 ∨ w = 18 ∨ w = 19 ∨ w = 20 ∨ w = 21 ∨ w = 22 ∨ w = 23 by omega) with rfl | rfl | rfl | rfl | rfl | rfl | rfl | rfl | rfl | rfl | rfl | rfl | rfl | rfl | rfl | rfl | rfl | rfl | rfl | rfl | rfl | rfl | rfl | rfl
        · refine x_tableIn (tgt := 144) (off := 112) cx dL_law_32 (by decide +kernel) (by decide +kernel) (by decide +kernel) (by decide) ?_
          exact law_c0 l hL cx hX hbl hG hi2 h ihS
        · refine x_tableIn (tgt := 187) (off := 155) cx dL_law_32 (by decide +kernel) (by decide +kernel) (by decide +kernel) (by decide) ?_
          exact law_c1 l hL cx hX hbl hG hi2 h ihS
        · refine x_tableIn (tgt := 210) (off := 178) cx dL_law_32 (by decide +kernel) (by decide +kernel) (by decide +kernel) (by decide) ?_
          exact law_c2 l hL cx hX hbl hG hi2 h ihS
        · refine x_tableIn (tgt := 243) (off := 211) cx dL_law_32 (by decide +kernel) (by decide +kernel) (by decide +kernel) (by decide) ?_
          exact law_c3 l hL cx hX hbl hG hi2 h ihS
        · refine x_tableIn (tgt := 292) (off := 260) cx dL_law_32 (by decide +kernel) (by decide +kernel) (by decide +kernel) (by decide) ?_
          exact law_c4 l hL cx hX hbl hG hi2 h ihS
        · refine x_tableIn (tgt := 325) (off := 293) cx dL_law_32 (by decide +kernel) (by decide +kernel) (by decide +kernel) (by decide) ?_
          exact law_c5 l hL cx hX hbl hG hi2 h ihS
        · refine x_tableIn (tgt := 348) (off := 316) cx dL_law_32 (by decide +kernel) (by decide +kernel) (by decide +kernel) (by decide) ?_
          exact law_c6 l hL cx hX hbl hG hi2 h ihS
        · refine x_tableIn (tgt := 361) (off := 329) cx dL_law_32 (by decide +kernel) (by decide +kernel) (by decide +kernel) (by decide) ?_
          exact law_c7 l hL cx hX hbl hG hi2 h ihS
        · refine x_tableIn (tgt := 394) (off := 362) cx dL_law_32 (by decide +kernel) (by decide +kernel) (by decide +kernel) (by decide) ?_
          exact law_c8 l hL cx hX hbl hG hi2 h ihS
        · refine x_tableIn (tgt := 427) (off := 395) cx dL_law_32 (by decide +kernel) (by decide +kernel) (by decide +kernel) (by decide) ?_
          exact law_c9 l hL cx hX hbl hG hi2 h ihS
        · refine x_tableIn (tgt := 450) (off := 418) cx dL_law_32 (by decide +kernel) (by decide +kernel) (by decide +kernel) (by decide) ?_
          exact law_c10 l hL cx hX hbl hG hi2 h ihS
        · refine x_tableIn (tgt := 463) (off := 431) cx dL_law_32 (by decide +kernel) (by decide +kernel) (by decide +kernel) (by decide) ?_
          exact law_c11 l hL cx hX hbl hG hi2 h ihS
        · refine x_tableIn (tgt := 476) (off := 444) cx dL_law_32 (by decide +kernel) (by decide +kernel) (by decide +kernel) (by decide) ?_
          exact law_c12 l hL cx hX hbl hG hi2 h ihS
        · refine x_tableIn (tgt := 489) (off := 457) cx dL_law_32 (by decide +kernel) (by decide +kernel) (by decide +kernel) (by decide) ?_
          exact law_c13 l hL cx hX hbl hG hi2 h ihS
        · refine x_tableIn (tgt := 502) (off := 470) cx dL_law_32 (by decide +kernel) (by decide +kernel) (by decide +kernel) (by decide) ?_
          exact law_c14 l hL cx hX hbl hG hi2 h ihS
        · refine x_tableIn (tgt := 515) (off := 483) cx dL_law_32 (by decide +kernel) (by decide +kernel) (by decide +kernel) (by decide) ?_
          exact law_c15 l hL cx hX hbl hG hi2 h ihS
        · refine x_tableIn (tgt := 528) (off := 496) cx dL_law_32 (by decide +kernel) (by decide +kernel) (by decide +kernel) (by decide) ?_
          exact law_c16 l hL cx hX hbl hG hi2 h ihS
        · refine x_tableIn (tgt := 561) (off := 529) cx dL_law_32 (by decide +kernel) (by decide +kernel) (by decide +kernel) (by decide) ?_
          exact law_c17 l hL cx hX hbl hG hi2 h ihS
        · refine x_tableIn (tgt := 584) (off := 552) cx dL_law_32 (by decide +kernel) (by decide +kernel) (by decide +kernel) (by decide) ?_
          exact law_c18 l hL cx hX hbl hG hi2 h ihS
        · refine x_tableIn (tgt := 607) (off := 575) cx dL_law_32 (by decide +kernel) (by decide +kernel) (by decide +kernel) (by decide) ?_
          exact law_c19 l hL cx hX hbl hG hi2 h ihS
        · refine x_tableIn (tgt := 640) (off := 608) cx dL_law_32 (by decide +kernel) (by decide +kernel) (by decide +kernel) (by decide) ?_
          exact law_c20 l hL cx hX hbl hG hi2 h ihS
        · refine x_tableIn (tgt := 663) (off := 631) cx dL_law_32 (by decide +kernel) (by decide +kernel) (by decide +kernel) (by decide) ?_
          exact law_c21 l hL cx hX hbl hG hi2 h ihS
        · refine x_tableIn (tgt := 676) (off := 644) cx dL_law_32 (by decide +kernel) (by decide +kernel) (by decide +kernel) (by decide) ?_
          exact law_c22 l hL cx hX hbl hG hi2 h ihS
        · refine x_tableIn (tgt := 709) (off := 677) cx dL_law_32 (by decide +kernel) (by decide +kernel) (by decide +kernel) (by decide) ?_
          exact law_c23 l hL cx hX hbl hG hi2 h ihS
