set_option maxHeartbeats 4000000 in
set_option maxRecDepth 100000 in
theorem c_X0_brokenChips (l : Launch) (G : zG) (S : zS) (i : Nat) (hi : i < 7) (X : zCV) (hW : zWF X) : Met l yX0_brokenChips (zws yX0_brokenChips cX0_brokenChips 3 (some .int)) (zrm 0 0 0 0) (zPc G 68 (pic G (up S i X)) [.ref (zad G i 0)]) (zQi G 68 (zSum (zBrk) X) (pic G (up S i (X)))) 0 0 (zA G) := by
  refine zMet npX0_brokenChips rfl (Nat.le_of_ble_eq_true rfl) ?_
  intro p e s m args below meth cd hargs cx hr hin0
  have cx : Cx p s m args meth cd cX0_brokenChips 3 RX0 G := cx
  refine x_ls (ls' := [some (.ref (zad G i 0)), none, none]) rfl (fun _ h => h) ?_
  refine x_iconst (v := 0) cx dX0_brokenChips_0 (by decide) ?_
  refine x_istore_n (ls' := [_, _, _]) cx dX0_brokenChips_1 rfl (by decide) rfl ?_
  refine x_iconst (v := 0) cx dX0_brokenChips_2 (by decide) ?_
  refine x_istore_n (ls' := [_, _, _]) cx dX0_brokenChips_3 rfl (by decide) rfl ?_
  have h6 := hW.n6
  suffices K : ∀ f k : Nat, k + f = num X → Xh p l e _ s m args below meth cd 3 G _ 0 0 68 (pic G (up S i X)) 4 [some (.ref (zad G i 0)), some (.int (zSumL (zBrk) X k)), some (.int (nI k))] [] from K (num X) 0 (by omega)
  intro f
  induction f with
  | zero =>
    intro k hk
    obtain rfl : k = num X := by omega
    refine x_iload_n cx dX0_brokenChips_4 rfl rfl ?_
    refine x_aload_n cx dX0_brokenChips_5 rfl rfl ?_
    refine x_getX0 cx 1 (by decide) (fl_X0_18 cx) (zok_c hi (by decide)) (zix_c hi (by decide)) (pcO hi) rfl dX0_brokenChips_6 ?_
    refine x_eqi hW.sz ?_
    refine x_icmp_ge_t (tgt := 38) cx dX0_brokenChips_9 (by decide) (nI_le (Nat.le_refl _) (by omega)) ?_
    refine x_iload_n cx dX0_brokenChips_38 rfl rfl ?_
    exact x_iret cx hr rfl (fun _ _ _ _ => rfl) dX0_brokenChips_39
  | succ f ih =>
    intro k hk
    refine x_iload_n cx dX0_brokenChips_4 rfl rfl ?_
    refine x_aload_n cx dX0_brokenChips_5 rfl rfl ?_
    refine x_getX0 cx 1 (by decide) (fl_X0_18 cx) (zok_c hi (by decide)) (zix_c hi (by decide)) (pcO hi) rfl dX0_brokenChips_6 ?_
    refine x_eqi hW.sz ?_
    refine x_icmp_ge_f (tgt := 38) cx dX0_brokenChips_9 (by decide) (nI_ge (by omega) (by omega)) ?_
    refine x_iload_n cx dX0_brokenChips_12 rfl rfl ?_
    refine x_aload_n cx dX0_brokenChips_13 rfl rfl ?_
    refine x_getX0 cx 0 (by decide) (fl_X0_11 cx) (zok_c hi (by decide)) (zix_c hi (by decide)) (pcO hi) rfl dX0_brokenChips_14 ?_
    refine x_iload_n cx dX0_brokenChips_17 rfl rfl ?_
    refine x_aald (t := k) cx 2 rfl (zok_c hi (by decide)) (zix_c hi (by decide)) (pcA hi) rfl (by omega) (by decide) rfl dX0_brokenChips_18 ?_
    refine x_getX1 cx 5 (by decide) (fl_X0_48 cx) (zok_c hi (by omega)) (zix_c hi (by omega)) (pcC hi _) rfl dX0_brokenChips_19 ?_
    refine x_if_eq (tgt := 29) cx dX0_brokenChips_22 (by decide) (fun hb22 => ?_) (fun hb22 => ?_)
    · refine x_iconst (v := 0) cx dX0_brokenChips_29 (by decide) ?_
      refine x_iadd cx dX0_brokenChips_30 ?_
      refine x_istore_n (ls' := [_, _, _]) cx dX0_brokenChips_31 rfl (by decide) rfl ?_
      refine x_iinc (v := nI (k + 1)) (ls' := [_, _, _]) cx dX0_brokenChips_32 rfl (nI_inc _) (by decide) rfl ?_
      refine x_goto (tgt := 4) cx dX0_brokenChips_35 (by decide) ?_
      have h9 := ih (k + 1) (by omega)
      rw [zSumL, zBrk, if_pos hb22] at h9
      exact h9
    · refine x_iconst (v := 1) cx dX0_brokenChips_25 (by decide) ?_
      refine x_goto (tgt := 30) cx dX0_brokenChips_26 (by decide) ?_
      refine x_iadd cx dX0_brokenChips_30 ?_
      refine x_istore_n (ls' := [_, _, _]) cx dX0_brokenChips_31 rfl (by decide) rfl ?_
      refine x_iinc (v := nI (k + 1)) (ls' := [_, _, _]) cx dX0_brokenChips_32 rfl (nI_inc _) (by decide) rfl ?_
      refine x_goto (tgt := 4) cx dX0_brokenChips_35 (by decide) ?_
      have h9 := ih (k + 1) (by omega)
      rw [zSumL, zBrk, if_neg hb22] at h9
      exact h9

set_option maxHeartbeats 4000000 in
set_option maxRecDepth 100000 in
theorem c_X0_bypassedChips (l : Launch) (G : zG) (S : zS) (i : Nat) (hi : i < 7) (X : zCV) (hW : zWF X) : Met l yX0_bypassedChips (zws yX0_bypassedChips cX0_bypassedChips 3 (some .int)) (zrm 2 0 0 40) (zPc G 68 (pic G (up S i X)) [.ref (zad G i 0)]) (zQi G 68 (zSum (zByp) X) (pic G (up S i (X)))) 0 0 (zA G) := by
  refine zMet npX0_bypassedChips rfl (Nat.le_of_ble_eq_true rfl) ?_
  intro p e s m args below meth cd hargs cx hr hin0
  have cx : Cx p s m args meth cd cX0_bypassedChips 3 RX0 G := cx
  refine x_ls (ls' := [some (.ref (zad G i 0)), none, none]) rfl (fun _ h => h) ?_
  refine x_iconst (v := 0) cx dX0_bypassedChips_0 (by decide) ?_
  refine x_istore_n (ls' := [_, _, _]) cx dX0_bypassedChips_1 rfl (by decide) rfl ?_
  refine x_iconst (v := 0) cx dX0_bypassedChips_2 (by decide) ?_
  refine x_istore_n (ls' := [_, _, _]) cx dX0_bypassedChips_3 rfl (by decide) rfl ?_
  have h6 := hW.n6
  suffices K : ∀ f k : Nat, k + f = num X → Xh p l e _ s m args below meth cd 3 G _ 0 0 68 (pic G (up S i X)) 4 [some (.ref (zad G i 0)), some (.int (zSumL (zByp) X k)), some (.int (nI k))] [] from K (num X) 0 (by omega)
  intro f
  induction f with
  | zero =>
    intro k hk
    obtain rfl : k = num X := by omega
    refine x_iload_n cx dX0_bypassedChips_4 rfl rfl ?_
    refine x_aload_n cx dX0_bypassedChips_5 rfl rfl ?_
    refine x_getX0 cx 1 (by decide) (fl_X0_18 cx) (zok_c hi (by decide)) (zix_c hi (by decide)) (pcO hi) rfl dX0_bypassedChips_6 ?_
    refine x_eqi hW.sz ?_
    refine x_icmp_ge_t (tgt := 38) cx dX0_bypassedChips_9 (by decide) (nI_le (Nat.le_refl _) (by omega)) ?_
    refine x_iload_n cx dX0_bypassedChips_38 rfl rfl ?_
    exact x_iret cx hr rfl (fun _ _ _ _ => rfl) dX0_bypassedChips_39
  | succ f ih =>
    intro k hk
    refine x_iload_n cx dX0_bypassedChips_4 rfl rfl ?_
    refine x_aload_n cx dX0_bypassedChips_5 rfl rfl ?_
    refine x_getX0 cx 1 (by decide) (fl_X0_18 cx) (zok_c hi (by decide)) (zix_c hi (by decide)) (pcO hi) rfl dX0_bypassedChips_6 ?_
    refine x_eqi hW.sz ?_
    refine x_icmp_ge_f (tgt := 38) cx dX0_bypassedChips_9 (by decide) (nI_ge (by omega) (by omega)) ?_
    refine x_iload_n cx dX0_bypassedChips_12 rfl rfl ?_
    refine x_aload_n cx dX0_bypassedChips_13 rfl rfl ?_
    refine x_getX0 cx 0 (by decide) (fl_X0_11 cx) (zok_c hi (by decide)) (zix_c hi (by decide)) (pcO hi) rfl dX0_bypassedChips_14 ?_
    refine x_iload_n cx dX0_bypassedChips_17 rfl rfl ?_
    refine x_aald (t := k) cx 2 rfl (zok_c hi (by decide)) (zix_c hi (by decide)) (pcA hi) rfl (by omega) (by decide) rfl dX0_bypassedChips_18 ?_
    refine x_chip k ?_
    refine x_Vi (C := RX1) (T := TX1) (N := 9) (rest := [_]) cx (c_X1_selectsBypass l G _ i k hi (by omega) _ _) gV_X0_52 ndX1_selectsBypass rfl ⟨Nat.le_of_ble_eq_true rfl, Nat.le_of_ble_eq_true rfl⟩ (zok_c hi (by omega)) (zix_c hi (by omega)) (pcC hi _) rfl rfl rfl (Nat.le_of_ble_eq_true rfl) dX0_bypassedChips_19 ⟨Nat.le_of_ble_eq_true rfl, Nat.le_of_ble_eq_true rfl⟩ ?_
    refine x_unchip ?_
    refine x_if_eq (tgt := 29) cx dX0_bypassedChips_22 (by decide) (fun hb22 => ?_) (fun hb22 => ?_)
    · refine x_iconst (v := 0) cx dX0_bypassedChips_29 (by decide) ?_
      refine x_iadd cx dX0_bypassedChips_30 ?_
      refine x_istore_n (ls' := [_, _, _]) cx dX0_bypassedChips_31 rfl (by decide) rfl ?_
      refine x_iinc (v := nI (k + 1)) (ls' := [_, _, _]) cx dX0_bypassedChips_32 rfl (nI_inc _) (by decide) rfl ?_
      refine x_goto (tgt := 4) cx dX0_bypassedChips_35 (by decide) ?_
      have h9 := ih (k + 1) (by omega)
      rw [zSumL, zByp, if_pos hb22] at h9
      exact h9
    · refine x_iconst (v := 1) cx dX0_bypassedChips_25 (by decide) ?_
      refine x_goto (tgt := 30) cx dX0_bypassedChips_26 (by decide) ?_
      refine x_iadd cx dX0_bypassedChips_30 ?_
      refine x_istore_n (ls' := [_, _, _]) cx dX0_bypassedChips_31 rfl (by decide) rfl ?_
      refine x_iinc (v := nI (k + 1)) (ls' := [_, _, _]) cx dX0_bypassedChips_32 rfl (nI_inc _) (by decide) rfl ?_
      refine x_goto (tgt := 4) cx dX0_bypassedChips_35 (by decide) ?_
      have h9 := ih (k + 1) (by omega)
      rw [zSumL, zByp, if_neg hb22] at h9
      exact h9

set_option maxHeartbeats 4000000 in
set_option maxRecDepth 100000 in
theorem c_X0_sumOfCodeLengths (l : Launch) (G : zG) (S : zS) (i : Nat) (hi : i < 7) (X : zCV) (hW : zWF X) : Met l yX0_sumOfCodeLengths (zws yX0_sumOfCodeLengths cX0_sumOfCodeLengths 3 (some .int)) (zrm 0 0 0 0) (zPc G 68 (pic G (up S i X)) [.ref (zad G i 0)]) (zQi G 68 (zSum (fun c => c 0) X) (pic G (up S i (X)))) 0 0 (zA G) := by
  refine zMet npX0_sumOfCodeLengths rfl (Nat.le_of_ble_eq_true rfl) ?_
  intro p e s m args below meth cd hargs cx hr hin0
  have cx : Cx p s m args meth cd cX0_sumOfCodeLengths 3 RX0 G := cx
  refine x_ls (ls' := [some (.ref (zad G i 0)), none, none]) rfl (fun _ h => h) ?_
  refine x_iconst (v := 0) cx dX0_sumOfCodeLengths_0 (by decide) ?_
  refine x_istore_n (ls' := [_, _, _]) cx dX0_sumOfCodeLengths_1 rfl (by decide) rfl ?_
  refine x_iconst (v := 0) cx dX0_sumOfCodeLengths_2 (by decide) ?_
  refine x_istore_n (ls' := [_, _, _]) cx dX0_sumOfCodeLengths_3 rfl (by decide) rfl ?_
  have h6 := hW.n6
  suffices K : ∀ f k : Nat, k + f = num X → Xh p l e _ s m args below meth cd 3 G _ 0 0 68 (pic G (up S i X)) 4 [some (.ref (zad G i 0)), some (.int (zSumL (fun c => c 0) X k)), some (.int (nI k))] [] from K (num X) 0 (by omega)
  intro f
  induction f with
  | zero =>
    intro k hk
    obtain rfl : k = num X := by omega
    refine x_iload_n cx dX0_sumOfCodeLengths_4 rfl rfl ?_
    refine x_aload_n cx dX0_sumOfCodeLengths_5 rfl rfl ?_
    refine x_getX0 cx 1 (by decide) (fl_X0_18 cx) (zok_c hi (by decide)) (zix_c hi (by decide)) (pcO hi) rfl dX0_sumOfCodeLengths_6 ?_
    refine x_eqi hW.sz ?_
    refine x_icmp_ge_t (tgt := 30) cx dX0_sumOfCodeLengths_9 (by decide) (nI_le (Nat.le_refl _) (by omega)) ?_
    refine x_iload_n cx dX0_sumOfCodeLengths_30 rfl rfl ?_
    exact x_iret cx hr rfl (fun _ _ _ _ => rfl) dX0_sumOfCodeLengths_31
  | succ f ih =>
    intro k hk
    refine x_iload_n cx dX0_sumOfCodeLengths_4 rfl rfl ?_
    refine x_aload_n cx dX0_sumOfCodeLengths_5 rfl rfl ?_
    refine x_getX0 cx 1 (by decide) (fl_X0_18 cx) (zok_c hi (by decide)) (zix_c hi (by decide)) (pcO hi) rfl dX0_sumOfCodeLengths_6 ?_
    refine x_eqi hW.sz ?_
    refine x_icmp_ge_f (tgt := 30) cx dX0_sumOfCodeLengths_9 (by decide) (nI_ge (by omega) (by omega)) ?_
    refine x_iload_n cx dX0_sumOfCodeLengths_12 rfl rfl ?_
    refine x_aload_n cx dX0_sumOfCodeLengths_13 rfl rfl ?_
    refine x_getX0 cx 0 (by decide) (fl_X0_11 cx) (zok_c hi (by decide)) (zix_c hi (by decide)) (pcO hi) rfl dX0_sumOfCodeLengths_14 ?_
    refine x_iload_n cx dX0_sumOfCodeLengths_17 rfl rfl ?_
    refine x_aald (t := k) cx 2 rfl (zok_c hi (by decide)) (zix_c hi (by decide)) (pcA hi) rfl (by omega) (by decide) rfl dX0_sumOfCodeLengths_18 ?_
    refine x_getX1 cx 0 (by decide) (fl_X0_56 cx) (zok_c hi (by omega)) (zix_c hi (by omega)) (pcC hi _) rfl dX0_sumOfCodeLengths_19 ?_
    refine x_iadd cx dX0_sumOfCodeLengths_22 ?_
    refine x_istore_n (ls' := [_, _, _]) cx dX0_sumOfCodeLengths_23 rfl (by decide) rfl ?_
    refine x_iinc (v := nI (k + 1)) (ls' := [_, _, _]) cx dX0_sumOfCodeLengths_24 rfl (nI_inc _) (by decide) rfl ?_
    refine x_goto (tgt := 4) cx dX0_sumOfCodeLengths_27 (by decide) ?_
    exact ih (k + 1) (by omega)

set_option maxHeartbeats 4000000 in
set_option maxRecDepth 100000 in
theorem c_X0_sumOfDataBits (l : Launch) (G : zG) (S : zS) (i : Nat) (hi : i < 7) (X : zCV) (hW : zWF X) : Met l yX0_sumOfDataBits (zws yX0_sumOfDataBits cX0_sumOfDataBits 3 (some .int)) (zrm 2 0 0 40) (zPc G 68 (pic G (up S i X)) [.ref (zad G i 0)]) (zQi G 68 (zSum (zBits) X) (pic G (up S i (X)))) 0 0 (zA G) := by
  refine zMet npX0_sumOfDataBits rfl (Nat.le_of_ble_eq_true rfl) ?_
  intro p e s m args below meth cd hargs cx hr hin0
  have cx : Cx p s m args meth cd cX0_sumOfDataBits 3 RX0 G := cx
  refine x_ls (ls' := [some (.ref (zad G i 0)), none, none]) rfl (fun _ h => h) ?_
  refine x_iconst (v := 0) cx dX0_sumOfDataBits_0 (by decide) ?_
  refine x_istore_n (ls' := [_, _, _]) cx dX0_sumOfDataBits_1 rfl (by decide) rfl ?_
  refine x_iconst (v := 0) cx dX0_sumOfDataBits_2 (by decide) ?_
  refine x_istore_n (ls' := [_, _, _]) cx dX0_sumOfDataBits_3 rfl (by decide) rfl ?_
  have h6 := hW.n6
  suffices K : ∀ f k : Nat, k + f = num X → Xh p l e _ s m args below meth cd 3 G _ 0 0 68 (pic G (up S i X)) 4 [some (.ref (zad G i 0)), some (.int (zSumL (zBits) X k)), some (.int (nI k))] [] from K (num X) 0 (by omega)
  intro f
  induction f with
  | zero =>
    intro k hk
    obtain rfl : k = num X := by omega
    refine x_iload_n cx dX0_sumOfDataBits_4 rfl rfl ?_
    refine x_aload_n cx dX0_sumOfDataBits_5 rfl rfl ?_
    refine x_getX0 cx 1 (by decide) (fl_X0_18 cx) (zok_c hi (by decide)) (zix_c hi (by decide)) (pcO hi) rfl dX0_sumOfDataBits_6 ?_
    refine x_eqi hW.sz ?_
    refine x_icmp_ge_t (tgt := 30) cx dX0_sumOfDataBits_9 (by decide) (nI_le (Nat.le_refl _) (by omega)) ?_
    refine x_iload_n cx dX0_sumOfDataBits_30 rfl rfl ?_
    exact x_iret cx hr rfl (fun _ _ _ _ => rfl) dX0_sumOfDataBits_31
  | succ f ih =>
    intro k hk
    refine x_iload_n cx dX0_sumOfDataBits_4 rfl rfl ?_
    refine x_aload_n cx dX0_sumOfDataBits_5 rfl rfl ?_
    refine x_getX0 cx 1 (by decide) (fl_X0_18 cx) (zok_c hi (by decide)) (zix_c hi (by decide)) (pcO hi) rfl dX0_sumOfDataBits_6 ?_
    refine x_eqi hW.sz ?_
    refine x_icmp_ge_f (tgt := 30) cx dX0_sumOfDataBits_9 (by decide) (nI_ge (by omega) (by omega)) ?_
    refine x_iload_n cx dX0_sumOfDataBits_12 rfl rfl ?_
    refine x_aload_n cx dX0_sumOfDataBits_13 rfl rfl ?_
    refine x_getX0 cx 0 (by decide) (fl_X0_11 cx) (zok_c hi (by decide)) (zix_c hi (by decide)) (pcO hi) rfl dX0_sumOfDataBits_14 ?_
    refine x_iload_n cx dX0_sumOfDataBits_17 rfl rfl ?_
    refine x_aald (t := k) cx 2 rfl (zok_c hi (by decide)) (zix_c hi (by decide)) (pcA hi) rfl (by omega) (by decide) rfl dX0_sumOfDataBits_18 ?_
    refine x_chip k ?_
    refine x_Vi (C := RX1) (T := TX1) (N := 9) (rest := [_]) cx (c_X1_dataBits l G _ i k hi (by omega) _ _) gV_X0_59 ndX1_dataBits rfl ⟨Nat.le_of_ble_eq_true rfl, Nat.le_of_ble_eq_true rfl⟩ (zok_c hi (by omega)) (zix_c hi (by omega)) (pcC hi _) rfl rfl rfl (Nat.le_of_ble_eq_true rfl) dX0_sumOfDataBits_19 ⟨Nat.le_of_ble_eq_true rfl, Nat.le_of_ble_eq_true rfl⟩ ?_
    refine x_unchip ?_
    refine x_iadd cx dX0_sumOfDataBits_22 ?_
    refine x_istore_n (ls' := [_, _, _]) cx dX0_sumOfDataBits_23 rfl (by decide) rfl ?_
    refine x_iinc (v := nI (k + 1)) (ls' := [_, _, _]) cx dX0_sumOfDataBits_24 rfl (nI_inc _) (by decide) rfl ?_
    refine x_goto (tgt := 4) cx dX0_sumOfDataBits_27 (by decide) ?_
    exact ih (k + 1) (by omega)

set_option maxHeartbeats 4000000 in
set_option maxRecDepth 100000 in
theorem c_X0_has (l : Launch) (G : zG) (S : zS) (i : Nat) (hi : i < 7) (X : zCV) (hW : zWF X) (x : Int32) : Met l yX0_has (zws yX0_has cX0_has 2 (some .boolean)) (zrm 0 0 0 0) (zPc G 68 (pic G (up S i X)) [.ref (zad G i 0), .int x]) (zQi G 68 (zHas X x) (pic G (up S i (X)))) 0 0 (zA G) := by
  refine zMet npX0_has rfl (Nat.le_of_ble_eq_true rfl) ?_
  intro p e s m args below meth cd hargs cx hr hin0
  have cx : Cx p s m args meth cd cX0_has 2 RX0 G := cx
  refine x_ls (ls' := [some (.ref (zad G i 0)), some (.int x)]) rfl (fun _ h => h) ?_
  refine x_iload_n cx dX0_has_0 rfl rfl ?_
  refine x_if_lt (tgt := 16) cx dX0_has_1 (by decide) (fun hb1 => ?_) (fun hb1 => ?_)
  · refine x_iconst (v := 0) cx dX0_has_16 (by decide) ?_
    exact x_zret cx hr (by simp [zHas, hb1]) (by first | exact Or.inl rfl | exact Or.inr rfl) (fun _ _ _ _ => rfl) dX0_has_17
  · refine x_iload_n cx dX0_has_4 rfl rfl ?_
    refine x_aload_n cx dX0_has_5 rfl rfl ?_
    refine x_getX0 cx 1 (by decide) (fl_X0_18 cx) (zok_c hi (by decide)) (zix_c hi (by decide)) (pcO hi) rfl dX0_has_6 ?_
    refine x_icmp_ge (tgt := 16) cx dX0_has_9 (by decide) (fun hb9 => ?_) (fun hb9 => ?_)
    · refine x_iconst (v := 0) cx dX0_has_16 (by decide) ?_
      exact x_zret cx hr (by simp [zHas, hb1, hb9]) (by first | exact Or.inl rfl | exact Or.inr rfl) (fun _ _ _ _ => rfl) dX0_has_17
    · refine x_iconst (v := 1) cx dX0_has_12 (by decide) ?_
      refine x_goto (tgt := 17) cx dX0_has_13 (by decide) ?_
      exact x_zret cx hr (by simp [zHas, hb1, hb9]) (by first | exact Or.inl rfl | exact Or.inr rfl) (fun _ _ _ _ => rfl) dX0_has_17

set_option maxHeartbeats 4000000 in
set_option maxRecDepth 100000 in
theorem c_X0_forgetIdentities (l : Launch) (G : zG) (S : zS) (i : Nat) (hi : i < 7) (X : zCV) (hW : zWF X) : Met l yX0_forgetIdentities (zws yX0_forgetIdentities cX0_forgetIdentities 1 none) (zrm 0 0 0 0) (zPc G 68 (pic G (up S i X)) [.ref (zad G i 0)]) (zQv G 68 (pic G (up S i (zForget X)))) 0 0 (zA G) := by
  refine zMet npX0_forgetIdentities rfl (Nat.le_of_ble_eq_true rfl) ?_
  intro p e s m args below meth cd hargs cx hr hin0
  have cx : Cx p s m args meth cd cX0_forgetIdentities 1 RX0 G := cx
  refine x_ls (ls' := [some (.ref (zad G i 0))]) rfl (fun _ h => h) ?_
  refine x_aload_n cx dX0_forgetIdentities_0 rfl rfl ?_
  refine x_iconst (v := 0) cx dX0_forgetIdentities_1 (by decide) ?_
  refine x_putX0 cx 5 (by decide) (fl_X0_34 cx) (zok_c hi (by decide)) (zix_c hi (by decide)) (pcO hi) rfl rfl rfl (Nat.le_of_ble_eq_true rfl) (ppO3 hi) dX0_forgetIdentities_2 ?_
  exact x_vret cx hr (fun _ _ _ _ => rfl) dX0_forgetIdentities_5

set_option maxHeartbeats 4000000 in
set_option maxRecDepth 100000 in
theorem c_X0_keepIdentity (l : Launch) (G : zG) (S : zS) (i : Nat) (hi : i < 7) (X : zCV) (hW : zWF X) (hc8 : cnt X < 8) (v : Int32) : Met l yX0_keepIdentity (zws yX0_keepIdentity cX0_keepIdentity 2 none) (zrm 0 0 0 0) (zPc G 68 (pic G (up S i X)) [.ref (zad G i 0), .int v]) (zQv G 68 (pic G (up S i (zKeep X v)))) 0 0 (zA G) := by
  refine zMet npX0_keepIdentity rfl (Nat.le_of_ble_eq_true rfl) ?_
  intro p e s m args below meth cd hargs cx hr hin0
  have cx : Cx p s m args meth cd cX0_keepIdentity 2 RX0 G := cx
  refine x_ls (ls' := [some (.ref (zad G i 0)), some (.int v)]) rfl (fun _ h => h) ?_
  refine x_aload_n cx dX0_keepIdentity_0 rfl rfl ?_
  refine x_getX0 cx 5 (by decide) (fl_X0_34 cx) (zok_c hi (by decide)) (zix_c hi (by decide)) (pcO hi) rfl dX0_keepIdentity_1 ?_
  refine x_eqi hW.c3 ?_
  refine x_aload_n cx dX0_keepIdentity_4 rfl rfl ?_
  refine x_getX0 cx 4 (by decide) (fl_X0_30 cx) (zok_c hi (by decide)) (zix_c hi (by decide)) (pcO hi) rfl dX0_keepIdentity_5 ?_
  refine x_aleni cx 0 rfl (zok_c hi (by decide)) (zix_c hi (by decide)) (pcI hi) dX0_keepIdentity_8 ?_
  refine x_icmp_ge_f (tgt := 32) cx dX0_keepIdentity_9 (by decide) (nI_ge (b := 8) hc8 (by decide)) ?_
  refine x_aload_n cx dX0_keepIdentity_12 rfl rfl ?_
  refine x_getX0 cx 4 (by decide) (fl_X0_30 cx) (zok_c hi (by decide)) (zix_c hi (by decide)) (pcO hi) rfl dX0_keepIdentity_13 ?_
  refine x_aload_n cx dX0_keepIdentity_16 rfl rfl ?_
  refine x_getX0 cx 5 (by decide) (fl_X0_34 cx) (zok_c hi (by decide)) (zix_c hi (by decide)) (pcO hi) rfl dX0_keepIdentity_17 ?_
  refine x_iload_n cx dX0_keepIdentity_20 rfl rfl ?_
  refine x_iast (t := (cnt X)) cx (zok_c hi (by decide)) (zix_c hi (by decide)) (pcI hi) hW.c3 hc8 (by decide) (ppI hi hc8) dX0_keepIdentity_21 ?_
  refine x_aload_n cx dX0_keepIdentity_22 rfl rfl ?_
  refine x_dup cx dX0_keepIdentity_23 rfl ?_
  refine x_getX0 cx 5 (by decide) (fl_X0_34 cx) (zok_c hi (by decide)) (zix_c hi (by decide)) (pcO hi) rfl dX0_keepIdentity_24 ?_
  refine x_iconst (v := 1) cx dX0_keepIdentity_27 (by decide) ?_
  refine x_iadd cx dX0_keepIdentity_28 ?_
  refine x_putX0 cx 5 (by decide) (fl_X0_34 cx) (zok_c hi (by decide)) (zix_c hi (by decide)) (pcO hi) rfl rfl rfl (Nat.le_of_ble_eq_true rfl) (ppO3 hi) dX0_keepIdentity_29 ?_
  exact x_vret cx hr (fun _ _ _ _ => rfl) dX0_keepIdentity_32

set_option maxHeartbeats 4000000 in
set_option maxRecDepth 100000 in
theorem c_X0_outputWith (l : Launch) (G : zG) (S : zS) (i : Nat) (hi : i < 7) (X : zCV) (hW : zWF X) (x : Int32) : Met l yX0_outputWith (zws yX0_outputWith cX0_outputWith 3 (some .int)) (zrm 1 0 0 20) (zPc G 68 (pic G (up S i X)) [.ref (zad G i 0), .int x]) (zQi G 68 (zOut X x) (pic G (up S i (X)))) 0 0 (zA G) := by
  refine zMet npX0_outputWith rfl (Nat.le_of_ble_eq_true rfl) ?_
  intro p e s m args below meth cd hargs cx hr hin0
  have cx : Cx p s m args meth cd cX0_outputWith 3 RX0 G := cx
  refine x_ls (ls' := [some (.ref (zad G i 0)), some (.int x), none]) rfl (fun _ h => h) ?_
  have h6 := hW.n6
  have hz : 0 < X 0 0 ↔ 0 < num X := by rw [hW.sz]; exact nI_ltI (a := 0) (by decide) (by omega)
  refine x_aload_n cx dX0_outputWith_0 rfl rfl ?_
  refine x_getX0 cx 2 (by decide) (fl_X0_24 cx) (zok_c hi (by decide)) (zix_c hi (by decide)) (pcO hi) rfl dX0_outputWith_1 ?_
  refine x_iconst (v := 4) cx dX0_outputWith_4 (by decide) ?_
  refine x_icmp_eq (tgt := 19) cx dX0_outputWith_5 (by decide) (fun hb5 => ?_) (fun hb5 => ?_)
  · refine x_aload_n cx dX0_outputWith_19 rfl rfl ?_
    refine x_getX0 cx 1 (by decide) (fl_X0_18 cx) (zok_c hi (by decide)) (zix_c hi (by decide)) (pcO hi) rfl dX0_outputWith_20 ?_
    refine x_if_gt (tgt := 28) cx dX0_outputWith_23 (by decide) (fun hb23 => ?_) (fun hb23 => ?_)
    · refine x_aload_n cx dX0_outputWith_28 rfl rfl ?_
      refine x_getX0 cx 0 (by decide) (fl_X0_11 cx) (zok_c hi (by decide)) (zix_c hi (by decide)) (pcO hi) rfl dX0_outputWith_29 ?_
      refine x_aload_n cx dX0_outputWith_32 rfl rfl ?_
      refine x_getX0 cx 1 (by decide) (fl_X0_18 cx) (zok_c hi (by decide)) (zix_c hi (by decide)) (pcO hi) rfl dX0_outputWith_33 ?_
      refine x_iconst (v := 1) cx dX0_outputWith_36 (by decide) ?_
      refine x_isub cx dX0_outputWith_37 ?_
      refine x_aald (t := (num X - 1)) cx 2 rfl (zok_c hi (by decide)) (zix_c hi (by decide)) (pcA hi) (by rw [hW.sz]; exact nI_sub1 (by rw [hz] at hb23; omega)) (by rw [hz] at hb23; omega) (by decide) rfl dX0_outputWith_38 ?_
      refine x_astore_n (ls' := [_, _, _]) cx dX0_outputWith_39 rfl (by decide) rfl ?_
      refine x_aload_n cx dX0_outputWith_40 rfl rfl ?_
      refine x_getX0 cx 2 (by decide) (fl_X0_24 cx) (zok_c hi (by decide)) (zix_c hi (by decide)) (pcO hi) rfl dX0_outputWith_41 ?_
      refine x_iconst (v := 4) cx dX0_outputWith_44 (by decide) ?_
      refine x_icmp_ne (tgt := 55) cx dX0_outputWith_45 (by decide) (fun hb45 => ?_) (fun hb45 => ?_)
      · refine x_aload_n cx dX0_outputWith_55 rfl rfl ?_
        refine x_chip (num X - 1) ?_
        refine x_Vi (C := RX1) (T := TX1) (N := 9) (rest := []) cx (c_X1_codeOutput l G _ i (num X - 1) hi (by omega) _ _) gV_X0_84 ndX1_codeOutput rfl ⟨Nat.le_of_ble_eq_true rfl, Nat.le_of_ble_eq_true rfl⟩ (zok_c hi (by omega)) (zix_c hi (by omega)) (pcC hi _) rfl rfl rfl (Nat.le_of_ble_eq_true rfl) dX0_outputWith_56 ⟨Nat.le_of_ble_eq_true rfl, Nat.le_of_ble_eq_true rfl⟩ ?_
        refine x_unchip ?_
        exact x_iret cx hr (by have hn : ¬ num X = 0 := (by rw [hz] at hb23; omega); first | contradiction | (unfold zOut; rw [if_pos hb5, if_neg hn])) (fun _ _ _ _ => rfl) dX0_outputWith_59
      · refine x_aload_n cx dX0_outputWith_48 rfl rfl ?_
        refine x_chip (num X - 1) ?_
        refine x_Vi (C := RX1) (T := TX1) (N := 9) (rest := []) cx (c_X1_dataOutput l G _ i (num X - 1) hi (by omega) _ _) gV_X0_81 ndX1_dataOutput rfl ⟨Nat.le_of_ble_eq_true rfl, Nat.le_of_ble_eq_true rfl⟩ (zok_c hi (by omega)) (zix_c hi (by omega)) (pcC hi _) rfl rfl rfl (Nat.le_of_ble_eq_true rfl) dX0_outputWith_49 ⟨Nat.le_of_ble_eq_true rfl, Nat.le_of_ble_eq_true rfl⟩ ?_
        refine x_unchip ?_
        refine x_goto (tgt := 59) cx dX0_outputWith_52 (by decide) ?_
        exact x_iret cx hr (by have hn : ¬ num X = 0 := (by rw [hz] at hb23; omega); first | contradiction | (unfold zOut; rw [if_pos hb5, if_neg hn])) (fun _ _ _ _ => rfl) dX0_outputWith_59
    · refine x_iload_n cx dX0_outputWith_26 rfl rfl ?_
      exact x_iret cx hr (by have hn : num X = 0 := (by rw [hz] at hb23; omega); first | contradiction | (unfold zOut; rw [if_pos hb5, if_pos hn])) (fun _ _ _ _ => rfl) dX0_outputWith_27
  · refine x_aload_n cx dX0_outputWith_8 rfl rfl ?_
    refine x_getX0 cx 2 (by decide) (fl_X0_24 cx) (zok_c hi (by decide)) (zix_c hi (by decide)) (pcO hi) rfl dX0_outputWith_9 ?_
    refine x_bipush (v := 11) cx dX0_outputWith_12 (by decide) ?_
    refine x_icmp_eq (tgt := 19) cx dX0_outputWith_14 (by decide) (fun hb14 => ?_) (fun hb14 => ?_)
    · refine x_aload_n cx dX0_outputWith_19 rfl rfl ?_
      refine x_getX0 cx 1 (by decide) (fl_X0_18 cx) (zok_c hi (by decide)) (zix_c hi (by decide)) (pcO hi) rfl dX0_outputWith_20 ?_
      refine x_if_gt (tgt := 28) cx dX0_outputWith_23 (by decide) (fun hb23 => ?_) (fun hb23 => ?_)
      · refine x_aload_n cx dX0_outputWith_28 rfl rfl ?_
        refine x_getX0 cx 0 (by decide) (fl_X0_11 cx) (zok_c hi (by decide)) (zix_c hi (by decide)) (pcO hi) rfl dX0_outputWith_29 ?_
        refine x_aload_n cx dX0_outputWith_32 rfl rfl ?_
        refine x_getX0 cx 1 (by decide) (fl_X0_18 cx) (zok_c hi (by decide)) (zix_c hi (by decide)) (pcO hi) rfl dX0_outputWith_33 ?_
        refine x_iconst (v := 1) cx dX0_outputWith_36 (by decide) ?_
        refine x_isub cx dX0_outputWith_37 ?_
        refine x_aald (t := (num X - 1)) cx 2 rfl (zok_c hi (by decide)) (zix_c hi (by decide)) (pcA hi) (by rw [hW.sz]; exact nI_sub1 (by rw [hz] at hb23; omega)) (by rw [hz] at hb23; omega) (by decide) rfl dX0_outputWith_38 ?_
        refine x_astore_n (ls' := [_, _, _]) cx dX0_outputWith_39 rfl (by decide) rfl ?_
        refine x_aload_n cx dX0_outputWith_40 rfl rfl ?_
        refine x_getX0 cx 2 (by decide) (fl_X0_24 cx) (zok_c hi (by decide)) (zix_c hi (by decide)) (pcO hi) rfl dX0_outputWith_41 ?_
        refine x_iconst (v := 4) cx dX0_outputWith_44 (by decide) ?_
        refine x_icmp_ne (tgt := 55) cx dX0_outputWith_45 (by decide) (fun hb45 => ?_) (fun hb45 => ?_)
        · refine x_aload_n cx dX0_outputWith_55 rfl rfl ?_
          refine x_chip (num X - 1) ?_
          refine x_Vi (C := RX1) (T := TX1) (N := 9) (rest := []) cx (c_X1_codeOutput l G _ i (num X - 1) hi (by omega) _ _) gV_X0_84 ndX1_codeOutput rfl ⟨Nat.le_of_ble_eq_true rfl, Nat.le_of_ble_eq_true rfl⟩ (zok_c hi (by omega)) (zix_c hi (by omega)) (pcC hi _) rfl rfl rfl (Nat.le_of_ble_eq_true rfl) dX0_outputWith_56 ⟨Nat.le_of_ble_eq_true rfl, Nat.le_of_ble_eq_true rfl⟩ ?_
          refine x_unchip ?_
          exact x_iret cx hr (by have hn : ¬ num X = 0 := (by rw [hz] at hb23; omega); first | contradiction | (unfold zOut; rw [if_neg hb5, if_pos hb14, if_neg hn])) (fun _ _ _ _ => rfl) dX0_outputWith_59
        · refine x_aload_n cx dX0_outputWith_48 rfl rfl ?_
          refine x_chip (num X - 1) ?_
          refine x_Vi (C := RX1) (T := TX1) (N := 9) (rest := []) cx (c_X1_dataOutput l G _ i (num X - 1) hi (by omega) _ _) gV_X0_81 ndX1_dataOutput rfl ⟨Nat.le_of_ble_eq_true rfl, Nat.le_of_ble_eq_true rfl⟩ (zok_c hi (by omega)) (zix_c hi (by omega)) (pcC hi _) rfl rfl rfl (Nat.le_of_ble_eq_true rfl) dX0_outputWith_49 ⟨Nat.le_of_ble_eq_true rfl, Nat.le_of_ble_eq_true rfl⟩ ?_
          refine x_unchip ?_
          refine x_goto (tgt := 59) cx dX0_outputWith_52 (by decide) ?_
          exact x_iret cx hr (by have hn : ¬ num X = 0 := (by rw [hz] at hb23; omega); first | contradiction | (unfold zOut; rw [if_neg hb5, if_pos hb14, if_neg hn])) (fun _ _ _ _ => rfl) dX0_outputWith_59
      · refine x_iload_n cx dX0_outputWith_26 rfl rfl ?_
        exact x_iret cx hr (by have hn : num X = 0 := (by rw [hz] at hb23; omega); first | contradiction | (unfold zOut; rw [if_neg hb5, if_pos hb14, if_pos hn])) (fun _ _ _ _ => rfl) dX0_outputWith_27
    · refine x_iconst (v := 1) cx dX0_outputWith_17 (by decide) ?_
      exact x_iret cx hr (by unfold zOut; rw [if_neg hb5, if_neg hb14]) (fun _ _ _ _ => rfl) dX0_outputWith_18

set_option maxHeartbeats 4000000 in
set_option maxRecDepth 100000 in
theorem c_X0_shiftAllData (l : Launch) (G : zG) (S : zS) (i : Nat) (hi : i < 7) (X : zCV) (hW : zWF X) (inp : Int32) : Met l yX0_shiftAllData (zws yX0_shiftAllData cX0_shiftAllData 5 none) (zrm 3 0 0 61) (zPc G 68 (pic G (up S i X)) [.ref (zad G i 0), .int inp]) (zQv G 68 (pic G (up S i (zShiftD X inp)))) 0 0 (zA G) := by
  refine zMet npX0_shiftAllData rfl (Nat.le_of_ble_eq_true rfl) ?_
  intro p e s m args below meth cd hargs cx hr hin0
  have cx : Cx p s m args meth cd cX0_shiftAllData 5 RX0 G := cx
  refine x_ls (ls' := [some (.ref (zad G i 0)), some (.int inp), none, none, none]) rfl (fun _ h => h) ?_
  refine x_iload_n cx dX0_shiftAllData_0 rfl rfl ?_
  refine x_istore_n (ls' := [_, _, _, _, _]) cx dX0_shiftAllData_1 rfl (by decide) rfl ?_
  refine x_iconst (v := 0) cx dX0_shiftAllData_2 (by decide) ?_
  refine x_istore_n (ls' := [_, _, _, _, _]) cx dX0_shiftAllData_3 rfl (by decide) rfl ?_
  have h6 := hW.n6
  suffices K : ∀ f k : Nat, k + f = num X → Xh p l e _ s m args below meth cd 5 G _ 0 0 68 (pic G (up S i (zMap (fun k c => zShD c (zInc zDO X inp k)) k X))) 4 [some (.ref (zad G i 0)), some (.int inp), some (.int (zInc zDO X inp k)), some (.int (nI k)), none] [] from x_up (zMap_z (fun k c => zShD c (zInc zDO X inp k)) X).symm (K (num X) 0 (by omega))
  intro f
  induction f with
  | zero =>
    intro k hk
    obtain rfl : k = num X := by omega
    refine x_iload_n cx dX0_shiftAllData_4 rfl rfl ?_
    refine x_aload_n cx dX0_shiftAllData_5 rfl rfl ?_
    refine x_getX0 cx 1 (by decide) (fl_X0_18 cx) (zok_c hi (by decide)) (zix_c hi (by decide)) (pcO hi) rfl dX0_shiftAllData_6 ?_
    refine x_eqi (show _ = nI (num X) by rw [zMap_num]; exact hW.sz) ?_
    refine x_icmp_ge_t (tgt := 42) cx dX0_shiftAllData_9 (by decide) (nI_le (Nat.le_refl _) (by omega)) ?_
    exact x_vret cx hr (fun _ _ _ _ => rfl) dX0_shiftAllData_42
  | succ f ih =>
    intro k hk
    refine x_iload_n cx dX0_shiftAllData_4 rfl rfl ?_
    refine x_aload_n cx dX0_shiftAllData_5 rfl rfl ?_
    refine x_getX0 cx 1 (by decide) (fl_X0_18 cx) (zok_c hi (by decide)) (zix_c hi (by decide)) (pcO hi) rfl dX0_shiftAllData_6 ?_
    refine x_eqi (show _ = nI (num X) by rw [zMap_num]; exact hW.sz) ?_
    refine x_icmp_ge_f (tgt := 42) cx dX0_shiftAllData_9 (by decide) (nI_ge (by omega) (by omega)) ?_
    refine x_aload_n cx dX0_shiftAllData_12 rfl rfl ?_
    refine x_getX0 cx 0 (by decide) (fl_X0_11 cx) (zok_c hi (by decide)) (zix_c hi (by decide)) (pcO hi) rfl dX0_shiftAllData_13 ?_
    refine x_iload_n cx dX0_shiftAllData_16 rfl rfl ?_
    refine x_aald (t := k) cx 2 rfl (zok_c hi (by decide)) (zix_c hi (by decide)) (pcA hi) rfl (by omega) (by decide) rfl dX0_shiftAllData_17 ?_
    refine x_chip k ?_
    refine x_Vi (C := RX1) (T := TX1) (N := 9) (rest := []) cx (c_X1_dataOutput l G _ i k hi (by omega) _ _) gV_X0_81 ndX1_dataOutput rfl ⟨Nat.le_of_ble_eq_true rfl, Nat.le_of_ble_eq_true rfl⟩ (zok_c hi (by omega)) (zix_c hi (by omega)) (pcC hi _) rfl rfl rfl (Nat.le_of_ble_eq_true rfl) dX0_shiftAllData_18 ⟨Nat.le_of_ble_eq_true rfl, Nat.le_of_ble_eq_true rfl⟩ ?_
    refine x_unchip ?_
    refine x_eqi (by rw [zMap_out (Nat.le_refl _)]) ?_
    refine x_istore (ls' := [_, _, _, _, _]) cx dX0_shiftAllData_21 (by decide) rfl ?_
    refine x_aload_n cx dX0_shiftAllData_23 rfl rfl ?_
    refine x_getX0 cx 0 (by decide) (fl_X0_11 cx) (zok_c hi (by decide)) (zix_c hi (by decide)) (pcO hi) rfl dX0_shiftAllData_24 ?_
    refine x_iload_n cx dX0_shiftAllData_27 rfl rfl ?_
    refine x_aald (t := k) cx 2 rfl (zok_c hi (by decide)) (zix_c hi (by decide)) (pcA hi) rfl (by omega) (by decide) rfl dX0_shiftAllData_28 ?_
    refine x_iload_n cx dX0_shiftAllData_29 rfl rfl ?_
    refine x_chip k ?_
    refine x_Vv (C := RX1) (T := TX1) (N := 9) (rest := []) cx (c_X1_shiftData l G _ i k hi (by omega) _ _ _) gV_X0_102 ndX1_shiftData rfl ⟨Nat.le_of_ble_eq_true rfl, Nat.le_of_ble_eq_true rfl⟩ (zok_c hi (by omega)) (zix_c hi (by omega)) (pcC hi _) rfl rfl rfl (Nat.le_of_ble_eq_true rfl) dX0_shiftAllData_30 ⟨Nat.le_of_ble_eq_true rfl, Nat.le_of_ble_eq_true rfl⟩ ?_
    refine x_iload cx dX0_shiftAllData_33 rfl ?_
    refine x_istore_n (ls' := [_, _, _, _, _]) cx dX0_shiftAllData_35 rfl (by decide) rfl ?_
    refine x_iinc (v := nI (k + 1)) (ls' := [_, _, _, _, _]) cx dX0_shiftAllData_36 rfl (nI_inc _) (by decide) rfl ?_
    refine x_goto (tgt := 4) cx dX0_shiftAllData_39 (by decide) ?_
    refine x_up (X' := zMap (fun k c => zShD c (zInc zDO X inp k)) (k + 1) X) (by rw [zMap_s, zMap_out (Nat.le_refl _)]) ?_
    exact x_ls rfl (by simp [lo, zInc]) (ih (k + 1) (by omega))

set_option maxHeartbeats 4000000 in
set_option maxRecDepth 100000 in
theorem c_X0_shiftAllCodes (l : Launch) (G : zG) (S : zS) (i : Nat) (hi : i < 7) (X : zCV) (hW : zWF X) (inp : Int32) : Met l yX0_shiftAllCodes (zws yX0_shiftAllCodes cX0_shiftAllCodes 5 none) (zrm 2 0 0 43) (zPc G 68 (pic G (up S i X)) [.ref (zad G i 0), .int inp]) (zQv G 68 (pic G (up S i (zShiftC X inp)))) 0 0 (zA G) := by
  refine zMet npX0_shiftAllCodes rfl (Nat.le_of_ble_eq_true rfl) ?_
  intro p e s m args below meth cd hargs cx hr hin0
  have cx : Cx p s m args meth cd cX0_shiftAllCodes 5 RX0 G := cx
  refine x_ls (ls' := [some (.ref (zad G i 0)), some (.int inp), none, none, none]) rfl (fun _ h => h) ?_
  refine x_iload_n cx dX0_shiftAllCodes_0 rfl rfl ?_
  refine x_istore_n (ls' := [_, _, _, _, _]) cx dX0_shiftAllCodes_1 rfl (by decide) rfl ?_
  refine x_iconst (v := 0) cx dX0_shiftAllCodes_2 (by decide) ?_
  refine x_istore_n (ls' := [_, _, _, _, _]) cx dX0_shiftAllCodes_3 rfl (by decide) rfl ?_
  have h6 := hW.n6
  suffices K : ∀ f k : Nat, k + f = num X → Xh p l e _ s m args below meth cd 5 G _ 0 0 68 (pic G (up S i (zMap (fun k c => zShC c (zInc zCO X inp k)) k X))) 4 [some (.ref (zad G i 0)), some (.int inp), some (.int (zInc zCO X inp k)), some (.int (nI k)), none] [] from x_up (zMap_z (fun k c => zShC c (zInc zCO X inp k)) X).symm (K (num X) 0 (by omega))
  intro f
  induction f with
  | zero =>
    intro k hk
    obtain rfl : k = num X := by omega
    refine x_iload_n cx dX0_shiftAllCodes_4 rfl rfl ?_
    refine x_aload_n cx dX0_shiftAllCodes_5 rfl rfl ?_
    refine x_getX0 cx 1 (by decide) (fl_X0_18 cx) (zok_c hi (by decide)) (zix_c hi (by decide)) (pcO hi) rfl dX0_shiftAllCodes_6 ?_
    refine x_eqi (show _ = nI (num X) by rw [zMap_num]; exact hW.sz) ?_
    refine x_icmp_ge_t (tgt := 42) cx dX0_shiftAllCodes_9 (by decide) (nI_le (Nat.le_refl _) (by omega)) ?_
    exact x_vret cx hr (fun _ _ _ _ => rfl) dX0_shiftAllCodes_42
  | succ f ih =>
    intro k hk
    refine x_iload_n cx dX0_shiftAllCodes_4 rfl rfl ?_
    refine x_aload_n cx dX0_shiftAllCodes_5 rfl rfl ?_
    refine x_getX0 cx 1 (by decide) (fl_X0_18 cx) (zok_c hi (by decide)) (zix_c hi (by decide)) (pcO hi) rfl dX0_shiftAllCodes_6 ?_
    refine x_eqi (show _ = nI (num X) by rw [zMap_num]; exact hW.sz) ?_
    refine x_icmp_ge_f (tgt := 42) cx dX0_shiftAllCodes_9 (by decide) (nI_ge (by omega) (by omega)) ?_
    refine x_aload_n cx dX0_shiftAllCodes_12 rfl rfl ?_
    refine x_getX0 cx 0 (by decide) (fl_X0_11 cx) (zok_c hi (by decide)) (zix_c hi (by decide)) (pcO hi) rfl dX0_shiftAllCodes_13 ?_
    refine x_iload_n cx dX0_shiftAllCodes_16 rfl rfl ?_
    refine x_aald (t := k) cx 2 rfl (zok_c hi (by decide)) (zix_c hi (by decide)) (pcA hi) rfl (by omega) (by decide) rfl dX0_shiftAllCodes_17 ?_
    refine x_chip k ?_
    refine x_Vi (C := RX1) (T := TX1) (N := 9) (rest := []) cx (c_X1_codeOutput l G _ i k hi (by omega) _ _) gV_X0_84 ndX1_codeOutput rfl ⟨Nat.le_of_ble_eq_true rfl, Nat.le_of_ble_eq_true rfl⟩ (zok_c hi (by omega)) (zix_c hi (by omega)) (pcC hi _) rfl rfl rfl (Nat.le_of_ble_eq_true rfl) dX0_shiftAllCodes_18 ⟨Nat.le_of_ble_eq_true rfl, Nat.le_of_ble_eq_true rfl⟩ ?_
    refine x_unchip ?_
    refine x_eqi (by rw [zMap_out (Nat.le_refl _)]) ?_
    refine x_istore (ls' := [_, _, _, _, _]) cx dX0_shiftAllCodes_21 (by decide) rfl ?_
    refine x_aload_n cx dX0_shiftAllCodes_23 rfl rfl ?_
    refine x_getX0 cx 0 (by decide) (fl_X0_11 cx) (zok_c hi (by decide)) (zix_c hi (by decide)) (pcO hi) rfl dX0_shiftAllCodes_24 ?_
    refine x_iload_n cx dX0_shiftAllCodes_27 rfl rfl ?_
    refine x_aald (t := k) cx 2 rfl (zok_c hi (by decide)) (zix_c hi (by decide)) (pcA hi) rfl (by omega) (by decide) rfl dX0_shiftAllCodes_28 ?_
    refine x_iload_n cx dX0_shiftAllCodes_29 rfl rfl ?_
    refine x_chip k ?_
    refine x_Vv (C := RX1) (T := TX1) (N := 9) (rest := []) cx (c_X1_shiftCode l G _ i k hi (by omega) _ _ _) gV_X0_105 ndX1_shiftCode rfl ⟨Nat.le_of_ble_eq_true rfl, Nat.le_of_ble_eq_true rfl⟩ (zok_c hi (by omega)) (zix_c hi (by omega)) (pcC hi _) rfl rfl rfl (Nat.le_of_ble_eq_true rfl) dX0_shiftAllCodes_30 ⟨Nat.le_of_ble_eq_true rfl, Nat.le_of_ble_eq_true rfl⟩ ?_
    refine x_iload cx dX0_shiftAllCodes_33 rfl ?_
    refine x_istore_n (ls' := [_, _, _, _, _]) cx dX0_shiftAllCodes_35 rfl (by decide) rfl ?_
    refine x_iinc (v := nI (k + 1)) (ls' := [_, _, _, _, _]) cx dX0_shiftAllCodes_36 rfl (nI_inc _) (by decide) rfl ?_
    refine x_goto (tgt := 4) cx dX0_shiftAllCodes_39 (by decide) ?_
    refine x_up (X' := zMap (fun k c => zShC c (zInc zCO X inp k)) (k + 1) X) (by rw [zMap_s, zMap_out (Nat.le_refl _)]) ?_
    exact x_ls rfl (by simp [lo, zInc]) (ih (k + 1) (by omega))

set_option maxHeartbeats 4000000 in
set_option maxRecDepth 100000 in
theorem c_X0_workOf (l : Launch) (G : zG) (S : zS) (i : Nat) (hi : i < 7) (X : zCV) (hW : zWF X) (t : Nat) (ht : t < 6) : Met l yX0_workOf (zws yX0_workOf cX0_workOf 2 none) (zrm 2 0 0 41) (zPc G 68 (pic G (up S i X)) [.ref (zad G i 0), .ref (zad G i (t + 3))]) (zQv G 68 (pic G (up S i (uj X (t + 3) (zWork (X 0 1) (X (t + 3))))))) 0 0 (zA G) := by
  refine zMet npX0_workOf rfl (Nat.le_of_ble_eq_true rfl) ?_
  intro p e s m args below meth cd hargs cx hr hin0
  have cx : Cx p s m args meth cd cX0_workOf 2 RX0 G := cx
  refine x_ls (ls' := [some (.ref (zad G i 0)), some (.ref (zad G i (t + 3)))]) rfl (fun _ h => h) ?_
  refine x_aload_n cx dX0_workOf_0 rfl rfl ?_
  refine x_getX0 cx 2 (by decide) (fl_X0_24 cx) (zok_c hi (by decide)) (zix_c hi (by decide)) (pcO hi) rfl dX0_workOf_1 ?_
  refine x_eqi hW.s1 ?_
  have hs := hW.s1
  have h16 := hW.s16
  generalize stt X = a at hs h16 ⊢
  rcases (show a = 0 ∨ a = 1 ∨ a = 2 ∨ a = 3 ∨ a = 4 ∨ a = 5 ∨ a = 6 ∨ a = 7 ∨ a = 8 ∨ a = 9 ∨ a = 10 ∨ a = 11 ∨ a = 12 ∨ a = 13 ∨ a = 14 ∨ a = 15 by omega) with rfl | rfl | rfl | rfl | rfl | rfl | rfl | rfl | rfl | rfl | rfl | rfl | rfl | rfl | rfl | rfl
  · refine x_lookup (off := 52) (tgt := 56) cx dX0_workOf_4 (by decide +kernel) (by decide +kernel) (by decide) ?_
    rw [hs]
    have hz : zWork (nI 0) (X (t + 3)) = zFirst (X (t + 3)) := rfl
    rw [hz]
    refine x_aload_n cx dX0_workOf_56 rfl rfl ?_
    refine x_chip t ?_
    refine x_Vv (C := RX1) (T := TX1) (N := 9) (rest := []) cx (c_X1_giveFirstInstruction l G _ i t hi (by omega) _ _) gV_X0_87 ndX1_giveFirstInstruction rfl ⟨Nat.le_of_ble_eq_true rfl, Nat.le_of_ble_eq_true rfl⟩ (zok_c hi (by omega)) (zix_c hi (by omega)) (pcC hi _) rfl rfl rfl (Nat.le_of_ble_eq_true rfl) dX0_workOf_57 ⟨Nat.le_of_ble_eq_true rfl, Nat.le_of_ble_eq_true rfl⟩ ?_
    refine x_goto (tgt := 96) cx dX0_workOf_60 (by decide) ?_
    exact x_vret cx hr (fun _ _ _ _ => rfl) dX0_workOf_96
  · refine x_lookup (off := 92) (tgt := 96) cx dX0_workOf_4 (by decide +kernel) (by decide +kernel) (by decide) ?_
    rw [hs]
    have hz : zWork (nI 1) (X (t + 3)) = X (t + 3) := rfl
    rw [hz]
    refine x_chip t ?_
    exact x_vret cx hr (fun _ _ _ _ => rfl) dX0_workOf_96
  · refine x_lookup (off := 92) (tgt := 96) cx dX0_workOf_4 (by decide +kernel) (by decide +kernel) (by decide) ?_
    rw [hs]
    have hz : zWork (nI 2) (X (t + 3)) = X (t + 3) := rfl
    rw [hz]
    refine x_chip t ?_
    exact x_vret cx hr (fun _ _ _ _ => rfl) dX0_workOf_96
  · refine x_lookup (off := 59) (tgt := 63) cx dX0_workOf_4 (by decide +kernel) (by decide +kernel) (by decide) ?_
    rw [hs]
    have hz : zWork (nI 3) (X (t + 3)) = zCap (X (t + 3)) := rfl
    rw [hz]
    refine x_aload_n cx dX0_workOf_63 rfl rfl ?_
    refine x_chip t ?_
    refine x_Vv (C := RX1) (T := TX1) (N := 9) (rest := []) cx (c_X1_captureData l G _ i t hi (by omega) _ _) gV_X0_90 ndX1_captureData rfl ⟨Nat.le_of_ble_eq_true rfl, Nat.le_of_ble_eq_true rfl⟩ (zok_c hi (by omega)) (zix_c hi (by omega)) (pcC hi _) rfl rfl rfl (Nat.le_of_ble_eq_true rfl) dX0_workOf_64 ⟨Nat.le_of_ble_eq_true rfl, Nat.le_of_ble_eq_true rfl⟩ ?_
    refine x_goto (tgt := 96) cx dX0_workOf_67 (by decide) ?_
    exact x_vret cx hr (fun _ _ _ _ => rfl) dX0_workOf_96
  · refine x_lookup (off := 92) (tgt := 96) cx dX0_workOf_4 (by decide +kernel) (by decide +kernel) (by decide) ?_
    rw [hs]
    have hz : zWork (nI 4) (X (t + 3)) = X (t + 3) := rfl
    rw [hz]
    refine x_chip t ?_
    exact x_vret cx hr (fun _ _ _ _ => rfl) dX0_workOf_96
  · refine x_lookup (off := 92) (tgt := 96) cx dX0_workOf_4 (by decide +kernel) (by decide +kernel) (by decide) ?_
    rw [hs]
    have hz : zWork (nI 5) (X (t + 3)) = X (t + 3) := rfl
    rw [hz]
    refine x_chip t ?_
    exact x_vret cx hr (fun _ _ _ _ => rfl) dX0_workOf_96
  · refine x_lookup (off := 92) (tgt := 96) cx dX0_workOf_4 (by decide +kernel) (by decide +kernel) (by decide) ?_
    rw [hs]
    have hz : zWork (nI 6) (X (t + 3)) = X (t + 3) := rfl
    rw [hz]
    refine x_chip t ?_
    exact x_vret cx hr (fun _ _ _ _ => rfl) dX0_workOf_96
  · refine x_lookup (off := 92) (tgt := 96) cx dX0_workOf_4 (by decide +kernel) (by decide +kernel) (by decide) ?_
    rw [hs]
    have hz : zWork (nI 7) (X (t + 3)) = X (t + 3) := rfl
    rw [hz]
    refine x_chip t ?_
    exact x_vret cx hr (fun _ _ _ _ => rfl) dX0_workOf_96
  · refine x_lookup (off := 66) (tgt := 70) cx dX0_workOf_4 (by decide +kernel) (by decide +kernel) (by decide) ?_
    rw [hs]
    have hz : zWork (nI 8) (X (t + 3)) = zUpd (X (t + 3)) := rfl
    rw [hz]
    refine x_aload_n cx dX0_workOf_70 rfl rfl ?_
    refine x_chip t ?_
    refine x_Vv (C := RX1) (T := TX1) (N := 9) (rest := []) cx (c_X1_updateData l G _ i t hi (by omega) _ _) gV_X0_93 ndX1_updateData rfl ⟨Nat.le_of_ble_eq_true rfl, Nat.le_of_ble_eq_true rfl⟩ (zok_c hi (by omega)) (zix_c hi (by omega)) (pcC hi _) rfl rfl rfl (Nat.le_of_ble_eq_true rfl) dX0_workOf_71 ⟨Nat.le_of_ble_eq_true rfl, Nat.le_of_ble_eq_true rfl⟩ ?_
    refine x_goto (tgt := 96) cx dX0_workOf_74 (by decide) ?_
    exact x_vret cx hr (fun _ _ _ _ => rfl) dX0_workOf_96
  · refine x_lookup (off := 92) (tgt := 96) cx dX0_workOf_4 (by decide +kernel) (by decide +kernel) (by decide) ?_
    rw [hs]
    have hz : zWork (nI 9) (X (t + 3)) = X (t + 3) := rfl
    rw [hz]
    refine x_chip t ?_
    exact x_vret cx hr (fun _ _ _ _ => rfl) dX0_workOf_96
  · refine x_lookup (off := 73) (tgt := 77) cx dX0_workOf_4 (by decide +kernel) (by decide +kernel) (by decide) ?_
    rw [hs]
    have hz : zWork (nI 10) (X (t + 3)) = upd (X (t + 3)) 7 1 := rfl
    rw [hz]
    refine x_aload_n cx dX0_workOf_77 rfl rfl ?_
    refine x_iconst (v := 1) cx dX0_workOf_78 (by decide) ?_
    refine x_putX1 cx 7 (by decide) (fl_X0_96 cx) (zok_c hi (by omega)) (zix_c hi (by omega)) (pcC hi _) rfl rfl rfl (Nat.le_of_ble_eq_true rfl) (ppC hi (by decide)) dX0_workOf_79 ?_
    refine x_goto (tgt := 96) cx dX0_workOf_82 (by decide) ?_
    exact x_vret cx hr (fun _ _ _ _ => rfl) dX0_workOf_96
  · refine x_lookup (off := 92) (tgt := 96) cx dX0_workOf_4 (by decide +kernel) (by decide +kernel) (by decide) ?_
    rw [hs]
    have hz : zWork (nI 11) (X (t + 3)) = X (t + 3) := rfl
    rw [hz]
    refine x_chip t ?_
    exact x_vret cx hr (fun _ _ _ _ => rfl) dX0_workOf_96
  · refine x_lookup (off := 92) (tgt := 96) cx dX0_workOf_4 (by decide +kernel) (by decide +kernel) (by decide) ?_
    rw [hs]
    have hz : zWork (nI 12) (X (t + 3)) = X (t + 3) := rfl
    rw [hz]
    refine x_chip t ?_
    exact x_vret cx hr (fun _ _ _ _ => rfl) dX0_workOf_96
  · refine x_lookup (off := 92) (tgt := 96) cx dX0_workOf_4 (by decide +kernel) (by decide +kernel) (by decide) ?_
    rw [hs]
    have hz : zWork (nI 13) (X (t + 3)) = X (t + 3) := rfl
    rw [hz]
    refine x_chip t ?_
    exact x_vret cx hr (fun _ _ _ _ => rfl) dX0_workOf_96
  · refine x_lookup (off := 92) (tgt := 96) cx dX0_workOf_4 (by decide +kernel) (by decide +kernel) (by decide) ?_
    rw [hs]
    have hz : zWork (nI 14) (X (t + 3)) = X (t + 3) := rfl
    rw [hz]
    refine x_chip t ?_
    exact x_vret cx hr (fun _ _ _ _ => rfl) dX0_workOf_96
  · refine x_lookup (off := 81) (tgt := 85) cx dX0_workOf_4 (by decide +kernel) (by decide +kernel) (by decide) ?_
    rw [hs]
    have hz : zWork (nI 15) (X (t + 3)) = zGive (X (t + 3)) (X (t + 3) 7) := rfl
    rw [hz]
    refine x_aload_n cx dX0_workOf_85 rfl rfl ?_
    refine x_aload_n cx dX0_workOf_86 rfl rfl ?_
    refine x_getX1 cx 7 (by decide) (fl_X0_96 cx) (zok_c hi (by omega)) (zix_c hi (by omega)) (pcC hi _) rfl dX0_workOf_87 ?_
    refine x_chip t ?_
    refine x_Vv (C := RX1) (T := TX1) (N := 9) (rest := []) cx (c_X1_giveInstruction l G _ i t hi (by omega) _ _ _) gV_X0_99 ndX1_giveInstruction rfl ⟨Nat.le_of_ble_eq_true rfl, Nat.le_of_ble_eq_true rfl⟩ (zok_c hi (by omega)) (zix_c hi (by omega)) (pcC hi _) rfl rfl rfl (Nat.le_of_ble_eq_true rfl) dX0_workOf_90 ⟨Nat.le_of_ble_eq_true rfl, Nat.le_of_ble_eq_true rfl⟩ ?_
    refine x_goto (tgt := 96) cx dX0_workOf_93 (by decide) ?_
    exact x_vret cx hr (fun _ _ _ _ => rfl) dX0_workOf_96

set_option maxHeartbeats 4000000 in
set_option maxRecDepth 100000 in
theorem c_X0_tick (l : Launch) (G : zG) (S : zS) (i : Nat) (hi : i < 7) (X : zCV) (hW : zWF X) (md inp : Int32) : Met l yX0_tick (zws yX0_tick cX0_tick 5 (some .int)) (zrm 4 0 0 85) (zPc G 68 (pic G (up S i X)) [.ref (zad G i 0), .int md, .int inp]) (zQi G 68 (zOut X inp) (pic G (up S i (zTick X md inp)))) 0 0 (zA G) := by
  refine zMet npX0_tick rfl (Nat.le_of_ble_eq_true rfl) ?_
  intro p e s m args below meth cd hargs cx hr hin0
  have cx : Cx p s m args meth cd cX0_tick 5 RX0 G := cx
  refine x_ls (ls' := [some (.ref (zad G i 0)), some (.int md), some (.int inp), none, none]) rfl (fun _ h => h) ?_
  refine x_aload_n cx dX0_tick_0 rfl rfl ?_
  refine x_iload_n cx dX0_tick_1 rfl rfl ?_
  refine x_Vi (C := RX0) (T := TX0) (N := 6) (rest := []) cx (c_X0_outputWith l G _ i hi _ hW _) gV_X0_63 ndX0_outputWith rfl ⟨Nat.le_of_ble_eq_true rfl, Nat.le_of_ble_eq_true rfl⟩ (zok_c hi (by decide)) (zix_c hi (by decide)) (pcO hi) rfl rfl rfl (Nat.le_of_ble_eq_true rfl) dX0_tick_2 ⟨Nat.le_of_ble_eq_true rfl, Nat.le_of_ble_eq_true rfl⟩ ?_
  refine x_istore_n (ls' := [_, _, _, _, _]) cx dX0_tick_5 rfl (by decide) rfl ?_
  refine x_aload_n cx dX0_tick_6 rfl rfl ?_
  refine x_getX0 cx 2 (by decide) (fl_X0_24 cx) (zok_c hi (by decide)) (zix_c hi (by decide)) (pcO hi) rfl dX0_tick_7 ?_
  refine x_iconst (v := 4) cx dX0_tick_10 (by decide) ?_
  refine x_icmp_ne (tgt := 22) cx dX0_tick_11 (by decide) (fun hb11 => ?_) (fun hb11 => ?_)
  · refine x_aload_n cx dX0_tick_22 rfl rfl ?_
    refine x_getX0 cx 2 (by decide) (fl_X0_24 cx) (zok_c hi (by decide)) (zix_c hi (by decide)) (pcO hi) rfl dX0_tick_23 ?_
    refine x_bipush (v := 11) cx dX0_tick_26 (by decide) ?_
    refine x_icmp_ne (tgt := 39) cx dX0_tick_28 (by decide) (fun hb28 => ?_) (fun hb28 => ?_)
    · refine x_iconst (v := 0) cx dX0_tick_39 (by decide) ?_
      refine x_istore (ls' := [_, _, _, _, _]) cx dX0_tick_40 (by decide) rfl ?_
      have h6 := hW.n6
      suffices K : ∀ f k : Nat, k + f = num X → Xh p l e _ s m args below meth cd 5 G _ 0 0 68 (pic G (up S i (zMap (fun _ c => zWork (X 0 1) c) k X))) 42 [some (.ref (zad G i 0)), some (.int md), some (.int inp), some (.int (zOut X inp)), some (.int (nI k))] [] from x_up (zMap_z (fun _ c => zWork (X 0 1) c) X).symm (K (num X) 0 (by omega))
      intro f
      induction f with
      | zero =>
        intro k hk
        obtain rfl : k = num X := by omega
        refine x_iload cx dX0_tick_42 rfl ?_
        refine x_aload_n cx dX0_tick_44 rfl rfl ?_
        refine x_getX0 cx 1 (by decide) (fl_X0_18 cx) (zok_c hi (by decide)) (zix_c hi (by decide)) (pcO hi) rfl dX0_tick_45 ?_
        refine x_eqi (show _ = nI (num X) by rw [zMap_num]; exact hW.sz) ?_
        refine x_icmp_ge_t (tgt := 68) cx dX0_tick_48 (by decide) (nI_le (Nat.le_refl _) (by omega)) ?_
        refine x_up (X' := zWorkAll X inp) (by unfold zWorkAll; rw [if_neg hb11, if_neg hb28]) ?_
        refine x_aload_n cx dX0_tick_68 rfl rfl ?_
        refine x_aload_n cx dX0_tick_69 rfl rfl ?_
        refine x_getX0 cx 2 (by decide) (fl_X0_24 cx) (zok_c hi (by decide)) (zix_c hi (by decide)) (pcO hi) rfl dX0_tick_70 ?_
        refine x_eqi (show _ = nI (stt X) by rw [zWorkAll_0]; exact hW.s1) ?_
        refine x_iload_n cx dX0_tick_73 rfl rfl ?_
        refine x_Si (rest := [_]) cx (c_X2_next l G _ _ (stt X) hW.s16 _) gS_X0_77 ndX2_next ⟨Nat.le_of_ble_eq_true rfl, Nat.le_of_ble_eq_true rfl⟩ rfl rfl (Nat.le_of_ble_eq_true rfl) dX0_tick_74 ⟨Nat.le_of_ble_eq_true rfl, Nat.le_of_ble_eq_true rfl⟩ ?_
        refine x_putX0 cx 2 (by decide) (fl_X0_24 cx) (zok_c hi (by decide)) (zix_c hi (by decide)) (pcO hi) rfl rfl rfl (Nat.le_of_ble_eq_true rfl) (ppO1 hi) dX0_tick_77 ?_
        refine x_aload_n cx dX0_tick_80 rfl rfl ?_
        refine x_dup cx dX0_tick_81 rfl ?_
        refine x_getX0 cx 3 (by decide) (fl_X0_27 cx) (zok_c hi (by decide)) (zix_c hi (by decide)) (pcO hi) rfl dX0_tick_82 ?_
        refine x_iconst (v := 1) cx dX0_tick_85 (by decide) ?_
        refine x_iadd cx dX0_tick_86 ?_
        refine x_putX0 cx 3 (by decide) (fl_X0_27 cx) (zok_c hi (by decide)) (zix_c hi (by decide)) (pcO hi) rfl rfl rfl (Nat.le_of_ble_eq_true rfl) (ppO2 hi) dX0_tick_87 ?_
        refine x_iload_n cx dX0_tick_90 rfl rfl ?_
        exact x_iret cx hr rfl (by intro _ _ _ _; unfold zTick; rw [uj_same, uj_uj, zWorkAll_0]; rfl) dX0_tick_91
      | succ f ih =>
        intro k hk
        refine x_iload cx dX0_tick_42 rfl ?_
        refine x_aload_n cx dX0_tick_44 rfl rfl ?_
        refine x_getX0 cx 1 (by decide) (fl_X0_18 cx) (zok_c hi (by decide)) (zix_c hi (by decide)) (pcO hi) rfl dX0_tick_45 ?_
        refine x_eqi (show _ = nI (num X) by rw [zMap_num]; exact hW.sz) ?_
        refine x_icmp_ge_f (tgt := 68) cx dX0_tick_48 (by decide) (nI_ge (by omega) (by omega)) ?_
        refine x_aload_n cx dX0_tick_51 rfl rfl ?_
        refine x_aload_n cx dX0_tick_52 rfl rfl ?_
        refine x_getX0 cx 0 (by decide) (fl_X0_11 cx) (zok_c hi (by decide)) (zix_c hi (by decide)) (pcO hi) rfl dX0_tick_53 ?_
        refine x_iload cx dX0_tick_56 rfl ?_
        refine x_aald (t := k) cx 2 rfl (zok_c hi (by decide)) (zix_c hi (by decide)) (pcA hi) rfl (by omega) (by decide) rfl dX0_tick_58 ?_
        refine x_Vv (C := RX0) (T := TX0) (N := 6) (rest := []) cx (c_X0_workOf l G _ i hi _ (zMap_WF hW (fun _ _ => cWF_work _)) k (by omega)) gV_X0_74 ndX0_workOf rfl ⟨Nat.le_of_ble_eq_true rfl, Nat.le_of_ble_eq_true rfl⟩ (zok_c hi (by decide)) (zix_c hi (by decide)) (pcO hi) rfl rfl rfl (Nat.le_of_ble_eq_true rfl) dX0_tick_59 ⟨Nat.le_of_ble_eq_true rfl, Nat.le_of_ble_eq_true rfl⟩ ?_
        refine x_iinc (v := nI (k + 1)) (ls' := [_, _, _, _, _]) cx dX0_tick_62 rfl (nI_inc _) (by decide) rfl ?_
        refine x_goto (tgt := 42) cx dX0_tick_65 (by decide) ?_
        refine x_up (X' := zMap (fun _ c => zWork (X 0 1) c) (k + 1) X) (by rw [zMap_s, zMap_out (Nat.le_refl _), zMap_num]) ?_
        exact ih (k + 1) (by omega)
    · refine x_aload_n cx dX0_tick_31 rfl rfl ?_
      refine x_iload_n cx dX0_tick_32 rfl rfl ?_
      refine x_Vv (C := RX0) (T := TX0) (N := 6) (rest := []) cx (c_X0_shiftAllCodes l G _ i hi _ hW _) gV_X0_71 ndX0_shiftAllCodes rfl ⟨Nat.le_of_ble_eq_true rfl, Nat.le_of_ble_eq_true rfl⟩ (zok_c hi (by decide)) (zix_c hi (by decide)) (pcO hi) rfl rfl rfl (Nat.le_of_ble_eq_true rfl) dX0_tick_33 ⟨Nat.le_of_ble_eq_true rfl, Nat.le_of_ble_eq_true rfl⟩ ?_
      refine x_goto (tgt := 68) cx dX0_tick_36 (by decide) ?_
      refine x_up (X' := zWorkAll X inp) (by unfold zWorkAll; rw [if_neg hb11, if_pos hb28]) ?_
      refine x_aload_n cx dX0_tick_68 rfl rfl ?_
      refine x_aload_n cx dX0_tick_69 rfl rfl ?_
      refine x_getX0 cx 2 (by decide) (fl_X0_24 cx) (zok_c hi (by decide)) (zix_c hi (by decide)) (pcO hi) rfl dX0_tick_70 ?_
      refine x_eqi (show _ = nI (stt X) by rw [zWorkAll_0]; exact hW.s1) ?_
      refine x_iload_n cx dX0_tick_73 rfl rfl ?_
      refine x_Si (rest := [_]) cx (c_X2_next l G _ _ (stt X) hW.s16 _) gS_X0_77 ndX2_next ⟨Nat.le_of_ble_eq_true rfl, Nat.le_of_ble_eq_true rfl⟩ rfl rfl (Nat.le_of_ble_eq_true rfl) dX0_tick_74 ⟨Nat.le_of_ble_eq_true rfl, Nat.le_of_ble_eq_true rfl⟩ ?_
      refine x_putX0 cx 2 (by decide) (fl_X0_24 cx) (zok_c hi (by decide)) (zix_c hi (by decide)) (pcO hi) rfl rfl rfl (Nat.le_of_ble_eq_true rfl) (ppO1 hi) dX0_tick_77 ?_
      refine x_aload_n cx dX0_tick_80 rfl rfl ?_
      refine x_dup cx dX0_tick_81 rfl ?_
      refine x_getX0 cx 3 (by decide) (fl_X0_27 cx) (zok_c hi (by decide)) (zix_c hi (by decide)) (pcO hi) rfl dX0_tick_82 ?_
      refine x_iconst (v := 1) cx dX0_tick_85 (by decide) ?_
      refine x_iadd cx dX0_tick_86 ?_
      refine x_putX0 cx 3 (by decide) (fl_X0_27 cx) (zok_c hi (by decide)) (zix_c hi (by decide)) (pcO hi) rfl rfl rfl (Nat.le_of_ble_eq_true rfl) (ppO2 hi) dX0_tick_87 ?_
      refine x_iload_n cx dX0_tick_90 rfl rfl ?_
      exact x_iret cx hr rfl (by intro _ _ _ _; unfold zTick; rw [uj_same, uj_uj, zWorkAll_0]; rfl) dX0_tick_91
  · refine x_aload_n cx dX0_tick_14 rfl rfl ?_
    refine x_iload_n cx dX0_tick_15 rfl rfl ?_
    refine x_Vv (C := RX0) (T := TX0) (N := 6) (rest := []) cx (c_X0_shiftAllData l G _ i hi _ hW _) gV_X0_67 ndX0_shiftAllData rfl ⟨Nat.le_of_ble_eq_true rfl, Nat.le_of_ble_eq_true rfl⟩ (zok_c hi (by decide)) (zix_c hi (by decide)) (pcO hi) rfl rfl rfl (Nat.le_of_ble_eq_true rfl) dX0_tick_16 ⟨Nat.le_of_ble_eq_true rfl, Nat.le_of_ble_eq_true rfl⟩ ?_
    refine x_goto (tgt := 68) cx dX0_tick_19 (by decide) ?_
    refine x_up (X' := zWorkAll X inp) (by unfold zWorkAll; rw [if_pos hb11]) ?_
    refine x_aload_n cx dX0_tick_68 rfl rfl ?_
    refine x_aload_n cx dX0_tick_69 rfl rfl ?_
    refine x_getX0 cx 2 (by decide) (fl_X0_24 cx) (zok_c hi (by decide)) (zix_c hi (by decide)) (pcO hi) rfl dX0_tick_70 ?_
    refine x_eqi (show _ = nI (stt X) by rw [zWorkAll_0]; exact hW.s1) ?_
    refine x_iload_n cx dX0_tick_73 rfl rfl ?_
    refine x_Si (rest := [_]) cx (c_X2_next l G _ _ (stt X) hW.s16 _) gS_X0_77 ndX2_next ⟨Nat.le_of_ble_eq_true rfl, Nat.le_of_ble_eq_true rfl⟩ rfl rfl (Nat.le_of_ble_eq_true rfl) dX0_tick_74 ⟨Nat.le_of_ble_eq_true rfl, Nat.le_of_ble_eq_true rfl⟩ ?_
    refine x_putX0 cx 2 (by decide) (fl_X0_24 cx) (zok_c hi (by decide)) (zix_c hi (by decide)) (pcO hi) rfl rfl rfl (Nat.le_of_ble_eq_true rfl) (ppO1 hi) dX0_tick_77 ?_
    refine x_aload_n cx dX0_tick_80 rfl rfl ?_
    refine x_dup cx dX0_tick_81 rfl ?_
    refine x_getX0 cx 3 (by decide) (fl_X0_27 cx) (zok_c hi (by decide)) (zix_c hi (by decide)) (pcO hi) rfl dX0_tick_82 ?_
    refine x_iconst (v := 1) cx dX0_tick_85 (by decide) ?_
    refine x_iadd cx dX0_tick_86 ?_
    refine x_putX0 cx 3 (by decide) (fl_X0_27 cx) (zok_c hi (by decide)) (zix_c hi (by decide)) (pcO hi) rfl rfl rfl (Nat.le_of_ble_eq_true rfl) (ppO2 hi) dX0_tick_87 ?_
    refine x_iload_n cx dX0_tick_90 rfl rfl ?_
    exact x_iret cx hr rfl (by intro _ _ _ _; unfold zTick; rw [uj_same, uj_uj, zWorkAll_0]; rfl) dX0_tick_91

set_option maxHeartbeats 4000000 in
set_option maxRecDepth 100000 in
theorem c_X0_putBehind (l : Launch) (G : zG) (S : zS) (i : Nat) (hi : i < 7) (X : zCV) (hW : zWF X) (hn : num X < 6) (cl id ce : Int32) : Met l yX0_putBehind (zws yX0_putBehind cX0_putBehind 5 (some .int)) (zrm 3 0 0 64) (zPc G 68 (pic G (up S i X)) [.ref (zad G i 0), .int cl, .int id, .int ce]) (zQi G 68 (X 0 0) (pic G (up S i (zAdd X cl id ce)))) 0 0 (zA G) := by
  refine zMet npX0_putBehind rfl (Nat.le_of_ble_eq_true rfl) ?_
  intro p e s m args below meth cd hargs cx hr hin0
  have cx : Cx p s m args meth cd cX0_putBehind 5 RX0 G := cx
  refine x_ls (ls' := [some (.ref (zad G i 0)), some (.int cl), some (.int id), some (.int ce), none]) rfl (fun _ h => h) ?_
  refine x_aload_n cx dX0_putBehind_0 rfl rfl ?_
  refine x_getX0 cx 1 (by decide) (fl_X0_18 cx) (zok_c hi (by decide)) (zix_c hi (by decide)) (pcO hi) rfl dX0_putBehind_1 ?_
  refine x_istore (ls' := [_, _, _, _, _]) cx dX0_putBehind_4 (by decide) rfl ?_
  refine x_iload cx dX0_putBehind_6 rfl ?_
  refine x_aload_n cx dX0_putBehind_8 rfl rfl ?_
  refine x_getX0 cx 0 (by decide) (fl_X0_11 cx) (zok_c hi (by decide)) (zix_c hi (by decide)) (pcO hi) rfl dX0_putBehind_9 ?_
  refine x_alenq cx 2 rfl (zok_c hi (by decide)) (zix_c hi (by decide)) (pcA hi) dX0_putBehind_12 ?_
  refine x_icmp_ge_f (tgt := 39) cx dX0_putBehind_13 (by decide) (by rw [hW.sz]; exact nI_ge (b := 6) hn (by decide)) ?_
  refine x_aload_n cx dX0_putBehind_16 rfl rfl ?_
  refine x_getX0 cx 0 (by decide) (fl_X0_11 cx) (zok_c hi (by decide)) (zix_c hi (by decide)) (pcO hi) rfl dX0_putBehind_17 ?_
  refine x_iload cx dX0_putBehind_20 rfl ?_
  refine x_aald (t := (num X)) cx 2 rfl (zok_c hi (by decide)) (zix_c hi (by decide)) (pcA hi) hW.sz hn (by decide) rfl dX0_putBehind_22 ?_
  refine x_iload_n cx dX0_putBehind_23 rfl rfl ?_
  refine x_iload_n cx dX0_putBehind_24 rfl rfl ?_
  refine x_iload_n cx dX0_putBehind_25 rfl rfl ?_
  refine x_chip (num X) ?_
  refine x_Vv (C := RX1) (T := TX1) (N := 9) (rest := []) cx (c_X1_beNew l G _ i (num X) hi (by omega) _ _ _ _ _) gV_X0_41 ndX1_beNew rfl ⟨Nat.le_of_ble_eq_true rfl, Nat.le_of_ble_eq_true rfl⟩ (zok_c hi (by omega)) (zix_c hi (by omega)) (pcC hi _) rfl rfl rfl (Nat.le_of_ble_eq_true rfl) dX0_putBehind_26 ⟨Nat.le_of_ble_eq_true rfl, Nat.le_of_ble_eq_true rfl⟩ ?_
  refine x_aload_n cx dX0_putBehind_29 rfl rfl ?_
  refine x_dup cx dX0_putBehind_30 rfl ?_
  refine x_getX0 cx 1 (by decide) (fl_X0_18 cx) (zok_c hi (by decide)) (zix_c hi (by decide)) (pcO hi) rfl dX0_putBehind_31 ?_
  refine x_iconst (v := 1) cx dX0_putBehind_34 (by decide) ?_
  refine x_iadd cx dX0_putBehind_35 ?_
  refine x_putX0 cx 1 (by decide) (fl_X0_18 cx) (zok_c hi (by decide)) (zix_c hi (by decide)) (pcO hi) rfl rfl rfl (Nat.le_of_ble_eq_true rfl) (ppO0 hi) dX0_putBehind_36 ?_
  refine x_iload cx dX0_putBehind_39 rfl ?_
  exact x_iret cx hr rfl (by intro _ _ _ _; unfold zAdd; rw [uj_ne _ _ (by omega)]) dX0_putBehind_41

set_option maxHeartbeats 4000000 in
set_option maxRecDepth 100000 in
theorem c_X0_takeOut (l : Launch) (G : zG) (S : zS) (i : Nat) (hi : i < 7) (X : zCV) (hW : zWF X) (q : Nat) (hq : q < num X) : Met l yX0_takeOut (zws yX0_takeOut cX0_takeOut 4 (some .int)) (zrm 1 0 0 21) (zPc G 68 (pic G (up S i X)) [.ref (zad G i 0), .int (nI q)]) (zQi G 68 (X (q + 3) 1) (pic G (up S i (zTake X q)))) 0 0 (zA G) := by
  refine zMet npX0_takeOut rfl (Nat.le_of_ble_eq_true rfl) ?_
  intro p e s m args below meth cd hargs cx hr hin0
  have cx : Cx p s m args meth cd cX0_takeOut 4 RX0 G := cx
  refine x_ls (ls' := [some (.ref (zad G i 0)), some (.int (nI q)), none, none]) rfl (fun _ h => h) ?_
  have h6 := hW.n6
  refine x_aload_n cx dX0_takeOut_0 rfl rfl ?_
  refine x_getX0 cx 0 (by decide) (fl_X0_11 cx) (zok_c hi (by decide)) (zix_c hi (by decide)) (pcO hi) rfl dX0_takeOut_1 ?_
  refine x_iload_n cx dX0_takeOut_4 rfl rfl ?_
  refine x_aald (t := q) cx 2 rfl (zok_c hi (by decide)) (zix_c hi (by decide)) (pcA hi) rfl (by omega) (by decide) rfl dX0_takeOut_5 ?_
  refine x_getX1 cx 1 (by decide) (fl_X0_45 cx) (zok_c hi (by omega)) (zix_c hi (by omega)) (pcC hi _) rfl dX0_takeOut_6 ?_
  refine x_istore_n (ls' := [_, _, _, _]) cx dX0_takeOut_9 rfl (by decide) rfl ?_
  refine x_iload_n cx dX0_takeOut_10 rfl rfl ?_
  refine x_iconst (v := 1) cx dX0_takeOut_11 (by decide) ?_
  refine x_iadd cx dX0_takeOut_12 ?_
  refine x_istore_n (ls' := [_, _, _, _]) cx dX0_takeOut_13 rfl (by decide) rfl ?_
  suffices K : ∀ f k : Nat, q + k + 1 + f = num X → Xh p l e _ s m args below meth cd 4 G _ 0 0 68 (pic G (up S i (zTakL X q k))) 14 [some (.ref (zad G i 0)), some (.int (nI q)), some (.int (X (q + 3) 1)), some (.int (nI (q + k + 1)))] [] from x_up (zTakL_z X q).symm (x_ls rfl (by rw [show nI q + 1 = nI (q + 0 + 1) from nI_1 q]; exact fun _ h => h) (K (num X - 1 - q) 0 (by omega)))
  intro f
  induction f with
  | zero =>
    intro k hk
    refine x_iload_n cx dX0_takeOut_14 rfl rfl ?_
    refine x_aload_n cx dX0_takeOut_15 rfl rfl ?_
    refine x_getX0 cx 1 (by decide) (fl_X0_18 cx) (zok_c hi (by decide)) (zix_c hi (by decide)) (pcO hi) rfl dX0_takeOut_16 ?_
    refine x_eqi (show _ = nI (num X) by rw [zTakL_0]; exact hW.sz) ?_
    refine x_icmp_ge_t (tgt := 45) cx dX0_takeOut_19 (by decide) (nI_le (by omega) (by omega)) ?_
    refine x_aload_n cx dX0_takeOut_45 rfl rfl ?_
    refine x_dup cx dX0_takeOut_46 rfl ?_
    refine x_getX0 cx 1 (by decide) (fl_X0_18 cx) (zok_c hi (by decide)) (zix_c hi (by decide)) (pcO hi) rfl dX0_takeOut_47 ?_
    refine x_iconst (v := 1) cx dX0_takeOut_50 (by decide) ?_
    refine x_isub cx dX0_takeOut_51 ?_
    refine x_putX0 cx 1 (by decide) (fl_X0_18 cx) (zok_c hi (by decide)) (zix_c hi (by decide)) (pcO hi) rfl rfl rfl (Nat.le_of_ble_eq_true rfl) (ppO0 hi) dX0_takeOut_52 ?_
    refine x_iload_n cx dX0_takeOut_55 rfl rfl ?_
    exact x_iret cx hr rfl (by intro _ _ _ _; unfold zTake; rw [show num X - 1 - q = k by omega, zTakL_0]) dX0_takeOut_56
  | succ f ih =>
    intro k hk
    refine x_iload_n cx dX0_takeOut_14 rfl rfl ?_
    refine x_aload_n cx dX0_takeOut_15 rfl rfl ?_
    refine x_getX0 cx 1 (by decide) (fl_X0_18 cx) (zok_c hi (by decide)) (zix_c hi (by decide)) (pcO hi) rfl dX0_takeOut_16 ?_
    refine x_eqi (show _ = nI (num X) by rw [zTakL_0]; exact hW.sz) ?_
    refine x_icmp_ge_f (tgt := 45) cx dX0_takeOut_19 (by decide) (nI_ge (by omega) (by omega)) ?_
    refine x_aload_n cx dX0_takeOut_22 rfl rfl ?_
    refine x_getX0 cx 0 (by decide) (fl_X0_11 cx) (zok_c hi (by decide)) (zix_c hi (by decide)) (pcO hi) rfl dX0_takeOut_23 ?_
    refine x_iload_n cx dX0_takeOut_26 rfl rfl ?_
    refine x_iconst (v := 1) cx dX0_takeOut_27 (by decide) ?_
    refine x_isub cx dX0_takeOut_28 ?_
    refine x_aald (t := (q + k)) cx 2 rfl (zok_c hi (by decide)) (zix_c hi (by decide)) (pcA hi) (nI_pred _) (by omega) (by decide) rfl dX0_takeOut_29 ?_
    refine x_aload_n cx dX0_takeOut_30 rfl rfl ?_
    refine x_getX0 cx 0 (by decide) (fl_X0_11 cx) (zok_c hi (by decide)) (zix_c hi (by decide)) (pcO hi) rfl dX0_takeOut_31 ?_
    refine x_iload_n cx dX0_takeOut_34 rfl rfl ?_
    refine x_aald (t := (q + k + 1)) cx 2 rfl (zok_c hi (by decide)) (zix_c hi (by decide)) (pcA hi) rfl (by omega) (by decide) rfl dX0_takeOut_35 ?_
    refine x_Vv (C := RX1) (T := TX1) (N := 9) (rest := []) cx (c_X1_becomeCopyOf l G _ i (q + k) i (q + k + 1) hi (by omega) hi (by omega) (by omega) (by rw [up_same, zTakL_ge _ (by omega)]; exact (hW.chip (by omega)).2.2.1)) gV_X0_37 ndX1_becomeCopyOf rfl ⟨Nat.le_of_ble_eq_true rfl, Nat.le_of_ble_eq_true rfl⟩ (zok_c hi (by omega)) (zix_c hi (by omega)) (pcC hi _) rfl rfl rfl (Nat.le_of_ble_eq_true rfl) dX0_takeOut_36 ⟨Nat.le_of_ble_eq_true rfl, Nat.le_of_ble_eq_true rfl⟩ ?_
    refine x_S (S' := up S i (uj (zTakL X q k) (q + k + 3) (X (q + k + 4)))) (by rw [up_same, up_up, zTakL_ge _ (by omega)]) ?_
    refine x_iinc (v := nI ((q + k + 1) + 1)) (ls' := [_, _, _, _]) cx dX0_takeOut_39 rfl (nI_inc _) (by decide) rfl ?_
    refine x_goto (tgt := 14) cx dX0_takeOut_42 (by decide) ?_
    refine x_up (X' := zTakL X q (k + 1)) (by rw [zTakL_s]) ?_
    exact x_ls rfl (by rw [show q + k + 1 + 1 = q + (k + 1) + 1 by omega]; exact fun _ h => h) (ih (k + 1) (by omega))

set_option maxHeartbeats 4000000 in
set_option maxRecDepth 100000 in
theorem c_X0_becomeCopyOf (l : Launch) (G : zG) (S : zS) (i i2 : Nat) (hi : i < 7) (hi2 : i2 < 7) (hne : i2 ≠ i) (hW : zWF (S i2)) : Met l yX0_becomeCopyOf (zws yX0_becomeCopyOf cX0_becomeCopyOf 3 none) (zrm 1 0 0 21) (zPc G 68 (pic G S) [.ref (zad G i 0), .ref (zad G i2 0)]) (zQv G 68 (pic G (up S i (zCopy (S i) (S i2))))) 0 0 (zA G) := by
  refine zMet npX0_becomeCopyOf rfl (Nat.le_of_ble_eq_true rfl) ?_
  intro p e s m args below meth cd hargs cx hr hin0
  have cx : Cx p s m args meth cd cX0_becomeCopyOf 3 RX0 G := cx
  refine x_ls (ls' := [some (.ref (zad G i 0)), some (.ref (zad G i2 0)), none]) rfl (fun _ h => h) ?_
  refine x_S (up_self S i).symm ?_
  have h6 := hW.n6
  refine x_iconst (v := 0) cx dX0_becomeCopyOf_0 (by decide) ?_
  refine x_istore_n (ls' := [_, _, _]) cx dX0_becomeCopyOf_1 rfl (by decide) rfl ?_
  suffices K : ∀ f k : Nat, k + f = num (S i2) → Xh p l e _ s m args below meth cd 3 G _ 0 0 68 (pic G (up S i (zMap (fun t _ => S i2 (t + 3)) k (S i)))) 2 [some (.ref (zad G i 0)), some (.ref (zad G i2 0)), some (.int (nI k))] [] from x_up (zMap_z (fun t _ => S i2 (t + 3)) (S i)).symm (K (num (S i2)) 0 (by omega))
  intro f
  induction f with
  | zero =>
    intro k hk
    obtain rfl : k = num (S i2) := by omega
    refine x_iload_n cx dX0_becomeCopyOf_2 rfl rfl ?_
    refine x_aload_n cx dX0_becomeCopyOf_3 rfl rfl ?_
    refine x_getX0 cx 1 (by decide) (fl_X0_18 cx) (zok_c hi2 (by decide)) (zix_c hi2 (by decide)) (pcO2 hi2 hne) rfl dX0_becomeCopyOf_4 ?_
    refine x_eqi hW.sz ?_
    refine x_icmp_ge_t (tgt := 31) cx dX0_becomeCopyOf_7 (by decide) (nI_le (Nat.le_refl _) (by omega)) ?_
    refine x_aload_n cx dX0_becomeCopyOf_31 rfl rfl ?_
    refine x_aload_n cx dX0_becomeCopyOf_32 rfl rfl ?_
    refine x_getX0 cx 1 (by decide) (fl_X0_18 cx) (zok_c hi2 (by decide)) (zix_c hi2 (by decide)) (pcO2 hi2 hne) rfl dX0_becomeCopyOf_33 ?_
    refine x_putX0 cx 1 (by decide) (fl_X0_18 cx) (zok_c hi (by decide)) (zix_c hi (by decide)) (pcO hi) rfl rfl rfl (Nat.le_of_ble_eq_true rfl) (ppO0 hi) dX0_becomeCopyOf_36 ?_
    refine x_aload_n cx dX0_becomeCopyOf_39 rfl rfl ?_
    refine x_aload_n cx dX0_becomeCopyOf_40 rfl rfl ?_
    refine x_getX0 cx 2 (by decide) (fl_X0_24 cx) (zok_c hi2 (by decide)) (zix_c hi2 (by decide)) (pcO2 hi2 hne) rfl dX0_becomeCopyOf_41 ?_
    refine x_putX0 cx 2 (by decide) (fl_X0_24 cx) (zok_c hi (by decide)) (zix_c hi (by decide)) (pcO hi) rfl rfl rfl (Nat.le_of_ble_eq_true rfl) (ppO1 hi) dX0_becomeCopyOf_44 ?_
    refine x_aload_n cx dX0_becomeCopyOf_47 rfl rfl ?_
    refine x_aload_n cx dX0_becomeCopyOf_48 rfl rfl ?_
    refine x_getX0 cx 3 (by decide) (fl_X0_27 cx) (zok_c hi2 (by decide)) (zix_c hi2 (by decide)) (pcO2 hi2 hne) rfl dX0_becomeCopyOf_49 ?_
    refine x_putX0 cx 3 (by decide) (fl_X0_27 cx) (zok_c hi (by decide)) (zix_c hi (by decide)) (pcO hi) rfl rfl rfl (Nat.le_of_ble_eq_true rfl) (ppO2 hi) dX0_becomeCopyOf_52 ?_
    refine x_iconst (v := 0) cx dX0_becomeCopyOf_55 (by decide) ?_
    refine x_istore_n (ls' := [_, _, _]) cx dX0_becomeCopyOf_56 rfl (by decide) rfl ?_
    have h8 := hW.c8
    refine x_up (X' := (uj (zMap (fun t _ => S i2 (t + 3)) (num (S i2)) (S i)) 0 (upd (upd (upd (zMap (fun t _ => S i2 (t + 3)) (num (S i2)) (S i) 0) 0 (S i2 0 0)) 1 (S i2 0 1)) 2 (S i2 0 2)))) (by simp only [uj_uj, uj_same]) ?_
    have hY0 : (uj (zMap (fun t _ => S i2 (t + 3)) (num (S i2)) (S i)) 0 (upd (upd (upd (zMap (fun t _ => S i2 (t + 3)) (num (S i2)) (S i) 0) 0 (S i2 0 0)) 1 (S i2 0 1)) 2 (S i2 0 2))) 0 = upd (upd (upd (zMap (fun t _ => S i2 (t + 3)) (num (S i2)) (S i) 0) 0 (S i2 0 0)) 1 (S i2 0 1)) 2 (S i2 0 2) := uj_same _ _ _
    have hYn : ∀ j, j ≠ 0 → (uj (zMap (fun t _ => S i2 (t + 3)) (num (S i2)) (S i)) 0 (upd (upd (upd (zMap (fun t _ => S i2 (t + 3)) (num (S i2)) (S i) 0) 0 (S i2 0 0)) 1 (S i2 0 1)) 2 (S i2 0 2))) j = zMap (fun t _ => S i2 (t + 3)) (num (S i2)) (S i) j := fun j hj => uj_ne _ _ hj
    generalize (uj (zMap (fun t _ => S i2 (t + 3)) (num (S i2)) (S i)) 0 (upd (upd (upd (zMap (fun t _ => S i2 (t + 3)) (num (S i2)) (S i) 0) 0 (S i2 0 0)) 1 (S i2 0 1)) 2 (S i2 0 2))) = Y at hY0 hYn ⊢
    suffices K : ∀ f k : Nat, k + f = cnt (S i2) → Xh p l e _ s m args below meth cd 3 G _ 0 0 68 (pic G (up S i (zCpI Y (S i2) k))) 57 [some (.ref (zad G i 0)), some (.ref (zad G i2 0)), some (.int (nI k))] [] from x_up (zCpI_z Y (S i2)).symm (K (cnt (S i2)) 0 (by omega))
    intro f
    induction f with
    | zero =>
      intro k hk
      obtain rfl : k = cnt (S i2) := by omega
      refine x_iload_n cx dX0_becomeCopyOf_57 rfl rfl ?_
      refine x_aload_n cx dX0_becomeCopyOf_58 rfl rfl ?_
      refine x_getX0 cx 5 (by decide) (fl_X0_34 cx) (zok_c hi2 (by decide)) (zix_c hi2 (by decide)) (pcO2 hi2 hne) rfl dX0_becomeCopyOf_59 ?_
      refine x_eqi hW.c3 ?_
      refine x_icmp_ge_t (tgt := 83) cx dX0_becomeCopyOf_62 (by decide) (nI_le (Nat.le_refl _) (by omega)) ?_
      refine x_aload_n cx dX0_becomeCopyOf_83 rfl rfl ?_
      refine x_aload_n cx dX0_becomeCopyOf_84 rfl rfl ?_
      refine x_getX0 cx 5 (by decide) (fl_X0_34 cx) (zok_c hi2 (by decide)) (zix_c hi2 (by decide)) (pcO2 hi2 hne) rfl dX0_becomeCopyOf_85 ?_
      refine x_putX0 cx 5 (by decide) (fl_X0_34 cx) (zok_c hi (by decide)) (zix_c hi (by decide)) (pcO hi) rfl rfl rfl (Nat.le_of_ble_eq_true rfl) (ppO3 hi) dX0_becomeCopyOf_88 ?_
      exact x_vret cx hr (eqS_pic_up (Or.inl hi) (zCopy_eq hW hY0 hYn)) dX0_becomeCopyOf_91
    | succ f ih =>
      intro k hk
      refine x_iload_n cx dX0_becomeCopyOf_57 rfl rfl ?_
      refine x_aload_n cx dX0_becomeCopyOf_58 rfl rfl ?_
      refine x_getX0 cx 5 (by decide) (fl_X0_34 cx) (zok_c hi2 (by decide)) (zix_c hi2 (by decide)) (pcO2 hi2 hne) rfl dX0_becomeCopyOf_59 ?_
      refine x_eqi hW.c3 ?_
      refine x_icmp_ge_f (tgt := 83) cx dX0_becomeCopyOf_62 (by decide) (nI_ge (by omega) (by omega)) ?_
      refine x_aload_n cx dX0_becomeCopyOf_65 rfl rfl ?_
      refine x_getX0 cx 4 (by decide) (fl_X0_30 cx) (zok_c hi (by decide)) (zix_c hi (by decide)) (pcO hi) rfl dX0_becomeCopyOf_66 ?_
      refine x_iload_n cx dX0_becomeCopyOf_69 rfl rfl ?_
      refine x_aload_n cx dX0_becomeCopyOf_70 rfl rfl ?_
      refine x_getX0 cx 4 (by decide) (fl_X0_30 cx) (zok_c hi2 (by decide)) (zix_c hi2 (by decide)) (pcO2 hi2 hne) rfl dX0_becomeCopyOf_71 ?_
      refine x_iload_n cx dX0_becomeCopyOf_74 rfl rfl ?_
      refine x_iald (t := k) cx (zok_c hi2 (by decide)) (zix_c hi2 (by decide)) (pcI2 hi2 hne) rfl (by omega) (by decide) (tr_lt (by omega)) dX0_becomeCopyOf_75 ?_
      refine x_iast (t := k) cx (zok_c hi (by decide)) (zix_c hi (by decide)) (pcI hi) rfl (by omega) (by decide) (ppI hi (by omega)) dX0_becomeCopyOf_76 ?_
      refine x_iinc (v := nI (k + 1)) (ls' := [_, _, _]) cx dX0_becomeCopyOf_77 rfl (nI_inc _) (by decide) rfl ?_
      refine x_goto (tgt := 57) cx dX0_becomeCopyOf_80 (by decide) ?_
      exact x_up (zCpI_s Y (S i2) k) (ih (k + 1) (by omega))
  | succ f ih =>
    intro k hk
    refine x_iload_n cx dX0_becomeCopyOf_2 rfl rfl ?_
    refine x_aload_n cx dX0_becomeCopyOf_3 rfl rfl ?_
    refine x_getX0 cx 1 (by decide) (fl_X0_18 cx) (zok_c hi2 (by decide)) (zix_c hi2 (by decide)) (pcO2 hi2 hne) rfl dX0_becomeCopyOf_4 ?_
    refine x_eqi hW.sz ?_
    refine x_icmp_ge_f (tgt := 31) cx dX0_becomeCopyOf_7 (by decide) (nI_ge (by omega) (by omega)) ?_
    refine x_aload_n cx dX0_becomeCopyOf_10 rfl rfl ?_
    refine x_getX0 cx 0 (by decide) (fl_X0_11 cx) (zok_c hi (by decide)) (zix_c hi (by decide)) (pcO hi) rfl dX0_becomeCopyOf_11 ?_
    refine x_iload_n cx dX0_becomeCopyOf_14 rfl rfl ?_
    refine x_aald (t := k) cx 2 rfl (zok_c hi (by decide)) (zix_c hi (by decide)) (pcA hi) rfl (by omega) (by decide) rfl dX0_becomeCopyOf_15 ?_
    refine x_aload_n cx dX0_becomeCopyOf_16 rfl rfl ?_
    refine x_getX0 cx 0 (by decide) (fl_X0_11 cx) (zok_c hi2 (by decide)) (zix_c hi2 (by decide)) (pcO2 hi2 hne) rfl dX0_becomeCopyOf_17 ?_
    refine x_iload_n cx dX0_becomeCopyOf_20 rfl rfl ?_
    refine x_aald (t := k) cx 2 rfl (zok_c hi2 (by decide)) (zix_c hi2 (by decide)) (pcA hi2) rfl (by omega) (by decide) rfl dX0_becomeCopyOf_21 ?_
    refine x_Vv (C := RX1) (T := TX1) (N := 9) (rest := []) cx (c_X1_becomeCopyOf l G _ i k i2 k hi (by omega) hi2 (by omega) (by omega) (by rw [up_ne _ _ hne]; exact (hW.chip (by omega)).2.2.1)) gV_X0_37 ndX1_becomeCopyOf rfl ⟨Nat.le_of_ble_eq_true rfl, Nat.le_of_ble_eq_true rfl⟩ (zok_c hi (by omega)) (zix_c hi (by omega)) (pcCc hi _) rfl rfl rfl (Nat.le_of_ble_eq_true rfl) dX0_becomeCopyOf_22 ⟨Nat.le_of_ble_eq_true rfl, Nat.le_of_ble_eq_true rfl⟩ ?_
    refine x_S (S' := up S i (zMap (fun t _ => S i2 (t + 3)) (k + 1) (S i))) (by rw [up_same, up_up, up_ne _ _ hne, zMap_s]) ?_
    refine x_iinc (v := nI (k + 1)) (ls' := [_, _, _]) cx dX0_becomeCopyOf_25 rfl (nI_inc _) (by decide) rfl ?_
    refine x_goto (tgt := 2) cx dX0_becomeCopyOf_28 (by decide) ?_
    exact ih (k + 1) (by omega)

