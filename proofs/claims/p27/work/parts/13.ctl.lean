set_option maxHeartbeats 4000000 in
set_option maxRecDepth 100000 in
theorem c_X2_isState (l : Launch) (G : zG) (n : Nat) (h : zH) (x : Int32) : Met l yX2_isState (zws yX2_isState cX2_isState 1 (some .boolean)) (zrm 0 0 0 0) (zPc G n (h) [.int x]) (zQi G n (zis x) (h)) 0 0 (zA G) := by
  refine zMet npX2_isState rfl (Nat.le_of_ble_eq_true rfl) ?_
  intro p e s m args below meth cd hargs cx hr hin0
  have cx : Cx p s m args meth cd cX2_isState 1 RX2 G := cx
  refine x_ls (ls' := [some (.int x)]) rfl (fun _ h => h) ?_
  refine x_iload_n cx dX2_isState_0 rfl rfl ?_
  refine x_if_lt (tgt := 14) cx dX2_isState_1 (by decide) (fun hb1 => ?_) (fun hb1 => ?_)
  · refine x_iconst (v := 0) cx dX2_isState_14 (by decide) ?_
    exact x_zret cx hr (by simp [zis, hb1]) (by first | exact Or.inl rfl | exact Or.inr rfl) (fun _ _ _ _ => rfl) dX2_isState_15
  · refine x_iload_n cx dX2_isState_4 rfl rfl ?_
    refine x_bipush (v := 16) cx dX2_isState_5 (by decide) ?_
    refine x_icmp_ge (tgt := 14) cx dX2_isState_7 (by decide) (fun hb7 => ?_) (fun hb7 => ?_)
    · refine x_iconst (v := 0) cx dX2_isState_14 (by decide) ?_
      exact x_zret cx hr (by simp [zis, hb1, hb7]) (by first | exact Or.inl rfl | exact Or.inr rfl) (fun _ _ _ _ => rfl) dX2_isState_15
    · refine x_iconst (v := 1) cx dX2_isState_10 (by decide) ?_
      refine x_goto (tgt := 15) cx dX2_isState_11 (by decide) ?_
      exact x_zret cx hr (by simp [zis, hb1, hb7]) (by first | exact Or.inl rfl | exact Or.inr rfl) (fun _ _ _ _ => rfl) dX2_isState_15

set_option maxHeartbeats 4000000 in
set_option maxRecDepth 100000 in
theorem c_X2_next (l : Launch) (G : zG) (n : Nat) (h : zH) (a : Nat) (ha : a < 16) (md : Int32) : Met l yX2_next (zws yX2_next cX2_next 2 (some .int)) (zrm 1 0 0 20) (zPc G n (h) [.int (nI a), .int md]) (zQi G n (zNx a md) (h)) 0 0 (zA G) := by
  refine zMet npX2_next rfl (Nat.le_of_ble_eq_true rfl) ?_
  intro p e s m args below meth cd hargs cx hr hin0
  have cx : Cx p s m args meth cd cX2_next 2 RX2 G := cx
  refine x_ls (ls' := [some (.int (nI a)), some (.int md)]) rfl (fun _ h => h) ?_
  refine x_iload_n cx dX2_next_0 rfl rfl ?_
  refine x_Si (rest := []) cx (c_X2_isState l G _ _ _) gS_X2_9 ndX2_isState ⟨Nat.le_of_ble_eq_true rfl, Nat.le_of_ble_eq_true rfl⟩ rfl rfl (Nat.le_of_ble_eq_true rfl) dX2_next_1 ⟨Nat.le_of_ble_eq_true rfl, Nat.le_of_ble_eq_true rfl⟩ ?_
  refine x_if_ne_t (tgt := 9) cx dX2_next_4 (by decide) (by rw [zis_ok ha]; decide) ?_
  refine x_iload_n cx dX2_next_9 rfl rfl ?_
  refine x_if_ne (tgt := 21) cx dX2_next_10 (by decide) (fun hb10 => ?_) (fun hb10 => ?_)
  · refine x_gets1 cx (cx.1.2.2.2.2 _ zt376) dX2_next_21 (fun tN21 hN21 => ?_)
    refine x_iload_n cx dX2_next_24 rfl rfl ?_
    refine x_tald (t := a) cx hN21 rfl (by omega) (by decide) rfl dX2_next_25 ?_
    exact x_iret cx hr (by simp [zNx, hb10]) (fun _ _ _ _ => rfl) dX2_next_26
  · refine x_gets0 cx (cx.1.2.2.2.2 _ zt374) dX2_next_13 (fun tN13 hN13 => ?_)
    refine x_iload_n cx dX2_next_16 rfl rfl ?_
    refine x_tald (t := a) cx hN13 rfl (by omega) (by decide) rfl dX2_next_17 ?_
    refine x_goto (tgt := 26) cx dX2_next_18 (by decide) ?_
    exact x_iret cx hr (by simp [zNx, hb10]) (fun _ _ _ _ => rfl) dX2_next_26

set_option maxHeartbeats 4000000 in
set_option maxRecDepth 100000 in
theorem c_X2_nextOfAll (l : Launch) (G : zG) (n : Nat) (h : zH) (x : Int32) : Met l yX2_nextOfAll (zws yX2_nextOfAll cX2_nextOfAll 3 (some .int)) (zrm 2 0 0 41) (zPc G n (h) [.int x]) (zQi G n (noa x) (h)) 0 0 (zA G) := by
  refine zMet npX2_nextOfAll rfl (Nat.le_of_ble_eq_true rfl) ?_
  intro p e s m args below meth cd hargs cx hr hin0
  have cx : Cx p s m args meth cd cX2_nextOfAll 3 RX2 G := cx
  refine x_ls (ls' := [some (.int x), none, none]) rfl (fun _ h => h) ?_
  refine x_iconst (v := 0) cx dX2_nextOfAll_0 (by decide) ?_
  refine x_istore_n (ls' := [_, _, _]) cx dX2_nextOfAll_1 rfl (by decide) rfl ?_
  refine x_iconst (v := 0) cx dX2_nextOfAll_2 (by decide) ?_
  refine x_istore_n (ls' := [_, _, _]) cx dX2_nextOfAll_3 rfl (by decide) rfl ?_
  suffices K : ∀ f k : Nat, k + f = 16 → Xh p l e _ s m args below meth cd 3 G _ 0 0 n h 4 [some (.int x), some (.int (noaL x k)), some (.int (nI k))] [] from K 16 0 rfl
  intro f
  induction f with
  | zero =>
    intro k hk
    obtain rfl : k = 16 := by omega
    refine x_iload_n cx dX2_nextOfAll_4 rfl rfl ?_
    refine x_bipush (v := 16) cx dX2_nextOfAll_5 (by decide) ?_
    refine x_icmp_ge_t (tgt := 43) cx dX2_nextOfAll_7 (by decide) (by decide) ?_
    refine x_iload_n cx dX2_nextOfAll_43 rfl rfl ?_
    exact x_iret cx hr rfl (fun _ _ _ _ => rfl) dX2_nextOfAll_44
  | succ f ih =>
    intro k hk
    refine x_iload_n cx dX2_nextOfAll_4 rfl rfl ?_
    refine x_bipush (v := 16) cx dX2_nextOfAll_5 (by decide) ?_
    refine x_icmp_ge_f (tgt := 43) cx dX2_nextOfAll_7 (by decide) (nI_ge (b := 16) (by omega) (by decide)) ?_
    refine x_iload_n cx dX2_nextOfAll_10 rfl rfl ?_
    refine x_iload_n cx dX2_nextOfAll_11 rfl rfl ?_
    refine x_ishr cx dX2_nextOfAll_12 ?_
    refine x_iconst (v := 1) cx dX2_nextOfAll_13 (by decide) ?_
    refine x_iand cx dX2_nextOfAll_14 ?_
    refine x_iconst (v := 1) cx dX2_nextOfAll_15 (by decide) ?_
    refine x_icmp_ne (tgt := 37) cx dX2_nextOfAll_16 (by decide) (fun hb16 => ?_) (fun hb16 => ?_)
    · refine x_iinc (v := nI (k + 1)) (ls' := [_, _, _]) cx dX2_nextOfAll_37 rfl (nI_inc _) (by decide) rfl ?_
      refine x_goto (tgt := 4) cx dX2_nextOfAll_40 (by decide) ?_
      have h9 := ih (k + 1) (by omega)
      rw [noaL, if_neg hb16] at h9
      exact h9
    · refine x_iload_n cx dX2_nextOfAll_19 rfl rfl ?_
      refine x_iconst (v := 1) cx dX2_nextOfAll_20 (by decide) ?_
      refine x_iload_n cx dX2_nextOfAll_21 rfl rfl ?_
      refine x_iconst (v := 0) cx dX2_nextOfAll_22 (by decide) ?_
      refine x_Si (rest := [_, _]) cx (c_X2_next l G _ _ k (by omega) _) gS_X2_24 ndX2_next ⟨Nat.le_of_ble_eq_true rfl, Nat.le_of_ble_eq_true rfl⟩ rfl rfl (Nat.le_of_ble_eq_true rfl) dX2_nextOfAll_23 ⟨Nat.le_of_ble_eq_true rfl, Nat.le_of_ble_eq_true rfl⟩ ?_
      refine x_eqi (zNx_0 _) ?_
      refine x_ishl cx dX2_nextOfAll_26 ?_
      refine x_iconst (v := 1) cx dX2_nextOfAll_27 (by decide) ?_
      refine x_iload_n cx dX2_nextOfAll_28 rfl rfl ?_
      refine x_iconst (v := 1) cx dX2_nextOfAll_29 (by decide) ?_
      refine x_Si (rest := [_, _, _]) cx (c_X2_next l G _ _ k (by omega) _) gS_X2_24 ndX2_next ⟨Nat.le_of_ble_eq_true rfl, Nat.le_of_ble_eq_true rfl⟩ rfl rfl (Nat.le_of_ble_eq_true rfl) dX2_nextOfAll_30 ⟨Nat.le_of_ble_eq_true rfl, Nat.le_of_ble_eq_true rfl⟩ ?_
      refine x_eqi (zNx_1 _) ?_
      refine x_ishl cx dX2_nextOfAll_33 ?_
      refine x_ior cx dX2_nextOfAll_34 ?_
      refine x_ior cx dX2_nextOfAll_35 ?_
      refine x_istore_n (ls' := [_, _, _]) cx dX2_nextOfAll_36 rfl (by decide) rfl ?_
      refine x_iinc (v := nI (k + 1)) (ls' := [_, _, _]) cx dX2_nextOfAll_37 rfl (nI_inc _) (by decide) rfl ?_
      refine x_goto (tgt := 4) cx dX2_nextOfAll_40 (by decide) ?_
      have h9 := ih (k + 1) (by omega)
      rw [noaL, if_pos hb16] at h9
      exact h9

set_option maxHeartbeats 4000000 in
set_option maxRecDepth 100000 in
theorem c_X2_clocksBetween (l : Launch) (G : zG) (n : Nat) (h : zH) (a b : Nat) (ha : a < 16) (hb : b < 16) : Met l yX2_clocksBetween (zws yX2_clocksBetween cX2_clocksBetween 4 (some .int)) (zrm 3 0 0 63) (zPc G n (h) [.int (nI a), .int (nI b)]) (zQi G n (nI (dst a b)) (h)) 0 0 (zA G) := by
  refine zMet npX2_clocksBetween rfl (Nat.le_of_ble_eq_true rfl) ?_
  intro p e s m args below meth cd hargs cx hr hin0
  have cx : Cx p s m args meth cd cX2_clocksBetween 4 RX2 G := cx
  refine x_ls (ls' := [some (.int (nI a)), some (.int (nI b)), none, none]) rfl (fun _ h => h) ?_
  refine x_iconst (v := 1) cx dX2_clocksBetween_0 (by decide) ?_
  refine x_iload_n cx dX2_clocksBetween_1 rfl rfl ?_
  refine x_ishl cx dX2_clocksBetween_2 ?_
  refine x_istore_n (ls' := [_, _, _, _]) cx dX2_clocksBetween_3 rfl (by decide) rfl ?_
  refine x_iconst (v := 0) cx dX2_clocksBetween_4 (by decide) ?_
  refine x_istore_n (ls' := [_, _, _, _]) cx dX2_clocksBetween_5 rfl (by decide) rfl ?_
  have hd := dst_lt a ha b hb
  suffices K : ∀ f k : Nat, k + f = dst a b → Xh p l e _ s m args below meth cd 4 G _ 0 0 n h 6 [some (.int (nI a)), some (.int (nI b)), some (.int (rch a k)), some (.int (nI k))] [] from K (dst a b) 0 (by omega)
  intro f
  induction f with
  | zero =>
    intro k hk
    obtain rfl : k = dst a b := by omega
    refine x_iload_n cx dX2_clocksBetween_6 rfl rfl ?_
    refine x_bipush (v := 16) cx dX2_clocksBetween_7 (by decide) ?_
    refine x_icmp_ge_f (tgt := 31) cx dX2_clocksBetween_9 (by decide) (nI_ge (b := 16) (by omega) (by decide)) ?_
    refine x_iload_n cx dX2_clocksBetween_12 rfl rfl ?_
    refine x_iload_n cx dX2_clocksBetween_13 rfl rfl ?_
    refine x_ishr cx dX2_clocksBetween_14 ?_
    refine x_iconst (v := 1) cx dX2_clocksBetween_15 (by decide) ?_
    refine x_iand cx dX2_clocksBetween_16 ?_
    refine x_if_ne_t (tgt := 31) cx dX2_clocksBetween_17 (by decide) (dst_hit ha hb) ?_
    refine x_iload_n cx dX2_clocksBetween_31 rfl rfl ?_
    exact x_iret cx hr rfl (fun _ _ _ _ => rfl) dX2_clocksBetween_32
  | succ f ih =>
    intro k hk
    refine x_iload_n cx dX2_clocksBetween_6 rfl rfl ?_
    refine x_bipush (v := 16) cx dX2_clocksBetween_7 (by decide) ?_
    refine x_icmp_ge_f (tgt := 31) cx dX2_clocksBetween_9 (by decide) (nI_ge (b := 16) (by omega) (by decide)) ?_
    refine x_iload_n cx dX2_clocksBetween_12 rfl rfl ?_
    refine x_iload_n cx dX2_clocksBetween_13 rfl rfl ?_
    refine x_ishr cx dX2_clocksBetween_14 ?_
    refine x_iconst (v := 1) cx dX2_clocksBetween_15 (by decide) ?_
    refine x_iand cx dX2_clocksBetween_16 ?_
    refine x_if_ne_f (tgt := 31) cx dX2_clocksBetween_17 (by decide) (dst_miss ha hb (by omega)) ?_
    refine x_iload_n cx dX2_clocksBetween_20 rfl rfl ?_
    refine x_Si (rest := []) cx (c_X2_nextOfAll l G _ _ _) gS_X2_20 ndX2_nextOfAll ⟨Nat.le_of_ble_eq_true rfl, Nat.le_of_ble_eq_true rfl⟩ rfl rfl (Nat.le_of_ble_eq_true rfl) dX2_clocksBetween_21 ⟨Nat.le_of_ble_eq_true rfl, Nat.le_of_ble_eq_true rfl⟩ ?_
    refine x_istore_n (ls' := [_, _, _, _]) cx dX2_clocksBetween_24 rfl (by decide) rfl ?_
    refine x_iinc (v := nI (k + 1)) (ls' := [_, _, _, _]) cx dX2_clocksBetween_25 rfl (nI_inc _) (by decide) rfl ?_
    refine x_goto (tgt := 6) cx dX2_clocksBetween_28 (by decide) ?_
    exact ih (k + 1) (by omega)

