set_option maxHeartbeats 4000000 in
set_option maxRecDepth 100000 in
theorem c_X1_init (l : Launch) (G : zG) (n : Nat) (F : zH) (i j : Nat) : Met l yX1_init (zws yX1_init cX1_init 1 none) (zrm 1 0 0 20) (zPc G n (F) [.ref (zad G i j)]) (zQv G n (F)) 0 0 (zA G) := by
  refine zMetN npX1_init rfl (Nat.le_of_ble_eq_true rfl) ?_
  intro p e s m args below meth cd hargs cx hr hin0 hb
  have cx : Cx p s m args meth cd cX1_init 1 RX1 G := cx
  refine x_ls (ls' := [some (.ref (zad G i j))]) rfl (fun _ h => h) ?_
  refine x_aload_n cx dX1_init_0 rfl rfl ?_
  refine x_objInit cx zt33 zt19 zt20 dX1_init_1 ⟨Nat.le_of_ble_eq_true rfl, Nat.le_of_ble_eq_true rfl⟩ (Nat.le_of_ble_eq_true rfl) ?_
  exact x_vret cx hr (fun _ _ _ _ => rfl) dX1_init_4

set_option maxHeartbeats 4000000 in
set_option maxRecDepth 100000 in
theorem c_X0_init (l : Launch) (G : zG) (F : zH) (i : Nat) (hi : i < 7) (hF : fresh G F i) : Met l yX0_init (zws yX0_init cX0_init 2 none) (zrm 2 8 68 40) (zPc G (zix i 0 + 1) (hset F i 0 (.inr (0, oX0 .null .null))) [.ref (zad G i 0)]) (zQv G (zix i 0 + 9) (F)) 8 68 (zA G) := by
  refine zMetN npX0_init rfl (Nat.le_of_ble_eq_true rfl) ?_
  intro p e s m args below meth cd hargs cx hr hin0 hb
  have cx : Cx p s m args meth cd cX0_init 2 RX0 G := cx
  refine x_ls (ls' := [some (.ref (zad G i 0)), none]) rfl (fun _ h => h) ?_
  have hz1 : zix i 1 = zix i 0 + 1 := zix_i hi 1
  have hz2 : zix i 2 = zix i 0 + 8 := zix_i hi 2
  refine x_aload_n cx dX0_init_0 rfl rfl ?_
  refine x_objInit cx zt26 zt19 zt20 dX0_init_1 ⟨Nat.le_of_ble_eq_true rfl, Nat.le_of_ble_eq_true rfl⟩ (Nat.le_of_ble_eq_true rfl) ?_
  refine x_aload_n cx dX0_init_4 rfl rfl ?_
  refine x_bipush (v := 6) cx dX0_init_5 (by decide) ?_
  refine x_newq (h2 := hset (hset F i 0 (.inr (0, oX0 .null .null))) i 1 (.inl (G.2.1 2, 6, .inr (.inr (.inr (.inr (rfs (fun q => zad G i (q + 3)) 0))))))) (i := i) (j := 1) (N := 6) cx 2 rfl zt27 cx.2.1.2.2.1 (zok_c hi (by omega)) hz1 rfl (by decide) ⟨by show _ ≤ 8; omega, by show _ ≤ 68; omega⟩ (fun _ _ _ _ => by rw [rfs_z]) dX0_init_7 ?_
  refine x_putFX0 (h' := hset (hset F i 0 (.inr (0, oX0 (.ref (zad G i 1)) .null))) i 1 (.inl (G.2.1 2, 6, .inr (.inr (.inr (.inr (rfs (fun q => zad G i (q + 3)) 0))))))) cx 0 (by decide) (cx.1.2.2.2.2 _ zt68) (hin0 rfl) (zok_c hi (by omega)) (by omega) (hset_ne (fun z => absurd z.2 (by decide)) hset_same) rfl rfl rfl rfl (Nat.le_of_ble_eq_true rfl) (fun i2 j2 _ _ => hset_swap (fun z => absurd z.2 (by decide)) i2 j2) dX0_init_10 ?_
  refine x_iconst (v := 0) cx dX0_init_13 (by decide) ?_
  refine x_istore_n (ls' := [_, _]) cx dX0_init_14 rfl (by decide) rfl ?_
  suffices K : ∀ f k : Nat, k + f = 6 → Xh p l e (zrm 2 8 68 40) s m args below meth cd 2 G (MQ below (zQv G (zix i 0 + 9) F) args s 8 68 (zA G)) (1 + k) (6 + 9 * k) (zix i 0 + 2 + k) (hset (hset F i 0 (.inr (0, oX0 (.ref (zad G i 1)) .null))) i 1 (.inl (G.2.1 2, 6, .inr (.inr (.inr (.inr (rfs (fun q => zad G i (q + 3)) k))))))) 15 [some (.ref (zad G i 0)), some (.int (nI k))] [] from x_idx (by omega) (by omega) (by omega) (K 6 0 rfl)
  intro f
  induction f with
  | zero =>
    intro k hk
    obtain rfl : k = 6 := by omega
    have hx2 : ∀ (o : List Value) (g : Nat → Option Nat), hset (hset F i 0 (.inr (0, o))) i 1 (.inl (G.2.1 2, 6, .inr (.inr (.inr (.inr g))))) i 2 = .inl (G.2.1 0, 8, .inl (fun _ => 0)) := fun o g => hset_ne (fun z => absurd z.2 (by decide)) (hset_ne (fun z => absurd z.2 (by decide)) ((hF 2 (by decide)).trans (by rw [← tr0 8]; rfl)))
    refine x_iload_n cx dX0_init_15 rfl rfl ?_
    refine x_aload_n cx dX0_init_16 rfl rfl ?_
    refine x_getX0 cx 0 (by decide) (fl_X0_11 cx) (zok_c hi (by decide)) (by omega) (hset_ne (fun z => absurd z.2 (by decide)) hset_same) rfl dX0_init_17 ?_
    refine x_alenq cx 2 rfl (zok_c hi (by decide)) (by omega) hset_same dX0_init_20 ?_
    refine x_icmp_ge_t (tgt := 43) cx dX0_init_21 (by decide) (by decide) ?_
    refine x_aload_n cx dX0_init_43 rfl rfl ?_
    refine x_iconst (v := 0) cx dX0_init_44 (by decide) ?_
    refine x_putX0 (h' := hset (hset F i 0 (.inr (0, oX0 (.ref (zad G i 1)) .null))) i 1 (.inl (G.2.1 2, 6, .inr (.inr (.inr (.inr (rfs (fun q => zad G i (q + 3)) 6))))))) cx 1 (by decide) (fl_X0_18 cx) (zok_c hi (by omega)) (by omega) (hset_ne (fun z => absurd z.2 (by decide)) hset_same) rfl rfl rfl (Nat.le_of_ble_eq_true rfl) (fun i2 j2 _ _ => hset_swap (fun z => absurd z.2 (by decide)) i2 j2) dX0_init_45 ?_
    refine x_aload_n cx dX0_init_48 rfl rfl ?_
    refine x_iconst (v := 0) cx dX0_init_49 (by decide) ?_
    refine x_putX0 (h' := hset (hset F i 0 (.inr (0, oX0 (.ref (zad G i 1)) .null))) i 1 (.inl (G.2.1 2, 6, .inr (.inr (.inr (.inr (rfs (fun q => zad G i (q + 3)) 6))))))) cx 2 (by decide) (fl_X0_24 cx) (zok_c hi (by omega)) (by omega) (hset_ne (fun z => absurd z.2 (by decide)) hset_same) rfl rfl rfl (Nat.le_of_ble_eq_true rfl) (fun i2 j2 _ _ => hset_swap (fun z => absurd z.2 (by decide)) i2 j2) dX0_init_50 ?_
    refine x_aload_n cx dX0_init_53 rfl rfl ?_
    refine x_iconst (v := 0) cx dX0_init_54 (by decide) ?_
    refine x_putX0 (h' := hset (hset F i 0 (.inr (0, oX0 (.ref (zad G i 1)) .null))) i 1 (.inl (G.2.1 2, 6, .inr (.inr (.inr (.inr (rfs (fun q => zad G i (q + 3)) 6))))))) cx 3 (by decide) (fl_X0_27 cx) (zok_c hi (by omega)) (by omega) (hset_ne (fun z => absurd z.2 (by decide)) hset_same) rfl rfl rfl (Nat.le_of_ble_eq_true rfl) (fun i2 j2 _ _ => hset_swap (fun z => absurd z.2 (by decide)) i2 j2) dX0_init_55 ?_
    refine x_aload_n cx dX0_init_58 rfl rfl ?_
    refine x_bipush (v := 8) cx dX0_init_59 (by decide) ?_
    refine x_newa_int (h2 := hset (hset F i 0 (.inr (0, oX0 (.ref (zad G i 1)) .null))) i 1 (.inl (G.2.1 2, 6, .inr (.inr (.inr (.inr (rfs (fun q => zad G i (q + 3)) 6))))))) (i := i) (j := 2) (N := 8) cx zt97 (zok_c hi (by omega)) (by omega) rfl (by decide) ⟨by show _ ≤ 8; omega, by show _ ≤ 68; omega⟩ (fun i2 j2 _ _ => hset_selfS (hx2 _ _) i2 j2) dX0_init_61 ?_
    refine x_putFX0 (h' := hset (hset F i 0 (.inr (0, oX0 (.ref (zad G i 1)) (.ref (zad G i 2))))) i 1 (.inl (G.2.1 2, 6, .inr (.inr (.inr (.inr (rfs (fun q => zad G i (q + 3)) 6))))))) cx 4 (by decide) (cx.1.2.2.2.2 _ zt79) (hin0 rfl) (zok_c hi (by omega)) (by omega) (hset_ne (fun z => absurd z.2 (by decide)) hset_same) rfl rfl rfl rfl (Nat.le_of_ble_eq_true rfl) (fun i2 j2 _ _ => hset_swap (fun z => absurd z.2 (by decide)) i2 j2) dX0_init_63 ?_
    refine x_aload_n cx dX0_init_66 rfl rfl ?_
    refine x_iconst (v := 0) cx dX0_init_67 (by decide) ?_
    refine x_putX0 (h' := hset (hset F i 0 (.inr (0, oX0 (.ref (zad G i 1)) (.ref (zad G i 2))))) i 1 (.inl (G.2.1 2, 6, .inr (.inr (.inr (.inr (rfs (fun q => zad G i (q + 3)) 6))))))) cx 5 (by decide) (fl_X0_34 cx) (zok_c hi (by omega)) (by omega) (hset_ne (fun z => absurd z.2 (by decide)) hset_same) rfl rfl rfl (Nat.le_of_ble_eq_true rfl) (fun i2 j2 _ _ => hset_swap (fun z => absurd z.2 (by decide)) i2 j2) dX0_init_68 ?_
    refine x_convC (h' := F) (fun i2 j2 hok _ => ?_) ?_
    · unfold hset
      by_cases hb1 : i2 = i ∧ j2 = 1
      · obtain ⟨rfl, rfl⟩ := hb1
        exact Or.inr ⟨_, _, _, _, if_pos ⟨rfl, rfl⟩, (hF 1 (by decide)).trans rfl, fun k hk => if_pos hk⟩
      · rw [if_neg hb1]
        by_cases hb0 : i2 = i ∧ j2 = 0
        · obtain ⟨rfl, rfl⟩ := hb0
          rw [if_pos ⟨rfl, rfl⟩]
          exact Or.inl (hF 0 (by decide))
        · rw [if_neg hb0]; exact Or.inl rfl
    exact x_idx (by omega) (by omega) (by omega) (x_vret cx hr (fun _ _ _ _ => rfl) dX0_init_71)
  | succ f ih =>
    intro k hk
    have hz3 : zix i (k + 3) = zix i 0 + (k + 2) := zix_k hi
    have hx3 : ∀ (o : List Value) (g : Nat → Option Nat), hset (hset F i 0 (.inr (0, o))) i 1 (.inl (G.2.1 2, 6, .inr (.inr (.inr (.inr g))))) i (k + 3) = .inr (1, chipL (fun _ => 0)) := fun o g => hset_ne (fun z => absurd z.2 (by omega)) (hset_ne (fun z => absurd z.2 (by omega)) ((hF (k + 3) (by omega)).trans (by unfold picC; rw [if_neg (by omega), if_neg (by omega), if_neg (by omega)])))
    refine x_iload_n cx dX0_init_15 rfl rfl ?_
    refine x_aload_n cx dX0_init_16 rfl rfl ?_
    refine x_getX0 cx 0 (by decide) (fl_X0_11 cx) (zok_c hi (by decide)) (by omega) (hset_ne (fun z => absurd z.2 (by decide)) hset_same) rfl dX0_init_17 ?_
    refine x_alenq cx 2 rfl (zok_c hi (by decide)) (by omega) hset_same dX0_init_20 ?_
    refine x_icmp_ge_f (tgt := 43) cx dX0_init_21 (by decide) (nI_ge (b := 6) (by omega) (by decide)) ?_
    refine x_aload_n cx dX0_init_24 rfl rfl ?_
    refine x_getX0 cx 0 (by decide) (fl_X0_11 cx) (zok_c hi (by decide)) (by omega) (hset_ne (fun z => absurd z.2 (by decide)) hset_same) rfl dX0_init_25 ?_
    refine x_iload_n cx dX0_init_28 rfl rfl ?_
    refine x_newX1 (h2 := hset (hset F i 0 (.inr (0, oX0 (.ref (zad G i 1)) .null))) i 1 (.inl (G.2.1 2, 6, .inr (.inr (.inr (.inr (rfs (fun q => zad G i (q + 3)) k))))))) (i := i) (j := k + 3) cx zt27 zt29 zt8 (zok_c hi (by omega)) (by omega) df_X1 ⟨by show _ ≤ 8; omega, by show _ ≤ 68; omega⟩ hb (fun i2 j2 _ _ => hset_selfS (hx3 _ _) i2 j2) dX0_init_29 ?_
    refine x_dup cx dX0_init_32 rfl ?_
    refine x_INv (As := []) (rest := [_, _, _]) cx (c_X1_init l G _ _ i (k + 3)) (zG0 zt32) zt8 (ml_X0_17 cx) zt31 rfl ndX1_init ⟨Nat.le_of_ble_eq_true rfl, Nat.le_of_ble_eq_true rfl⟩ rfl rfl (Nat.le_of_ble_eq_true rfl) dX0_init_33 ⟨by show _ ≤ 8; omega, by show _ ≤ 68; omega⟩ ?_
    refine x_aast (h' := hset (hset F i 0 (.inr (0, oX0 (.ref (zad G i 1)) .null))) i 1 (.inl (G.2.1 2, 6, .inr (.inr (.inr (.inr (rfs (fun q => zad G i (q + 3)) (k + 1)))))))) (t := k) (i2 := i) (j2 := k + 3) cx 2 rfl (zok_c hi (by decide)) (by omega) hset_same (zok_c hi (by omega)) (by omega) (hx3 _ _) rfl rfl (by omega) (by decide) (fun i2 j2 _ _ => by rw [hset_hset, rfs_s]) dX0_init_36 ?_
    refine x_iinc (v := nI (k + 1)) (ls' := [_, _]) cx dX0_init_37 rfl (nI_inc _) (by decide) rfl ?_
    refine x_goto (tgt := 15) cx dX0_init_40 (by decide) ?_
    exact x_idx (by omega) (by omega) (by omega) (ih (k + 1) (by omega))

set_option maxHeartbeats 4000000 in
set_option maxRecDepth 100000 in
theorem c_X3_init (l : Launch) (G : zG) (F : zH) (hF : ∀ i, 3 ≤ i → i < 7 → fresh G F i) (hF1 : F 7 1 = .inr (2, [.ref (zad G 7 2), .int 0])) (hF2 : F 7 2 = .inl (G.2.1 3, 4, .inr (.inr (.inr (.inr (fun k => if k < 4 then some (zad G (k + 3) 0) else none)))))) : Met l yX3_init (zws yX3_init cX3_init 2 none) (zrm 3 37 300 61) (zPc G 29 (hset F 7 1 (.inr (2, [.null, .int 0]))) [.ref (zad G 7 1)]) (zQv G 66 (F)) 37 300 (zA G) := by
  refine zMetN npX3_init rfl (Nat.le_of_ble_eq_true rfl) ?_
  intro p e s m args below meth cd hargs cx hr hin0 hb
  have cx : Cx p s m args meth cd cX3_init 2 RX3 G := cx
  refine x_ls (ls' := [some (.ref (zad G 7 1)), none]) rfl (fun _ h => h) ?_
  refine x_aload_n cx dX3_init_0 rfl rfl ?_
  refine x_objInit cx zt103 zt19 zt20 dX3_init_1 ⟨Nat.le_of_ble_eq_true rfl, Nat.le_of_ble_eq_true rfl⟩ (Nat.le_of_ble_eq_true rfl) ?_
  refine x_aload_n cx dX3_init_4 rfl rfl ?_
  refine x_iconst (v := 4) cx dX3_init_5 (by decide) ?_
  refine x_newq (h2 := hset (hset F 7 1 (.inr (2, [.null, .int 0]))) 7 2 (.inl (G.2.1 3, 4, .inr (.inr (.inr (.inr (rfs (fun q => zad G (q + 3) 0) 0))))))) (i := 7) (j := 2) (N := 4) cx 3 rfl zt104 cx.2.1.2.2.2 (zok_7 (by decide)) rfl rfl (by decide) ⟨by show _ ≤ 37; omega, by show _ ≤ 300; omega⟩ (fun _ _ _ _ => by rw [rfs_z]) dX3_init_6 ?_
  refine x_putFX3 (h' := hset (hset F 7 1 (.inr (2, [.ref (zad G 7 2), .int 0]))) 7 2 (.inl (G.2.1 3, 4, .inr (.inr (.inr (.inr (rfs (fun q => zad G (q + 3) 0) 0))))))) cx 0 (by decide) (cx.1.2.2.2.2 _ zt107) (hin0 rfl) (zok_7 (by decide)) (by decide) (hset_ne (fun z => absurd z.2 (by decide)) hset_same) rfl rfl rfl rfl (Nat.le_of_ble_eq_true rfl) (fun i2 j2 _ _ => hset_swap (fun z => absurd z.2 (by decide)) i2 j2) dX3_init_9 ?_
  refine x_iconst (v := 0) cx dX3_init_12 (by decide) ?_
  refine x_istore_n (ls' := [_, _]) cx dX3_init_13 rfl (by decide) rfl ?_
  suffices K : ∀ f k : Nat, k + f = 4 → Xh p l e (zrm 3 37 300 61) s m args below meth cd 2 G (MQ below (zQv G 66 F) args s 37 300 (zA G)) (1 + 9 * k) (4 + 74 * k) (30 + 9 * k) (hset (hset F 7 1 (.inr (2, [.ref (zad G 7 2), .int 0]))) 7 2 (.inl (G.2.1 3, 4, .inr (.inr (.inr (.inr (rfs (fun q => zad G (q + 3) 0) k))))))) 14 [some (.ref (zad G 7 1)), some (.int (nI k))] [] from x_idx (by omega) (by omega) (by omega) (K 4 0 rfl)
  intro f
  induction f with
  | zero =>
    intro k hk
    obtain rfl : k = 4 := by omega
    refine x_iload_n cx dX3_init_14 rfl rfl ?_
    refine x_aload_n cx dX3_init_15 rfl rfl ?_
    refine x_getX3 cx 0 (by decide) (fl_X3_11 cx) (zok_7 (by decide)) (show 28 < _ by omega) (hset_ne (fun z => absurd z.2 (by decide)) hset_same) rfl dX3_init_16 ?_
    refine x_alenq cx 3 rfl (zok_7 (by decide)) (show 29 < _ by omega) hset_same dX3_init_19 ?_
    refine x_icmp_ge_t (tgt := 42) cx dX3_init_20 (by decide) (by decide) ?_
    refine x_aload_n cx dX3_init_42 rfl rfl ?_
    refine x_iconst (v := 0) cx dX3_init_43 (by decide) ?_
    refine x_putX3 (h' := hset (hset F 7 1 (.inr (2, [.ref (zad G 7 2), .int 0]))) 7 2 (.inl (G.2.1 3, 4, .inr (.inr (.inr (.inr (rfs (fun q => zad G (q + 3) 0) 4))))))) cx 1 (by decide) (fl_X3_18 cx) (zok_7 (by decide)) (show 28 < _ by omega) (hset_ne (fun z => absurd z.2 (by decide)) hset_same) rfl rfl rfl (Nat.le_of_ble_eq_true rfl) (fun i2 j2 _ _ => hset_swap (fun z => absurd z.2 (by decide)) i2 j2) dX3_init_44 ?_
    refine x_conv (h' := F) (fun i2 j2 hok _ => ?_) ?_
    · unfold hset
      by_cases hb1 : i2 = 7 ∧ j2 = 2
      · obtain ⟨rfl, rfl⟩ := hb1
        rw [if_pos ⟨rfl, rfl⟩]; exact hF2
      · rw [if_neg hb1]
        by_cases hb0 : i2 = 7 ∧ j2 = 1
        · obtain ⟨rfl, rfl⟩ := hb0
          rw [if_pos ⟨rfl, rfl⟩]; exact hF1
        · rw [if_neg hb0]
    exact x_idx (by omega) (by omega) (by omega) (x_vret cx hr (fun _ _ _ _ => rfl) dX3_init_47)
  | succ f ih =>
    intro k hk
    have hz := zix_r (k := k) (by omega)
    have hk7 : k + 3 < 7 := by omega
    have hfr : fresh G (hset (hset F 7 1 (.inr (2, [.ref (zad G 7 2), .int 0]))) 7 2 (.inl (G.2.1 3, 4, .inr (.inr (.inr (.inr (rfs (fun q => zad G (q + 3) 0) k))))))) (k + 3) := fun j hj => hset_ne (fun z => absurd z.1 (by omega)) (hset_ne (fun z => absurd z.1 (by omega)) (hF (k + 3) (by omega) hk7 j hj))
    refine x_iload_n cx dX3_init_14 rfl rfl ?_
    refine x_aload_n cx dX3_init_15 rfl rfl ?_
    refine x_getX3 cx 0 (by decide) (fl_X3_11 cx) (zok_7 (by decide)) (show 28 < _ by omega) (hset_ne (fun z => absurd z.2 (by decide)) hset_same) rfl dX3_init_16 ?_
    refine x_alenq cx 3 rfl (zok_7 (by decide)) (show 29 < _ by omega) hset_same dX3_init_19 ?_
    refine x_icmp_ge_f (tgt := 42) cx dX3_init_20 (by decide) (nI_ge (b := 4) (by omega) (by decide)) ?_
    refine x_aload_n cx dX3_init_23 rfl rfl ?_
    refine x_getX3 cx 0 (by decide) (fl_X3_11 cx) (zok_7 (by decide)) (show 28 < _ by omega) (hset_ne (fun z => absurd z.2 (by decide)) hset_same) rfl dX3_init_24 ?_
    refine x_iload_n cx dX3_init_27 rfl rfl ?_
    refine x_newX0 (h2 := hset (hset (hset F 7 1 (.inr (2, [.ref (zad G 7 2), .int 0]))) 7 2 (.inl (G.2.1 3, 4, .inr (.inr (.inr (.inr (rfs (fun q => zad G (q + 3) 0) k))))))) (k + 3) 0 (.inr (0, oX0 .null .null))) (i := k + 3) (j := 0) cx zt104 zt22 zt7 (zok_c hk7 (by decide)) hz df_X0 ⟨by show _ ≤ 37; omega, by show _ ≤ 300; omega⟩ hb (fun _ _ _ _ => rfl) dX3_init_28 ?_
    refine x_idx rfl rfl (show 30 + 9 * k + 1 = zix (k + 3) 0 + 1 by omega) ?_
    refine x_dup cx dX3_init_31 rfl ?_
    refine x_Iv (As := []) (rest := [_, _, _]) cx (c_X0_init l G _ (k + 3) hk7 hfr) (zG0 zt25) zt7 zt106 zt24 rfl ndX0_init ⟨Nat.le_of_ble_eq_true rfl, Nat.le_of_ble_eq_true rfl⟩ rfl rfl (Nat.le_of_ble_eq_true rfl) dX3_init_32 ⟨by show _ ≤ 37; omega, by show _ ≤ 300; omega⟩ ?_
    refine x_aast (h' := hset (hset F 7 1 (.inr (2, [.ref (zad G 7 2), .int 0]))) 7 2 (.inl (G.2.1 3, 4, .inr (.inr (.inr (.inr (rfs (fun q => zad G (q + 3) 0) (k + 1)))))))) (t := k) (i2 := k + 3) (j2 := 0) cx 3 rfl (zok_7 (by decide)) (show 29 < _ by omega) hset_same (zok_c hk7 (by decide)) (by omega) (hfr 0 (by decide)) rfl rfl (by omega) (by decide) (fun i2 j2 _ _ => by rw [hset_hset, rfs_s]) dX3_init_35 ?_
    refine x_iinc (v := nI (k + 1)) (ls' := [_, _]) cx dX3_init_36 rfl (nI_inc _) (by decide) rfl ?_
    refine x_goto (tgt := 14) cx dX3_init_39 (by decide) ?_
    exact x_idx (by omega) (by omega) (by omega) (ih (k + 1) (by omega))

set_option maxHeartbeats 4000000 in
set_option maxRecDepth 100000 in
theorem c_X5_init (l : Launch) (G : zG) (F : zH) (hF3 : F 7 3 = .inr (3, [.ref (zad G 7 4), .int 0])) (hF4 : F 7 4 = .inl (G.2.1 1, 80, .inl (fun _ => 0))) : Met l yX5_init (zws yX5_init cX5_init 1 none) (zrm 1 1 80 20) (zPc G 67 (hset F 7 3 (.inr (3, [.null, .int 0]))) [.ref (zad G 7 3)]) (zQv G 68 (F)) 1 80 (zA G) := by
  refine zMetN npX5_init rfl (Nat.le_of_ble_eq_true rfl) ?_
  intro p e s m args below meth cd hargs cx hr hin0 hb
  have cx : Cx p s m args meth cd cX5_init 1 RX5 G := cx
  refine x_ls (ls' := [some (.ref (zad G 7 3))]) rfl (fun _ h => h) ?_
  refine x_aload_n cx dX5_init_0 rfl rfl ?_
  refine x_objInit cx zt120 zt19 zt20 dX5_init_1 ⟨Nat.le_of_ble_eq_true rfl, Nat.le_of_ble_eq_true rfl⟩ (Nat.le_of_ble_eq_true rfl) ?_
  refine x_aload_n cx dX5_init_4 rfl rfl ?_
  refine x_bipush (v := 80) cx dX5_init_5 (by decide) ?_
  refine x_newa_char (h2 := hset F 7 3 (.inr (3, [.null, .int 0]))) (i := 7) (j := 4) (N := 80) cx zt131 (zok_7 (by decide)) rfl rfl (by decide) ⟨by show _ ≤ 1; omega, by show _ ≤ 80; omega⟩ (fun i2 j2 _ _ => hset_selfS (hset_ne (fun z => absurd z.2 (by decide)) hF4) i2 j2) dX5_init_7 ?_
  refine x_putFX5 (h' := hset F 7 3 (.inr (3, [.ref (zad G 7 4), .int 0]))) cx 0 (by decide) (cx.1.2.2.2.2 _ zt121) (hin0 rfl) (zok_7 (by decide)) (by decide) hset_same rfl rfl rfl rfl (Nat.le_of_ble_eq_true rfl) (fun i2 j2 _ _ => (hset_hset i2 j2).symm) dX5_init_9 ?_
  refine x_aload_n cx dX5_init_12 rfl rfl ?_
  refine x_iconst (v := 0) cx dX5_init_13 (by decide) ?_
  refine x_putX5 (h' := hset F 7 3 (.inr (3, [.ref (zad G 7 4), .int 0]))) cx 1 (by decide) (fl_X5_15 cx) (zok_7 (by decide)) (by decide) hset_same rfl rfl rfl (Nat.le_of_ble_eq_true rfl) (fun i2 j2 _ _ => (hset_hset i2 j2).symm) dX5_init_14 ?_
  exact x_vret cx hr (fun i2 j2 _ _ => hset_selfS hF3 i2 j2) dX5_init_17

set_option maxHeartbeats 4000000 in
set_option maxRecDepth 100000 in
theorem c_X6_init (l : Launch) (G : zG) (F : zH) (hF : ∀ i, i < 7 → fresh G F i) (hF0 : F 7 0 = .inr (4, [.ref (zad G 0 0), .ref (zad G 1 0), .ref (zad G 2 0), .int 0, .ref (zad G 7 1), .ref (zad G 7 3)])) (hF1 : F 7 1 = .inr (2, [.ref (zad G 7 2), .int 0])) (hF2 : F 7 2 = .inl (G.2.1 3, 4, .inr (.inr (.inr (.inr (fun k => if k < 4 then some (zad G (k + 3) 0) else none)))))) (hF3 : F 7 3 = .inr (3, [.ref (zad G 7 4), .int 0])) (hF4 : F 7 4 = .inl (G.2.1 1, 80, .inl (fun _ => 0))) : Met l yX6_init (zws yX6_init cX6_init 1 none) (zrm 4 67 606 82) (zPc G 1 (hset F 7 0 (.inr (4, [.null, .null, .null, .int 0, .null, .null]))) [.ref (zad G 7 0)]) (zQv G 68 (F)) 67 606 (zA G) := by
  refine zMetN npX6_init rfl (Nat.le_of_ble_eq_true rfl) ?_
  intro p e s m args below meth cd hargs cx hr hin0 hb
  have cx : Cx p s m args meth cd cX6_init 1 RX6 G := cx
  refine x_ls (ls' := [some (.ref (zad G 7 0))]) rfl (fun _ h => h) ?_
  refine x_aload_n cx dX6_init_0 rfl rfl ?_
  refine x_objInit cx zt18 zt19 zt20 dX6_init_1 ⟨Nat.le_of_ble_eq_true rfl, Nat.le_of_ble_eq_true rfl⟩ (Nat.le_of_ble_eq_true rfl) ?_
  refine x_aload_n cx dX6_init_4 rfl rfl ?_
  have hfr0 : fresh G (hset F 7 0 (.inr (4, [.null, .null, .null, .int 0, .null, .null]))) 0 := fun j hj => hset_ne (fun z => absurd z.1 (by decide)) (hF 0 (by decide) j hj)
  refine x_newX0 (h2 := hset (hset F 7 0 (.inr (4, [.null, .null, .null, .int 0, .null, .null]))) 0 0 (.inr (0, oX0 .null .null))) (i := 0) (j := 0) cx zt21 zt22 zt7 (zok_c (by decide) (by decide)) rfl df_X0 ⟨Nat.le_of_ble_eq_true rfl, Nat.le_of_ble_eq_true rfl⟩ hb (fun _ _ _ _ => rfl) dX6_init_5 ?_
  refine x_dup cx dX6_init_8 rfl ?_
  refine x_Iv (As := []) (rest := [_, _]) cx (c_X0_init l G _ 0 (by decide) hfr0) (zG0 zt25) zt7 zt23 zt24 rfl ndX0_init ⟨Nat.le_of_ble_eq_true rfl, Nat.le_of_ble_eq_true rfl⟩ rfl rfl (Nat.le_of_ble_eq_true rfl) dX6_init_9 ⟨Nat.le_of_ble_eq_true rfl, Nat.le_of_ble_eq_true rfl⟩ ?_
  refine x_putFX6 (h' := hset F 7 0 (.inr (4, [.ref (zad G 0 0), .null, .null, .int 0, .null, .null]))) cx 0 (by decide) (cx.1.2.2.2.2 _ zt132) (hin0 rfl) (zok_7 (by decide)) (by decide) hset_same rfl rfl rfl rfl (Nat.le_of_ble_eq_true rfl) (fun i2 j2 _ _ => (hset_hset i2 j2).symm) dX6_init_12 ?_
  refine x_aload_n cx dX6_init_15 rfl rfl ?_
  have hfr1 : fresh G (hset F 7 0 (.inr (4, [.ref (zad G 0 0), .null, .null, .int 0, .null, .null]))) 1 := fun j hj => hset_ne (fun z => absurd z.1 (by decide)) (hF 1 (by decide) j hj)
  refine x_newX0 (h2 := hset (hset F 7 0 (.inr (4, [.ref (zad G 0 0), .null, .null, .int 0, .null, .null]))) 1 0 (.inr (0, oX0 .null .null))) (i := 1) (j := 0) cx zt21 zt22 zt7 (zok_c (by decide) (by decide)) rfl df_X0 ⟨Nat.le_of_ble_eq_true rfl, Nat.le_of_ble_eq_true rfl⟩ hb (fun _ _ _ _ => rfl) dX6_init_16 ?_
  refine x_dup cx dX6_init_19 rfl ?_
  refine x_Iv (As := []) (rest := [_, _]) cx (c_X0_init l G _ 1 (by decide) hfr1) (zG0 zt25) zt7 zt23 zt24 rfl ndX0_init ⟨Nat.le_of_ble_eq_true rfl, Nat.le_of_ble_eq_true rfl⟩ rfl rfl (Nat.le_of_ble_eq_true rfl) dX6_init_20 ⟨Nat.le_of_ble_eq_true rfl, Nat.le_of_ble_eq_true rfl⟩ ?_
  refine x_putFX6 (h' := hset F 7 0 (.inr (4, [.ref (zad G 0 0), .ref (zad G 1 0), .null, .int 0, .null, .null]))) cx 1 (by decide) (cx.1.2.2.2.2 _ zt133) (hin0 rfl) (zok_7 (by decide)) (by decide) hset_same rfl rfl rfl rfl (Nat.le_of_ble_eq_true rfl) (fun i2 j2 _ _ => (hset_hset i2 j2).symm) dX6_init_23 ?_
  refine x_aload_n cx dX6_init_26 rfl rfl ?_
  have hfr2 : fresh G (hset F 7 0 (.inr (4, [.ref (zad G 0 0), .ref (zad G 1 0), .null, .int 0, .null, .null]))) 2 := fun j hj => hset_ne (fun z => absurd z.1 (by decide)) (hF 2 (by decide) j hj)
  refine x_newX0 (h2 := hset (hset F 7 0 (.inr (4, [.ref (zad G 0 0), .ref (zad G 1 0), .null, .int 0, .null, .null]))) 2 0 (.inr (0, oX0 .null .null))) (i := 2) (j := 0) cx zt21 zt22 zt7 (zok_c (by decide) (by decide)) rfl df_X0 ⟨Nat.le_of_ble_eq_true rfl, Nat.le_of_ble_eq_true rfl⟩ hb (fun _ _ _ _ => rfl) dX6_init_27 ?_
  refine x_dup cx dX6_init_30 rfl ?_
  refine x_Iv (As := []) (rest := [_, _]) cx (c_X0_init l G _ 2 (by decide) hfr2) (zG0 zt25) zt7 zt23 zt24 rfl ndX0_init ⟨Nat.le_of_ble_eq_true rfl, Nat.le_of_ble_eq_true rfl⟩ rfl rfl (Nat.le_of_ble_eq_true rfl) dX6_init_31 ⟨Nat.le_of_ble_eq_true rfl, Nat.le_of_ble_eq_true rfl⟩ ?_
  refine x_putFX6 (h' := hset F 7 0 (.inr (4, [.ref (zad G 0 0), .ref (zad G 1 0), .ref (zad G 2 0), .int 0, .null, .null]))) cx 2 (by decide) (cx.1.2.2.2.2 _ zt134) (hin0 rfl) (zok_7 (by decide)) (by decide) hset_same rfl rfl rfl rfl (Nat.le_of_ble_eq_true rfl) (fun i2 j2 _ _ => (hset_hset i2 j2).symm) dX6_init_34 ?_
  refine x_aload_n cx dX6_init_37 rfl rfl ?_
  refine x_iconst (v := 0) cx dX6_init_38 (by decide) ?_
  refine x_putX6 (h' := hset F 7 0 (.inr (4, [.ref (zad G 0 0), .ref (zad G 1 0), .ref (zad G 2 0), .int 0, .null, .null]))) cx 3 (by decide) (fl_X6_22 cx) (zok_7 (by decide)) (by decide) hset_same rfl rfl rfl (Nat.le_of_ble_eq_true rfl) (fun i2 j2 _ _ => (hset_hset i2 j2).symm) dX6_init_39 ?_
  refine x_aload_n cx dX6_init_42 rfl rfl ?_
  refine x_newX3 (h2 := hset (hset F 7 0 (.inr (4, [.ref (zad G 0 0), .ref (zad G 1 0), .ref (zad G 2 0), .int 0, .null, .null]))) 7 1 (.inr (2, [.null, .int 0]))) (i := 7) (j := 1) cx zt98 zt99 zt9 (zok_7 (by decide)) rfl df_X3 ⟨Nat.le_of_ble_eq_true rfl, Nat.le_of_ble_eq_true rfl⟩ hb (fun _ _ _ _ => rfl) dX6_init_43 ?_
  refine x_dup cx dX6_init_46 rfl ?_
  refine x_Iv (As := []) (rest := [_, _]) cx (c_X3_init l G (hset F 7 0 (.inr (4, [.ref (zad G 0 0), .ref (zad G 1 0), .ref (zad G 2 0), .int 0, .null, .null]))) (fun i h3 h7 j hj => hset_ne (fun z => absurd z.1 (by omega)) (hF i h7 j hj)) (hset_ne (fun z => absurd z.2 (by decide)) hF1) (hset_ne (fun z => absurd z.2 (by decide)) hF2)) (zG0 zt102) zt9 zt100 zt101 rfl ndX3_init ⟨Nat.le_of_ble_eq_true rfl, Nat.le_of_ble_eq_true rfl⟩ rfl rfl (Nat.le_of_ble_eq_true rfl) dX6_init_47 ⟨Nat.le_of_ble_eq_true rfl, Nat.le_of_ble_eq_true rfl⟩ ?_
  refine x_putFX6 (h' := hset F 7 0 (.inr (4, [.ref (zad G 0 0), .ref (zad G 1 0), .ref (zad G 2 0), .int 0, .ref (zad G 7 1), .null]))) cx 4 (by decide) (cx.1.2.2.2.2 _ zt136) (hin0 rfl) (zok_7 (by decide)) (by decide) hset_same rfl rfl rfl rfl (Nat.le_of_ble_eq_true rfl) (fun i2 j2 _ _ => (hset_hset i2 j2).symm) dX6_init_50 ?_
  refine x_aload_n cx dX6_init_53 rfl rfl ?_
  refine x_newX5 (h2 := hset (hset F 7 0 (.inr (4, [.ref (zad G 0 0), .ref (zad G 1 0), .ref (zad G 2 0), .int 0, .ref (zad G 7 1), .null]))) 7 3 (.inr (3, [.null, .int 0]))) (i := 7) (j := 3) cx zt115 zt116 zt10 (zok_7 (by decide)) rfl df_X5 ⟨Nat.le_of_ble_eq_true rfl, Nat.le_of_ble_eq_true rfl⟩ hb (fun _ _ _ _ => rfl) dX6_init_54 ?_
  refine x_dup cx dX6_init_57 rfl ?_
  refine x_Iv (As := []) (rest := [_, _]) cx (c_X5_init l G (hset F 7 0 (.inr (4, [.ref (zad G 0 0), .ref (zad G 1 0), .ref (zad G 2 0), .int 0, .ref (zad G 7 1), .null]))) (hset_ne (fun z => absurd z.2 (by decide)) hF3) (hset_ne (fun z => absurd z.2 (by decide)) hF4)) (zG0 zt119) zt10 zt117 zt118 rfl ndX5_init ⟨Nat.le_of_ble_eq_true rfl, Nat.le_of_ble_eq_true rfl⟩ rfl rfl (Nat.le_of_ble_eq_true rfl) dX6_init_58 ⟨Nat.le_of_ble_eq_true rfl, Nat.le_of_ble_eq_true rfl⟩ ?_
  refine x_putFX6 (h' := hset F 7 0 (.inr (4, [.ref (zad G 0 0), .ref (zad G 1 0), .ref (zad G 2 0), .int 0, .ref (zad G 7 1), .ref (zad G 7 3)]))) cx 5 (by decide) (cx.1.2.2.2.2 _ zt137) (hin0 rfl) (zok_7 (by decide)) (by decide) hset_same rfl rfl rfl rfl (Nat.le_of_ble_eq_true rfl) (fun i2 j2 _ _ => (hset_hset i2 j2).symm) dX6_init_61 ?_
  exact x_vret cx hr (fun i2 j2 _ _ => hset_selfS hF0 i2 j2) dX6_init_64

