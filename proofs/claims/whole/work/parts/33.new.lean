set_option maxHeartbeats 4000000 in
set_option maxRecDepth 100000 in
theorem c_X1_init (l : Launch) (G : zG) (n : Nat) (F : zH) (i j : Nat) : Met l yX1_init (zws yX1_init cX1_init 1 none) (zrm 1 0 0 20) (zPc G n (F) [.ref (zad G i j)]) (zQv G n (F)) 0 0 (zA G) := by
  refine zMetN npX1_init rfl (Nat.le_of_ble_eq_true rfl) ?_
  intro p e s m args below meth cd hargs cx hr hin0 hb
  have cx : Cx p s m args meth cd cX1_init 1 RX1 G := cx
  refine x_ls (ls' := [some (.ref (zad G i j))]) rfl (fun _ h => h) ?_
  refine x_aload_n cx dX1_init_0 rfl rfl ?_
  refine x_objInit cx zt60 zt46 zt47 dX1_init_1 ⟨Nat.le_of_ble_eq_true rfl, Nat.le_of_ble_eq_true rfl⟩ (Nat.le_of_ble_eq_true rfl) ?_
  exact x_vret cx hr (fun _ _ _ _ => rfl) dX1_init_4

set_option maxHeartbeats 4000000 in
set_option maxRecDepth 100000 in
theorem c_X0_init (l : Launch) (G : zG) (F : zH) (i : Nat) (hi : i < 7) (hF : fresh G F i) : Met l yX0_init (zws yX0_init cX0_init 2 none) (zrm 2 8 68 40) (zPc G (zix i 0 + 1) (hset F i 0 (.inr (0, oX0 .null .null))) [.ref (zad G i 0)]) (zQv G (zix i 0 + 9) (F)) 8 68 (zA G) := by
  refine zMetN npX0_init rfl (Nat.le_of_ble_eq_true rfl) ?_
  intro p e s m args below meth cd hargs cx hr hin0 hb
  have cx : Cx p s m args meth cd cX0_init 2 RX0 G := cx
  refine x_ls (ls' := [some (.ref (zad G i 0)), none]) rfl (fun _ h => h) ?_
  have hz1 : zix i 1 = zix i 0 + 1 := zix_i hi 1
  have hz2 : zix i 2 = zix i 0 + 8 := zix_i hi 2
  refine x_aload_n cx dX0_init_0 rfl rfl ?_
  refine x_objInit cx zt53 zt46 zt47 dX0_init_1 ⟨Nat.le_of_ble_eq_true rfl, Nat.le_of_ble_eq_true rfl⟩ (Nat.le_of_ble_eq_true rfl) ?_
  refine x_aload_n cx dX0_init_4 rfl rfl ?_
  refine x_bipush (v := 6) cx dX0_init_5 (by decide) ?_
  refine x_newq (h2 := hset (hset F i 0 (.inr (0, oX0 .null .null))) i 1 (.inl (G.2.1 2, 6, .inr (.inr (.inr (.inr (rfs (fun q => zad G i (q + 3)) 0))))))) (i := i) (j := 1) (N := 6) cx 2 rfl zt54 cx.2.1.2.2.1 (zok_c hi (by omega)) hz1 rfl (by decide) ⟨by show _ ≤ 8; omega, by show _ ≤ 68; omega⟩ (fun _ _ _ _ => by rw [rfs_z]) dX0_init_7 ?_
  refine x_putFX0 (h' := hset (hset F i 0 (.inr (0, oX0 (.ref (zad G i 1)) .null))) i 1 (.inl (G.2.1 2, 6, .inr (.inr (.inr (.inr (rfs (fun q => zad G i (q + 3)) 0))))))) cx 0 (by decide) (cx.1.2.2.2.2 _ zt95) (hin0 rfl) (zok_c hi (by omega)) (by omega) (hset_ne (fun z => absurd z.2 (by decide)) hset_same) rfl rfl rfl rfl (Nat.le_of_ble_eq_true rfl) (fun i2 j2 _ _ => hset_swap (fun z => absurd z.2 (by decide)) i2 j2) dX0_init_10 ?_
  refine x_iconst (v := 0) cx dX0_init_13 (by decide) ?_
  refine x_istore_n (ls' := [_, _]) cx dX0_init_14 rfl (by decide) rfl ?_
  suffices K : ∀ f k : Nat, k + f = 6 → Xh p l e (zrm 2 8 68 40) s m args below meth cd 2 G (MQ below (zQv G (zix i 0 + 9) F) args s 8 68 (zA G)) (1 + k) (6 + 9 * k) (zix i 0 + 2 + k) (hset (hset F i 0 (.inr (0, oX0 (.ref (zad G i 1)) .null))) i 1 (.inl (G.2.1 2, 6, .inr (.inr (.inr (.inr (rfs (fun q => zad G i (q + 3)) k))))))) 15 [some (.ref (zad G i 0)), some (.int (nI k))] [] from x_idx (by omega) (by omega) (by omega) (K 6 0 rfl)
  intro f
  induction f with
  | zero =>
    intro k hk
    obtain rfl : k = 6 := by omega
    have hx2 : ∀ (o : List Value) (g : Nat → Option Nat), hset (hset F i 0 (.inr (0, o))) i 1 (.inl (G.2.1 2, 6, .inr (.inr (.inr (.inr g))))) i 2 = .inl (G.2.1 0, 8, .inl (fun _ => 0)) := fun o g => hset_ne (fun z => absurd z.2 (by decide)) (hset_ne (fun z => absurd z.2 (by decide)) ((hF 2 (by decide)).trans (by rw [← tr0 8]; rfl)))
    refine x_iload_n cx dX0_init_15 rfl rfl ?_
    refine x_aload_n cx dX0_init_16 rfl rfl ?_
    refine x_getX0 cx 0 (by decide) (fl_X0_11 cx) (zok_c hi (by decide)) (by omega) (hset_ne (fun z => absurd z.2 (by decide)) hset_same) rfl dX0_init_17 ?_
    refine x_alenq cx 2 rfl (zok_c hi (by decide)) (by omega) hset_same dX0_init_20 ?_
    refine x_icmp_ge_t (tgt := 43) cx dX0_init_21 (by decide) (by decide) ?_
    refine x_aload_n cx dX0_init_43 rfl rfl ?_
    refine x_iconst (v := 0) cx dX0_init_44 (by decide) ?_
    refine x_putX0 (h' := hset (hset F i 0 (.inr (0, oX0 (.ref (zad G i 1)) .null))) i 1 (.inl (G.2.1 2, 6, .inr (.inr (.inr (.inr (rfs (fun q => zad G i (q + 3)) 6))))))) cx 1 (by decide) (fl_X0_18 cx) (zok_c hi (by omega)) (by omega) (hset_ne (fun z => absurd z.2 (by decide)) hset_same) rfl rfl rfl (Nat.le_of_ble_eq_true rfl) (fun i2 j2 _ _ => hset_swap (fun z => absurd z.2 (by decide)) i2 j2) dX0_init_45 ?_
    refine x_aload_n cx dX0_init_48 rfl rfl ?_
    refine x_iconst (v := 0) cx dX0_init_49 (by decide) ?_
    refine x_putX0 (h' := hset (hset F i 0 (.inr (0, oX0 (.ref (zad G i 1)) .null))) i 1 (.inl (G.2.1 2, 6, .inr (.inr (.inr (.inr (rfs (fun q => zad G i (q + 3)) 6))))))) cx 2 (by decide) (fl_X0_24 cx) (zok_c hi (by omega)) (by omega) (hset_ne (fun z => absurd z.2 (by decide)) hset_same) rfl rfl rfl (Nat.le_of_ble_eq_true rfl) (fun i2 j2 _ _ => hset_swap (fun z => absurd z.2 (by decide)) i2 j2) dX0_init_50 ?_
    refine x_aload_n cx dX0_init_53 rfl rfl ?_
    refine x_iconst (v := 0) cx dX0_init_54 (by decide) ?_
    refine x_putX0 (h' := hset (hset F i 0 (.inr (0, oX0 (.ref (zad G i 1)) .null))) i 1 (.inl (G.2.1 2, 6, .inr (.inr (.inr (.inr (rfs (fun q => zad G i (q + 3)) 6))))))) cx 3 (by decide) (fl_X0_27 cx) (zok_c hi (by omega)) (by omega) (hset_ne (fun z => absurd z.2 (by decide)) hset_same) rfl rfl rfl (Nat.le_of_ble_eq_true rfl) (fun i2 j2 _ _ => hset_swap (fun z => absurd z.2 (by decide)) i2 j2) dX0_init_55 ?_
    refine x_aload_n cx dX0_init_58 rfl rfl ?_
    refine x_bipush (v := 8) cx dX0_init_59 (by decide) ?_
    refine x_newa_int (h2 := hset (hset F i 0 (.inr (0, oX0 (.ref (zad G i 1)) .null))) i 1 (.inl (G.2.1 2, 6, .inr (.inr (.inr (.inr (rfs (fun q => zad G i (q + 3)) 6))))))) (i := i) (j := 2) (N := 8) cx zt124 (zok_c hi (by omega)) (by omega) rfl (by decide) ⟨by show _ ≤ 8; omega, by show _ ≤ 68; omega⟩ (fun i2 j2 _ _ => hset_selfS (hx2 _ _) i2 j2) dX0_init_61 ?_
    refine x_putFX0 (h' := hset (hset F i 0 (.inr (0, oX0 (.ref (zad G i 1)) (.ref (zad G i 2))))) i 1 (.inl (G.2.1 2, 6, .inr (.inr (.inr (.inr (rfs (fun q => zad G i (q + 3)) 6))))))) cx 4 (by decide) (cx.1.2.2.2.2 _ zt106) (hin0 rfl) (zok_c hi (by omega)) (by omega) (hset_ne (fun z => absurd z.2 (by decide)) hset_same) rfl rfl rfl rfl (Nat.le_of_ble_eq_true rfl) (fun i2 j2 _ _ => hset_swap (fun z => absurd z.2 (by decide)) i2 j2) dX0_init_63 ?_
    refine x_aload_n cx dX0_init_66 rfl rfl ?_
    refine x_iconst (v := 0) cx dX0_init_67 (by decide) ?_
    refine x_putX0 (h' := hset (hset F i 0 (.inr (0, oX0 (.ref (zad G i 1)) (.ref (zad G i 2))))) i 1 (.inl (G.2.1 2, 6, .inr (.inr (.inr (.inr (rfs (fun q => zad G i (q + 3)) 6))))))) cx 5 (by decide) (fl_X0_34 cx) (zok_c hi (by omega)) (by omega) (hset_ne (fun z => absurd z.2 (by decide)) hset_same) rfl rfl rfl (Nat.le_of_ble_eq_true rfl) (fun i2 j2 _ _ => hset_swap (fun z => absurd z.2 (by decide)) i2 j2) dX0_init_68 ?_
    refine x_convC (h' := F) (fun i2 j2 hok _ => ?_) ?_
    · unfold hset
      by_cases hb1 : i2 = i ∧ j2 = 1
      · obtain ⟨rfl, rfl⟩ := hb1
        exact Or.inr ⟨_, _, _, _, if_pos ⟨rfl, rfl⟩, (hF 1 (by decide)).trans rfl, fun k hk => if_pos hk⟩
      · rw [if_neg hb1]
        by_cases hb0 : i2 = i ∧ j2 = 0
        · obtain ⟨rfl, rfl⟩ := hb0
          rw [if_pos ⟨rfl, rfl⟩]
          exact Or.inl (hF 0 (by decide))
        · rw [if_neg hb0]; exact Or.inl rfl
    exact x_idx (by omega) (by omega) (by omega) (x_vret cx hr (fun _ _ _ _ => rfl) dX0_init_71)
  | succ f ih =>
    intro k hk
    have hz3 : zix i (k + 3) = zix i 0 + (k + 2) := zix_k hi
    have hx3 : ∀ (o : List Value) (g : Nat → Option Nat), hset (hset F i 0 (.inr (0, o))) i 1 (.inl (G.2.1 2, 6, .inr (.inr (.inr (.inr g))))) i (k + 3) = .inr (1, chipL (fun _ => 0)) := fun o g => hset_ne (fun z => absurd z.2 (by omega)) (hset_ne (fun z => absurd z.2 (by omega)) ((hF (k + 3) (by omega)).trans (by unfold picC; rw [if_neg (by omega), if_neg (by omega), if_neg (by omega)])))
    refine x_iload_n cx dX0_init_15 rfl rfl ?_
    refine x_aload_n cx dX0_init_16 rfl rfl ?_
    refine x_getX0 cx 0 (by decide) (fl_X0_11 cx) (zok_c hi (by decide)) (by omega) (hset_ne (fun z => absurd z.2 (by decide)) hset_same) rfl dX0_init_17 ?_
    refine x_alenq cx 2 rfl (zok_c hi (by decide)) (by omega) hset_same dX0_init_20 ?_
    refine x_icmp_ge_f (tgt := 43) cx dX0_init_21 (by decide) (nI_ge (b := 6) (by omega) (by decide)) ?_
    refine x_aload_n cx dX0_init_24 rfl rfl ?_
    refine x_getX0 cx 0 (by decide) (fl_X0_11 cx) (zok_c hi (by decide)) (by omega) (hset_ne (fun z => absurd z.2 (by decide)) hset_same) rfl dX0_init_25 ?_
    refine x_iload_n cx dX0_init_28 rfl rfl ?_
    refine x_newX1 (h2 := hset (hset F i 0 (.inr (0, oX0 (.ref (zad G i 1)) .null))) i 1 (.inl (G.2.1 2, 6, .inr (.inr (.inr (.inr (rfs (fun q => zad G i (q + 3)) k))))))) (i := i) (j := k + 3) cx zt54 zt56 zt34 (zok_c hi (by omega)) (by omega) df_X1 ⟨by show _ ≤ 8; omega, by show _ ≤ 68; omega⟩ hb (fun i2 j2 _ _ => hset_selfS (hx3 _ _) i2 j2) dX0_init_29 ?_
    refine x_dup cx dX0_init_32 rfl ?_
    refine x_INv (As := []) (rest := [_, _, _]) cx (c_X1_init l G _ _ i (k + 3)) (zG0 zt59) zt34 (ml_X0_17 cx) zt58 rfl ndX1_init ⟨Nat.le_of_ble_eq_true rfl, Nat.le_of_ble_eq_true rfl⟩ rfl rfl (Nat.le_of_ble_eq_true rfl) dX0_init_33 ⟨by show _ ≤ 8; omega, by show _ ≤ 68; omega⟩ ?_
    refine x_aast (h' := hset (hset F i 0 (.inr (0, oX0 (.ref (zad G i 1)) .null))) i 1 (.inl (G.2.1 2, 6, .inr (.inr (.inr (.inr (rfs (fun q => zad G i (q + 3)) (k + 1)))))))) (t := k) (i2 := i) (j2 := k + 3) cx 2 rfl (zok_c hi (by decide)) (by omega) hset_same (zok_c hi (by omega)) (by omega) (hx3 _ _) rfl rfl (by omega) (by decide) (fun i2 j2 _ _ => by rw [hset_hset, rfs_s]) dX0_init_36 ?_
    refine x_iinc (v := nI (k + 1)) (ls' := [_, _]) cx dX0_init_37 rfl (nI_inc _) (by decide) rfl ?_
    refine x_goto (tgt := 15) cx dX0_init_40 (by decide) ?_
    exact x_idx (by omega) (by omega) (by omega) (ih (k + 1) (by omega))

