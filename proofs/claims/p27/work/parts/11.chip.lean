set_option maxHeartbeats 4000000 in
set_option maxRecDepth 100000 in
theorem c_X6_isWithin (l : Launch) (G : zG) (n : Nat) (h : zH) (x : Int32) (a : Int32) (b : Int32) : Met l yX6_isWithin (zws yX6_isWithin cX6_isWithin 3 (some .boolean)) (zrm 0 0 0 0) (zPc G n (h) [.int x, .int a, .int b]) (zQi G n (zin x a b) (h)) 0 0 (zA G) := by
  refine zMet npX6_isWithin rfl (Nat.le_of_ble_eq_true rfl) ?_
  intro p e s m args below meth cd hargs cx hr hin0
  have cx : Cx p s m args meth cd cX6_isWithin 3 RX6 G := cx
  refine x_ls (ls' := [some (.int x), some (.int a), some (.int b)]) rfl (fun _ h => h) ?_
  refine x_iload_n cx dX6_isWithin_0 rfl rfl ?_
  refine x_iload_n cx dX6_isWithin_1 rfl rfl ?_
  refine x_icmp_lt (tgt := 14) cx dX6_isWithin_2 (by decide) (fun hb2 => ?_) (fun hb2 => ?_)
  · refine x_iconst (v := 0) cx dX6_isWithin_14 (by decide) ?_
    exact x_zret cx hr (by simp [zin, hb2]) (by first | exact Or.inl rfl | exact Or.inr rfl) (fun _ _ _ _ => rfl) dX6_isWithin_15
  · refine x_iload_n cx dX6_isWithin_5 rfl rfl ?_
    refine x_iload_n cx dX6_isWithin_6 rfl rfl ?_
    refine x_icmp_gt (tgt := 14) cx dX6_isWithin_7 (by decide) (fun hb7 => ?_) (fun hb7 => ?_)
    · refine x_iconst (v := 0) cx dX6_isWithin_14 (by decide) ?_
      exact x_zret cx hr (by simp [zin, hb2, hb7]) (by first | exact Or.inl rfl | exact Or.inr rfl) (fun _ _ _ _ => rfl) dX6_isWithin_15
    · refine x_iconst (v := 1) cx dX6_isWithin_10 (by decide) ?_
      refine x_goto (tgt := 15) cx dX6_isWithin_11 (by decide) ?_
      exact x_zret cx hr (by simp [zin, hb2, hb7]) (by first | exact Or.inl rfl | exact Or.inr rfl) (fun _ _ _ _ => rfl) dX6_isWithin_15

set_option maxHeartbeats 4000000 in
set_option maxRecDepth 100000 in
theorem c_X6_isIdentity (l : Launch) (G : zG) (n : Nat) (h : zH) (x : Int32) : Met l yX6_isIdentity (zws yX6_isIdentity cX6_isIdentity 1 (some .boolean)) (zrm 1 0 0 22) (zPc G n (h) [.int x]) (zQi G n (zisId x) (h)) 0 0 (zA G) := by
  refine zMet npX6_isIdentity rfl (Nat.le_of_ble_eq_true rfl) ?_
  intro p e s m args below meth cd hargs cx hr hin0
  have cx : Cx p s m args meth cd cX6_isIdentity 1 RX6 G := cx
  refine x_ls (ls' := [some (.int x)]) rfl (fun _ h => h) ?_
  refine x_iload_n cx dX6_isIdentity_0 rfl rfl ?_
  refine x_if_eq (tgt := 22) cx dX6_isIdentity_1 (by decide) (fun hb1 => ?_) (fun hb1 => ?_)
  · refine x_iconst (v := 1) cx dX6_isIdentity_22 (by decide) ?_
    refine x_goto (tgt := 27) cx dX6_isIdentity_23 (by decide) ?_
    exact x_zret cx hr (by simp [zisId, hb1]) (by first | exact Or.inl rfl | exact Or.inr rfl) (fun _ _ _ _ => rfl) dX6_isIdentity_27
  · refine x_iload_n cx dX6_isIdentity_4 rfl rfl ?_
    refine x_iconst (v := 1) cx dX6_isIdentity_5 (by decide) ?_
    refine x_sipush (v := 253) cx dX6_isIdentity_6 (by decide) ?_
    refine x_Si (rest := []) cx (c_X6_isWithin l G _ _ _ _ _) gS_X6_40 ndX6_isWithin ⟨Nat.le_of_ble_eq_true rfl, Nat.le_of_ble_eq_true rfl⟩ rfl rfl (Nat.le_of_ble_eq_true rfl) dX6_isIdentity_9 ⟨Nat.le_of_ble_eq_true rfl, Nat.le_of_ble_eq_true rfl⟩ ?_
    refine x_if_eq (tgt := 26) cx dX6_isIdentity_12 (by decide) (fun hb12 => ?_) (fun hb12 => ?_)
    · refine x_iconst (v := 0) cx dX6_isIdentity_26 (by decide) ?_
      exact x_zret cx hr (by simp [zisId, hb1, hb12]) (by first | exact Or.inl rfl | exact Or.inr rfl) (fun _ _ _ _ => rfl) dX6_isIdentity_27
    · refine x_iload_n cx dX6_isIdentity_15 rfl rfl ?_
      refine x_iconst (v := 2) cx dX6_isIdentity_16 (by decide) ?_
      refine x_irem cx dX6_isIdentity_17 (by decide) ?_
      refine x_iconst (v := 1) cx dX6_isIdentity_18 (by decide) ?_
      refine x_icmp_ne (tgt := 26) cx dX6_isIdentity_19 (by decide) (fun hb19 => ?_) (fun hb19 => ?_)
      · refine x_iconst (v := 0) cx dX6_isIdentity_26 (by decide) ?_
        exact x_zret cx hr (by simp [zisId, hb1, hb12, hb19]) (by first | exact Or.inl rfl | exact Or.inr rfl) (fun _ _ _ _ => rfl) dX6_isIdentity_27
      · refine x_iconst (v := 1) cx dX6_isIdentity_22 (by decide) ?_
        refine x_goto (tgt := 27) cx dX6_isIdentity_23 (by decide) ?_
        exact x_zret cx hr (by simp [zisId, hb1, hb12, hb19]) (by first | exact Or.inl rfl | exact Or.inr rfl) (fun _ _ _ _ => rfl) dX6_isIdentity_27

set_option maxHeartbeats 4000000 in
set_option maxRecDepth 100000 in
theorem c_X6_allOnes (l : Launch) (G : zG) (n : Nat) (h : zH) (b : Int32) : Met l yX6_allOnes (zws yX6_allOnes cX6_allOnes 1 (some .int)) (zrm 0 0 0 0) (zPc G n (h) [.int b]) (zQi G n (zOnes b) (h)) 0 0 (zA G) := by
  refine zMet npX6_allOnes rfl (Nat.le_of_ble_eq_true rfl) ?_
  intro p e s m args below meth cd hargs cx hr hin0
  have cx : Cx p s m args meth cd cX6_allOnes 1 RX6 G := cx
  refine x_ls (ls' := [some (.int b)]) rfl (fun _ h => h) ?_
  refine x_iconst (v := 1) cx dX6_allOnes_0 (by decide) ?_
  refine x_iload_n cx dX6_allOnes_1 rfl rfl ?_
  refine x_ishl cx dX6_allOnes_2 ?_
  refine x_iconst (v := 1) cx dX6_allOnes_3 (by decide) ?_
  refine x_isub cx dX6_allOnes_4 ?_
  exact x_iret cx hr rfl (fun _ _ _ _ => rfl) dX6_allOnes_5

set_option maxHeartbeats 4000000 in
set_option maxRecDepth 100000 in
theorem c_X1_shifted (l : Launch) (G : zG) (n : Nat) (h : zH) (r : Int32) (b : Int32) (x : Int32) : Met l yX1_shifted (zws yX1_shifted cX1_shifted 3 (some .int)) (zrm 0 0 0 0) (zPc G n (h) [.int r, .int b, .int x]) (zQi G n (zSh r b x) (h)) 0 0 (zA G) := by
  refine zMet npX1_shifted rfl (Nat.le_of_ble_eq_true rfl) ?_
  intro p e s m args below meth cd hargs cx hr hin0
  have cx : Cx p s m args meth cd cX1_shifted 3 RX1 G := cx
  refine x_ls (ls' := [some (.int r), some (.int b), some (.int x)]) rfl (fun _ h => h) ?_
  refine x_iload_n cx dX1_shifted_0 rfl rfl ?_
  refine x_iconst (v := 1) cx dX1_shifted_1 (by decide) ?_
  refine x_ishr cx dX1_shifted_2 ?_
  refine x_iload_n cx dX1_shifted_3 rfl rfl ?_
  refine x_iload_n cx dX1_shifted_4 rfl rfl ?_
  refine x_iconst (v := 1) cx dX1_shifted_5 (by decide) ?_
  refine x_isub cx dX1_shifted_6 ?_
  refine x_ishl cx dX1_shifted_7 ?_
  refine x_ior cx dX1_shifted_8 ?_
  exact x_iret cx hr rfl (fun _ _ _ _ => rfl) dX1_shifted_9

set_option maxHeartbeats 4000000 in
set_option maxRecDepth 100000 in
theorem c_X1_selectsCells (l : Launch) (G : zG) (S : zS) (i t : Nat) (hi : i < 7) (ht : t < 6) (X : zCV) (c : Nat → Int32) : Met l yX1_selectsCells (zws yX1_selectsCells cX1_selectsCells 1 (some .boolean)) (zrm 0 0 0 0) (zPc G 68 (pic G (up S i (uj X (t + 3) c))) [.ref (zad G i (t + 3))]) (zQi G 68 (zselC c) (pic G (up S i (uj X (t + 3) (c))))) 0 0 (zA G) := by
  refine zMet npX1_selectsCells rfl (Nat.le_of_ble_eq_true rfl) ?_
  intro p e s m args below meth cd hargs cx hr hin0
  have cx : Cx p s m args meth cd cX1_selectsCells 1 RX1 G := cx
  refine x_ls (ls' := [some (.ref (zad G i (t + 3)))]) rfl (fun _ h => h) ?_
  refine x_aload_n cx dX1_selectsCells_0 rfl rfl ?_
  refine x_getX1 cx 6 (by decide) (fl_X1_37 cx) (zok_c hi (by omega)) (zix_c hi (by omega)) (pcC' hi _ _) rfl dX1_selectsCells_1 ?_
  refine x_if_eq (tgt := 15) cx dX1_selectsCells_4 (by decide) (fun hb4 => ?_) (fun hb4 => ?_)
  · refine x_iconst (v := 1) cx dX1_selectsCells_15 (by decide) ?_
    refine x_goto (tgt := 20) cx dX1_selectsCells_16 (by decide) ?_
    exact x_zret cx hr (by simp [zselC, zC, hb4]) (by first | exact Or.inl rfl | exact Or.inr rfl) (fun _ _ _ _ => rfl) dX1_selectsCells_20
  · refine x_aload_n cx dX1_selectsCells_7 rfl rfl ?_
    refine x_getX1 cx 6 (by decide) (fl_X1_37 cx) (zok_c hi (by omega)) (zix_c hi (by omega)) (pcC' hi _ _) rfl dX1_selectsCells_8 ?_
    refine x_iconst (v := 2) cx dX1_selectsCells_11 (by decide) ?_
    refine x_icmp_ne (tgt := 19) cx dX1_selectsCells_12 (by decide) (fun hb12 => ?_) (fun hb12 => ?_)
    · refine x_iconst (v := 0) cx dX1_selectsCells_19 (by decide) ?_
      exact x_zret cx hr (by simp [zselC, zC, hb4, hb12]) (by first | exact Or.inl rfl | exact Or.inr rfl) (fun _ _ _ _ => rfl) dX1_selectsCells_20
    · refine x_iconst (v := 1) cx dX1_selectsCells_15 (by decide) ?_
      refine x_goto (tgt := 20) cx dX1_selectsCells_16 (by decide) ?_
      exact x_zret cx hr (by simp [zselC, zC, hb4, hb12]) (by first | exact Or.inl rfl | exact Or.inr rfl) (fun _ _ _ _ => rfl) dX1_selectsCells_20

set_option maxHeartbeats 4000000 in
set_option maxRecDepth 100000 in
theorem c_X1_selectsIdentity (l : Launch) (G : zG) (S : zS) (i t : Nat) (hi : i < 7) (ht : t < 6) (X : zCV) (c : Nat → Int32) : Met l yX1_selectsIdentity (zws yX1_selectsIdentity cX1_selectsIdentity 1 (some .boolean)) (zrm 0 0 0 0) (zPc G 68 (pic G (up S i (uj X (t + 3) c))) [.ref (zad G i (t + 3))]) (zQi G 68 (zselI c) (pic G (up S i (uj X (t + 3) (c))))) 0 0 (zA G) := by
  refine zMet npX1_selectsIdentity rfl (Nat.le_of_ble_eq_true rfl) ?_
  intro p e s m args below meth cd hargs cx hr hin0
  have cx : Cx p s m args meth cd cX1_selectsIdentity 1 RX1 G := cx
  refine x_ls (ls' := [some (.ref (zad G i (t + 3)))]) rfl (fun _ h => h) ?_
  refine x_aload_n cx dX1_selectsIdentity_0 rfl rfl ?_
  refine x_getX1 cx 6 (by decide) (fl_X1_37 cx) (zok_c hi (by omega)) (zix_c hi (by omega)) (pcC' hi _ _) rfl dX1_selectsIdentity_1 ?_
  refine x_iconst (v := 1) cx dX1_selectsIdentity_4 (by decide) ?_
  refine x_icmp_ne (tgt := 19) cx dX1_selectsIdentity_5 (by decide) (fun hb5 => ?_) (fun hb5 => ?_)
  · refine x_iconst (v := 0) cx dX1_selectsIdentity_19 (by decide) ?_
    exact x_zret cx hr (by simp [zselI, zI, hb5]) (by first | exact Or.inl rfl | exact Or.inr rfl) (fun _ _ _ _ => rfl) dX1_selectsIdentity_20
  · refine x_aload_n cx dX1_selectsIdentity_8 rfl rfl ?_
    refine x_getX1 cx 1 (by decide) (fl_X1_15 cx) (zok_c hi (by omega)) (zix_c hi (by omega)) (pcC' hi _ _) rfl dX1_selectsIdentity_9 ?_
    refine x_if_eq (tgt := 19) cx dX1_selectsIdentity_12 (by decide) (fun hb12 => ?_) (fun hb12 => ?_)
    · refine x_iconst (v := 0) cx dX1_selectsIdentity_19 (by decide) ?_
      exact x_zret cx hr (by simp [zselI, zI, hb5, hb12]) (by first | exact Or.inl rfl | exact Or.inr rfl) (fun _ _ _ _ => rfl) dX1_selectsIdentity_20
    · refine x_iconst (v := 1) cx dX1_selectsIdentity_15 (by decide) ?_
      refine x_goto (tgt := 20) cx dX1_selectsIdentity_16 (by decide) ?_
      exact x_zret cx hr (by simp [zselI, zI, hb5, hb12]) (by first | exact Or.inl rfl | exact Or.inr rfl) (fun _ _ _ _ => rfl) dX1_selectsIdentity_20

set_option maxHeartbeats 4000000 in
set_option maxRecDepth 100000 in
theorem c_X1_selectsBypass (l : Launch) (G : zG) (S : zS) (i t : Nat) (hi : i < 7) (ht : t < 6) (X : zCV) (c : Nat → Int32) : Met l yX1_selectsBypass (zws yX1_selectsBypass cX1_selectsBypass 1 (some .boolean)) (zrm 1 0 0 20) (zPc G 68 (pic G (up S i (uj X (t + 3) c))) [.ref (zad G i (t + 3))]) (zQi G 68 (zselB c) (pic G (up S i (uj X (t + 3) (c))))) 0 0 (zA G) := by
  refine zMet npX1_selectsBypass rfl (Nat.le_of_ble_eq_true rfl) ?_
  intro p e s m args below meth cd hargs cx hr hin0
  have cx : Cx p s m args meth cd cX1_selectsBypass 1 RX1 G := cx
  refine x_ls (ls' := [some (.ref (zad G i (t + 3)))]) rfl (fun _ h => h) ?_
  refine x_aload_n cx dX1_selectsBypass_0 rfl rfl ?_
  refine x_Vi (C := RX1) (T := TX1) (N := 9) (rest := []) cx (c_X1_selectsCells l G _ i t hi (by omega) _ _) gV_X1_47 ndX1_selectsCells rfl ⟨Nat.le_of_ble_eq_true rfl, Nat.le_of_ble_eq_true rfl⟩ (zok_c hi (by omega)) (zix_c hi (by omega)) (pcC' hi _ _) rfl rfl rfl (Nat.le_of_ble_eq_true rfl) dX1_selectsBypass_1 ⟨Nat.le_of_ble_eq_true rfl, Nat.le_of_ble_eq_true rfl⟩ ?_
  refine x_if_ne (tgt := 18) cx dX1_selectsBypass_4 (by decide) (fun hb4 => ?_) (fun hb4 => ?_)
  · refine x_iconst (v := 0) cx dX1_selectsBypass_18 (by decide) ?_
    exact x_zret cx hr (by simp only [zselC_0, zselI_0, Decidable.not_not] at hb4; simp [zselB, hb4]) (by first | exact Or.inl rfl | exact Or.inr rfl) (fun _ _ _ _ => rfl) dX1_selectsBypass_19
  · refine x_aload_n cx dX1_selectsBypass_7 rfl rfl ?_
    refine x_Vi (C := RX1) (T := TX1) (N := 9) (rest := []) cx (c_X1_selectsIdentity l G _ i t hi (by omega) _ _) gV_X1_51 ndX1_selectsIdentity rfl ⟨Nat.le_of_ble_eq_true rfl, Nat.le_of_ble_eq_true rfl⟩ (zok_c hi (by omega)) (zix_c hi (by omega)) (pcC' hi _ _) rfl rfl rfl (Nat.le_of_ble_eq_true rfl) dX1_selectsBypass_8 ⟨Nat.le_of_ble_eq_true rfl, Nat.le_of_ble_eq_true rfl⟩ ?_
    refine x_if_ne (tgt := 18) cx dX1_selectsBypass_11 (by decide) (fun hb11 => ?_) (fun hb11 => ?_)
    · refine x_iconst (v := 0) cx dX1_selectsBypass_18 (by decide) ?_
      exact x_zret cx hr (by simp only [zselC_0, zselI_0, Decidable.not_not] at hb4 hb11; simp [zselB, hb4, hb11]) (by first | exact Or.inl rfl | exact Or.inr rfl) (fun _ _ _ _ => rfl) dX1_selectsBypass_19
    · refine x_iconst (v := 1) cx dX1_selectsBypass_14 (by decide) ?_
      refine x_goto (tgt := 19) cx dX1_selectsBypass_15 (by decide) ?_
      exact x_zret cx hr (by simp only [zselC_0, zselI_0, Decidable.not_not] at hb4 hb11; simp [zselB, hb4, hb11]) (by first | exact Or.inl rfl | exact Or.inr rfl) (fun _ _ _ _ => rfl) dX1_selectsBypass_19

set_option maxHeartbeats 4000000 in
set_option maxRecDepth 100000 in
theorem c_X1_dataBits (l : Launch) (G : zG) (S : zS) (i t : Nat) (hi : i < 7) (ht : t < 6) (X : zCV) (c : Nat → Int32) : Met l yX1_dataBits (zws yX1_dataBits cX1_dataBits 1 (some .int)) (zrm 1 0 0 20) (zPc G 68 (pic G (up S i (uj X (t + 3) c))) [.ref (zad G i (t + 3))]) (zQi G 68 (zBits c) (pic G (up S i (uj X (t + 3) (c))))) 0 0 (zA G) := by
  refine zMet npX1_dataBits rfl (Nat.le_of_ble_eq_true rfl) ?_
  intro p e s m args below meth cd hargs cx hr hin0
  have cx : Cx p s m args meth cd cX1_dataBits 1 RX1 G := cx
  refine x_ls (ls' := [some (.ref (zad G i (t + 3)))]) rfl (fun _ h => h) ?_
  refine x_aload_n cx dX1_dataBits_0 rfl rfl ?_
  refine x_Vi (C := RX1) (T := TX1) (N := 9) (rest := []) cx (c_X1_selectsCells l G _ i t hi (by omega) _ _) gV_X1_47 ndX1_selectsCells rfl ⟨Nat.le_of_ble_eq_true rfl, Nat.le_of_ble_eq_true rfl⟩ (zok_c hi (by omega)) (zix_c hi (by omega)) (pcC' hi _ _) rfl rfl rfl (Nat.le_of_ble_eq_true rfl) dX1_dataBits_1 ⟨Nat.le_of_ble_eq_true rfl, Nat.le_of_ble_eq_true rfl⟩ ?_
  refine x_if_eq (tgt := 12) cx dX1_dataBits_4 (by decide) (fun hb4 => ?_) (fun hb4 => ?_)
  · refine x_aload_n cx dX1_dataBits_12 rfl rfl ?_
    refine x_Vi (C := RX1) (T := TX1) (N := 9) (rest := []) cx (c_X1_selectsIdentity l G _ i t hi (by omega) _ _) gV_X1_51 ndX1_selectsIdentity rfl ⟨Nat.le_of_ble_eq_true rfl, Nat.le_of_ble_eq_true rfl⟩ (zok_c hi (by omega)) (zix_c hi (by omega)) (pcC' hi _ _) rfl rfl rfl (Nat.le_of_ble_eq_true rfl) dX1_dataBits_13 ⟨Nat.le_of_ble_eq_true rfl, Nat.le_of_ble_eq_true rfl⟩ ?_
    refine x_if_eq (tgt := 24) cx dX1_dataBits_16 (by decide) (fun hb16 => ?_) (fun hb16 => ?_)
    · refine x_iconst (v := 1) cx dX1_dataBits_24 (by decide) ?_
      exact x_iret cx hr (by simp only [zselC_0, zselI_0, Decidable.not_not] at hb4 hb16; simp [zBits, hb4, hb16]) (fun _ _ _ _ => rfl) dX1_dataBits_25
    · refine x_bipush (v := 8) cx dX1_dataBits_19 (by decide) ?_
      refine x_goto (tgt := 25) cx dX1_dataBits_21 (by decide) ?_
      exact x_iret cx hr (by simp only [zselC_0, zselI_0, Decidable.not_not] at hb4 hb16; simp [zBits, hb4, hb16]) (fun _ _ _ _ => rfl) dX1_dataBits_25
  · refine x_aload_n cx dX1_dataBits_7 rfl rfl ?_
    refine x_getX1 cx 2 (by decide) (fl_X1_18 cx) (zok_c hi (by omega)) (zix_c hi (by omega)) (pcC' hi _ _) rfl dX1_dataBits_8 ?_
    exact x_iret cx hr (by simp only [zselC_0, zselI_0, Decidable.not_not] at hb4; simp [zBits, hb4]) (fun _ _ _ _ => rfl) dX1_dataBits_11

set_option maxHeartbeats 4000000 in
set_option maxRecDepth 100000 in
theorem c_X1_giveInstruction (l : Launch) (G : zG) (S : zS) (i t : Nat) (hi : i < 7) (ht : t < 6) (X : zCV) (c : Nat → Int32) (v : Int32) : Met l yX1_giveInstruction (zws yX1_giveInstruction cX1_giveInstruction 2 none) (zrm 0 0 0 0) (zPc G 68 (pic G (up S i (uj X (t + 3) c))) [.ref (zad G i (t + 3)), .int v]) (zQv G 68 (pic G (up S i (uj X (t + 3) (zGive c v))))) 0 0 (zA G) := by
  refine zMet npX1_giveInstruction rfl (Nat.le_of_ble_eq_true rfl) ?_
  intro p e s m args below meth cd hargs cx hr hin0
  have cx : Cx p s m args meth cd cX1_giveInstruction 2 RX1 G := cx
  refine x_ls (ls' := [some (.ref (zad G i (t + 3))), some (.int v)]) rfl (fun _ h => h) ?_
  refine x_aload_n cx dX1_giveInstruction_0 rfl rfl ?_
  refine x_iload_n cx dX1_giveInstruction_1 rfl rfl ?_
  refine x_putX1 cx 6 (by decide) (fl_X1_37 cx) (zok_c hi (by omega)) (zix_c hi (by omega)) (pcC' hi _ _) rfl rfl rfl (Nat.le_of_ble_eq_true rfl) (ppC' hi (by decide)) dX1_giveInstruction_2 ?_
  refine x_aload_n cx dX1_giveInstruction_5 rfl rfl ?_
  refine x_iconst (v := 0) cx dX1_giveInstruction_6 (by decide) ?_
  refine x_putX1 cx 8 (by decide) (fl_X1_40 cx) (zok_c hi (by omega)) (zix_c hi (by omega)) (pcC' hi _ _) rfl rfl rfl (Nat.le_of_ble_eq_true rfl) (ppC' hi (by decide)) dX1_giveInstruction_7 ?_
  exact x_vret cx hr (fun _ _ _ _ => rfl) dX1_giveInstruction_10

set_option maxHeartbeats 4000000 in
set_option maxRecDepth 100000 in
theorem c_X1_giveFirstInstruction (l : Launch) (G : zG) (S : zS) (i t : Nat) (hi : i < 7) (ht : t < 6) (X : zCV) (c : Nat → Int32) : Met l yX1_giveFirstInstruction (zws yX1_giveFirstInstruction cX1_giveFirstInstruction 1 none) (zrm 1 0 0 21) (zPc G 68 (pic G (up S i (uj X (t + 3) c))) [.ref (zad G i (t + 3))]) (zQv G 68 (pic G (up S i (uj X (t + 3) (zFirst c))))) 0 0 (zA G) := by
  refine zMet npX1_giveFirstInstruction rfl (Nat.le_of_ble_eq_true rfl) ?_
  intro p e s m args below meth cd hargs cx hr hin0
  have cx : Cx p s m args meth cd cX1_giveFirstInstruction 1 RX1 G := cx
  refine x_ls (ls' := [some (.ref (zad G i (t + 3)))]) rfl (fun _ h => h) ?_
  refine x_aload_n cx dX1_giveFirstInstruction_0 rfl rfl ?_
  refine x_aload_n cx dX1_giveFirstInstruction_1 rfl rfl ?_
  refine x_getX1 cx 1 (by decide) (fl_X1_15 cx) (zok_c hi (by omega)) (zix_c hi (by omega)) (pcC' hi _ _) rfl dX1_giveFirstInstruction_2 ?_
  refine x_if_eq (tgt := 12) cx dX1_giveFirstInstruction_5 (by decide) (fun hb5 => ?_) (fun hb5 => ?_)
  · refine x_aload_n cx dX1_giveFirstInstruction_12 rfl rfl ?_
    refine x_getX1 cx 0 (by decide) (fl_X1_9 cx) (zok_c hi (by omega)) (zix_c hi (by omega)) (pcC' hi _ _) rfl dX1_giveFirstInstruction_13 ?_
    refine x_SNi (rest := [_]) cx (c_X6_allOnes l G _ _ _) (zG0 zt301) (ml_X1_43 cx) zt6 zt300 ndX6_allOnes ⟨Nat.le_of_ble_eq_true rfl, Nat.le_of_ble_eq_true rfl⟩ rfl rfl (Nat.le_of_ble_eq_true rfl) dX1_giveFirstInstruction_16 ⟨Nat.le_of_ble_eq_true rfl, Nat.le_of_ble_eq_true rfl⟩ ?_
    refine x_Vv (C := RX1) (T := TX1) (N := 9) (rest := []) cx (c_X1_giveInstruction l G _ i t hi (by omega) _ _ _) gV_X1_54 ndX1_giveInstruction rfl ⟨Nat.le_of_ble_eq_true rfl, Nat.le_of_ble_eq_true rfl⟩ (zok_c hi (by omega)) (zix_c hi (by omega)) (pcC' hi _ _) rfl rfl rfl (Nat.le_of_ble_eq_true rfl) dX1_giveFirstInstruction_19 ⟨Nat.le_of_ble_eq_true rfl, Nat.le_of_ble_eq_true rfl⟩ ?_
    exact x_vret cx hr (by intro _ _ _ _; simp [zFirst, zFI, hb5]) dX1_giveFirstInstruction_22
  · refine x_iconst (v := 1) cx dX1_giveFirstInstruction_8 (by decide) ?_
    refine x_goto (tgt := 19) cx dX1_giveFirstInstruction_9 (by decide) ?_
    refine x_Vv (C := RX1) (T := TX1) (N := 9) (rest := []) cx (c_X1_giveInstruction l G _ i t hi (by omega) _ _ _) gV_X1_54 ndX1_giveInstruction rfl ⟨Nat.le_of_ble_eq_true rfl, Nat.le_of_ble_eq_true rfl⟩ (zok_c hi (by omega)) (zix_c hi (by omega)) (pcC' hi _ _) rfl rfl rfl (Nat.le_of_ble_eq_true rfl) dX1_giveFirstInstruction_19 ⟨Nat.le_of_ble_eq_true rfl, Nat.le_of_ble_eq_true rfl⟩ ?_
    exact x_vret cx hr (by intro _ _ _ _; simp [zFirst, zFI, hb5]) dX1_giveFirstInstruction_22

set_option maxHeartbeats 4000000 in
set_option maxRecDepth 100000 in
theorem c_X1_beNew (l : Launch) (G : zG) (S : zS) (i t : Nat) (hi : i < 7) (ht : t < 6) (X : zCV) (c : Nat → Int32) (cl : Int32) (id : Int32) (ce : Int32) : Met l yX1_beNew (zws yX1_beNew cX1_beNew 4 none) (zrm 2 0 0 41) (zPc G 68 (pic G (up S i (uj X (t + 3) c))) [.ref (zad G i (t + 3)), .int cl, .int id, .int ce]) (zQv G 68 (pic G (up S i (uj X (t + 3) (zNew cl id ce))))) 0 0 (zA G) := by
  refine zMet npX1_beNew rfl (Nat.le_of_ble_eq_true rfl) ?_
  intro p e s m args below meth cd hargs cx hr hin0
  have cx : Cx p s m args meth cd cX1_beNew 4 RX1 G := cx
  refine x_ls (ls' := [some (.ref (zad G i (t + 3))), some (.int cl), some (.int id), some (.int ce)]) rfl (fun _ h => h) ?_
  refine x_aload_n cx dX1_beNew_0 rfl rfl ?_
  refine x_iload_n cx dX1_beNew_1 rfl rfl ?_
  refine x_putX1 cx 0 (by decide) (fl_X1_9 cx) (zok_c hi (by omega)) (zix_c hi (by omega)) (pcC' hi _ _) rfl rfl rfl (Nat.le_of_ble_eq_true rfl) (ppC' hi (by decide)) dX1_beNew_2 ?_
  refine x_aload_n cx dX1_beNew_5 rfl rfl ?_
  refine x_iload_n cx dX1_beNew_6 rfl rfl ?_
  refine x_putX1 cx 1 (by decide) (fl_X1_15 cx) (zok_c hi (by omega)) (zix_c hi (by omega)) (pcC' hi _ _) rfl rfl rfl (Nat.le_of_ble_eq_true rfl) (ppC' hi (by decide)) dX1_beNew_7 ?_
  refine x_aload_n cx dX1_beNew_10 rfl rfl ?_
  refine x_iload_n cx dX1_beNew_11 rfl rfl ?_
  refine x_putX1 cx 2 (by decide) (fl_X1_18 cx) (zok_c hi (by omega)) (zix_c hi (by omega)) (pcC' hi _ _) rfl rfl rfl (Nat.le_of_ble_eq_true rfl) (ppC' hi (by decide)) dX1_beNew_12 ?_
  refine x_aload_n cx dX1_beNew_15 rfl rfl ?_
  refine x_iconst (v := 0) cx dX1_beNew_16 (by decide) ?_
  refine x_putX1 cx 3 (by decide) (fl_X1_21 cx) (zok_c hi (by omega)) (zix_c hi (by omega)) (pcC' hi _ _) rfl rfl rfl (Nat.le_of_ble_eq_true rfl) (ppC' hi (by decide)) dX1_beNew_17 ?_
  refine x_aload_n cx dX1_beNew_20 rfl rfl ?_
  refine x_iconst (v := 0) cx dX1_beNew_21 (by decide) ?_
  refine x_putX1 cx 4 (by decide) (fl_X1_24 cx) (zok_c hi (by omega)) (zix_c hi (by omega)) (pcC' hi _ _) rfl rfl rfl (Nat.le_of_ble_eq_true rfl) (ppC' hi (by decide)) dX1_beNew_22 ?_
  refine x_aload_n cx dX1_beNew_25 rfl rfl ?_
  refine x_iconst (v := 0) cx dX1_beNew_26 (by decide) ?_
  refine x_putX1 cx 5 (by decide) (fl_X1_27 cx) (zok_c hi (by omega)) (zix_c hi (by omega)) (pcC' hi _ _) rfl rfl rfl (Nat.le_of_ble_eq_true rfl) (ppC' hi (by decide)) dX1_beNew_27 ?_
  refine x_aload_n cx dX1_beNew_30 rfl rfl ?_
  refine x_iconst (v := 0) cx dX1_beNew_31 (by decide) ?_
  refine x_putX1 cx 7 (by decide) (fl_X1_31 cx) (zok_c hi (by omega)) (zix_c hi (by omega)) (pcC' hi _ _) rfl rfl rfl (Nat.le_of_ble_eq_true rfl) (ppC' hi (by decide)) dX1_beNew_32 ?_
  refine x_aload_n cx dX1_beNew_35 rfl rfl ?_
  refine x_Vv (C := RX1) (T := TX1) (N := 9) (rest := []) cx (c_X1_giveFirstInstruction l G _ i t hi (by omega) _ _) gV_X1_34 ndX1_giveFirstInstruction rfl ⟨Nat.le_of_ble_eq_true rfl, Nat.le_of_ble_eq_true rfl⟩ (zok_c hi (by omega)) (zix_c hi (by omega)) (pcC' hi _ _) rfl rfl rfl (Nat.le_of_ble_eq_true rfl) dX1_beNew_36 ⟨Nat.le_of_ble_eq_true rfl, Nat.le_of_ble_eq_true rfl⟩ ?_
  exact x_vret cx hr (eqS_pic_up (Or.inl hi) (eqX_uj (k9 rfl rfl rfl rfl rfl rfl (by simp [zNew, zFirst, zFI, zGive, upd]) rfl rfl))) dX1_beNew_39

set_option maxHeartbeats 4000000 in
set_option maxRecDepth 100000 in
theorem c_X1_changePins (l : Launch) (G : zG) (S : zS) (i t : Nat) (hi : i < 7) (ht : t < 6) (X : zCV) (c : Nat → Int32) (v : Int32) : Met l yX1_changePins (zws yX1_changePins cX1_changePins 3 (some .int)) (zrm 1 0 0 20) (zPc G 68 (pic G (up S i (uj X (t + 3) c))) [.ref (zad G i (t + 3)), .int v]) (zQi G 68 (c 3) (pic G (up S i (uj X (t + 3) (zPins c v))))) 0 0 (zA G) := by
  refine zMet npX1_changePins rfl (Nat.le_of_ble_eq_true rfl) ?_
  intro p e s m args below meth cd hargs cx hr hin0
  have cx : Cx p s m args meth cd cX1_changePins 3 RX1 G := cx
  refine x_ls (ls' := [some (.ref (zad G i (t + 3))), some (.int v), none]) rfl (fun _ h => h) ?_
  refine x_aload_n cx dX1_changePins_0 rfl rfl ?_
  refine x_getX1 cx 3 (by decide) (fl_X1_21 cx) (zok_c hi (by omega)) (zix_c hi (by omega)) (pcC' hi _ _) rfl dX1_changePins_1 ?_
  refine x_istore_n (ls' := [_, _, _]) cx dX1_changePins_4 rfl (by decide) rfl ?_
  refine x_aload_n cx dX1_changePins_5 rfl rfl ?_
  refine x_iload_n cx dX1_changePins_6 rfl rfl ?_
  refine x_aload_n cx dX1_changePins_7 rfl rfl ?_
  refine x_getX1 cx 2 (by decide) (fl_X1_18 cx) (zok_c hi (by omega)) (zix_c hi (by omega)) (pcC' hi _ _) rfl dX1_changePins_8 ?_
  refine x_SNi (rest := [_, _]) cx (c_X6_allOnes l G _ _ _) (zG0 zt301) (ml_X1_43 cx) zt6 zt300 ndX6_allOnes ⟨Nat.le_of_ble_eq_true rfl, Nat.le_of_ble_eq_true rfl⟩ rfl rfl (Nat.le_of_ble_eq_true rfl) dX1_changePins_11 ⟨Nat.le_of_ble_eq_true rfl, Nat.le_of_ble_eq_true rfl⟩ ?_
  refine x_iand cx dX1_changePins_14 ?_
  refine x_putX1 cx 3 (by decide) (fl_X1_21 cx) (zok_c hi (by omega)) (zix_c hi (by omega)) (pcC' hi _ _) rfl rfl rfl (Nat.le_of_ble_eq_true rfl) (ppC' hi (by decide)) dX1_changePins_15 ?_
  refine x_iload_n cx dX1_changePins_18 rfl rfl ?_
  exact x_iret cx hr rfl (fun _ _ _ _ => rfl) dX1_changePins_19

set_option maxHeartbeats 4000000 in
set_option maxRecDepth 100000 in
theorem c_X1_captureData (l : Launch) (G : zG) (S : zS) (i t : Nat) (hi : i < 7) (ht : t < 6) (X : zCV) (c : Nat → Int32) : Met l yX1_captureData (zws yX1_captureData cX1_captureData 1 none) (zrm 1 0 0 20) (zPc G 68 (pic G (up S i (uj X (t + 3) c))) [.ref (zad G i (t + 3))]) (zQv G 68 (pic G (up S i (uj X (t + 3) (zCap c))))) 0 0 (zA G) := by
  refine zMet npX1_captureData rfl (Nat.le_of_ble_eq_true rfl) ?_
  intro p e s m args below meth cd hargs cx hr hin0
  have cx : Cx p s m args meth cd cX1_captureData 1 RX1 G := cx
  refine x_ls (ls' := [some (.ref (zad G i (t + 3)))]) rfl (fun _ h => h) ?_
  refine x_aload_n cx dX1_captureData_0 rfl rfl ?_
  refine x_Vi (C := RX1) (T := TX1) (N := 9) (rest := []) cx (c_X1_selectsCells l G _ i t hi (by omega) _ _) gV_X1_47 ndX1_selectsCells rfl ⟨Nat.le_of_ble_eq_true rfl, Nat.le_of_ble_eq_true rfl⟩ (zok_c hi (by omega)) (zix_c hi (by omega)) (pcC' hi _ _) rfl rfl rfl (Nat.le_of_ble_eq_true rfl) dX1_captureData_1 ⟨Nat.le_of_ble_eq_true rfl, Nat.le_of_ble_eq_true rfl⟩ ?_
  refine x_if_eq (tgt := 18) cx dX1_captureData_4 (by decide) (fun hb4 => ?_) (fun hb4 => ?_)
  · refine x_aload_n cx dX1_captureData_18 rfl rfl ?_
    refine x_aload_n cx dX1_captureData_19 rfl rfl ?_
    refine x_Vi (C := RX1) (T := TX1) (N := 9) (rest := [_]) cx (c_X1_selectsIdentity l G _ i t hi (by omega) _ _) gV_X1_51 ndX1_selectsIdentity rfl ⟨Nat.le_of_ble_eq_true rfl, Nat.le_of_ble_eq_true rfl⟩ (zok_c hi (by omega)) (zix_c hi (by omega)) (pcC' hi _ _) rfl rfl rfl (Nat.le_of_ble_eq_true rfl) dX1_captureData_20 ⟨Nat.le_of_ble_eq_true rfl, Nat.le_of_ble_eq_true rfl⟩ ?_
    refine x_if_eq (tgt := 33) cx dX1_captureData_23 (by decide) (fun hb23 => ?_) (fun hb23 => ?_)
    · refine x_iconst (v := 0) cx dX1_captureData_33 (by decide) ?_
      refine x_putX1 cx 8 (by decide) (fl_X1_40 cx) (zok_c hi (by omega)) (zix_c hi (by omega)) (pcC' hi _ _) rfl rfl rfl (Nat.le_of_ble_eq_true rfl) (ppC' hi (by decide)) dX1_captureData_34 ?_
      exact x_vret cx hr (by simp only [zselC_0, zselI_0, Decidable.not_not] at hb4 hb23; unfold zCap zCapV; (repeat' split) <;> first | exact fun _ _ _ _ => rfl | contradiction) dX1_captureData_37
    · refine x_aload_n cx dX1_captureData_26 rfl rfl ?_
      refine x_getX1 cx 1 (by decide) (fl_X1_15 cx) (zok_c hi (by omega)) (zix_c hi (by omega)) (pcC' hi _ _) rfl dX1_captureData_27 ?_
      refine x_goto (tgt := 34) cx dX1_captureData_30 (by decide) ?_
      refine x_putX1 cx 8 (by decide) (fl_X1_40 cx) (zok_c hi (by omega)) (zix_c hi (by omega)) (pcC' hi _ _) rfl rfl rfl (Nat.le_of_ble_eq_true rfl) (ppC' hi (by decide)) dX1_captureData_34 ?_
      exact x_vret cx hr (by simp only [zselC_0, zselI_0, Decidable.not_not] at hb4 hb23; unfold zCap zCapV; (repeat' split) <;> first | exact fun _ _ _ _ => rfl | contradiction) dX1_captureData_37
  · refine x_aload_n cx dX1_captureData_7 rfl rfl ?_
    refine x_aload_n cx dX1_captureData_8 rfl rfl ?_
    refine x_getX1 cx 3 (by decide) (fl_X1_21 cx) (zok_c hi (by omega)) (zix_c hi (by omega)) (pcC' hi _ _) rfl dX1_captureData_9 ?_
    refine x_putX1 cx 8 (by decide) (fl_X1_40 cx) (zok_c hi (by omega)) (zix_c hi (by omega)) (pcC' hi _ _) rfl rfl rfl (Nat.le_of_ble_eq_true rfl) (ppC' hi (by decide)) dX1_captureData_12 ?_
    refine x_goto (tgt := 37) cx dX1_captureData_15 (by decide) ?_
    exact x_vret cx hr (by simp only [zselC_0, zselI_0, Decidable.not_not] at hb4; unfold zCap zCapV; (repeat' split) <;> first | exact fun _ _ _ _ => rfl | contradiction) dX1_captureData_37

set_option maxHeartbeats 4000000 in
set_option maxRecDepth 100000 in
theorem c_X1_updateData (l : Launch) (G : zG) (S : zS) (i t : Nat) (hi : i < 7) (ht : t < 6) (X : zCV) (c : Nat → Int32) : Met l yX1_updateData (zws yX1_updateData cX1_updateData 1 none) (zrm 0 0 0 0) (zPc G 68 (pic G (up S i (uj X (t + 3) c))) [.ref (zad G i (t + 3))]) (zQv G 68 (pic G (up S i (uj X (t + 3) (zUpd c))))) 0 0 (zA G) := by
  refine zMet npX1_updateData rfl (Nat.le_of_ble_eq_true rfl) ?_
  intro p e s m args below meth cd hargs cx hr hin0
  have cx : Cx p s m args meth cd cX1_updateData 1 RX1 G := cx
  refine x_ls (ls' := [some (.ref (zad G i (t + 3)))]) rfl (fun _ h => h) ?_
  refine x_aload_n cx dX1_updateData_0 rfl rfl ?_
  refine x_getX1 cx 6 (by decide) (fl_X1_37 cx) (zok_c hi (by omega)) (zix_c hi (by omega)) (pcC' hi _ _) rfl dX1_updateData_1 ?_
  refine x_if_ne (tgt := 15) cx dX1_updateData_4 (by decide) (fun hb4 => ?_) (fun hb4 => ?_)
  · exact x_vret cx hr (by intro _ _ _ _; simp [zUpd, hb4]) dX1_updateData_15
  · refine x_aload_n cx dX1_updateData_7 rfl rfl ?_
    refine x_aload_n cx dX1_updateData_8 rfl rfl ?_
    refine x_getX1 cx 8 (by decide) (fl_X1_40 cx) (zok_c hi (by omega)) (zix_c hi (by omega)) (pcC' hi _ _) rfl dX1_updateData_9 ?_
    refine x_putX1 cx 4 (by decide) (fl_X1_24 cx) (zok_c hi (by omega)) (zix_c hi (by omega)) (pcC' hi _ _) rfl rfl rfl (Nat.le_of_ble_eq_true rfl) (ppC' hi (by decide)) dX1_updateData_12 ?_
    exact x_vret cx hr (by intro _ _ _ _; simp [zUpd, hb4]) dX1_updateData_15

set_option maxHeartbeats 4000000 in
set_option maxRecDepth 100000 in
theorem c_X1_dataOutput (l : Launch) (G : zG) (S : zS) (i t : Nat) (hi : i < 7) (ht : t < 6) (X : zCV) (c : Nat → Int32) : Met l yX1_dataOutput (zws yX1_dataOutput cX1_dataOutput 1 (some .int)) (zrm 0 0 0 0) (zPc G 68 (pic G (up S i (uj X (t + 3) c))) [.ref (zad G i (t + 3))]) (zQi G 68 (zDO c) (pic G (up S i (uj X (t + 3) (c))))) 0 0 (zA G) := by
  refine zMet npX1_dataOutput rfl (Nat.le_of_ble_eq_true rfl) ?_
  intro p e s m args below meth cd hargs cx hr hin0
  have cx : Cx p s m args meth cd cX1_dataOutput 1 RX1 G := cx
  refine x_ls (ls' := [some (.ref (zad G i (t + 3)))]) rfl (fun _ h => h) ?_
  refine x_aload_n cx dX1_dataOutput_0 rfl rfl ?_
  refine x_getX1 cx 5 (by decide) (fl_X1_27 cx) (zok_c hi (by omega)) (zix_c hi (by omega)) (pcC' hi _ _) rfl dX1_dataOutput_1 ?_
  refine x_if_eq (tgt := 11) cx dX1_dataOutput_4 (by decide) (fun hb4 => ?_) (fun hb4 => ?_)
  · refine x_aload_n cx dX1_dataOutput_11 rfl rfl ?_
    refine x_getX1 cx 8 (by decide) (fl_X1_40 cx) (zok_c hi (by omega)) (zix_c hi (by omega)) (pcC' hi _ _) rfl dX1_dataOutput_12 ?_
    refine x_iconst (v := 1) cx dX1_dataOutput_15 (by decide) ?_
    refine x_iand cx dX1_dataOutput_16 ?_
    exact x_iret cx hr (by simp [zDO, hb4]) (fun _ _ _ _ => rfl) dX1_dataOutput_17
  · refine x_iconst (v := 1) cx dX1_dataOutput_7 (by decide) ?_
    refine x_goto (tgt := 17) cx dX1_dataOutput_8 (by decide) ?_
    exact x_iret cx hr (by simp [zDO, hb4]) (fun _ _ _ _ => rfl) dX1_dataOutput_17

set_option maxHeartbeats 4000000 in
set_option maxRecDepth 100000 in
theorem c_X1_codeOutput (l : Launch) (G : zG) (S : zS) (i t : Nat) (hi : i < 7) (ht : t < 6) (X : zCV) (c : Nat → Int32) : Met l yX1_codeOutput (zws yX1_codeOutput cX1_codeOutput 1 (some .int)) (zrm 0 0 0 0) (zPc G 68 (pic G (up S i (uj X (t + 3) c))) [.ref (zad G i (t + 3))]) (zQi G 68 (zCO c) (pic G (up S i (uj X (t + 3) (c))))) 0 0 (zA G) := by
  refine zMet npX1_codeOutput rfl (Nat.le_of_ble_eq_true rfl) ?_
  intro p e s m args below meth cd hargs cx hr hin0
  have cx : Cx p s m args meth cd cX1_codeOutput 1 RX1 G := cx
  refine x_ls (ls' := [some (.ref (zad G i (t + 3)))]) rfl (fun _ h => h) ?_
  refine x_aload_n cx dX1_codeOutput_0 rfl rfl ?_
  refine x_getX1 cx 5 (by decide) (fl_X1_27 cx) (zok_c hi (by omega)) (zix_c hi (by omega)) (pcC' hi _ _) rfl dX1_codeOutput_1 ?_
  refine x_if_eq (tgt := 11) cx dX1_codeOutput_4 (by decide) (fun hb4 => ?_) (fun hb4 => ?_)
  · refine x_aload_n cx dX1_codeOutput_11 rfl rfl ?_
    refine x_getX1 cx 7 (by decide) (fl_X1_31 cx) (zok_c hi (by omega)) (zix_c hi (by omega)) (pcC' hi _ _) rfl dX1_codeOutput_12 ?_
    refine x_iconst (v := 1) cx dX1_codeOutput_15 (by decide) ?_
    refine x_iand cx dX1_codeOutput_16 ?_
    exact x_iret cx hr (by simp [zCO, hb4]) (fun _ _ _ _ => rfl) dX1_codeOutput_17
  · refine x_iconst (v := 1) cx dX1_codeOutput_7 (by decide) ?_
    refine x_goto (tgt := 17) cx dX1_codeOutput_8 (by decide) ?_
    exact x_iret cx hr (by simp [zCO, hb4]) (fun _ _ _ _ => rfl) dX1_codeOutput_17

set_option maxHeartbeats 4000000 in
set_option maxRecDepth 100000 in
theorem c_X1_shiftData (l : Launch) (G : zG) (S : zS) (i t : Nat) (hi : i < 7) (ht : t < 6) (X : zCV) (c : Nat → Int32) (x : Int32) : Met l yX1_shiftData (zws yX1_shiftData cX1_shiftData 2 none) (zrm 2 0 0 40) (zPc G 68 (pic G (up S i (uj X (t + 3) c))) [.ref (zad G i (t + 3)), .int x]) (zQv G 68 (pic G (up S i (uj X (t + 3) (zShD c x))))) 0 0 (zA G) := by
  refine zMet npX1_shiftData rfl (Nat.le_of_ble_eq_true rfl) ?_
  intro p e s m args below meth cd hargs cx hr hin0
  have cx : Cx p s m args meth cd cX1_shiftData 2 RX1 G := cx
  refine x_ls (ls' := [some (.ref (zad G i (t + 3))), some (.int x)]) rfl (fun _ h => h) ?_
  refine x_aload_n cx dX1_shiftData_0 rfl rfl ?_
  refine x_aload_n cx dX1_shiftData_1 rfl rfl ?_
  refine x_getX1 cx 8 (by decide) (fl_X1_40 cx) (zok_c hi (by omega)) (zix_c hi (by omega)) (pcC' hi _ _) rfl dX1_shiftData_2 ?_
  refine x_aload_n cx dX1_shiftData_5 rfl rfl ?_
  refine x_Vi (C := RX1) (T := TX1) (N := 9) (rest := [_, _]) cx (c_X1_dataBits l G _ i t hi (by omega) _ _) gV_X1_58 ndX1_dataBits rfl ⟨Nat.le_of_ble_eq_true rfl, Nat.le_of_ble_eq_true rfl⟩ (zok_c hi (by omega)) (zix_c hi (by omega)) (pcC' hi _ _) rfl rfl rfl (Nat.le_of_ble_eq_true rfl) dX1_shiftData_6 ⟨Nat.le_of_ble_eq_true rfl, Nat.le_of_ble_eq_true rfl⟩ ?_
  refine x_iload_n cx dX1_shiftData_9 rfl rfl ?_
  refine x_Si (rest := [_]) cx (c_X1_shifted l G _ _ _ _ _) gS_X1_62 ndX1_shifted ⟨Nat.le_of_ble_eq_true rfl, Nat.le_of_ble_eq_true rfl⟩ rfl rfl (Nat.le_of_ble_eq_true rfl) dX1_shiftData_10 ⟨Nat.le_of_ble_eq_true rfl, Nat.le_of_ble_eq_true rfl⟩ ?_
  refine x_putX1 cx 8 (by decide) (fl_X1_40 cx) (zok_c hi (by omega)) (zix_c hi (by omega)) (pcC' hi _ _) rfl rfl rfl (Nat.le_of_ble_eq_true rfl) (ppC' hi (by decide)) dX1_shiftData_13 ?_
  exact x_vret cx hr (fun _ _ _ _ => rfl) dX1_shiftData_16

set_option maxHeartbeats 4000000 in
set_option maxRecDepth 100000 in
theorem c_X1_shiftCode (l : Launch) (G : zG) (S : zS) (i t : Nat) (hi : i < 7) (ht : t < 6) (X : zCV) (c : Nat → Int32) (x : Int32) : Met l yX1_shiftCode (zws yX1_shiftCode cX1_shiftCode 2 none) (zrm 1 0 0 22) (zPc G 68 (pic G (up S i (uj X (t + 3) c))) [.ref (zad G i (t + 3)), .int x]) (zQv G 68 (pic G (up S i (uj X (t + 3) (zShC c x))))) 0 0 (zA G) := by
  refine zMet npX1_shiftCode rfl (Nat.le_of_ble_eq_true rfl) ?_
  intro p e s m args below meth cd hargs cx hr hin0
  have cx : Cx p s m args meth cd cX1_shiftCode 2 RX1 G := cx
  refine x_ls (ls' := [some (.ref (zad G i (t + 3))), some (.int x)]) rfl (fun _ h => h) ?_
  refine x_aload_n cx dX1_shiftCode_0 rfl rfl ?_
  refine x_aload_n cx dX1_shiftCode_1 rfl rfl ?_
  refine x_getX1 cx 7 (by decide) (fl_X1_31 cx) (zok_c hi (by omega)) (zix_c hi (by omega)) (pcC' hi _ _) rfl dX1_shiftCode_2 ?_
  refine x_aload_n cx dX1_shiftCode_5 rfl rfl ?_
  refine x_getX1 cx 0 (by decide) (fl_X1_9 cx) (zok_c hi (by omega)) (zix_c hi (by omega)) (pcC' hi _ _) rfl dX1_shiftCode_6 ?_
  refine x_iload_n cx dX1_shiftCode_9 rfl rfl ?_
  refine x_Si (rest := [_]) cx (c_X1_shifted l G _ _ _ _ _) gS_X1_62 ndX1_shifted ⟨Nat.le_of_ble_eq_true rfl, Nat.le_of_ble_eq_true rfl⟩ rfl rfl (Nat.le_of_ble_eq_true rfl) dX1_shiftCode_10 ⟨Nat.le_of_ble_eq_true rfl, Nat.le_of_ble_eq_true rfl⟩ ?_
  refine x_putX1 cx 7 (by decide) (fl_X1_31 cx) (zok_c hi (by omega)) (zix_c hi (by omega)) (pcC' hi _ _) rfl rfl rfl (Nat.le_of_ble_eq_true rfl) (ppC' hi (by decide)) dX1_shiftCode_13 ?_
  exact x_vret cx hr (fun _ _ _ _ => rfl) dX1_shiftCode_16

theorem zTell_out {c : Nat → Int32} {x : Int32} (h : x.toInt < 0 ∨ (9 : Int) < x.toInt) : zTell c x = -2 := by
  have key : ∀ k : Nat, k ≤ 9 → ¬ x = nI k := by
    intro k hk he
    rw [he, nI_toInt (by omega)] at h
    omega
  unfold zTell
  rw [if_neg (show ¬ x = 0 from key 0 (by decide)), if_neg (show ¬ x = 1 from key 1 (by decide)), if_neg (show ¬ x = 2 from key 2 (by decide)), if_neg (show ¬ x = 3 from key 3 (by decide)), if_neg (show ¬ x = 4 from key 4 (by decide)), if_neg (show ¬ x = 5 from key 5 (by decide)), if_neg (show ¬ x = 6 from key 6 (by decide)), if_neg (show ¬ x = 7 from key 7 (by decide)), if_neg (show ¬ x = 8 from key 8 (by decide)), if_neg (show ¬ x = 9 from key 9 (by decide))]
theorem zTell_in {c : Nat → Int32} : zTell c (nI 0) = c 0 ∧ zTell c (nI 1) = c 1 ∧ zTell c (nI 2) = c 2 ∧ zTell c (nI 3) = c 3 ∧ zTell c (nI 4) = c 4 ∧ zTell c (nI 5) = (if c 5 = 0 then 0 else 1) ∧ zTell c (nI 6) = c 6 ∧ zTell c (nI 7) = c 7 ∧ zTell c (nI 8) = c 8 ∧ zTell c (nI 9) = zBits c := ⟨rfl, rfl, rfl, rfl, rfl, rfl, rfl, rfl, rfl, rfl⟩

set_option maxHeartbeats 4000000 in
set_option maxRecDepth 100000 in
theorem c_X1_tell (l : Launch) (G : zG) (S : zS) (i t : Nat) (hi : i < 7) (ht : t < 6) (X : zCV) (c : Nat → Int32) (x : Int32) : Met l yX1_tell (zws yX1_tell cX1_tell 2 (some .int)) (zrm 2 0 0 40) (zPc G 68 (pic G (up S i (uj X (t + 3) c))) [.ref (zad G i (t + 3)), .int x]) (zQi G 68 (zTell c x) (pic G (up S i (uj X (t + 3) (c))))) 0 0 (zA G) := by
  refine zMet npX1_tell rfl (Nat.le_of_ble_eq_true rfl) ?_
  intro p e s m args below meth cd hargs cx hr hin0
  have cx : Cx p s m args meth cd cX1_tell 2 RX1 G := cx
  refine x_ls (ls' := [some (.ref (zad G i (t + 3))), some (.int x)]) rfl (fun _ h => h) ?_
  refine x_iload_n cx dX1_tell_0 rfl rfl ?_
  rcases sw_cases x 9 (by decide) with hsw | hsw | ⟨w, hw, rfl⟩
  · refine x_tableOut (tgt := 114) cx dX1_tell_1 (Or.inl hsw) (by decide) ?_
    refine x_bipush (v := (-2)) cx dX1_tell_114 (by decide) ?_
    exact x_iret cx hr (zTell_out (by first | exact Or.inl hsw | exact Or.inr hsw)).symm (fun _ _ _ _ => rfl) dX1_tell_116
  · refine x_tableOut (tgt := 114) cx dX1_tell_1 (Or.inr hsw) (by decide) ?_
    refine x_bipush (v := (-2)) cx dX1_tell_114 (by decide) ?_
    exact x_iret cx hr (zTell_out (by first | exact Or.inl hsw | exact Or.inr hsw)).symm (fun _ _ _ _ => rfl) dX1_tell_116
  · rcases (show w = 0 ∨ w = 1 ∨ w = 2 ∨ w = 3 ∨ w = 4 ∨ w = 5 ∨ w = 6 ∨ w = 7 ∨ w = 8 ∨ w = 9 by omega) with rfl | rfl | rfl | rfl | rfl | rfl | rfl | rfl | rfl | rfl
    · refine x_tableIn (tgt := 56) (off := 55) cx dX1_tell_1 (by decide +kernel) (by decide +kernel) (by decide +kernel) (by decide) ?_
      refine x_aload_n cx dX1_tell_56 rfl rfl ?_
      refine x_getX1 cx 0 (by decide) (fl_X1_9 cx) (zok_c hi (by omega)) (zix_c hi (by omega)) (pcC' hi _ _) rfl dX1_tell_57 ?_
      exact x_iret cx hr (zTell_in.1).symm (fun _ _ _ _ => rfl) dX1_tell_60
    · refine x_tableIn (tgt := 61) (off := 60) cx dX1_tell_1 (by decide +kernel) (by decide +kernel) (by decide +kernel) (by decide) ?_
      refine x_aload_n cx dX1_tell_61 rfl rfl ?_
      refine x_getX1 cx 1 (by decide) (fl_X1_15 cx) (zok_c hi (by omega)) (zix_c hi (by omega)) (pcC' hi _ _) rfl dX1_tell_62 ?_
      exact x_iret cx hr (zTell_in.2.1).symm (fun _ _ _ _ => rfl) dX1_tell_65
    · refine x_tableIn (tgt := 66) (off := 65) cx dX1_tell_1 (by decide +kernel) (by decide +kernel) (by decide +kernel) (by decide) ?_
      refine x_aload_n cx dX1_tell_66 rfl rfl ?_
      refine x_getX1 cx 2 (by decide) (fl_X1_18 cx) (zok_c hi (by omega)) (zix_c hi (by omega)) (pcC' hi _ _) rfl dX1_tell_67 ?_
      exact x_iret cx hr (zTell_in.2.2.1).symm (fun _ _ _ _ => rfl) dX1_tell_70
    · refine x_tableIn (tgt := 71) (off := 70) cx dX1_tell_1 (by decide +kernel) (by decide +kernel) (by decide +kernel) (by decide) ?_
      refine x_aload_n cx dX1_tell_71 rfl rfl ?_
      refine x_getX1 cx 3 (by decide) (fl_X1_21 cx) (zok_c hi (by omega)) (zix_c hi (by omega)) (pcC' hi _ _) rfl dX1_tell_72 ?_
      exact x_iret cx hr (zTell_in.2.2.2.1).symm (fun _ _ _ _ => rfl) dX1_tell_75
    · refine x_tableIn (tgt := 76) (off := 75) cx dX1_tell_1 (by decide +kernel) (by decide +kernel) (by decide +kernel) (by decide) ?_
      refine x_aload_n cx dX1_tell_76 rfl rfl ?_
      refine x_getX1 cx 4 (by decide) (fl_X1_24 cx) (zok_c hi (by omega)) (zix_c hi (by omega)) (pcC' hi _ _) rfl dX1_tell_77 ?_
      exact x_iret cx hr (zTell_in.2.2.2.2.1).symm (fun _ _ _ _ => rfl) dX1_tell_80
    · refine x_tableIn (tgt := 81) (off := 80) cx dX1_tell_1 (by decide +kernel) (by decide +kernel) (by decide +kernel) (by decide) ?_
      refine x_aload_n cx dX1_tell_81 rfl rfl ?_
      refine x_getX1 cx 5 (by decide) (fl_X1_27 cx) (zok_c hi (by omega)) (zix_c hi (by omega)) (pcC' hi _ _) rfl dX1_tell_82 ?_
      refine x_if_eq (tgt := 92) cx dX1_tell_85 (by decide) (fun hb85 => ?_) (fun hb85 => ?_)
      · refine x_iconst (v := 0) cx dX1_tell_92 (by decide) ?_
        exact x_iret cx hr (by rw [zTell_in.2.2.2.2.2.1]; simp [hb85]) (fun _ _ _ _ => rfl) dX1_tell_93
      · refine x_iconst (v := 1) cx dX1_tell_88 (by decide) ?_
        refine x_goto (tgt := 93) cx dX1_tell_89 (by decide) ?_
        exact x_iret cx hr (by rw [zTell_in.2.2.2.2.2.1]; simp [hb85]) (fun _ _ _ _ => rfl) dX1_tell_93
    · refine x_tableIn (tgt := 94) (off := 93) cx dX1_tell_1 (by decide +kernel) (by decide +kernel) (by decide +kernel) (by decide) ?_
      refine x_aload_n cx dX1_tell_94 rfl rfl ?_
      refine x_getX1 cx 6 (by decide) (fl_X1_37 cx) (zok_c hi (by omega)) (zix_c hi (by omega)) (pcC' hi _ _) rfl dX1_tell_95 ?_
      exact x_iret cx hr (zTell_in.2.2.2.2.2.2.1).symm (fun _ _ _ _ => rfl) dX1_tell_98
    · refine x_tableIn (tgt := 99) (off := 98) cx dX1_tell_1 (by decide +kernel) (by decide +kernel) (by decide +kernel) (by decide) ?_
      refine x_aload_n cx dX1_tell_99 rfl rfl ?_
      refine x_getX1 cx 7 (by decide) (fl_X1_31 cx) (zok_c hi (by omega)) (zix_c hi (by omega)) (pcC' hi _ _) rfl dX1_tell_100 ?_
      exact x_iret cx hr (zTell_in.2.2.2.2.2.2.2.1).symm (fun _ _ _ _ => rfl) dX1_tell_103
    · refine x_tableIn (tgt := 104) (off := 103) cx dX1_tell_1 (by decide +kernel) (by decide +kernel) (by decide +kernel) (by decide) ?_
      refine x_aload_n cx dX1_tell_104 rfl rfl ?_
      refine x_getX1 cx 8 (by decide) (fl_X1_40 cx) (zok_c hi (by omega)) (zix_c hi (by omega)) (pcC' hi _ _) rfl dX1_tell_105 ?_
      exact x_iret cx hr (zTell_in.2.2.2.2.2.2.2.2.1).symm (fun _ _ _ _ => rfl) dX1_tell_108
    · refine x_tableIn (tgt := 109) (off := 108) cx dX1_tell_1 (by decide +kernel) (by decide +kernel) (by decide +kernel) (by decide) ?_
      refine x_aload_n cx dX1_tell_109 rfl rfl ?_
      refine x_Vi (C := RX1) (T := TX1) (N := 9) (rest := []) cx (c_X1_dataBits l G _ i t hi (by omega) _ _) gV_X1_58 ndX1_dataBits rfl ⟨Nat.le_of_ble_eq_true rfl, Nat.le_of_ble_eq_true rfl⟩ (zok_c hi (by omega)) (zix_c hi (by omega)) (pcC' hi _ _) rfl rfl rfl (Nat.le_of_ble_eq_true rfl) dX1_tell_110 ⟨Nat.le_of_ble_eq_true rfl, Nat.le_of_ble_eq_true rfl⟩ ?_
      exact x_iret cx hr (zTell_in.2.2.2.2.2.2.2.2.2).symm (fun _ _ _ _ => rfl) dX1_tell_113

set_option maxHeartbeats 4000000 in
set_option maxRecDepth 100000 in
theorem c_X1_becomeCopyOf (l : Launch) (G : zG) (S : zS) (i t i2 t2 : Nat) (hi : i < 7) (ht : t < 6) (hi2 : i2 < 7) (ht2 : t2 < 6) (hne : ¬ (i2 = i ∧ t2 = t)) (hb : S i2 (t2 + 3) 5 = 0 ∨ S i2 (t2 + 3) 5 = 1) : Met l yX1_becomeCopyOf (zws yX1_becomeCopyOf cX1_becomeCopyOf 2 none) (zrm 0 0 0 0) (zPc G 68 (pic G S) [.ref (zad G i (t + 3)), .ref (zad G i2 (t2 + 3))]) (zQv G 68 (pic G (up S i (uj (S i) (t + 3) (S i2 (t2 + 3)))))) 0 0 (zA G) := by
  refine zMet npX1_becomeCopyOf rfl (Nat.le_of_ble_eq_true rfl) ?_
  intro p e s m args below meth cd hargs cx hr hin0
  have cx : Cx p s m args meth cd cX1_becomeCopyOf 2 RX1 G := cx
  refine x_ls (ls' := [some (.ref (zad G i (t + 3))), some (.ref (zad G i2 (t2 + 3)))]) rfl (fun _ h => h) ?_
  refine x_as (h' := pic G (up S i (uj (S i) (t + 3) (S i (t + 3))))) (by rw [uj_self, up_self]) ?_
  refine x_aload_n cx dX1_becomeCopyOf_0 rfl rfl ?_
  refine x_aload_n cx dX1_becomeCopyOf_1 rfl rfl ?_
  refine x_getX1 cx 0 (by decide) (fl_X1_9 cx) (zok_c hi2 (by omega)) (zix_c hi2 (by omega)) (pcC2 hi2 hne) rfl dX1_becomeCopyOf_2 ?_
  refine x_putX1 cx 0 (by decide) (fl_X1_9 cx) (zok_c hi (by omega)) (zix_c hi (by omega)) (pcC' hi _ _) rfl rfl rfl (Nat.le_of_ble_eq_true rfl) (ppC' hi (by decide)) dX1_becomeCopyOf_5 ?_
  refine x_aload_n cx dX1_becomeCopyOf_8 rfl rfl ?_
  refine x_aload_n cx dX1_becomeCopyOf_9 rfl rfl ?_
  refine x_getX1 cx 1 (by decide) (fl_X1_15 cx) (zok_c hi2 (by omega)) (zix_c hi2 (by omega)) (pcC2 hi2 hne) rfl dX1_becomeCopyOf_10 ?_
  refine x_putX1 cx 1 (by decide) (fl_X1_15 cx) (zok_c hi (by omega)) (zix_c hi (by omega)) (pcC' hi _ _) rfl rfl rfl (Nat.le_of_ble_eq_true rfl) (ppC' hi (by decide)) dX1_becomeCopyOf_13 ?_
  refine x_aload_n cx dX1_becomeCopyOf_16 rfl rfl ?_
  refine x_aload_n cx dX1_becomeCopyOf_17 rfl rfl ?_
  refine x_getX1 cx 2 (by decide) (fl_X1_18 cx) (zok_c hi2 (by omega)) (zix_c hi2 (by omega)) (pcC2 hi2 hne) rfl dX1_becomeCopyOf_18 ?_
  refine x_putX1 cx 2 (by decide) (fl_X1_18 cx) (zok_c hi (by omega)) (zix_c hi (by omega)) (pcC' hi _ _) rfl rfl rfl (Nat.le_of_ble_eq_true rfl) (ppC' hi (by decide)) dX1_becomeCopyOf_21 ?_
  refine x_aload_n cx dX1_becomeCopyOf_24 rfl rfl ?_
  refine x_aload_n cx dX1_becomeCopyOf_25 rfl rfl ?_
  refine x_getX1 cx 3 (by decide) (fl_X1_21 cx) (zok_c hi2 (by omega)) (zix_c hi2 (by omega)) (pcC2 hi2 hne) rfl dX1_becomeCopyOf_26 ?_
  refine x_putX1 cx 3 (by decide) (fl_X1_21 cx) (zok_c hi (by omega)) (zix_c hi (by omega)) (pcC' hi _ _) rfl rfl rfl (Nat.le_of_ble_eq_true rfl) (ppC' hi (by decide)) dX1_becomeCopyOf_29 ?_
  refine x_aload_n cx dX1_becomeCopyOf_32 rfl rfl ?_
  refine x_aload_n cx dX1_becomeCopyOf_33 rfl rfl ?_
  refine x_getX1 cx 4 (by decide) (fl_X1_24 cx) (zok_c hi2 (by omega)) (zix_c hi2 (by omega)) (pcC2 hi2 hne) rfl dX1_becomeCopyOf_34 ?_
  refine x_putX1 cx 4 (by decide) (fl_X1_24 cx) (zok_c hi (by omega)) (zix_c hi (by omega)) (pcC' hi _ _) rfl rfl rfl (Nat.le_of_ble_eq_true rfl) (ppC' hi (by decide)) dX1_becomeCopyOf_37 ?_
  refine x_aload_n cx dX1_becomeCopyOf_40 rfl rfl ?_
  refine x_aload_n cx dX1_becomeCopyOf_41 rfl rfl ?_
  refine x_getX1 cx 5 (by decide) (fl_X1_27 cx) (zok_c hi2 (by omega)) (zix_c hi2 (by omega)) (pcC2 hi2 hne) rfl dX1_becomeCopyOf_42 ?_
  refine x_putX1 cx 5 (by decide) (fl_X1_27 cx) (zok_c hi (by omega)) (zix_c hi (by omega)) (pcC' hi _ _) rfl (by rcases hb with h | h <;> rw [h] <;> rfl) (by rcases hb with h | h <;> rw [h] <;> rfl) (Nat.le_of_ble_eq_true rfl) (ppC' hi (by decide)) dX1_becomeCopyOf_45 ?_
  refine x_aload_n cx dX1_becomeCopyOf_48 rfl rfl ?_
  refine x_aload_n cx dX1_becomeCopyOf_49 rfl rfl ?_
  refine x_getX1 cx 6 (by decide) (fl_X1_37 cx) (zok_c hi2 (by omega)) (zix_c hi2 (by omega)) (pcC2 hi2 hne) rfl dX1_becomeCopyOf_50 ?_
  refine x_putX1 cx 6 (by decide) (fl_X1_37 cx) (zok_c hi (by omega)) (zix_c hi (by omega)) (pcC' hi _ _) rfl rfl rfl (Nat.le_of_ble_eq_true rfl) (ppC' hi (by decide)) dX1_becomeCopyOf_53 ?_
  refine x_aload_n cx dX1_becomeCopyOf_56 rfl rfl ?_
  refine x_aload_n cx dX1_becomeCopyOf_57 rfl rfl ?_
  refine x_getX1 cx 7 (by decide) (fl_X1_31 cx) (zok_c hi2 (by omega)) (zix_c hi2 (by omega)) (pcC2 hi2 hne) rfl dX1_becomeCopyOf_58 ?_
  refine x_putX1 cx 7 (by decide) (fl_X1_31 cx) (zok_c hi (by omega)) (zix_c hi (by omega)) (pcC' hi _ _) rfl rfl rfl (Nat.le_of_ble_eq_true rfl) (ppC' hi (by decide)) dX1_becomeCopyOf_61 ?_
  refine x_aload_n cx dX1_becomeCopyOf_64 rfl rfl ?_
  refine x_aload_n cx dX1_becomeCopyOf_65 rfl rfl ?_
  refine x_getX1 cx 8 (by decide) (fl_X1_40 cx) (zok_c hi2 (by omega)) (zix_c hi2 (by omega)) (pcC2 hi2 hne) rfl dX1_becomeCopyOf_66 ?_
  refine x_putX1 cx 8 (by decide) (fl_X1_40 cx) (zok_c hi (by omega)) (zix_c hi (by omega)) (pcC' hi _ _) rfl rfl rfl (Nat.le_of_ble_eq_true rfl) (ppC' hi (by decide)) dX1_becomeCopyOf_69 ?_
  exact x_vret cx hr (eqS_pic_up (Or.inl hi) (eqX_uj (k9 rfl rfl rfl rfl rfl rfl rfl rfl rfl))) dX1_becomeCopyOf_72

