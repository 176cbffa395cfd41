set_option maxHeartbeats 4000000 in
set_option maxRecDepth 100000 in
theorem c_X7_in (l : Launch) (G : zG) (n : Nat) (h : zH) (x : Int32) (a : Int32) (b : Int32) : Met l yX7_in (zws yX7_in cX7_in 3 (some .boolean)) (zrm 0 0 0 0) (zPc G n (h) [.int x, .int a, .int b]) (zQi G n (zin x a b) (h)) 0 0 (zA G) := by
  refine zMet npX7_in rfl (Nat.le_of_ble_eq_true rfl) ?_
  intro p e s m args below meth cd hargs cx hr hin0
  have cx : Cx p s m args meth cd cX7_in 3 RX7 G := cx
  refine x_ls (ls' := [some (.int x), some (.int a), some (.int b)]) rfl (fun _ h => h) ?_
  refine x_iload_n cx dX7_in_0 rfl rfl ?_
  refine x_iload_n cx dX7_in_1 rfl rfl ?_
  refine x_icmp_lt (tgt := 14) cx dX7_in_2 (by decide) (fun hb2 => ?_) (fun hb2 => ?_)
  · refine x_iconst (v := 0) cx dX7_in_14 (by decide) ?_
    exact x_zret cx hr (by simp [zin, hb2]) (by first | exact Or.inl rfl | exact Or.inr rfl) (fun _ _ _ _ => rfl) dX7_in_15
  · refine x_iload_n cx dX7_in_5 rfl rfl ?_
    refine x_iload_n cx dX7_in_6 rfl rfl ?_
    refine x_icmp_gt (tgt := 14) cx dX7_in_7 (by decide) (fun hb7 => ?_) (fun hb7 => ?_)
    · refine x_iconst (v := 0) cx dX7_in_14 (by decide) ?_
      exact x_zret cx hr (by simp [zin, hb2, hb7]) (by first | exact Or.inl rfl | exact Or.inr rfl) (fun _ _ _ _ => rfl) dX7_in_15
    · refine x_iconst (v := 1) cx dX7_in_10 (by decide) ?_
      refine x_goto (tgt := 15) cx dX7_in_11 (by decide) ?_
      exact x_zret cx hr (by simp [zin, hb2, hb7]) (by first | exact Or.inl rfl | exact Or.inr rfl) (fun _ _ _ _ => rfl) dX7_in_15

set_option maxHeartbeats 4000000 in
set_option maxRecDepth 100000 in
theorem c_X7_ones (l : Launch) (G : zG) (n : Nat) (h : zH) (b : Int32) : Met l yX7_ones (zws yX7_ones cX7_ones 1 (some .int)) (zrm 0 0 0 0) (zPc G n (h) [.int b]) (zQi G n (zOnes b) (h)) 0 0 (zA G) := by
  refine zMet npX7_ones rfl (Nat.le_of_ble_eq_true rfl) ?_
  intro p e s m args below meth cd hargs cx hr hin0
  have cx : Cx p s m args meth cd cX7_ones 1 RX7 G := cx
  refine x_ls (ls' := [some (.int b)]) rfl (fun _ h => h) ?_
  refine x_iconst (v := 1) cx dX7_ones_0 (by decide) ?_
  refine x_iload_n cx dX7_ones_1 rfl rfl ?_
  refine x_ishl cx dX7_ones_2 ?_
  refine x_iconst (v := 1) cx dX7_ones_3 (by decide) ?_
  refine x_isub cx dX7_ones_4 ?_
  exact x_iret cx hr rfl (fun _ _ _ _ => rfl) dX7_ones_5

set_option maxHeartbeats 4000000 in
set_option maxRecDepth 100000 in
theorem c_X7_digit (l : Launch) (G : zG) (n : Nat) (h : zH) (c : Int32) : Met l yX7_digit (zws yX7_digit cX7_digit 1 (some .int)) (zrm 1 0 0 22) (zPc G n (h) [.int c]) (zQi G n (zDig c) (h)) 0 0 (zA G) := by
  refine zMet npX7_digit rfl (Nat.le_of_ble_eq_true rfl) ?_
  intro p e s m args below meth cd hargs cx hr hin0
  have cx : Cx p s m args meth cd cX7_digit 1 RX7 G := cx
  refine x_ls (ls' := [some (.int c)]) rfl (fun _ h => h) ?_
  refine x_iload_n cx dX7_digit_0 rfl rfl ?_
  refine x_bipush (v := 48) cx dX7_digit_1 (by decide) ?_
  refine x_bipush (v := 57) cx dX7_digit_3 (by decide) ?_
  refine x_Si (rest := []) cx (c_X7_in l G _ _ _ _ _) gS_X7_28 ndX7_in ⟨Nat.le_of_ble_eq_true rfl, Nat.le_of_ble_eq_true rfl⟩ rfl rfl (Nat.le_of_ble_eq_true rfl) dX7_digit_5 ⟨Nat.le_of_ble_eq_true rfl, Nat.le_of_ble_eq_true rfl⟩ ?_
  refine x_if_eq (tgt := 18) cx dX7_digit_8 (by decide) (fun hb8 => ?_) (fun hb8 => ?_)
  · refine x_iload_n cx dX7_digit_18 rfl rfl ?_
    refine x_bipush (v := 97) cx dX7_digit_19 (by decide) ?_
    refine x_bipush (v := 102) cx dX7_digit_21 (by decide) ?_
    refine x_Si (rest := []) cx (c_X7_in l G _ _ _ _ _) gS_X7_28 ndX7_in ⟨Nat.le_of_ble_eq_true rfl, Nat.le_of_ble_eq_true rfl⟩ rfl rfl (Nat.le_of_ble_eq_true rfl) dX7_digit_23 ⟨Nat.le_of_ble_eq_true rfl, Nat.le_of_ble_eq_true rfl⟩ ?_
    refine x_if_eq (tgt := 39) cx dX7_digit_26 (by decide) (fun hb26 => ?_) (fun hb26 => ?_)
    · refine x_bipush (v := (-4)) cx dX7_digit_39 (by decide) ?_
      exact x_iret cx hr (by simp [zDig, hb8, hb26]) (fun _ _ _ _ => rfl) dX7_digit_41
    · refine x_iload_n cx dX7_digit_29 rfl rfl ?_
      refine x_bipush (v := 97) cx dX7_digit_30 (by decide) ?_
      refine x_isub cx dX7_digit_32 ?_
      refine x_bipush (v := 10) cx dX7_digit_33 (by decide) ?_
      refine x_iadd cx dX7_digit_35 ?_
      refine x_goto (tgt := 41) cx dX7_digit_36 (by decide) ?_
      exact x_iret cx hr (by simp [zDig, hb8, hb26]) (fun _ _ _ _ => rfl) dX7_digit_41
  · refine x_iload_n cx dX7_digit_11 rfl rfl ?_
    refine x_bipush (v := 48) cx dX7_digit_12 (by decide) ?_
    refine x_isub cx dX7_digit_14 ?_
    refine x_goto (tgt := 41) cx dX7_digit_15 (by decide) ?_
    exact x_iret cx hr (by simp [zDig, hb8]) (fun _ _ _ _ => rfl) dX7_digit_41

set_option maxHeartbeats 4000000 in
set_option maxRecDepth 100000 in
theorem c_X7_next (l : Launch) (G : zG) (n : Nat) (h : zH) (a : Nat) (ha : a < 16) (md : Int32) : Met l yX7_next (zws yX7_next cX7_next 2 (some .int)) (zrm 0 0 0 0) (zPc G n (h) [.int (nI a), .int md]) (zQi G n (zNx a md) (h)) 0 0 (zA G) := by
  refine zMet npX7_next rfl (Nat.le_of_ble_eq_true rfl) ?_
  intro p e s m args below meth cd hargs cx hr hin0
  have cx : Cx p s m args meth cd cX7_next 2 RX7 G := cx
  refine x_ls (ls' := [some (.int (nI a)), some (.int md)]) rfl (fun _ h => h) ?_
  refine x_iload_n cx dX7_next_0 rfl rfl ?_
  rcases (show a = 0 ∨ a = 1 ∨ a = 2 ∨ a = 3 ∨ a = 4 ∨ a = 5 ∨ a = 6 ∨ a = 7 ∨ a = 8 ∨ a = 9 ∨ a = 10 ∨ a = 11 ∨ a = 12 ∨ a = 13 ∨ a = 14 ∨ a = 15 by omega) with rfl | rfl | rfl | rfl | rfl | rfl | rfl | rfl | rfl | rfl | rfl | rfl | rfl | rfl | rfl | rfl
  · refine x_tableIn (tgt := 80) (off := 79) cx dX7_next_1 (by decide +kernel) (by decide +kernel) (by decide +kernel) (by decide) ?_
    refine x_iload_n cx dX7_next_80 rfl rfl ?_
    refine x_if_ne (tgt := 88) cx dX7_next_81 (by decide) (fun hb81 => ?_) (fun hb81 => ?_)
    · refine x_iconst (v := 0) cx dX7_next_88 (by decide) ?_
      exact x_iret cx hr (by unfold zNx; rw [if_neg hb81]; rfl) (fun _ _ _ _ => rfl) dX7_next_89
    · refine x_iconst (v := 1) cx dX7_next_84 (by decide) ?_
      refine x_goto (tgt := 89) cx dX7_next_85 (by decide) ?_
      exact x_iret cx hr (by unfold zNx; rw [if_pos hb81]; rfl) (fun _ _ _ _ => rfl) dX7_next_89
  · refine x_tableIn (tgt := 90) (off := 89) cx dX7_next_1 (by decide +kernel) (by decide +kernel) (by decide +kernel) (by decide) ?_
    refine x_iload_n cx dX7_next_90 rfl rfl ?_
    refine x_if_ne (tgt := 98) cx dX7_next_91 (by decide) (fun hb91 => ?_) (fun hb91 => ?_)
    · refine x_iconst (v := 2) cx dX7_next_98 (by decide) ?_
      exact x_iret cx hr (by unfold zNx; rw [if_neg hb91]; rfl) (fun _ _ _ _ => rfl) dX7_next_99
    · refine x_iconst (v := 1) cx dX7_next_94 (by decide) ?_
      refine x_goto (tgt := 99) cx dX7_next_95 (by decide) ?_
      exact x_iret cx hr (by unfold zNx; rw [if_pos hb91]; rfl) (fun _ _ _ _ => rfl) dX7_next_99
  · refine x_tableIn (tgt := 100) (off := 99) cx dX7_next_1 (by decide +kernel) (by decide +kernel) (by decide +kernel) (by decide) ?_
    refine x_iload_n cx dX7_next_100 rfl rfl ?_
    refine x_if_ne (tgt := 108) cx dX7_next_101 (by decide) (fun hb101 => ?_) (fun hb101 => ?_)
    · refine x_bipush (v := 9) cx dX7_next_108 (by decide) ?_
      exact x_iret cx hr (by unfold zNx; rw [if_neg hb101]; rfl) (fun _ _ _ _ => rfl) dX7_next_110
    · refine x_iconst (v := 3) cx dX7_next_104 (by decide) ?_
      refine x_goto (tgt := 110) cx dX7_next_105 (by decide) ?_
      exact x_iret cx hr (by unfold zNx; rw [if_pos hb101]; rfl) (fun _ _ _ _ => rfl) dX7_next_110
  · refine x_tableIn (tgt := 122) (off := 121) cx dX7_next_1 (by decide +kernel) (by decide +kernel) (by decide +kernel) (by decide) ?_
    refine x_iload_n cx dX7_next_122 rfl rfl ?_
    refine x_if_ne (tgt := 130) cx dX7_next_123 (by decide) (fun hb123 => ?_) (fun hb123 => ?_)
    · refine x_iconst (v := 5) cx dX7_next_130 (by decide) ?_
      exact x_iret cx hr (by unfold zNx; rw [if_neg hb123]; rfl) (fun _ _ _ _ => rfl) dX7_next_131
    · refine x_iconst (v := 4) cx dX7_next_126 (by decide) ?_
      refine x_goto (tgt := 131) cx dX7_next_127 (by decide) ?_
      exact x_iret cx hr (by unfold zNx; rw [if_pos hb123]; rfl) (fun _ _ _ _ => rfl) dX7_next_131
  · refine x_tableIn (tgt := 122) (off := 121) cx dX7_next_1 (by decide +kernel) (by decide +kernel) (by decide +kernel) (by decide) ?_
    refine x_iload_n cx dX7_next_122 rfl rfl ?_
    refine x_if_ne (tgt := 130) cx dX7_next_123 (by decide) (fun hb123 => ?_) (fun hb123 => ?_)
    · refine x_iconst (v := 5) cx dX7_next_130 (by decide) ?_
      exact x_iret cx hr (by unfold zNx; rw [if_neg hb123]; rfl) (fun _ _ _ _ => rfl) dX7_next_131
    · refine x_iconst (v := 4) cx dX7_next_126 (by decide) ?_
      refine x_goto (tgt := 131) cx dX7_next_127 (by decide) ?_
      exact x_iret cx hr (by unfold zNx; rw [if_pos hb123]; rfl) (fun _ _ _ _ => rfl) dX7_next_131
  · refine x_tableIn (tgt := 132) (off := 131) cx dX7_next_1 (by decide +kernel) (by decide +kernel) (by decide +kernel) (by decide) ?_
    refine x_iload_n cx dX7_next_132 rfl rfl ?_
    refine x_if_ne (tgt := 141) cx dX7_next_133 (by decide) (fun hb133 => ?_) (fun hb133 => ?_)
    · refine x_bipush (v := 8) cx dX7_next_141 (by decide) ?_
      exact x_iret cx hr (by unfold zNx; rw [if_neg hb133]; rfl) (fun _ _ _ _ => rfl) dX7_next_143
    · refine x_bipush (v := 6) cx dX7_next_136 (by decide) ?_
      refine x_goto (tgt := 143) cx dX7_next_138 (by decide) ?_
      exact x_iret cx hr (by unfold zNx; rw [if_pos hb133]; rfl) (fun _ _ _ _ => rfl) dX7_next_143
  · refine x_tableIn (tgt := 144) (off := 143) cx dX7_next_1 (by decide +kernel) (by decide +kernel) (by decide +kernel) (by decide) ?_
    refine x_iload_n cx dX7_next_144 rfl rfl ?_
    refine x_if_ne (tgt := 153) cx dX7_next_145 (by decide) (fun hb145 => ?_) (fun hb145 => ?_)
    · refine x_bipush (v := 7) cx dX7_next_153 (by decide) ?_
      exact x_iret cx hr (by unfold zNx; rw [if_neg hb145]; rfl) (fun _ _ _ _ => rfl) dX7_next_155
    · refine x_bipush (v := 6) cx dX7_next_148 (by decide) ?_
      refine x_goto (tgt := 155) cx dX7_next_150 (by decide) ?_
      exact x_iret cx hr (by unfold zNx; rw [if_pos hb145]; rfl) (fun _ _ _ _ => rfl) dX7_next_155
  · refine x_tableIn (tgt := 156) (off := 155) cx dX7_next_1 (by decide +kernel) (by decide +kernel) (by decide +kernel) (by decide) ?_
    refine x_iload_n cx dX7_next_156 rfl rfl ?_
    refine x_if_ne (tgt := 164) cx dX7_next_157 (by decide) (fun hb157 => ?_) (fun hb157 => ?_)
    · refine x_bipush (v := 8) cx dX7_next_164 (by decide) ?_
      exact x_iret cx hr (by unfold zNx; rw [if_neg hb157]; rfl) (fun _ _ _ _ => rfl) dX7_next_166
    · refine x_iconst (v := 4) cx dX7_next_160 (by decide) ?_
      refine x_goto (tgt := 166) cx dX7_next_161 (by decide) ?_
      exact x_iret cx hr (by unfold zNx; rw [if_pos hb157]; rfl) (fun _ _ _ _ => rfl) dX7_next_166
  · refine x_tableIn (tgt := 90) (off := 89) cx dX7_next_1 (by decide +kernel) (by decide +kernel) (by decide +kernel) (by decide) ?_
    refine x_iload_n cx dX7_next_90 rfl rfl ?_
    refine x_if_ne (tgt := 98) cx dX7_next_91 (by decide) (fun hb91 => ?_) (fun hb91 => ?_)
    · refine x_iconst (v := 2) cx dX7_next_98 (by decide) ?_
      exact x_iret cx hr (by unfold zNx; rw [if_neg hb91]; rfl) (fun _ _ _ _ => rfl) dX7_next_99
    · refine x_iconst (v := 1) cx dX7_next_94 (by decide) ?_
      refine x_goto (tgt := 99) cx dX7_next_95 (by decide) ?_
      exact x_iret cx hr (by unfold zNx; rw [if_pos hb91]; rfl) (fun _ _ _ _ => rfl) dX7_next_99
  · refine x_tableIn (tgt := 111) (off := 110) cx dX7_next_1 (by decide +kernel) (by decide +kernel) (by decide +kernel) (by decide) ?_
    refine x_iload_n cx dX7_next_111 rfl rfl ?_
    refine x_if_ne (tgt := 120) cx dX7_next_112 (by decide) (fun hb112 => ?_) (fun hb112 => ?_)
    · refine x_iconst (v := 0) cx dX7_next_120 (by decide) ?_
      exact x_iret cx hr (by unfold zNx; rw [if_neg hb112]; rfl) (fun _ _ _ _ => rfl) dX7_next_121
    · refine x_bipush (v := 10) cx dX7_next_115 (by decide) ?_
      refine x_goto (tgt := 121) cx dX7_next_117 (by decide) ?_
      exact x_iret cx hr (by unfold zNx; rw [if_pos hb112]; rfl) (fun _ _ _ _ => rfl) dX7_next_121
  · refine x_tableIn (tgt := 167) (off := 166) cx dX7_next_1 (by decide +kernel) (by decide +kernel) (by decide +kernel) (by decide) ?_
    refine x_iload_n cx dX7_next_167 rfl rfl ?_
    refine x_if_ne (tgt := 176) cx dX7_next_168 (by decide) (fun hb168 => ?_) (fun hb168 => ?_)
    · refine x_bipush (v := 12) cx dX7_next_176 (by decide) ?_
      exact x_iret cx hr (by unfold zNx; rw [if_neg hb168]; rfl) (fun _ _ _ _ => rfl) dX7_next_178
    · refine x_bipush (v := 11) cx dX7_next_171 (by decide) ?_
      refine x_goto (tgt := 178) cx dX7_next_173 (by decide) ?_
      exact x_iret cx hr (by unfold zNx; rw [if_pos hb168]; rfl) (fun _ _ _ _ => rfl) dX7_next_178
  · refine x_tableIn (tgt := 167) (off := 166) cx dX7_next_1 (by decide +kernel) (by decide +kernel) (by decide +kernel) (by decide) ?_
    refine x_iload_n cx dX7_next_167 rfl rfl ?_
    refine x_if_ne (tgt := 176) cx dX7_next_168 (by decide) (fun hb168 => ?_) (fun hb168 => ?_)
    · refine x_bipush (v := 12) cx dX7_next_176 (by decide) ?_
      exact x_iret cx hr (by unfold zNx; rw [if_neg hb168]; rfl) (fun _ _ _ _ => rfl) dX7_next_178
    · refine x_bipush (v := 11) cx dX7_next_171 (by decide) ?_
      refine x_goto (tgt := 178) cx dX7_next_173 (by decide) ?_
      exact x_iret cx hr (by unfold zNx; rw [if_pos hb168]; rfl) (fun _ _ _ _ => rfl) dX7_next_178
  · refine x_tableIn (tgt := 179) (off := 178) cx dX7_next_1 (by decide +kernel) (by decide +kernel) (by decide +kernel) (by decide) ?_
    refine x_iload_n cx dX7_next_179 rfl rfl ?_
    refine x_if_ne (tgt := 188) cx dX7_next_180 (by decide) (fun hb180 => ?_) (fun hb180 => ?_)
    · refine x_bipush (v := 15) cx dX7_next_188 (by decide) ?_
      exact x_iret cx hr (by unfold zNx; rw [if_neg hb180]; rfl) (fun _ _ _ _ => rfl) dX7_next_190
    · refine x_bipush (v := 13) cx dX7_next_183 (by decide) ?_
      refine x_goto (tgt := 190) cx dX7_next_185 (by decide) ?_
      exact x_iret cx hr (by unfold zNx; rw [if_pos hb180]; rfl) (fun _ _ _ _ => rfl) dX7_next_190
  · refine x_tableIn (tgt := 191) (off := 190) cx dX7_next_1 (by decide +kernel) (by decide +kernel) (by decide +kernel) (by decide) ?_
    refine x_iload_n cx dX7_next_191 rfl rfl ?_
    refine x_if_ne (tgt := 200) cx dX7_next_192 (by decide) (fun hb192 => ?_) (fun hb192 => ?_)
    · refine x_bipush (v := 14) cx dX7_next_200 (by decide) ?_
      exact x_iret cx hr (by unfold zNx; rw [if_neg hb192]; rfl) (fun _ _ _ _ => rfl) dX7_next_202
    · refine x_bipush (v := 13) cx dX7_next_195 (by decide) ?_
      refine x_goto (tgt := 202) cx dX7_next_197 (by decide) ?_
      exact x_iret cx hr (by unfold zNx; rw [if_pos hb192]; rfl) (fun _ _ _ _ => rfl) dX7_next_202
  · refine x_tableIn (tgt := 203) (off := 202) cx dX7_next_1 (by decide +kernel) (by decide +kernel) (by decide +kernel) (by decide) ?_
    refine x_iload_n cx dX7_next_203 rfl rfl ?_
    refine x_if_ne (tgt := 212) cx dX7_next_204 (by decide) (fun hb204 => ?_) (fun hb204 => ?_)
    · refine x_bipush (v := 15) cx dX7_next_212 (by decide) ?_
      exact x_iret cx hr (by unfold zNx; rw [if_neg hb204]; rfl) (fun _ _ _ _ => rfl) dX7_next_214
    · refine x_bipush (v := 11) cx dX7_next_207 (by decide) ?_
      refine x_goto (tgt := 214) cx dX7_next_209 (by decide) ?_
      exact x_iret cx hr (by unfold zNx; rw [if_pos hb204]; rfl) (fun _ _ _ _ => rfl) dX7_next_214
  · refine x_tableIn (tgt := 90) (off := 89) cx dX7_next_1 (by decide +kernel) (by decide +kernel) (by decide +kernel) (by decide) ?_
    refine x_iload_n cx dX7_next_90 rfl rfl ?_
    refine x_if_ne (tgt := 98) cx dX7_next_91 (by decide) (fun hb91 => ?_) (fun hb91 => ?_)
    · refine x_iconst (v := 2) cx dX7_next_98 (by decide) ?_
      exact x_iret cx hr (by unfold zNx; rw [if_neg hb91]; rfl) (fun _ _ _ _ => rfl) dX7_next_99
    · refine x_iconst (v := 1) cx dX7_next_94 (by decide) ?_
      refine x_goto (tgt := 99) cx dX7_next_95 (by decide) ?_
      exact x_iret cx hr (by unfold zNx; rw [if_pos hb91]; rfl) (fun _ _ _ _ => rfl) dX7_next_99

set_option maxHeartbeats 4000000 in
set_option maxRecDepth 100000 in
theorem c_X7_of (l : Launch) (G : zG) (S : zS) (X : zCV) (c w : Nat) (hc : c < 6) (hw : w < 9) : Met l yX7_of (zws yX7_of cX7_of 3 (some .int)) (zrm 0 0 0 0) (zPc G 75 (pic G (up S 8 X)) [.ref (zad G 8 0), .int (nI c), .int (nI w)]) (zQi G 75 (X (c + 3) w) (pic G (up S 8 (X)))) 0 0 (zA G) := by
  refine zMet npX7_of rfl (Nat.le_of_ble_eq_true rfl) ?_
  intro p e s m args below meth cd hargs cx hr hin0
  have cx : Cx p s m args meth cd cX7_of 3 RX7 G := cx
  refine x_ls (ls' := [some (.ref (zad G 8 0)), some (.int (nI c)), some (.int (nI w))]) rfl (fun _ h => h) ?_
  refine x_aload_n cx dX7_of_0 rfl rfl ?_
  refine x_getX7 cx 0 (by decide) (fl_X7_7 cx) (zok_8 (by decide)) (by decide) (p_M) rfl dX7_of_1 ?_
  refine x_bipush (v := 12) cx dX7_of_4 (by decide) ?_
  refine x_bipush (v := 9) cx dX7_of_6 (by decide) ?_
  refine x_iload_n cx dX7_of_8 rfl rfl ?_
  refine x_imul cx dX7_of_9 ?_
  refine x_iadd cx dX7_of_10 ?_
  refine x_iload_n cx dX7_of_11 rfl rfl ?_
  refine x_iadd cx dX7_of_12 ?_
  refine x_iald (t := (12 + 9 * c + w)) cx (zok_8 (by decide)) (by decide) (p_z) (ix_eq c w) (by omega) (by decide) (trc hc hw) dX7_of_13 ?_
  exact x_iret cx hr rfl (fun _ _ _ _ => rfl) dX7_of_14

set_option maxHeartbeats 4000000 in
set_option maxRecDepth 100000 in
theorem c_X7_lay (l : Launch) (G : zG) (S : zS) (X : zCV) (c w : Nat) (hc : c < 6) (hw : w < 9) (v : Int32) : Met l yX7_lay (zws yX7_lay cX7_lay 4 none) (zrm 0 0 0 0) (zPc G 75 (pic G (up S 8 X)) [.ref (zad G 8 0), .int (nI c), .int (nI w), .int v]) (zQv G 75 (pic G (up S 8 (uj X (c + 3) (upd (X (c + 3)) w v))))) 0 0 (zA G) := by
  refine zMet npX7_lay rfl (Nat.le_of_ble_eq_true rfl) ?_
  intro p e s m args below meth cd hargs cx hr hin0
  have cx : Cx p s m args meth cd cX7_lay 4 RX7 G := cx
  refine x_ls (ls' := [some (.ref (zad G 8 0)), some (.int (nI c)), some (.int (nI w)), some (.int v)]) rfl (fun _ h => h) ?_
  refine x_aload_n cx dX7_lay_0 rfl rfl ?_
  refine x_getX7 cx 0 (by decide) (fl_X7_7 cx) (zok_8 (by decide)) (by decide) (p_M) rfl dX7_lay_1 ?_
  refine x_bipush (v := 12) cx dX7_lay_4 (by decide) ?_
  refine x_bipush (v := 9) cx dX7_lay_6 (by decide) ?_
  refine x_iload_n cx dX7_lay_8 rfl rfl ?_
  refine x_imul cx dX7_lay_9 ?_
  refine x_iadd cx dX7_lay_10 ?_
  refine x_iload_n cx dX7_lay_11 rfl rfl ?_
  refine x_iadd cx dX7_lay_12 ?_
  refine x_iload_n cx dX7_lay_13 rfl rfl ?_
  refine x_iast (t := (12 + 9 * c + w)) cx (zok_8 (by decide)) (by decide) (p_z) (ix_eq c w) (by omega) (by decide) (pp_zc hc hw) dX7_lay_14 ?_
  exact x_vret cx hr (fun _ _ _ _ => rfl) dX7_lay_15

set_option maxHeartbeats 4000000 in
set_option maxRecDepth 100000 in
theorem c_X7_isChip (l : Launch) (G : zG) (S : zS) (X : zCV) (hW : zWF X) (q : Int32) : Met l yX7_isChip (zws yX7_isChip cX7_isChip 2 (some .boolean)) (zrm 1 0 0 22) (zPc G 75 (pic G (up S 8 X)) [.ref (zad G 8 0), .int q]) (zQi G 75 (zHas X q) (pic G (up S 8 (X)))) 0 0 (zA G) := by
  refine zMet npX7_isChip rfl (Nat.le_of_ble_eq_true rfl) ?_
  intro p e s m args below meth cd hargs cx hr hin0
  have cx : Cx p s m args meth cd cX7_isChip 2 RX7 G := cx
  refine x_ls (ls' := [some (.ref (zad G 8 0)), some (.int q)]) rfl (fun _ h => h) ?_
  refine x_iload_n cx dX7_isChip_0 rfl rfl ?_
  refine x_iconst (v := 0) cx dX7_isChip_1 (by decide) ?_
  refine x_aload_n cx dX7_isChip_2 rfl rfl ?_
  refine x_getX7 cx 0 (by decide) (fl_X7_7 cx) (zok_8 (by decide)) (by decide) (p_M) rfl dX7_isChip_3 ?_
  refine x_iconst (v := 0) cx dX7_isChip_6 (by decide) ?_
  refine x_iald (t := 0) cx (zok_8 (by decide)) (by decide) (p_z) rfl (by decide) (by decide) (trz (by decide)) dX7_isChip_7 ?_
  refine x_iconst (v := 1) cx dX7_isChip_8 (by decide) ?_
  refine x_isub cx dX7_isChip_9 ?_
  refine x_Si (rest := []) cx (c_X7_in l G _ _ _ _ _) gS_X7_28 ndX7_in ⟨Nat.le_of_ble_eq_true rfl, Nat.le_of_ble_eq_true rfl⟩ rfl rfl (Nat.le_of_ble_eq_true rfl) dX7_isChip_10 ⟨Nat.le_of_ble_eq_true rfl, Nat.le_of_ble_eq_true rfl⟩ ?_
  exact x_zret cx hr (isChip_eq hW q) (zin_01 _ _ _) (fun _ _ _ _ => rfl) dX7_isChip_13

set_option maxHeartbeats 4000000 in
set_option maxRecDepth 100000 in
theorem c_X7_selectsCells (l : Launch) (G : zG) (S : zS) (X : zCV) (c : Nat) (hc : c < 6) : Met l yX7_selectsCells (zws yX7_selectsCells cX7_selectsCells 2 (some .boolean)) (zrm 1 0 0 22) (zPc G 75 (pic G (up S 8 X)) [.ref (zad G 8 0), .int (nI c)]) (zQi G 75 (zselC (X (c + 3))) (pic G (up S 8 (X)))) 0 0 (zA G) := by
  refine zMet npX7_selectsCells rfl (Nat.le_of_ble_eq_true rfl) ?_
  intro p e s m args below meth cd hargs cx hr hin0
  have cx : Cx p s m args meth cd cX7_selectsCells 2 RX7 G := cx
  refine x_ls (ls' := [some (.ref (zad G 8 0)), some (.int (nI c))]) rfl (fun _ h => h) ?_
  refine x_aload_n cx dX7_selectsCells_0 rfl rfl ?_
  refine x_iload_n cx dX7_selectsCells_1 rfl rfl ?_
  refine x_bipush (v := 6) cx dX7_selectsCells_2 (by decide) ?_
  refine x_Vi (C := RX7) (T := TX7) (N := 9) (rest := []) cx (c_X7_of l G _ _ c 6 (by omega) (by decide)) gV_X7_47 ndX7_of rfl ⟨Nat.le_of_ble_eq_true rfl, Nat.le_of_ble_eq_true rfl⟩ (zok_8 (by decide)) (by decide) (p_M) rfl rfl rfl (Nat.le_of_ble_eq_true rfl) dX7_selectsCells_4 ⟨Nat.le_of_ble_eq_true rfl, Nat.le_of_ble_eq_true rfl⟩ ?_
  refine x_if_eq (tgt := 21) cx dX7_selectsCells_7 (by decide) (fun hb7 => ?_) (fun hb7 => ?_)
  · refine x_iconst (v := 1) cx dX7_selectsCells_21 (by decide) ?_
    refine x_goto (tgt := 26) cx dX7_selectsCells_22 (by decide) ?_
    exact x_zret cx hr (by simp [zselC, zC, hb7]) (by first | exact Or.inl rfl | exact Or.inr rfl) (fun _ _ _ _ => rfl) dX7_selectsCells_26
  · refine x_aload_n cx dX7_selectsCells_10 rfl rfl ?_
    refine x_iload_n cx dX7_selectsCells_11 rfl rfl ?_
    refine x_bipush (v := 6) cx dX7_selectsCells_12 (by decide) ?_
    refine x_Vi (C := RX7) (T := TX7) (N := 9) (rest := []) cx (c_X7_of l G _ _ c 6 (by omega) (by decide)) gV_X7_47 ndX7_of rfl ⟨Nat.le_of_ble_eq_true rfl, Nat.le_of_ble_eq_true rfl⟩ (zok_8 (by decide)) (by decide) (p_M) rfl rfl rfl (Nat.le_of_ble_eq_true rfl) dX7_selectsCells_14 ⟨Nat.le_of_ble_eq_true rfl, Nat.le_of_ble_eq_true rfl⟩ ?_
    refine x_iconst (v := 2) cx dX7_selectsCells_17 (by decide) ?_
    refine x_icmp_ne (tgt := 25) cx dX7_selectsCells_18 (by decide) (fun hb18 => ?_) (fun hb18 => ?_)
    · refine x_iconst (v := 0) cx dX7_selectsCells_25 (by decide) ?_
      exact x_zret cx hr (by simp [zselC, zC, hb7, hb18]) (by first | exact Or.inl rfl | exact Or.inr rfl) (fun _ _ _ _ => rfl) dX7_selectsCells_26
    · refine x_iconst (v := 1) cx dX7_selectsCells_21 (by decide) ?_
      refine x_goto (tgt := 26) cx dX7_selectsCells_22 (by decide) ?_
      exact x_zret cx hr (by simp [zselC, zC, hb7, hb18]) (by first | exact Or.inl rfl | exact Or.inr rfl) (fun _ _ _ _ => rfl) dX7_selectsCells_26

set_option maxHeartbeats 4000000 in
set_option maxRecDepth 100000 in
theorem c_X7_selectsIdentity (l : Launch) (G : zG) (S : zS) (X : zCV) (c : Nat) (hc : c < 6) (hid : 0 ≤ X (c + 3) 1) : Met l yX7_selectsIdentity (zws yX7_selectsIdentity cX7_selectsIdentity 2 (some .boolean)) (zrm 1 0 0 22) (zPc G 75 (pic G (up S 8 X)) [.ref (zad G 8 0), .int (nI c)]) (zQi G 75 (zselI (X (c + 3))) (pic G (up S 8 (X)))) 0 0 (zA G) := by
  refine zMet npX7_selectsIdentity rfl (Nat.le_of_ble_eq_true rfl) ?_
  intro p e s m args below meth cd hargs cx hr hin0
  have cx : Cx p s m args meth cd cX7_selectsIdentity 2 RX7 G := cx
  refine x_ls (ls' := [some (.ref (zad G 8 0)), some (.int (nI c))]) rfl (fun _ h => h) ?_
  refine x_aload_n cx dX7_selectsIdentity_0 rfl rfl ?_
  refine x_iload_n cx dX7_selectsIdentity_1 rfl rfl ?_
  refine x_bipush (v := 6) cx dX7_selectsIdentity_2 (by decide) ?_
  refine x_Vi (C := RX7) (T := TX7) (N := 9) (rest := []) cx (c_X7_of l G _ _ c 6 (by omega) (by decide)) gV_X7_47 ndX7_of rfl ⟨Nat.le_of_ble_eq_true rfl, Nat.le_of_ble_eq_true rfl⟩ (zok_8 (by decide)) (by decide) (p_M) rfl rfl rfl (Nat.le_of_ble_eq_true rfl) dX7_selectsIdentity_4 ⟨Nat.le_of_ble_eq_true rfl, Nat.le_of_ble_eq_true rfl⟩ ?_
  refine x_iconst (v := 1) cx dX7_selectsIdentity_7 (by decide) ?_
  refine x_icmp_ne (tgt := 24) cx dX7_selectsIdentity_8 (by decide) (fun hb8 => ?_) (fun hb8 => ?_)
  · refine x_iconst (v := 0) cx dX7_selectsIdentity_24 (by decide) ?_
    exact x_zret cx hr (by unfold zselI; rw [if_neg (fun z => hb8 z.1)]) (by first | exact Or.inl rfl | exact Or.inr rfl) (fun _ _ _ _ => rfl) dX7_selectsIdentity_25
  · refine x_aload_n cx dX7_selectsIdentity_11 rfl rfl ?_
    refine x_iload_n cx dX7_selectsIdentity_12 rfl rfl ?_
    refine x_iconst (v := 1) cx dX7_selectsIdentity_13 (by decide) ?_
    refine x_Vi (C := RX7) (T := TX7) (N := 9) (rest := []) cx (c_X7_of l G _ _ c 1 (by omega) (by decide)) gV_X7_47 ndX7_of rfl ⟨Nat.le_of_ble_eq_true rfl, Nat.le_of_ble_eq_true rfl⟩ (zok_8 (by decide)) (by decide) (p_M) rfl rfl rfl (Nat.le_of_ble_eq_true rfl) dX7_selectsIdentity_14 ⟨Nat.le_of_ble_eq_true rfl, Nat.le_of_ble_eq_true rfl⟩ ?_
    refine x_if_le (tgt := 24) cx dX7_selectsIdentity_17 (by decide) (fun hb17 => ?_) (fun hb17 => ?_)
    · refine x_iconst (v := 0) cx dX7_selectsIdentity_24 (by decide) ?_
      exact x_zret cx hr (by unfold zselI; rw [if_neg (fun z => z.2 ((le0_iff hid).mp hb17))]) (by first | exact Or.inl rfl | exact Or.inr rfl) (fun _ _ _ _ => rfl) dX7_selectsIdentity_25
    · refine x_iconst (v := 1) cx dX7_selectsIdentity_20 (by decide) ?_
      refine x_goto (tgt := 25) cx dX7_selectsIdentity_21 (by decide) ?_
      exact x_zret cx hr (by unfold zselI; rw [if_pos ⟨hb8, fun z => hb17 ((le0_iff hid).mpr z)⟩]) (by first | exact Or.inl rfl | exact Or.inr rfl) (fun _ _ _ _ => rfl) dX7_selectsIdentity_25

set_option maxHeartbeats 4000000 in
set_option maxRecDepth 100000 in
theorem c_X7_bits (l : Launch) (G : zG) (S : zS) (X : zCV) (c : Nat) (hc : c < 6) (hid : 0 ≤ X (c + 3) 1) : Met l yX7_bits (zws yX7_bits cX7_bits 2 (some .int)) (zrm 2 0 0 43) (zPc G 75 (pic G (up S 8 X)) [.ref (zad G 8 0), .int (nI c)]) (zQi G 75 (zBits (X (c + 3))) (pic G (up S 8 (X)))) 0 0 (zA G) := by
  refine zMet npX7_bits rfl (Nat.le_of_ble_eq_true rfl) ?_
  intro p e s m args below meth cd hargs cx hr hin0
  have cx : Cx p s m args meth cd cX7_bits 2 RX7 G := cx
  refine x_ls (ls' := [some (.ref (zad G 8 0)), some (.int (nI c))]) rfl (fun _ h => h) ?_
  refine x_aload_n cx dX7_bits_0 rfl rfl ?_
  refine x_iload_n cx dX7_bits_1 rfl rfl ?_
  refine x_Vi (C := RX7) (T := TX7) (N := 9) (rest := []) cx (c_X7_selectsCells l G _ _ c (by omega)) gV_X7_51 ndX7_selectsCells rfl ⟨Nat.le_of_ble_eq_true rfl, Nat.le_of_ble_eq_true rfl⟩ (zok_8 (by decide)) (by decide) (p_M) rfl rfl rfl (Nat.le_of_ble_eq_true rfl) dX7_bits_2 ⟨Nat.le_of_ble_eq_true rfl, Nat.le_of_ble_eq_true rfl⟩ ?_
  refine x_if_eq (tgt := 17) cx dX7_bits_5 (by decide) (fun hb5 => ?_) (fun hb5 => ?_)
  · refine x_aload_n cx dX7_bits_17 rfl rfl ?_
    refine x_iload_n cx dX7_bits_18 rfl rfl ?_
    refine x_Vi (C := RX7) (T := TX7) (N := 9) (rest := []) cx (c_X7_selectsIdentity l G _ _ c (by omega) hid) gV_X7_55 ndX7_selectsIdentity rfl ⟨Nat.le_of_ble_eq_true rfl, Nat.le_of_ble_eq_true rfl⟩ (zok_8 (by decide)) (by decide) (p_M) rfl rfl rfl (Nat.le_of_ble_eq_true rfl) dX7_bits_19 ⟨Nat.le_of_ble_eq_true rfl, Nat.le_of_ble_eq_true rfl⟩ ?_
    refine x_if_eq (tgt := 30) cx dX7_bits_22 (by decide) (fun hb22 => ?_) (fun hb22 => ?_)
    · refine x_iconst (v := 1) cx dX7_bits_30 (by decide) ?_
      exact x_iret cx hr (by simp only [zselC_0, zselI_0, Decidable.not_not] at hb5 hb22; simp [zBits, hb5, hb22]) (fun _ _ _ _ => rfl) dX7_bits_31
    · refine x_bipush (v := 8) cx dX7_bits_25 (by decide) ?_
      refine x_goto (tgt := 31) cx dX7_bits_27 (by decide) ?_
      exact x_iret cx hr (by simp only [zselC_0, zselI_0, Decidable.not_not] at hb5 hb22; simp [zBits, hb5, hb22]) (fun _ _ _ _ => rfl) dX7_bits_31
  · refine x_aload_n cx dX7_bits_8 rfl rfl ?_
    refine x_iload_n cx dX7_bits_9 rfl rfl ?_
    refine x_iconst (v := 2) cx dX7_bits_10 (by decide) ?_
    refine x_Vi (C := RX7) (T := TX7) (N := 9) (rest := []) cx (c_X7_of l G _ _ c 2 (by omega) (by decide)) gV_X7_47 ndX7_of rfl ⟨Nat.le_of_ble_eq_true rfl, Nat.le_of_ble_eq_true rfl⟩ (zok_8 (by decide)) (by decide) (p_M) rfl rfl rfl (Nat.le_of_ble_eq_true rfl) dX7_bits_11 ⟨Nat.le_of_ble_eq_true rfl, Nat.le_of_ble_eq_true rfl⟩ ?_
    refine x_goto (tgt := 31) cx dX7_bits_14 (by decide) ?_
    exact x_iret cx hr (by simp only [zselC_0, zselI_0, Decidable.not_not] at hb5; simp [zBits, hb5]) (fun _ _ _ _ => rfl) dX7_bits_31

set_option maxHeartbeats 4000000 in
set_option maxRecDepth 100000 in
theorem c_X7_give (l : Launch) (G : zG) (S : zS) (X : zCV) (c : Nat) (hc : c < 6) (v : Int32) : Met l yX7_give (zws yX7_give cX7_give 3 none) (zrm 1 0 0 23) (zPc G 75 (pic G (up S 8 X)) [.ref (zad G 8 0), .int (nI c), .int v]) (zQv G 75 (pic G (up S 8 (uj X (c + 3) (zGive (X (c + 3)) v))))) 0 0 (zA G) := by
  refine zMet npX7_give rfl (Nat.le_of_ble_eq_true rfl) ?_
  intro p e s m args below meth cd hargs cx hr hin0
  have cx : Cx p s m args meth cd cX7_give 3 RX7 G := cx
  refine x_ls (ls' := [some (.ref (zad G 8 0)), some (.int (nI c)), some (.int v)]) rfl (fun _ h => h) ?_
  refine x_aload_n cx dX7_give_0 rfl rfl ?_
  refine x_iload_n cx dX7_give_1 rfl rfl ?_
  refine x_bipush (v := 6) cx dX7_give_2 (by decide) ?_
  refine x_iload_n cx dX7_give_4 rfl rfl ?_
  refine x_Vv (C := RX7) (T := TX7) (N := 9) (rest := []) cx (c_X7_lay l G _ _ c 6 (by omega) (by decide) _) gV_X7_58 ndX7_lay rfl ⟨Nat.le_of_ble_eq_true rfl, Nat.le_of_ble_eq_true rfl⟩ (zok_8 (by decide)) (by decide) (p_M) rfl rfl rfl (Nat.le_of_ble_eq_true rfl) dX7_give_5 ⟨Nat.le_of_ble_eq_true rfl, Nat.le_of_ble_eq_true rfl⟩ ?_
  refine x_aload_n cx dX7_give_8 rfl rfl ?_
  refine x_iload_n cx dX7_give_9 rfl rfl ?_
  refine x_bipush (v := 8) cx dX7_give_10 (by decide) ?_
  refine x_iconst (v := 0) cx dX7_give_12 (by decide) ?_
  refine x_Vv (C := RX7) (T := TX7) (N := 9) (rest := []) cx (c_X7_lay l G _ _ c 8 (by omega) (by decide) _) gV_X7_58 ndX7_lay rfl ⟨Nat.le_of_ble_eq_true rfl, Nat.le_of_ble_eq_true rfl⟩ (zok_8 (by decide)) (by decide) (p_M) rfl rfl rfl (Nat.le_of_ble_eq_true rfl) dX7_give_13 ⟨Nat.le_of_ble_eq_true rfl, Nat.le_of_ble_eq_true rfl⟩ ?_
  exact x_vret cx hr (by intro _ _ _ _; rw [uj_same, uj_uj]; rfl) dX7_give_16

set_option maxHeartbeats 4000000 in
set_option maxRecDepth 100000 in
theorem c_X7_giveFirst (l : Launch) (G : zG) (S : zS) (X : zCV) (c : Nat) (hc : c < 6) (hid : 0 ≤ X (c + 3) 1) : Met l yX7_giveFirst (zws yX7_giveFirst cX7_giveFirst 2 none) (zrm 2 0 0 45) (zPc G 75 (pic G (up S 8 X)) [.ref (zad G 8 0), .int (nI c)]) (zQv G 75 (pic G (up S 8 (uj X (c + 3) (zFirst (X (c + 3))))))) 0 0 (zA G) := by
  refine zMet npX7_giveFirst rfl (Nat.le_of_ble_eq_true rfl) ?_
  intro p e s m args below meth cd hargs cx hr hin0
  have cx : Cx p s m args meth cd cX7_giveFirst 2 RX7 G := cx
  refine x_ls (ls' := [some (.ref (zad G 8 0)), some (.int (nI c))]) rfl (fun _ h => h) ?_
  refine x_aload_n cx dX7_giveFirst_0 rfl rfl ?_
  refine x_iload_n cx dX7_giveFirst_1 rfl rfl ?_
  refine x_aload_n cx dX7_giveFirst_2 rfl rfl ?_
  refine x_iload_n cx dX7_giveFirst_3 rfl rfl ?_
  refine x_iconst (v := 1) cx dX7_giveFirst_4 (by decide) ?_
  refine x_Vi (C := RX7) (T := TX7) (N := 9) (rest := [_, _]) cx (c_X7_of l G _ _ c 1 (by omega) (by decide)) gV_X7_47 ndX7_of rfl ⟨Nat.le_of_ble_eq_true rfl, Nat.le_of_ble_eq_true rfl⟩ (zok_8 (by decide)) (by decide) (p_M) rfl rfl rfl (Nat.le_of_ble_eq_true rfl) dX7_giveFirst_5 ⟨Nat.le_of_ble_eq_true rfl, Nat.le_of_ble_eq_true rfl⟩ ?_
  refine x_if_le (tgt := 15) cx dX7_giveFirst_8 (by decide) (fun hb8 => ?_) (fun hb8 => ?_)
  · refine x_aload_n cx dX7_giveFirst_15 rfl rfl ?_
    refine x_iload_n cx dX7_giveFirst_16 rfl rfl ?_
    refine x_iconst (v := 0) cx dX7_giveFirst_17 (by decide) ?_
    refine x_Vi (C := RX7) (T := TX7) (N := 9) (rest := [_, _]) cx (c_X7_of l G _ _ c 0 (by omega) (by decide)) gV_X7_47 ndX7_of rfl ⟨Nat.le_of_ble_eq_true rfl, Nat.le_of_ble_eq_true rfl⟩ (zok_8 (by decide)) (by decide) (p_M) rfl rfl rfl (Nat.le_of_ble_eq_true rfl) dX7_giveFirst_18 ⟨Nat.le_of_ble_eq_true rfl, Nat.le_of_ble_eq_true rfl⟩ ?_
    refine x_Si (rest := [_, _]) cx (c_X7_ones l G _ _ _) gS_X7_62 ndX7_ones ⟨Nat.le_of_ble_eq_true rfl, Nat.le_of_ble_eq_true rfl⟩ rfl rfl (Nat.le_of_ble_eq_true rfl) dX7_giveFirst_21 ⟨Nat.le_of_ble_eq_true rfl, Nat.le_of_ble_eq_true rfl⟩ ?_
    refine x_Vv (C := RX7) (T := TX7) (N := 9) (rest := []) cx (c_X7_give l G _ _ c (by omega) _) gV_X7_66 ndX7_give rfl ⟨Nat.le_of_ble_eq_true rfl, Nat.le_of_ble_eq_true rfl⟩ (zok_8 (by decide)) (by decide) (p_M) rfl rfl rfl (Nat.le_of_ble_eq_true rfl) dX7_giveFirst_24 ⟨Nat.le_of_ble_eq_true rfl, Nat.le_of_ble_eq_true rfl⟩ ?_
    exact x_vret cx hr (by intro _ _ _ _; unfold zFirst zFI; rw [if_pos ((le0_iff hid).mp hb8)]) dX7_giveFirst_27
  · refine x_iconst (v := 1) cx dX7_giveFirst_11 (by decide) ?_
    refine x_goto (tgt := 24) cx dX7_giveFirst_12 (by decide) ?_
    refine x_Vv (C := RX7) (T := TX7) (N := 9) (rest := []) cx (c_X7_give l G _ _ c (by omega) _) gV_X7_66 ndX7_give rfl ⟨Nat.le_of_ble_eq_true rfl, Nat.le_of_ble_eq_true rfl⟩ (zok_8 (by decide)) (by decide) (p_M) rfl rfl rfl (Nat.le_of_ble_eq_true rfl) dX7_giveFirst_24 ⟨Nat.le_of_ble_eq_true rfl, Nat.le_of_ble_eq_true rfl⟩ ?_
    exact x_vret cx hr (by intro _ _ _ _; unfold zFirst zFI; rw [if_neg (fun z => hb8 ((le0_iff hid).mpr z))]) dX7_giveFirst_27

set_option maxHeartbeats 4000000 in
set_option maxRecDepth 100000 in
theorem c_X7_copyRow (l : Launch) (G : zG) (h h2 : zH) (jf jt nF nT : Nat) (F T : Nat → Int32) (fa ta : Nat) (hjf : jf < 7) (hjt : jt < 7) (hne : jf ≠ jt) (hF : h 8 jf = .inl (G.2.1 0, nF, .inl F)) (hT : h 8 jt = .inl (G.2.1 0, nT, .inl T)) (hfa : fa + 66 ≤ nF) (hta : ta + 66 ≤ nT) (hnF : nF ≤ 1000) (hnT : nT ≤ 1000) (hh : ∀ i j, zok i j → zix i j < 75 → h2 i j = hset h 8 jt (.inl (G.2.1 0, nT, .inl (rowC F T fa ta 66))) i j) : Met l yX7_copyRow (zws yX7_copyRow cX7_copyRow 5 none) (zrm 0 0 0 0) (zPc G 75 (h) [.ref (zad G 8 jf), .int (nI fa), .ref (zad G 8 jt), .int (nI ta)]) (zQv G 75 (h2)) 0 0 (zA G) := by
  refine zMet npX7_copyRow rfl (Nat.le_of_ble_eq_true rfl) ?_
  intro p e s m args below meth cd hargs cx hr hin0
  have cx : Cx p s m args meth cd cX7_copyRow 5 RX7 G := cx
  refine x_ls (ls' := [some (.ref (zad G 8 jf)), some (.int (nI fa)), some (.ref (zad G 8 jt)), some (.int (nI ta)), none]) rfl (fun _ h => h) ?_
  refine x_iconst (v := 0) cx dX7_copyRow_0 (by decide) ?_
  refine x_istore (ls' := [_, _, _, _, _]) cx dX7_copyRow_1 (by decide) rfl ?_
  suffices K : ∀ f k : Nat, k + f = 66 → Xh p l e _ s m args below meth cd 5 G _ 0 0 75 (hset h 8 jt (.inl (G.2.1 0, nT, .inl (rowC F T fa ta k)))) 3 [some (.ref (zad G 8 jf)), some (.int (nI fa)), some (.ref (zad G 8 jt)), some (.int (nI ta)), some (.int (nI k))] [] from x_conv (fun i j _ _ => by rw [rowC_z]; exact hset_self hT i j) (K 66 0 rfl)
  intro f
  induction f with
  | zero =>
    intro k hk
    obtain rfl : k = 66 := by omega
    refine x_iload cx dX7_copyRow_3 rfl ?_
    refine x_bipush (v := 66) cx dX7_copyRow_5 (by decide) ?_
    refine x_icmp_ge_t (tgt := 28) cx dX7_copyRow_7 (by decide) (by decide) ?_
    exact x_vret cx hr hh dX7_copyRow_28
  | succ f ih =>
    intro k hk
    refine x_iload cx dX7_copyRow_3 rfl ?_
    refine x_bipush (v := 66) cx dX7_copyRow_5 (by decide) ?_
    refine x_icmp_ge_f (tgt := 28) cx dX7_copyRow_7 (by decide) (nI_ge (b := 66) (by omega) (by decide)) ?_
    refine x_aload_n cx dX7_copyRow_10 rfl rfl ?_
    refine x_iload_n cx dX7_copyRow_11 rfl rfl ?_
    refine x_iload cx dX7_copyRow_12 rfl ?_
    refine x_iadd cx dX7_copyRow_14 ?_
    refine x_aload_n cx dX7_copyRow_15 rfl rfl ?_
    refine x_iload_n cx dX7_copyRow_16 rfl rfl ?_
    refine x_iload cx dX7_copyRow_17 rfl ?_
    refine x_iadd cx dX7_copyRow_19 ?_
    refine x_iald (t := (fa + k)) cx (zok_8 hjf) (zix_8 hjf) (hset_ne (fun z => hne z.2) hF) (nI_add fa k) (by omega) (by assumption) rfl dX7_copyRow_20 ?_
    refine x_iast (h' := hset h 8 jt (.inl (G.2.1 0, nT, .inl (rowC F T fa ta (k + 1))))) (t := (ta + k)) cx (zok_8 hjt) (zix_8 hjt) hset_same (nI_add ta k) (by omega) (by assumption) (fun i j _ _ => by rw [hset_hset, rowC_s]) dX7_copyRow_21 ?_
    refine x_iinc (v := nI (k + 1)) (ls' := [_, _, _, _, _]) cx dX7_copyRow_22 rfl (nI_inc _) (by decide) rfl ?_
    refine x_goto (tgt := 3) cx dX7_copyRow_25 (by decide) ?_
    exact ih (k + 1) (by omega)

set_option maxHeartbeats 4000000 in
set_option maxRecDepth 100000 in
theorem c_X7_record (l : Launch) (G : zG) (S : zS) (h0 : Nat) (hs : S 15 0 0 = nI h0) (h4 : h0 ≤ 4) : Met l yX7_record (zws yX7_record cX7_record 2 none) (zrm 1 0 0 24) (zPc G 75 (pic G S) [.ref (zad G 8 0)]) (zQv G 75 (pic G (mRec S))) 0 0 (zA G) := by
  refine zMet npX7_record rfl (Nat.le_of_ble_eq_true rfl) ?_
  intro p e s m args below meth cd hargs cx hr hin0
  have cx : Cx p s m args meth cd cX7_record 2 RX7 G := cx
  refine x_ls (ls' := [some (.ref (zad G 8 0)), none]) rfl (fun _ h => h) ?_
  have K : ∀ (S1 : zS) (h1 : Nat), S1 15 0 0 = nI h1 → h1 < 4 → mRec1 S1 = mRec S → ∀ lo1v : Option Value, lo1 [some (.ref (zad G 8 0)), lo1v] = true → Xh p l e (zrm 1 0 0 24) s m args below meth cd 2 G (MQ below (zQv G 75 (pic G (mRec S))) args s 0 0 (zA G)) 0 0 75 (pic G S1) 48 [some (.ref (zad G 8 0)), lo1v] [] := by
    intro S1 h1 hs1 hl1 hz v _
    refine x_aload_n cx dX7_record_48 rfl rfl ?_
    refine x_getX7 cx 0 (by decide) (fl_X7_7 cx) (zok_8 (by decide)) (by decide) (p_M) rfl dX7_record_49 ?_
    refine x_iconst (v := 0) cx dX7_record_52 (by decide) ?_
    refine x_aload_n cx dX7_record_53 rfl rfl ?_
    refine x_getX7 cx 2 (by decide) (fl_X7_16 cx) (zok_8 (by decide)) (by decide) (p_M) rfl dX7_record_54 ?_
    refine x_bipush (v := 66) cx dX7_record_57 (by decide) ?_
    refine x_aload_n cx dX7_record_59 rfl rfl ?_
    refine x_getX7 cx 3 (by decide) (fl_X7_32 cx) (zok_8 (by decide)) (by decide) (p_M) rfl dX7_record_60 ?_
    refine x_eqi hs1 ?_
    refine x_imul cx dX7_record_63 ?_
    refine x_eqi (mul66 h1) ?_
    refine x_Sv (rest := []) cx (c_X7_copyRow l G _ (pic G (up S1 (11 + h1) (S1 8))) 1 3 66 264 _ _ 0 (66 * h1) (by decide) (by decide) (by decide) p_zg p_past (by decide) (by omega) (by decide) (by decide) (cp_z_past hl1)) gS_X7_36 ndX7_copyRow ⟨Nat.le_of_ble_eq_true rfl, Nat.le_of_ble_eq_true rfl⟩ rfl rfl (Nat.le_of_ble_eq_true rfl) dX7_record_64 ⟨Nat.le_of_ble_eq_true rfl, Nat.le_of_ble_eq_true rfl⟩ ?_
    refine x_aload_n cx dX7_record_67 rfl rfl ?_
    refine x_dup cx dX7_record_68 rfl ?_
    refine x_getX7 cx 3 (by decide) (fl_X7_32 cx) (zok_8 (by decide)) (by decide) (p_M) rfl dX7_record_69 ?_
    refine x_iconst (v := 1) cx dX7_record_72 (by decide) ?_
    refine x_iadd cx dX7_record_73 ?_
    refine x_putX7 cx 3 (by decide) (fl_X7_32 cx) (zok_8 (by decide)) (by decide) (p_M) rfl rfl rfl (Nat.le_of_ble_eq_true rfl) (pp_M_states) dX7_record_74 ?_
    exact x_vret cx hr (by intro _ _ _ _; rw [← hz]; unfold mRec1; rw [up_ne _ _ (show 15 ≠ 11 + h1 by omega), hs1, show tn (nI h1) = h1 from nI_clamp (by omega)]) dX7_record_77
  refine x_aload_n cx dX7_record_0 rfl rfl ?_
  refine x_getX7 cx 3 (by decide) (fl_X7_32 cx) (zok_8 (by decide)) (by decide) (p_M) rfl dX7_record_1 ?_
  refine x_eqi hs ?_
  refine x_iconst (v := 4) cx dX7_record_4 (by decide) ?_
  refine x_icmp_ne (tgt := 48) cx dX7_record_5 (by decide) (fun hb5 => ?_) (fun hb5 => ?_)
  · exact K S h0 hs (by rcases Nat.lt_or_ge h0 4 with z | z <;> first | exact z | exact absurd (show nI h0 = 4 by rw [show h0 = 4 by omega]; rfl) hb5) (by unfold mRec mRec0; rw [if_neg (by rw [hs]; exact hb5)]) none rfl
  · refine x_iconst (v := 0) cx dX7_record_8 (by decide) ?_
    refine x_istore_n (ls' := [_, _]) cx dX7_record_9 rfl (by decide) rfl ?_
    suffices K2 : ∀ f k : Nat, k + f = 198 → Xh p l e _ s m args below meth cd 2 G _ 0 0 75 (hset (pic G S) 8 3 (.inl (G.2.1 0, 264, .inl (shf (tr 264 (pf S)) k)))) 10 [some (.ref (zad G 8 0)), some (.int (nI k))] [] from x_conv (fun i j _ _ => by rw [shf_z]; exact hset_self rfl i j) (K2 198 0 rfl)
    intro f
    induction f with
    | zero =>
      intro k hk
      obtain rfl : k = 198 := by omega
      refine x_iload_n cx dX7_record_10 rfl rfl ?_
      refine x_sipush (v := 198) cx dX7_record_11 (by decide) ?_
      refine x_icmp_ge_t (tgt := 38) cx dX7_record_14 (by decide) (by decide) ?_
      refine x_conv (fun i j h1 h2 => sh_conv i j h1 h2) ?_
      refine x_aload_n cx dX7_record_38 rfl rfl ?_
      refine x_dup cx dX7_record_39 rfl ?_
      refine x_getX7 cx 3 (by decide) (fl_X7_32 cx) (zok_8 (by decide)) (by decide) (p_M) rfl dX7_record_40 ?_
      refine x_eqi (show _ = nI h0 from hs) ?_
      refine x_iconst (v := 1) cx dX7_record_43 (by decide) ?_
      refine x_isub cx dX7_record_44 ?_
      refine x_eqi (show _ = nI 3 by rw [hb5]; decide) ?_
      refine x_putX7 cx 3 (by decide) (fl_X7_32 cx) (zok_8 (by decide)) (by decide) (p_M) rfl rfl rfl (Nat.le_of_ble_eq_true rfl) (pp_M_states) dX7_record_45 ?_
      exact K _ 3 (by rw [up_same, uj_same, upd_same]) (by decide) (by unfold mRec mRec0; rw [if_pos (by rw [hs]; exact hb5)]; unfold mDrop; rw [hs, hb5, show (4 : Int32) - 1 = nI 3 by decide]; rfl) _ rfl
    | succ f ih =>
      intro k hk
      refine x_iload_n cx dX7_record_10 rfl rfl ?_
      refine x_sipush (v := 198) cx dX7_record_11 (by decide) ?_
      refine x_icmp_ge_f (tgt := 38) cx dX7_record_14 (by decide) (nI_ge (b := 198) (by omega) (by decide)) ?_
      refine x_aload_n cx dX7_record_17 rfl rfl ?_
      refine x_getX7 cx 2 (by decide) (fl_X7_16 cx) (zok_8 (by decide)) (by decide) (hset_ne (by omega) p_M) rfl dX7_record_18 ?_
      refine x_iload_n cx dX7_record_21 rfl rfl ?_
      refine x_aload_n cx dX7_record_22 rfl rfl ?_
      refine x_getX7 cx 2 (by decide) (fl_X7_16 cx) (zok_8 (by decide)) (by decide) (hset_ne (by omega) p_M) rfl dX7_record_23 ?_
      refine x_iload_n cx dX7_record_26 rfl rfl ?_
      refine x_bipush (v := 66) cx dX7_record_27 (by decide) ?_
      refine x_iadd cx dX7_record_29 ?_
      refine x_iald (t := (k + 66)) cx (zok_8 (by decide)) (by decide) hset_same (nI_add k 66) (by omega) (by decide) (show shf (tr 264 (pf S)) k (k + 66) = tr 264 (pf S) (k + 66) by unfold shf; rw [if_neg (by omega)]) dX7_record_30 ?_
      refine x_iast (h' := hset (pic G S) 8 3 (.inl (G.2.1 0, 264, .inl (shf (tr 264 (pf S)) (k + 1))))) (t := k) cx (zok_8 (by decide)) (by decide) hset_same rfl (by omega) (by decide) (fun i j _ _ => by rw [hset_hset, shf_s]) dX7_record_31 ?_
      refine x_iinc (v := nI (k + 1)) (ls' := [_, _]) cx dX7_record_32 rfl (nI_inc _) (by decide) rfl ?_
      refine x_goto (tgt := 10) cx dX7_record_35 (by decide) ?_
      exact ih (k + 1) (by omega)

