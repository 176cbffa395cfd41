/-! ===== what an act does ===== -/
def Act (S : zS) (r : Int32) (T : zS) : Prop := ((r = -1 ∨ r = -3) ∧ T = S) ∨ ((∃ n, n < 2 ^ 31 ∧ r = nI n) ∧ ∃ Z X, XOK X ∧ T = up (zRec (up S 1 Z)) 0 X)
abbrev PA (G : zG) (S : zS) : Int32 → zH → Prop := fun r h => ∃ T, h = pic G T ∧ Act S r T
section AC
variable {G : zG} {S T : zS} {X : zCV} {r : Int32} {n : Nat}
theorem Act_no (h : r = -1 ∨ r = -3) : PA G S r (pic G S) := ⟨S, rfl, Or.inl ⟨h, rfl⟩⟩
theorem Act_yes1 {Z : zCV} (hr : r = nI n) (hn : n < 2 ^ 31) (hX : XOK X) (hT : T = up (zRec (up S 1 Z)) 0 X) : PA G S r (pic G T) := ⟨T, rfl, Or.inr ⟨⟨n, hn, hr⟩, Z, X, hX, hT⟩⟩
theorem Act_yes (hr : r = nI n) (hn : n < 2 ^ 31) (hX : XOK X) (hT : T = up (zRec S) 0 X) : PA G S r (pic G T) := Act_yes1 (Z := S 1) hr hn hX (by rw [up_self]; exact hT)
end AC
theorem zin01 {m : Nat} (h : m < 2) : ¬ zin (nI m) 0 1 = 0 := by
  rcases (show m = 0 ∨ m = 1 by omega) with rfl | rfl <;> decide
theorem eClk_ok {a b : Nat} (ha : a < 2) (hb : b < 2) : eClk (nI a) (nI b) = 0 := by
  unfold eClk
  rw [if_neg (zin01 ha), if_neg (zin01 hb)]
theorem zinL_t : ∀ m, m < 7 → 2 ≤ m → ¬ zin (nI m) 2 6 = 0 := by decide +kernel
theorem zinK_t : ∀ m, m < 9 → 1 ≤ m → ¬ zin (nI m) 1 8 = 0 := by decide +kernel
theorem zinI_t : ∀ m, m < 254 → (m = 0 ∨ m % 2 = 1) → ¬ zisId (nI m) = 0 := by decide +kernel
theorem zin8_t : ∀ m, m < 256 → ¬ zin (nI m) 0 255 = 0 := by decide +kernel
theorem zin6_t : ∀ m, m < 64 → ¬ zin (nI m) 0 63 = 0 := by decide +kernel
set_option maxRecDepth 100000 in
theorem shl_t : ∀ b, b < 9 → ∀ i, i < 2 → nI i <<< (nI b &&& 31) = nI (i * 2 ^ b) := by decide +kernel
theorem shl1_t {b : Nat} (hb : b < 9) : nI 1 <<< (nI b &&& 31) = nI (2 ^ b) := (shl_t b hb 1 (by decide)).trans (by rw [Nat.one_mul])
section CK2
variable {X : zCV} {md : Int32} {m i : Nat}
theorem tick_3 (md x : Int32) (t : Nat) : zTick X md x (t + 3) = zWorkAll X x (t + 3) := uj_ne _ _ (by omega)
theorem ck_D (h : XOK X) (hs : stt X = 4) (hn : 0 < num X) (hi : i < 2) (e : X (0 + 3) 8 = nI m) (hm : m < 2 ^ aB (X (0 + 3))) : zTick X md (nI i) (0 + 3) 8 = nI (m / 2) + (nI i <<< (nI (aB (X (0 + 3)) - 1) &&& 31)) := by
  have hB := cOK_B (h.chip hn)
  rw [tick_3]
  unfold zWorkAll zShiftD
  rw [if_pos (st_4 h.1 hs), zMap_in hn]
  show zSh (X (0 + 3) 8) (zBits (X (0 + 3))) (nI i) = _
  rw [e, hB.1, (zSh_t _ (by omega) hB.2.1 m hm i hi).1, shl_t _ (by omega) i hi]
  exact (nI_add _ _).symm
theorem ck_C (h : XOK X) (hs : stt X = 11) (hn : 0 < num X) (hi : i < 2) (e : X (0 + 3) 7 = nI m) (hm : m < 2 ^ aL (X (0 + 3))) : zTick X md (nI i) (0 + 3) 7 = nI (m / 2) + (nI i <<< (nI (aL (X (0 + 3)) - 1) &&& 31)) := by
  have hL := (h.chip hn).1.1
  rw [tick_3]
  unfold zWorkAll zShiftC
  rw [if_neg (show ¬ X 0 1 = 4 from st_n h.1 (k := 4) (by decide) (by omega)), if_pos (st_11 h.1 hs), zMap_in hn]
  show zSh (X (0 + 3) 7) (X (0 + 3) 0) (nI i) = _
  rw [e, hL.2.2, (zSh_t _ (by omega) (by omega) m hm i hi).1, shl_t _ (by omega) i hi]
  exact (nI_add _ _).symm
end CK2
theorem tk_next {X : zCV} (h : zWF X) {p : Nat} (hp : p < num X) (v : Int32) : zTellX (zTake X p) (nI p) v = zTellX X (nI (p + 1)) v := by
  have h6 := h.n6
  have hn := num_take h p (by omega)
  by_cases hq : p + 1 < num X
  · rw [tl_in (zTake_WF h hp) (by omega), tl_in h hq, zTake_row h (by omega), if_pos (Nat.le_refl _)]
  · rw [tl_out (has_out (zTake_WF h hp) (by omega) (by omega)), tl_out (has_out h (by omega) (by omega))]
theorem brk_L {X : zCV} {t : Nat} {c : Nat → Int32} : ∀ k, zSumL zBrk (uj X (t + 3) c) k = if t < k then zSumL zBrk X k - zBrk (X (t + 3)) + zBrk c else zSumL zBrk X k
  | 0 => by rw [if_neg (by omega)]; rfl
  | k + 1 => by
    show zSumL zBrk (uj X (t + 3) c) k + zBrk (uj X (t + 3) c (k + 3)) = if t < k + 1 then zSumL zBrk X k + zBrk (X (k + 3)) - zBrk (X (t + 3)) + zBrk c else zSumL zBrk X k + zBrk (X (k + 3))
    rw [brk_L k]
    by_cases e : k = t
    · subst e
      rw [if_neg (by omega), if_pos (by omega), uj_same, Int32.add_sub_cancel]
    · rw [uj_ne _ _ (by omega)]
      by_cases h : t < k
      · rw [if_pos h, if_pos (by omega), Int32.sub_eq_add_neg, Int32.sub_eq_add_neg]
        ac_rfl
      · rw [if_neg h, if_neg (by omega)]
theorem brk_sum {X : zCV} (h : XOK X) {t : Nat} (ht : t < num X) {v : Int32} (hv : v = 0 ∨ v = 1) : zSum zBrk (zBrkX X t v) = zSum zBrk X - X (t + 3) 5 + v := by
  have h0 : num (zBrkX X t v) = num X := by unfold num zBrkX; rw [uj_ne _ _ (by omega)]
  unfold zSum
  rw [h0]
  unfold zBrkX
  rw [brk_L, if_pos ht, brk_5 (h.chip ht).1.2.2.2]
  congr 1
  have e : zBrk (upd (X (t + 3)) 5 v) = upd (X (t + 3)) 5 v 5 := brk_5 (by rw [upd_same]; exact hv)
  rw [e, upd_same]
theorem brk_le (X : zCV) : ∀ k, ∃ m, m ≤ k ∧ zSumL zBrk X k = nI m
  | 0 => ⟨0, Nat.le_refl _, rfl⟩
  | k + 1 => by
    obtain ⟨m, hm, e⟩ := brk_le X k
    show ∃ m', m' ≤ k + 1 ∧ zSumL zBrk X k + zBrk (X (k + 3)) = nI m'
    rw [e]
    unfold zBrk
    split
    · exact ⟨m, by omega, by rw [Int32.add_zero]⟩
    · exact ⟨m + 1, by omega, nI_1 m⟩
theorem brk_n {X : zCV} (h : zWF X) : ∃ m, m < 2 ^ 31 ∧ zSum zBrk X = nI m := by
  have h6 := h.n6
  obtain ⟨m, hm, e⟩ := brk_le X (num X)
  exact ⟨m, by omega, e⟩
theorem out_n (X : zCV) {i : Nat} (hi : i < 2) : ∃ m, m < 2 ^ 31 ∧ zOut X (nI i) = nI m := by
  obtain ⟨m, hm, e⟩ := zOut_01 (X := X) (x := nI i) ⟨i, hi, rfl⟩
  exact ⟨m, by omega, e⟩
theorem eHas_ok {X : zCV} (h : zWF X) {t : Nat} (ht : t < num X) : eHas X (nI t) = 0 := by
  unfold eHas
  rw [if_neg (has_in h ht)]
theorem eArg_ok {X : zCV} (h : zWF X) {t : Nat} (ht : t < num X) {v m : Int32} (hv : ¬ zin v 0 m = 0) : eArg X (nI t) v m = 0 := by
  unfold eArg
  rw [if_neg (has_in h ht), if_neg hv]
theorem eArg_no {X : zCV} (h : zWF X) (h0 : num X = 0) {v m : Int32} : eArg X (nI 0) v m = -1 := by
  unfold eArg
  rw [if_pos (has_out h (t := 0) (by omega) (by decide))]
theorem eMov_ok {b : Nat} (hb : b < 16) : eMov (nI b) = 0 := by
  unfold eMov
  rw [zis_ok hb, if_neg (by decide)]
theorem tn_n {t : Nat} (h : t < 2 ^ 31) : tn (nI t) = t := nI_clamp h
theorem add_row (X : zCV) (cl id ce : Int32) : zAdd X cl id ce (num X + 3) = zNew cl id ce := (uj_ne _ _ (by omega)).trans (uj_same _ _ _)
theorem pin_row (X : zCV) (t : Nat) (v : Int32) : zPinsX X t v (t + 3) = zPins (X (t + 3)) v := uj_same _ _ _
theorem brk_row (X : zCV) (t : Nat) (v : Int32) : zBrkX X t v (t + 3) = upd (X (t + 3)) 5 v := uj_same _ _ _
theorem num_pin (X : zCV) (t : Nat) (v : Int32) : num (zPinsX X t v) = num X := by unfold num zPinsX; rw [uj_ne _ _ (by omega)]
theorem num_brk (X : zCV) (t : Nat) (v : Int32) : num (zBrkX X t v) = num X := by unfold num zBrkX; rw [uj_ne _ _ (by omega)]
theorem num_exch (X : zCV) (q : Nat) (x : Int32) : num (zExch X q x) = num X := by
  unfold zExch
  rw [num_go, num_exX, num_go]
