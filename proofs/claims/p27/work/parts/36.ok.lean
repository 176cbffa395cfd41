/-! ===== registers fit their bits, whatever is done ===== -/
abbrev aL (c : Nat → Int32) : Nat := (c 0).toNatClampNeg
abbrev aI (c : Nat → Int32) : Nat := (c 1).toNatClampNeg
abbrev aK (c : Nat → Int32) : Nat := (c 2).toNatClampNeg
abbrev aB (c : Nat → Int32) : Nat := (zBits c).toNatClampNeg
def fN (x : Int32) (b : Nat) : Prop := ∃ m, m < 2 ^ b ∧ x = nI m
def b01 (x : Int32) : Prop := ∃ i, i < 2 ∧ x = nI i
def idOK (v : Int32) : Prop := ∃ m, v = nI m ∧ m < 255 ∧ (m = 0 ∨ m % 2 = 1)
def cOK (c : Nat → Int32) : Prop := ((2 ≤ aL c ∧ aL c ≤ 6 ∧ c 0 = nI (aL c)) ∧ (1 ≤ aK c ∧ aK c ≤ 8 ∧ c 2 = nI (aK c)) ∧ (aI c < 254 ∧ (aI c = 0 ∨ aI c % 2 = 1) ∧ c 1 = nI (aI c)) ∧ (c 5 = 0 ∨ c 5 = 1)) ∧ (fN (c 3) (aK c) ∧ fN (c 4) (aK c)) ∧ (fN (c 6) (aL c) ∧ fN (c 7) (aL c)) ∧ fN (c 8) (aB c)
theorem p2le {a b : Nat} (h : a ≤ b) : 2 ^ a ≤ 2 ^ b := Nat.pow_le_pow_right (by decide) h
theorem fN_le {x : Int32} {a b : Nat} (h : fN x a) (hab : a ≤ b) : fN x b := by
  obtain ⟨m, h1, h2⟩ := h
  exact ⟨m, Nat.lt_of_lt_of_le h1 (p2le hab), h2⟩
theorem fN_0 (b : Nat) : fN 0 b := ⟨0, Nat.two_pow_pos b, rfl⟩
theorem b01_fN {x : Int32} (h : b01 x) : x = 0 ∨ x = 1 := by
  obtain ⟨i, hi, rfl⟩ := h
  rcases (show i = 0 ∨ i = 1 by omega) with rfl | rfl
  · exact Or.inl rfl
  · exact Or.inr rfl
theorem b01_of {x : Int32} (h : x = 0 ∨ x = 1) : b01 x := by
  rcases h with rfl | rfl
  · exact ⟨0, by decide, rfl⟩
  · exact ⟨1, by decide, rfl⟩
theorem b01_1 : b01 1 := ⟨1, by decide, rfl⟩
theorem b01_0 : b01 0 := ⟨0, by decide, rfl⟩
theorem zDO_01 (c : Nat → Int32) : b01 (zDO c) := b01_of (by unfold zDO; split <;> first | exact bit_01 _ | exact Or.inr rfl)
theorem zCO_01 (c : Nat → Int32) : b01 (zCO c) := b01_of (by unfold zCO; split <;> first | exact bit_01 _ | exact Or.inr rfl)
theorem zBit_01 (x : Int32) (b : Nat) : b01 (zBit x b) := b01_of (bit_01 _)
theorem zOut_01 {X : zCV} {x : Int32} (h : b01 x) : b01 (zOut X x) := by
  unfold zOut
  split
  · split
    · exact h
    · exact zDO_01 _
  · split
    · split
      · exact h
      · exact zCO_01 _
    · exact b01_1
set_option maxRecDepth 100000 in
theorem zOnes_t : ∀ b, b < 9 → zOnes (nI b) = nI (2 ^ b - 1) := by decide +kernel
set_option maxRecDepth 100000 in
theorem zSh_t : ∀ b, b < 9 → 1 ≤ b → ∀ m, m < 2 ^ b → ∀ i, i < 2 → zSh (nI m) (nI b) (nI i) = nI (m / 2 + i * 2 ^ (b - 1)) ∧ m / 2 + i * 2 ^ (b - 1) < 2 ^ b := by decide +kernel
set_option maxRecDepth 100000 in
theorem thO_t : ∀ b, b < 8 → ∀ m, m < 2 ^ b → ∀ i, i < 2 → nI m ||| (nI i <<< (nI b &&& 31)) = nI (m + i * 2 ^ b) ∧ m + i * 2 ^ b < 2 ^ (b + 1) := by decide +kernel
set_option maxRecDepth 100000 in
theorem rdV_t : ∀ m, m < 128 → (1 : Int32) ||| (nI m <<< ((1 : Int32) &&& 31)) = nI (2 * m + 1) := by decide +kernel
theorem pins_t {w b : Nat} (hw : w < 256) (hb : b < 9) : nI w &&& zOnes (nI b) = nI (w % 2 ^ b) := by
  refine pk_andN (by omega) b ?_
  have key : ∀ b, b < 9 → (zOnes (nI b)).toBitVec.toNat = 2 ^ b - 1 := by decide +kernel
  exact key b hb
theorem cOK_c {c : Nat → Int32} (h : cOK c) : cWF c := by
  obtain ⟨⟨⟨a1, a2, a3⟩, ⟨b1, b2, b3⟩, ⟨c1, c2, c3⟩, h5⟩, -⟩ := h
  exact ⟨⟨_, a1, a2, a3⟩, ⟨_, b1, b2, b3⟩, h5, by rw [c3]; exact nI_pos' (by omega)⟩
theorem cOK_B {c : Nat → Int32} (h : cOK c) : zBits c = nI (aB c) ∧ 1 ≤ aB c ∧ aB c ≤ 8 := cWF_bits (cOK_c h)
theorem aB_C {c : Nat → Int32} (h : zC c) : aB c = aK c := by
  unfold aB zBits
  rw [if_pos h]
theorem aB_I {c : Nat → Int32} (h : ¬ zC c) (h2 : zI c) : aB c = 8 := by
  unfold aB zBits
  rw [if_neg h, if_pos h2]
  rfl
theorem zBits_upd {c : Nat → Int32} {k : Nat} {v : Int32} (h1 : k ≠ 1) (h2 : k ≠ 2) (h6 : k ≠ 6) : zBits (upd c k v) = zBits c := by
  unfold zBits zC zI
  rw [upd_ne _ _ (Ne.symm h1), upd_ne _ _ (Ne.symm h2), upd_ne _ _ (Ne.symm h6)]
section CK
variable {c : Nat → Int32} {v : Int32}
theorem cOK_8 (h : cOK c) (hv : fN v (aB c)) : cOK (upd c 8 v) := by
  have e : aB (upd c 8 v) = aB c := by unfold aB; rw [zBits_upd (by decide) (by decide) (by decide)]
  obtain ⟨h1, h2, h3, h4⟩ := h
  exact ⟨h1, h2, h3, by rw [e]; exact hv⟩
theorem cOK_7 (h : cOK c) (hv : fN v (aL c)) : cOK (upd c 7 v) := by
  have e : aB (upd c 7 v) = aB c := by unfold aB; rw [zBits_upd (by decide) (by decide) (by decide)]
  obtain ⟨h1, h2, h3, h4⟩ := h
  exact ⟨h1, h2, ⟨h3.1, hv⟩, by rw [e]; exact h4⟩
theorem cOK_4 (h : cOK c) (hv : fN v (aK c)) : cOK (upd c 4 v) := by
  have e : aB (upd c 4 v) = aB c := by unfold aB; rw [zBits_upd (by decide) (by decide) (by decide)]
  obtain ⟨h1, h2, h3, h4⟩ := h
  exact ⟨h1, ⟨h2.1, hv⟩, h3, by rw [e]; exact h4⟩
theorem cOK_3 (h : cOK c) (hv : fN v (aK c)) : cOK (upd c 3 v) := by
  have e : aB (upd c 3 v) = aB c := by unfold aB; rw [zBits_upd (by decide) (by decide) (by decide)]
  obtain ⟨h1, h2, h3, h4⟩ := h
  exact ⟨h1, ⟨hv, h2.2⟩, h3, by rw [e]; exact h4⟩
theorem cOK_5 (h : cOK c) (hv : v = 0 ∨ v = 1) : cOK (upd c 5 v) := by
  have e : aB (upd c 5 v) = aB c := by unfold aB; rw [zBits_upd (by decide) (by decide) (by decide)]
  obtain ⟨⟨a1, a2, a3, a4⟩, h2, h3, h4⟩ := h
  exact ⟨⟨a1, a2, a3, hv⟩, h2, h3, by rw [e]; exact h4⟩
theorem cOK_give (h : cOK c) (hv : fN v (aL c)) : cOK (zGive c v) := by
  obtain ⟨h1, h2, h3, h4⟩ := h
  exact ⟨h1, h2, ⟨hv, h3.2⟩, fN_0 _⟩
theorem fN_FI (h : cOK c) : fN (zFI c) (aL c) := by
  obtain ⟨⟨⟨a1, a2, a3⟩, -⟩, -⟩ := h
  have hp := Nat.two_pow_pos (aL c)
  unfold zFI
  split
  · refine ⟨2 ^ aL c - 1, by omega, ?_⟩
    rw [a3, zOnes_t _ (by omega)]
  · exact ⟨1, Nat.one_lt_two_pow (by omega), rfl⟩
theorem cOK_first (h : cOK c) : cOK (zFirst c) := cOK_give h (fN_FI h)
theorem cOK_cap (h : cOK c) : cOK (zCap c) := by
  refine cOK_8 h ?_
  unfold zCapV
  by_cases h1 : zC c
  · rw [if_pos h1, aB_C h1]
    exact h.2.1.1
  · rw [if_neg h1]
    by_cases h2 : zI c
    · rw [if_pos h2, aB_I h1 h2]
      obtain ⟨⟨-, -, ⟨i1, -, i3⟩, -⟩, -⟩ := h
      exact ⟨aI c, by omega, i3⟩
    · rw [if_neg h2]
      exact fN_0 _
theorem cOK_upd (h : cOK c) : cOK (zUpd c) := by
  unfold zUpd
  by_cases h6 : c 6 = 0
  · rw [if_pos h6]
    refine cOK_4 h ?_
    rw [← aB_C (Or.inl h6)]
    exact h.2.2.2
  · rw [if_neg h6]
    exact h
theorem cOK_work (s : Int32) (h : cOK c) : cOK (zWork s c) := by
  unfold zWork
  split
  · exact cOK_first h
  · split
    · exact cOK_cap h
    · split
      · exact cOK_upd h
      · split
        · exact cOK_7 h ⟨1, Nat.one_lt_two_pow (by have := h.1.1.1; omega), rfl⟩
        · split
          · exact cOK_give h h.2.2.1.2
          · exact h
theorem zSh_fN {r b x : Int32} {B : Nat} (hb : b = nI B) (h1 : 1 ≤ B) (h8 : B ≤ 8) (hr : fN r B) (hx : b01 x) : fN (zSh r b x) B := by
  obtain ⟨m, hm, rfl⟩ := hr
  obtain ⟨i, hi, rfl⟩ := hx
  subst hb
  have := zSh_t B (by omega) h1 m hm i hi
  exact ⟨_, this.2, this.1⟩
theorem cOK_shD (h : cOK c) {x : Int32} (hx : b01 x) : cOK (zShD c x) := by
  have hB := cOK_B h
  exact cOK_8 h (zSh_fN hB.1 hB.2.1 hB.2.2 h.2.2.2 hx)
theorem cOK_shC (h : cOK c) {x : Int32} (hx : b01 x) : cOK (zShC c x) := by
  have hL := h.1.1
  exact cOK_7 h (zSh_fN hL.2.2 (by omega) (by omega) h.2.2.1.2 hx)
end CK
/-- a chain's value: bounds, chips, identities -/
def XOK (X : zCV) : Prop := zWF X ∧ (∀ t, t < num X → cOK (X (t + 3))) ∧ ∀ k, k < cnt X → idOK (X 2 k)
section XK
variable {X Y : zCV} {x md : Int32}
theorem XOK.wf (h : XOK X) : zWF X := h.1
theorem XOK.chip (h : XOK X) {t : Nat} (ht : t < num X) : cOK (X (t + 3)) := h.2.1 t ht
theorem XOK_Q (h : Qv X Y) (hX : XOK X) : XOK Y := by
  refine ⟨QWF h hX.1, fun t ht => ?_, fun k hk => ?_⟩
  · rw [← Qnum h] at ht
    rw [← h.2.2 t ht]
    exact hX.2.1 t ht
  · rw [← Qcnt h] at hk
    rw [← h.2.1 k hk]
    exact hX.2.2 k hk
theorem XOK_copy (Z : zCV) (h : XOK X) : XOK (zCopy Z X) := by
  have hc : Qv (zCopy Z X) X := Qcopy (Qrf X)
  have h0 : zCopy Z X 0 = X 0 := zCopy_0 Z X
  refine ⟨zCopy_WF h.1, fun t ht => ?_, fun k hk => ?_⟩
  · rw [hc.2.2 t ht]
    exact h.2.1 t (by rw [← Qnum hc]; exact ht)
  · rw [hc.2.1 k hk]
    exact h.2.2 k (by rw [← Qcnt hc]; exact hk)
theorem zInc_01 {O : (Nat → Int32) → Int32} (hO : ∀ c, b01 (O c)) (hx : b01 x) : ∀ k, b01 (zInc O X x k)
  | 0 => hx
  | _ + 1 => hO _
theorem work_2 (X : zCV) (x : Int32) : zWorkAll X x 2 = X 2 := by
  unfold zWorkAll zShiftD zShiftC
  repeat' split
  all_goals exact zMap_lo (by decide)
theorem work_c (h : XOK X) (hx : b01 x) {t : Nat} (ht : t < num X) : cOK (zWorkAll X x (t + 3)) := by
  unfold zWorkAll zShiftD zShiftC
  have hc := h.chip ht
  split
  · rw [zMap_in ht]; exact cOK_shD hc (zInc_01 zDO_01 hx t)
  · split
    · rw [zMap_in ht]; exact cOK_shC hc (zInc_01 zCO_01 hx t)
    · rw [zMap_in ht]; exact cOK_work _ hc
theorem XOK_tick (h : XOK X) (hx : b01 x) : XOK (zTick X md x) := by
  refine ⟨zTick_WF h.1, fun t ht => ?_, fun k hk => ?_⟩
  · rw [num_tick] at ht
    have hz : zTick X md x (t + 3) = zWorkAll X x (t + 3) := uj_ne _ _ (by omega)
    rw [hz]
    exact work_c h hx ht
  · rw [cnt_tick] at hk
    have hz : zTick X md x 2 = X 2 := (uj_ne _ _ (by decide)).trans (work_2 X x)
    rw [hz]
    exact h.2.2 k hk
theorem XOK_goL {b : Nat} : ∀ (d : Nat) {X : zCV}, XOK X → XOK (zGoL d X b)
  | 0, _, h => h
  | d + 1, _, h => XOK_goL d (XOK_tick h b01_1)
theorem XOK_go {b : Nat} (h : XOK X) : XOK (zGo X b) := XOK_goL _ h
theorem XOK_th {L : Nat} {la : Int32} (h : XOK X) : ∀ b, XOK (zThX x L la b X)
  | 0 => h
  | b + 1 => XOK_tick (XOK_th h b) (zBit_01 _ _)
theorem XOK_tkN : ∀ (k : Nat) {X : zCV}, XOK X → XOK (zTkN k X)
  | 0, _, h => h
  | k + 1, _, h => XOK_tkN k (XOK_tick h b01_1)
theorem XOK_rdX (h : XOK X) : XOK (zRdX X) := by
  unfold zRdX
  split
  · exact XOK_tick h b01_1
  · exact XOK_th (XOK_tick h b01_1) _
theorem thO_fN {L : Nat} {la : Int32} (X : zCV) : ∀ b, b ≤ 8 → fN (zThO x L la b X) b
  | 0, _ => ⟨0, by decide, rfl⟩
  | b + 1, h => by
    obtain ⟨m, hm, e⟩ := thO_fN X b (by omega)
    obtain ⟨i, hi, e2⟩ := zOut_01 (X := zThX x L la b X) (zBit_01 x b)
    have := thO_t b (by omega) m hm i hi
    refine ⟨_, this.2, ?_⟩
    show zThO x L la b X ||| (zOut (zThX x L la b X) (zBit x b) <<< (nI b &&& 31)) = _
    rw [e, e2]
    exact this.1
theorem rdV_ok (X : zCV) (h : ¬ zRdV X = 255) : idOK (zRdV X) := by
  unfold zRdV at h ⊢
  split
  · exact ⟨0, rfl, by decide, Or.inl rfl⟩
  · rename_i h0
    rw [if_neg h0] at h
    obtain ⟨m, hm, e⟩ := thO_fN (x := zOnes 7) (L := 7) (la := 0) (zTick X 0 1) 7 (by decide)
    rw [e, rdV_t m hm] at h ⊢
    have hne : 2 * m + 1 ≠ 255 := fun z => h (by rw [z]; rfl)
    exact ⟨2 * m + 1, rfl, by have : m < 128 := hm; omega, Or.inr (by omega)⟩
theorem XOK_forget (h : XOK X) : XOK (zForget X) := by
  refine ⟨zForget_WF h.1, fun t ht => ?_, fun k hk => ?_⟩
  · rw [num_forget] at ht
    have hz : zForget X (t + 3) = X (t + 3) := uj_ne _ _ (by omega)
    rw [hz]
    exact h.chip ht
  · rw [cnt_forget] at hk; omega
theorem XOK_keep {v : Int32} (h : XOK X) (hc : cnt X < 8) (hv : idOK v) : XOK (zKeep X v) := by
  refine ⟨zKeep_WF h.1 hc, fun t ht => ?_, fun k hk => ?_⟩
  · rw [num_keep] at ht
    have hz : zKeep X v (t + 3) = X (t + 3) := by
      unfold zKeep
      rw [uj_ne _ _ (by omega), uj_ne _ _ (by omega)]
    rw [hz]
    exact h.chip ht
  · rw [cnt_keep h.1] at hk
    have eX : zKeep X v 2 = upd (X 2) (cnt X) v := (uj_ne _ _ (by decide)).trans (uj_same _ _ _)
    rw [eX]
    by_cases e : k = cnt X
    · rw [e, upd_same]; exact hv
    · rw [upd_ne _ _ e]; exact h.2.2 k (by omega)
theorem XOK_idL : ∀ (f : Nat) {X : zCV}, XOK X → cnt X + f = 8 → XOK (zIdL f X)
  | 0, _, h, _ => h
  | f + 1, X, h, hc => by
    have hw := XOK_rdX h
    have hcr := cnt_rdX X
    show XOK (if zRdV X = 255 then zRdX X else zIdL f (zKeep (zRdX X) (zRdV X)))
    by_cases e : zRdV X = 255
    · rw [if_pos e]; exact hw
    · rw [if_neg e]
      exact XOK_idL f (XOK_keep hw (by omega) (rdV_ok X e)) (by rw [cnt_keep hw.1]; omega)
theorem XOK_ident (h : XOK X) : XOK (zIdent X) := XOK_go (XOK_idL 8 (XOK_forget (XOK_go (XOK_tkN 5 h))) (by rw [cnt_forget]))
theorem XOK_ldL {q : Nat} : ∀ (k : Nat) {X : zCV}, XOK X → XOK (zLdL q x k X)
  | 0, _, h => h
  | k + 1, _, h => XOK_ldL k (XOK_th h _)
theorem XOK_load {q : Nat} (h : XOK X) : XOK (zLoad X q x) := XOK_go (XOK_ldL _ (XOK_go h))
theorem XOK_exX {q : Nat} : ∀ (k : Nat) {X : zCV}, XOK X → XOK (zExX q x k X)
  | 0, _, h => h
  | k + 1, _, h => XOK_exX k (XOK_th h _)
theorem XOK_exch {q : Nat} (h : XOK X) : XOK (zExch X q x) := XOK_go (XOK_exX _ (XOK_go h))
/-- one chip's row changed -/
theorem XOK_row {t : Nat} {c : Nat → Int32} (h : XOK X) (hW : zWF (uj X (t + 3) c)) (hc : t < num X → cOK c) : XOK (uj X (t + 3) c) := by
  have e0 : uj X (t + 3) c 0 = X 0 := uj_ne _ _ (by omega)
  refine ⟨hW, fun q hq => ?_, fun k hk => ?_⟩
  · have hq' : q < num X := by unfold num at hq ⊢; rw [e0] at hq; exact hq
    by_cases e : q = t
    · subst e
      rw [uj_same]
      exact hc hq'
    · rw [uj_ne _ _ (by omega)]
      exact h.chip hq'
  · rw [uj_ne _ _ (by omega)]
    exact h.2.2 k (by unfold cnt at hk ⊢; rw [e0] at hk; exact hk)
theorem XOK_brk {t : Nat} (h : XOK X) (hx : x = 0 ∨ x = 1) : XOK (zBrkX X t x) := XOK_row h (zBrkX_WF h.1 hx) (fun ht => cOK_5 (h.chip ht) hx)
theorem XOK_pins {t w : Nat} (h : XOK X) (hw : w < 256) : XOK (zPinsX X t (nI w)) := XOK_row h (zPins_WF h.1) (fun ht => by
  have hc := h.chip ht
  have hK := hc.1.2.1
  refine cOK_3 hc ⟨w % 2 ^ aK (X (t + 3)), Nat.mod_lt _ (Nat.two_pow_pos _), ?_⟩
  rw [hK.2.2]
  exact pins_t hw (by omega))
theorem XOK_take {p : Nat} (h : XOK X) (hp : p < num X) : XOK (zTake X p) := by
  refine ⟨zTake_WF h.1 hp, fun t ht => ?_, fun k hk => ?_⟩
  · rw [num_take h.1 p (by omega)] at ht
    rw [zTake_row h.1 ht]
    split
    · exact h.chip (t := t + 1) (by omega)
    · exact h.chip (by omega)
  · have hk' : k < cnt X := by
      have : cnt (zTake X p) = cnt X := by unfold cnt zTake; rw [uj_same]; rfl
      omega
    have hz : zTake X p 2 = X 2 := by
      unfold zTake zTakL
      rw [uj_ne _ _ (by decide), if_pos (by decide)]
    rw [hz]
    exact h.2.2 k hk'
theorem num_add (h : zWF X) (hn : num X < 6) (cl id ce : Int32) : num (zAdd X cl id ce) = num X + 1 := by
  have hs : X 0 0 + 1 = nI (num X + 1) := by rw [h.sz]; exact nI_1 _
  show (zAdd X cl id ce 0 0).toNatClampNeg = _
  unfold zAdd
  rw [uj_same, upd_same, hs, nI_clamp (by omega)]
theorem cOK_new {L I K : Nat} (h1 : 2 ≤ L) (h2 : L ≤ 6) (h3 : 1 ≤ K) (h4 : K ≤ 8) (h5 : I < 254) (h6 : I = 0 ∨ I % 2 = 1) : cOK (zNew (nI L) (nI I) (nI K)) := by
  have eL : aL (zNew (nI L) (nI I) (nI K)) = L := nI_clamp (n := L) (by omega)
  have eI : aI (zNew (nI L) (nI I) (nI K)) = I := nI_clamp (n := I) (by omega)
  have eK : aK (zNew (nI L) (nI I) (nI K)) = K := nI_clamp (n := K) (by omega)
  have hp := Nat.two_pow_pos L
  unfold cOK
  rw [eL, eI, eK]
  refine ⟨⟨⟨h1, h2, rfl⟩, ⟨h3, h4, rfl⟩, ⟨h5, h6, rfl⟩, Or.inl rfl⟩, ⟨fN_0 _, fN_0 _⟩, ⟨?_, fN_0 _⟩, fN_0 _⟩
  show fN (if nI I = 0 then zOnes (nI L) else 1) L
  split
  · exact ⟨2 ^ L - 1, by omega, by rw [zOnes_t _ (by omega)]⟩
  · exact ⟨1, Nat.one_lt_two_pow (by omega), rfl⟩
theorem XOK_add {L I K : Nat} (h : XOK X) (hn : num X < 6) (h1 : 2 ≤ L) (h2 : L ≤ 6) (h3 : 1 ≤ K) (h4 : K ≤ 8) (h5 : I < 254) (h6 : I = 0 ∨ I % 2 = 1) (he : eAdd X (nI L) (nI I) (nI K) = 0) : XOK (zAdd X (nI L) (nI I) (nI K)) := by
  refine ⟨zAdd_WF h.1 hn he, fun t ht => ?_, fun k hk => ?_⟩
  · rw [num_add h.1 hn] at ht
    unfold zAdd
    rw [uj_ne _ _ (by omega)]
    by_cases e : t = num X
    · rw [e, uj_same]
      exact cOK_new h1 h2 h3 h4 h5 h6
    · rw [uj_ne _ _ (by omega)]
      exact h.chip (by omega)
  · have hk' : k < cnt X := by
      have : cnt (zAdd X (nI L) (nI I) (nI K)) = cnt X := by unfold cnt zAdd; rw [uj_same]; rfl
      omega
    unfold zAdd
    rw [uj_ne _ _ (by decide), uj_ne _ _ (by omega)]
    exact h.2.2 k hk'
/-! the controller's state and its clocks behind a move -/
theorem stt_goL {b : Nat} (hb : b < 16) : ∀ (d : Nat) {X : zCV}, zWF X → dst (stt X) b = d → stt (zGoL d X b) = b
  | 0, X, h, hd => (dst_0 (stt X) h.s16 b hb).mp hd
  | d + 1, X, h, hd => by
    show stt (zGoL d (zTick X (zMd (stt X) b) 1) b) = b
    exact stt_goL hb d (zTick_WF h) (by rw [stt_tick]; exact dst_go h.s16 hb hd)
theorem stt_go {b : Nat} (h : zWF X) (hb : b < 16) : stt (zGo X b) = b := stt_goL hb _ h rfl
theorem clk_goL {b : Nat} : ∀ (d : Nat) (X : zCV), zGoL d X b 0 2 = X 0 2 + nI d
  | 0, X => (Int32.add_zero _).symm
  | d + 1, X => by
    show zGoL d (zTick X (zMd (stt X) b) 1) b 0 2 = _
    rw [clk_goL d, zTick_0]
    show X 0 2 + 1 + nI d = _
    rw [Int32.add_assoc]
    congr 1
    rw [Int32.add_comm]
    exact nI_1 d
theorem clk_go (X : zCV) (b : Nat) : zGo X b 0 2 = X 0 2 + nI (dst (stt X) b) := clk_goL _ X
theorem stt_ident (h : zWF X) : stt (zIdent X) = 1 := stt_go (zIdL_WF 8 (zForget_WF (zGo_WF (zTkN_WF 5 h))) (by rw [cnt_forget])) (by decide)
theorem stt_load {q : Nat} (h : zWF X) : stt (zLoad X q x) = 1 := stt_go (zLdL_WF _ (zGo_WF h)) (by decide)
theorem stt_exch {q : Nat} (h : zWF X) : stt (zExch X q x) = 1 := stt_go (zExX_WF _ (zGo_WF h)) (by decide)
theorem num_exX {q : Nat} : ∀ (k : Nat) (X : zCV), num (zExX q x k X) = num X
  | 0, _ => rfl
  | k + 1, X => by
    show num (zExX q x k _) = _
    rw [num_exX k, num_thX]
theorem exO_fN {q : Nat} : ∀ (k : Nat) (o : Int32) {X : zCV}, zWF X → k ≤ num X → fN o 8 → fN (zExO q x k o X) 8
  | 0, _, _, _, _, h => h
  | k + 1, o, X, hW, hk, h => by
    show fN (zExO q x k (if k = q then zThO (zDat q x k) (zBtN X k) (zLa k) (zBtN X k) X else o) (zThX (zDat q x k) (zBtN X k) (zLa k) (zBtN X k) X)) 8
    have hb := cWF_bits (hW.chip (t := k) (by omega))
    refine exO_fN k _ (zThX_WF hW _) (by rw [num_thX]; omega) ?_
    split
    · exact fN_le (thO_fN X _ hb.2.2) hb.2.2
    · exact h
theorem exchO_fN {q : Nat} (h : zWF X) : fN (zExchO X q x) 8 := exO_fN _ _ (zGo_WF h) (by rw [num_go]; exact Nat.le_refl _) (fN_0 _)
end XK
