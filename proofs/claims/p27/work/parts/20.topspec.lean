/-! ===== the face: errors and answers, of a chain's value ===== -/
theorem h07 : 0 < 7 := by decide
theorem h17 : 1 < 7 := by decide
theorem h27 : 2 < 7 := by decide
def kWF (S : zS) : Prop := zWF (S 0) ∧ hWF S ∧ (∀ k, k < hsz S → zWF (S (rc S k))) ∧ (∃ L, S 7 0 2 = nI L ∧ L ≤ 80) ∧ (S 7 0 1 = 0 ∨ S 7 0 1 = 1) ∧ (S 7 0 1 = 1 → zWF (S 2))
abbrev tn (q : Int32) : Nat := q.toNatClampNeg
def eHas (X : zCV) (q : Int32) : Int32 := if zHas X q = 0 then -1 else 0
def eArg (X : zCV) (q v m : Int32) : Int32 := if zHas X q = 0 then -1 else if zin v 0 m = 0 then -2 else 0
def eAdd (X : zCV) (cl id ce : Int32) : Int32 := if zin cl 2 6 = 0 then -2 else if zisId id = 0 then -2 else if zin ce 1 8 = 0 then -2 else if X 0 0 < 6 then 0 else -3
def eClk (md x : Int32) : Int32 := if zin md 0 1 = 0 then -2 else if zin x 0 1 = 0 then -2 else 0
def eMov (b : Int32) : Int32 := if zis b = 0 then -2 else 0
def eApp (L : Nat) (c : Int32) : Int32 := if zin c 32 126 = 0 then -2 else if nI L < 80 then 0 else -3
def eRun (T : Nat → Int32) (L : Nat) : Int32 := if zFault T L = -4 then 0 else -100 - zFault T L
def zPinsX (X : zCV) (t : Nat) (v : Int32) : zCV := uj X (t + 3) (zPins (X (t + 3)) v)
def zBrkX (X : zCV) (t : Nat) (v : Int32) : zCV := uj X (t + 3) (upd (X (t + 3)) 5 v)
def zTellX (X : zCV) (q v : Int32) : Int32 := if zHas X q = 0 then -1 else zTell (X (tn q + 3)) v
def zFound (X : zCV) (q : Int32) : Int32 := if q < 0 then -2 else if q < X 0 3 then X 2 (tn q) else -4
def zDist (a b : Int32) : Int32 := if zis a = 0 then -2 else if zis b = 0 then -2 else nI (dst (tn a) (tn b))
def zPeek (X : zCV) (x : Int32) : Int32 := if zin x 0 1 = 0 then -2 else zOut X x
/-- the counts, of a chain's value, the history's length and the text's -/
def zCount (X : zCV) (hl tl : Int32) (x : Int32) : Int32 := if x = 0 then X 0 0 else if x = 1 then zSum zBrk X else if x = 2 then X 0 1 else if x = 3 then X 0 2 else if x = 4 then zSum (fun c => c 0) X else if x = 5 then zSum zBits X else if x = 6 then X 0 3 else if x = 7 then hl else if x = 8 then tl else -2
def zFB (X : zCV) : UInt32 := if num X = 0 then FP.fconst0 else FP.fdiv (FP.i2f (zSum zByp X)) (FP.i2f (X 0 0))
theorem has_ix {X : zCV} {q : Int32} (hW : zWF X) (h : ¬ zHas X q = 0) : ∃ t, t < num X ∧ q = nI t := by
  have h6 := hW.n6
  unfold zHas at h
  by_cases h1 : q < 0
  · rw [if_pos h1] at h; exact absurd rfl h
  · rw [if_neg h1] at h
    by_cases h2 : X 0 0 ≤ q
    · rw [if_pos h2] at h; exact absurd rfl h
    · obtain ⟨j, hj, rfl⟩ := nI_of h1
      rw [hW.sz] at h2
      exact ⟨j, Nat.not_le.mp fun z => h2 (nI_le z hj), rfl⟩
theorem is_ix {b : Int32} (h : ¬ zis b = 0) : ∃ t, t < 16 ∧ b = nI t := by
  unfold zis at h
  by_cases h1 : b < 0
  · rw [if_pos h1] at h; exact absurd rfl h
  · rw [if_neg h1] at h
    by_cases h2 : 16 ≤ b
    · rw [if_pos h2] at h; exact absurd rfl h
    · obtain ⟨j, hj, rfl⟩ := nI_of h1
      exact ⟨j, Nat.not_le.mp fun z => h2 (nI_le (a := 16) z hj), rfl⟩
theorem ix_lt {q : Int32} {n : Nat} (h0 : ¬ q < 0) (h : q < nI n) (hn : n < 2 ^ 31) : ∃ t, t < n ∧ q = nI t := by
  obtain ⟨j, hj, rfl⟩ := nI_of h0
  exact ⟨j, (nI_ltI hj hn).mp h, rfl⟩
theorem zRec1_0 {S : zS} (h : 3 ≤ rc S (hsz S)) : zRec1 S 0 = S 0 := by
  unfold zRec1
  rw [up_ne _ _ (by decide), up_ne _ _ (by omega)]
theorem zRec0_WF {S : zS} (hH : hWF S) : hWF (zRec0 S) ∧ hsz (zRec0 S) < 4 := by
  unfold zRec0
  split
  · exact ⟨hH, by assumption⟩
  · exact ⟨(hWF_drop hH).1, by rw [(hWF_drop hH).2]; decide⟩
theorem zRec0_ne {S : zS} {i : Nat} (h : i ≠ 7) : zRec0 S i = S i := by
  unfold zRec0
  split
  · rfl
  · exact zDrop_ne h
theorem zRec_0 {S : zS} (hH : hWF S) : zRec S 0 = S 0 := by
  obtain ⟨h1, h2⟩ := zRec0_WF hH
  unfold zRec
  rw [zRec1_0 (h1.2.1 _ h2).2.1, zRec0_ne (by decide)]
theorem zRec_low {S : zS} (hH : hWF S) {i : Nat} (h : i < 3) : zRec S i = S i := by
  obtain ⟨h1, h2⟩ := zRec0_WF hH
  have h3 := (h1.2.1 _ h2).2.1
  unfold zRec zRec1
  rw [up_ne _ _ (by omega), up_ne _ _ (by omega), zRec0_ne (by omega)]
theorem zRec_7 {S : zS} (q : Nat) (hq : q = 2 ∨ q = 0) (k : Nat) (hk : q = 0 → k ≠ 0) : zRec S 7 q k = S 7 q k := by
  unfold zRec zRec1 zRec0
  rw [up_same]
  split
  · rcases hq with rfl | rfl
    · rw [uj_ne _ _ (by decide)]
    · rw [uj_same, upd_ne _ _ (hk rfl)]
  · unfold zDrop
    rw [up_same]
    rcases hq with rfl | rfl
    · rw [uj_ne _ _ (by decide), uj_ne _ _ (by decide), uj_ne _ _ (by decide)]
    · rw [uj_same, upd_ne _ _ (hk rfl), uj_same, upd_ne _ _ (hk rfl)]
theorem zByp_le (X : zCV) : ∀ k, ∃ m, m ≤ k ∧ zSumL zByp X k = nI m
  | 0 => ⟨0, Nat.le_refl _, rfl⟩
  | k + 1 => by
    obtain ⟨m, hm, e⟩ := zByp_le X k
    show ∃ m', m' ≤ k + 1 ∧ zSumL zByp X k + zByp (X (k + 3)) = nI m'
    rw [e]
    unfold zByp
    split
    · exact ⟨m, by omega, by rw [Int32.add_zero]⟩
    · exact ⟨m + 1, by omega, nI_1 m⟩
set_option maxRecDepth 100000 in
theorem fdiv_ok : ∀ m, m < 7 → ∀ n, n < 7 → 0 < n → FP.fdiv (FP.i2f (nI m)) (FP.i2f (nI n)) &&& 0x7fffffff ≤ 0x7f800000 := by decide +kernel
theorem zFB_ok {X : zCV} (hW : zWF X) (h : ¬ num X = 0) : vf_n32 (FP.fdiv (FP.i2f (zSum zByp X)) (FP.i2f (X 0 0))) := by
  have h6 := hW.n6
  obtain ⟨m, hm, e⟩ := zByp_le X (num X)
  unfold zSum
  rw [e, hW.sz]
  exact fdiv_ok m (by omega) _ (by omega) (by omega)
theorem zCopy_0 (Y X : zCV) : zCopy Y X 0 = X 0 := if_pos rfl
theorem num_copy (Y X : zCV) : num (zCopy Y X) = num X := by unfold num; rw [zCopy_0]
theorem zCopy_WF {Y X : zCV} (h : zWF X) : zWF (zCopy Y X) := by
  obtain ⟨h1, h2, h3, h4⟩ := h
  refine ⟨?_, ?_, ?_, fun t ht => ?_⟩
  · unfold num at h1 ⊢; rw [zCopy_0]; exact h1
  · unfold stt at h2 ⊢; rw [zCopy_0]; exact h2
  · unfold cnt at h3 ⊢; rw [zCopy_0]; exact h3
  · rw [num_copy] at ht
    have : zCopy Y X (t + 3) = X (t + 3) := by
      unfold zCopy
      rw [if_neg (by omega), if_neg (by omega), if_neg (by omega), Nat.add_sub_cancel, if_pos ht]
    rw [this]
    exact h4 t ht
theorem zBrkX_WF {X : zCV} {t : Nat} {v : Int32} (h : zWF X) (hv : v = 0 ∨ v = 1) : zWF (zBrkX X t v) := by
  have h0 : zBrkX X t v 0 = X 0 := uj_ne _ _ (by omega)
  obtain ⟨h1, h2, h3, h4⟩ := h
  refine ⟨?_, ?_, ?_, fun q hq => ?_⟩
  · unfold num at h1 ⊢; rw [h0]; exact h1
  · unfold stt at h2 ⊢; rw [h0]; exact h2
  · unfold cnt at h3 ⊢; rw [h0]; exact h3
  · have hq' : q < num X := by unfold num at hq ⊢; rw [h0] at hq; exact hq
    have hc := h4 q hq'
    unfold zBrkX
    by_cases hqt : q = t
    · subst hqt
      rw [uj_same]
      exact ⟨hc.1, hc.2.1, hv, hc.2.2.2⟩
    · rw [uj_ne _ _ (by omega)]
      exact hc
