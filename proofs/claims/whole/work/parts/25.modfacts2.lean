/-! ===== more facts for the reference ===== -/
theorem mRec_lo {S : zS} {h : Nat} (hs : S 15 0 0 = nI h) (h4 : h ≤ 4) {i : Nat} (hi : i < 11) : mRec S i = S i := by
  unfold mRec mRec1 mRec0
  split
  · rw [up_ne _ _ (by omega), up_ne _ _ (by omega)]
    unfold mDrop
    rw [up_ne _ _ (by omega), up_ne _ _ (by omega), up_ne _ _ (by omega), up_ne _ _ (by omega)]
  · rw [up_ne _ _ (by omega), up_ne _ _ (by omega)]
theorem mRec_15 {S : zS} (q : Nat) (k : Nat) (hk : q = 0 → k ≠ 0) : mRec S 15 q k = S 15 q k := by
  unfold mRec mRec1 mRec0
  rw [up_same]
  by_cases hq : q = 0
  · subst hq
    split
    · unfold mDrop
      rw [uj_same, upd_ne _ _ (hk rfl), up_same, uj_same, upd_ne _ _ (hk rfl)]
    · rw [uj_same, upd_ne _ _ (hk rfl)]
  · split
    · unfold mDrop
      rw [uj_ne _ _ hq, up_same, uj_ne _ _ hq]
    · rw [uj_ne _ _ hq]
theorem zisId_pos {x : Int32} (h : ¬ zisId x = 0) : 0 ≤ x := by
  unfold zisId at h
  by_cases h0 : x = 0
  · rw [h0]; exact Int32.le_refl 0
  · rw [if_neg h0] at h
    by_cases h1 : zin x 1 253 = 0
    · rw [if_pos h1] at h; exact absurd rfl h
    · exact Int32.le_trans (by decide) (zin_1 h1).1
theorem zPins_WF {X : zCV} {t : Nat} {v : Int32} (h : zWF X) : zWF (zPinsX X t v) := by
  have h0 : zPinsX X t v 0 = X 0 := uj_ne _ _ (by omega)
  obtain ⟨h1, h2, h3, h4⟩ := h
  refine ⟨?_, ?_, ?_, fun q hq => ?_⟩
  · unfold num at h1 ⊢; rw [h0]; exact h1
  · unfold stt at h2 ⊢; rw [h0]; exact h2
  · unfold cnt at h3 ⊢; rw [h0]; exact h3
  · have hq' : q < num X := by unfold num at hq ⊢; rw [h0] at hq; exact hq
    have hc := h4 q hq'
    unfold zPinsX
    by_cases hqt : q = t
    · subst hqt
      rw [uj_same]
      exact cWF_upd hc (by omega)
    · rw [uj_ne _ _ (by omega)]
      exact hc
theorem eqX_uj2 {X : zCV} {t : Nat} {c d e : Nat → Int32} (h : ∀ k, k < 9 → c k = d k) : eqX (uj (uj X (t + 3) c) 0 e) (uj (uj X (t + 3) d) 0 e) := by
  have h1 := eqX_uj (X := X) (t := t) h
  refine ⟨fun k _ => ?_, fun k hk => ?_, fun q hq k hk => ?_⟩
  · rw [uj_same, uj_same]
  · rw [uj_ne (uj X (t + 3) c) e (show 2 ≠ 0 by decide), uj_ne (uj X (t + 3) d) e (show 2 ≠ 0 by decide)]
    exact h1.2.1 k hk
  · rw [uj_ne (uj X (t + 3) c) e (show q + 3 ≠ 0 by omega), uj_ne (uj X (t + 3) d) e (show q + 3 ≠ 0 by omega)]
    exact h1.2.2 q hq k hk
theorem upd_self (c : Nat → Int32) (k : Nat) : upd c k (c k) = c := by
  funext q
  by_cases h : q = k
  · subst h; rw [upd_same]
  · rw [upd_ne _ _ h]
/-- the first k are 0 -/
def zrs (c : Nat → Int32) (k : Nat) : Nat → Int32 := fun q => if q < k then 0 else c q
theorem zrs_z (c : Nat → Int32) : zrs c 0 = c := by
  funext q
  unfold zrs
  rw [if_neg (by omega)]
theorem zrs_s (c : Nat → Int32) (k : Nat) : upd (zrs c k) k 0 = zrs c (k + 1) := by
  funext q
  by_cases h : q = k
  · subst h; rw [upd_same]; unfold zrs; rw [if_pos (by omega)]
  · rw [upd_ne _ _ h]
    unfold zrs
    by_cases h2 : q < k
    · rw [if_pos h2, if_pos (by omega)]
    · rw [if_neg h2, if_neg (by omega)]
/-- the numbers up to the place k have moved by one chip, from the chip t on -/
def zMv (X : zCV) (t k : Nat) : zCV := fun j w => if 3 ≤ j ∧ w < 9 ∧ t ≤ j - 3 ∧ 12 + 9 * (j - 3) + w < k then X (j + 1) w else X j w
theorem zMv_z (X : zCV) (t : Nat) : zMv X t (12 + 9 * t) = X := by
  funext j w
  unfold zMv
  rw [if_neg (by omega)]
theorem fl_Mv {X : zCV} {t k : Nat} (h1 : 12 + 9 * t ≤ k) : fl (zMv X t (k + 1)) = upd (fl (zMv X t k)) k (fl (zMv X t k) (k + 9)) := by
  funext q
  by_cases hq : q = k
  · subst hq
    rw [upd_same]
    unfold fl
    rw [if_neg (by omega), if_neg (by omega), if_neg (by omega), if_neg (by omega)]
    unfold zMv
    rw [if_pos (by omega), if_neg (by omega), show (q + 9 - 12) / 9 + 3 = (q - 12) / 9 + 3 + 1 by omega, show (q + 9 - 12) % 9 = (q - 12) % 9 by omega]
  · rw [upd_ne _ _ hq]
    unfold fl
    by_cases h2 : q < 4
    · rw [if_pos h2, if_pos h2]
      unfold zMv
      rw [if_neg (by omega), if_neg (by omega)]
    · rw [if_neg h2, if_neg h2]
      by_cases h3 : q < 12
      · rw [if_pos h3, if_pos h3]
        unfold zMv
        rw [if_neg (by omega), if_neg (by omega)]
      · rw [if_neg h3, if_neg h3]
        unfold zMv
        by_cases h4 : t ≤ (q - 12) / 9 ∧ q < k
        · rw [if_pos (by omega), if_pos (by omega)]
        · rw [if_neg (by omega), if_neg (by omega)]
theorem zTake_eq {X : zCV} {t : Nat} (hW : zWF X) (ht : t < num X) : eqX (zTake X t) (zMv (uj X 0 (upd (X 0) 0 (nI (num X - 1)))) t (12 + 9 * (num X - 1))) := by
  have h6 := hW.n6
  have hsz : X 0 0 - 1 = nI (num X - 1) := by rw [hW.sz]; exact nI_sub1 (by omega)
  refine ⟨fun k _ => ?_, fun k _ => ?_, fun q hq k hk => ?_⟩
  · unfold zTake zMv
    rw [uj_same, if_neg (by omega), uj_same, hsz]
  · unfold zTake zMv
    rw [uj_ne _ _ (by omega), if_neg (by omega), uj_ne _ _ (by omega)]
    unfold zTakL
    rw [if_pos (by decide)]
  · unfold zTake zMv
    rw [uj_ne _ _ (by omega), uj_ne _ _ (by omega), uj_ne _ _ (by omega)]
    unfold zTakL
    rw [if_neg (by omega)]
    by_cases h : t ≤ q ∧ q < num X - 1
    · rw [if_pos (by omega), if_pos (by omega)]
    · rw [if_neg (by omega), if_neg (by omega)]
theorem ix12 (m : Nat) : (12 : Int32) + 9 * nI m = nI (12 + 9 * m) := by
  rw [mul9, show (12 : Int32) = nI 12 from rfl, nI_add]
def zIsS (X : zCV) : Int32 := if X 0 1 = 4 then 1 else if X 0 1 = 11 then 1 else 0
def zOO (X : zCV) (c : Nat) : Int32 := if X 0 1 = 4 then zDO (X (c + 3)) else zCO (X (c + 3))
def zSft (X : zCV) (x : Int32) : zCV := if X 0 1 = 4 then zShiftD X x else zShiftC X x
theorem zSft_0 (X : zCV) (x : Int32) : zSft X x 0 = X 0 := by
  unfold zSft zShiftD zShiftC
  split
  all_goals exact zMap_num _ _ _
theorem zSft_WF {X : zCV} {x : Int32} (h : zWF X) : zWF (zSft X x) := by
  unfold zSft zShiftD zShiftC
  split
  · exact zMap_WF h (fun _ _ z => cWF_upd z (by omega))
  · exact zMap_WF h (fun _ _ z => cWF_upd z (by omega))
theorem zWork_4 (c : Nat → Int32) : zWork 4 c = c := rfl
theorem zWork_11 (c : Nat → Int32) : zWork 11 c = c := rfl
theorem zWA_S {X : zCV} {x : Int32} (h : ¬ zIsS X = 0) : zMap (fun _ c => zWork (X 0 1) c) (num X) (zSft X x) = zWorkAll X x := by
  unfold zIsS at h
  unfold zWorkAll zSft
  by_cases h4 : X 0 1 = 4
  · rw [if_pos h4, if_pos h4, h4]
    exact zMap_id (fun _ _ => rfl)
  · rw [if_neg h4, if_neg h4]
    rw [if_neg h4] at h
    by_cases h11 : X 0 1 = 11
    · rw [if_pos h11, h11]
      exact zMap_id (fun _ _ => rfl)
    · rw [if_neg h11] at h
      exact absurd rfl h
theorem zWA_N {X : zCV} {x : Int32} (h : zIsS X = 0) : zMap (fun _ c => zWork (X 0 1) c) (num X) X = zWorkAll X x := by
  unfold zIsS at h
  unfold zWorkAll
  by_cases h4 : X 0 1 = 4
  · rw [if_pos h4] at h; exact absurd h (by decide)
  · rw [if_neg h4] at h ⊢
    by_cases h11 : X 0 1 = 11
    · rw [if_pos h11] at h; exact absurd h (by decide)
    · rw [if_neg h11]
