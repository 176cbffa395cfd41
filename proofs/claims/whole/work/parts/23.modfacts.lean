/-! ===== small facts for the reference's rows ===== -/
theorem zix_8 {j : Nat} (h : j < 7) : zix 8 j < 75 := by
  unfold zix
  rw [if_neg (by decide), if_neg (by decide), if_neg (by decide)]
  omega
theorem trz {X : zCV} {k : Nat} (h : k < 4) : tr 66 (fl X) k = X 0 k := by rw [tr_lt (by omega), fl_0 h]
theorem tri {X : zCV} {k : Nat} (h : k < 8) : tr 66 (fl X) (4 + k) = X 2 k := by rw [tr_lt (by omega), fl_2 h]
theorem trc {X : zCV} {c w : Nat} (hc : c < 6) (h : w < 9) : tr 66 (fl X) (12 + 9 * c + w) = X (c + 3) w := by rw [tr_lt (by omega), fl_c h]
theorem hset_ne {h : zH} {i j i' j' : Nat} {x y : va_E} (hne : ¬ (i' = i ∧ j' = j)) (hy : h i' j' = y) : hset h i j x i' j' = y := by
  unfold hset
  rw [if_neg hne]
  exact hy
theorem hset_same {h : zH} {i j : Nat} {x : va_E} : hset h i j x i j = x := if_pos ⟨rfl, rfl⟩
theorem hset_hset {h : zH} {i j : Nat} {x y : va_E} (i' j' : Nat) : hset (hset h i j x) i j y i' j' = hset h i j y i' j' := by
  unfold hset
  by_cases hc : i' = i ∧ j' = j
  · rw [if_pos hc, if_pos hc]
  · rw [if_neg hc, if_neg hc, if_neg hc]
theorem hset_self {h : zH} {i j : Nat} {x : va_E} (hx : h i j = x) (i' j' : Nat) : hset h i j x i' j' = h i' j' := by
  unfold hset
  by_cases hc : i' = i ∧ j' = j
  · rw [if_pos hc, hc.1, hc.2, hx]
  · rw [if_neg hc]
theorem le0_iff {x : Int32} (h : 0 ≤ x) : x ≤ 0 ↔ x = 0 := ⟨fun z => Int32.le_antisymm z h, fun z => by rw [z]; exact Int32.le_refl 0⟩
theorem mul66 (h : Nat) : (66 : Int32) * nI h = nI (66 * h) := (Int32.ofNat_mul 66 h).symm
theorem mul9 (h : Nat) : (9 : Int32) * nI h = nI (9 * h) := (Int32.ofNat_mul 9 h).symm
/-- the first k have moved by one row -/
def shf (P : Nat → Int32) (k : Nat) : Nat → Int32 := fun q => if q < k then P (q + 66) else P q
theorem shf_z (P : Nat → Int32) : shf P 0 = P := by
  funext q
  unfold shf
  rw [if_neg (by omega)]
theorem shf_s (P : Nat → Int32) (k : Nat) : upd (shf P k) k (P (k + 66)) = shf P (k + 1) := by
  funext q
  by_cases hq : q = k
  · subst hq
    rw [upd_same]
    unfold shf
    rw [if_pos (by omega)]
  · rw [upd_ne _ _ hq]
    unfold shf
    by_cases h : q < k
    · rw [if_pos h, if_pos (by omega)]
    · rw [if_neg h, if_neg (by omega)]
def mSh (S : zS) : zS := up (up (up S 11 (S 12)) 12 (S 13)) 13 (S 14)
theorem shf_all (S : zS) : shf (tr 264 (pf S)) 198 = tr 264 (pf (mSh S)) := by
  funext q
  unfold shf
  by_cases h : q < 198
  · rw [if_pos h, tr_lt (by omega), tr_lt (by omega)]
    unfold pf mSh
    rw [show (q + 66) / 66 = q / 66 + 1 by omega, show (q + 66) % 66 = q % 66 by omega]
    rcases (show q / 66 = 0 ∨ q / 66 = 1 ∨ q / 66 = 2 by omega) with e | e | e
    · rw [e, up_ne _ _ (by decide), up_ne _ _ (by decide), up_same]
    · rw [e, up_ne _ _ (by decide), up_same]
    · rw [e, up_same]
  · rw [if_neg h]
    unfold tr
    by_cases h2 : q < 264
    · rw [if_pos h2, if_pos h2]
      unfold pf mSh
      rw [show q / 66 = 3 by omega, up_ne _ _ (by decide), up_ne _ _ (by decide), up_ne _ _ (by decide)]
    · rw [if_neg h2, if_neg h2]
theorem sh_conv {G : zG} {S : zS} {n : Nat} : ∀ i' j', zok i' j' → zix i' j' < n → pic G (mSh S) i' j' = hset (pic G S) 8 3 (.inl (G.2.1 0, 264, .inl (shf (tr 264 (pf S)) 198))) i' j' :=
  pp8 (fun i hi => by unfold mSh; rw [up_ne _ _ (by omega), up_ne _ _ (by omega), up_ne _ _ (by omega)]) (by rw [shf_all]; rfl)
    (fun j hj h => pic8_eq hj (fun _ => rfl) (fun _ => rfl) (fun _ => rfl) (fun z => absurd z h) (fun _ => rfl) (fun _ => rfl) (fun _ => rfl))
/-- the reference's numbers for its own things -/
def mWF (S : zS) : Prop := zWF (S 8) ∧ (∃ h, S 15 0 0 = nI h ∧ h ≤ 4) ∧ (∃ L, S 15 0 2 = nI L ∧ L ≤ 80) ∧ (S 15 0 1 = 0 ∨ S 15 0 1 = 1) ∧ (∀ k h, S 15 0 0 = nI h → h ≤ 4 → k < h → zWF (S (11 + k))) ∧ (S 15 0 1 = 1 → zWF (S 10))
theorem mRec_8 {S : zS} {h : Nat} (hs : S 15 0 0 = nI h) (h4 : h ≤ 4) : mRec S 8 = S 8 := by
  unfold mRec mRec1 mRec0
  split
  · rw [up_ne _ _ (by decide), up_ne _ _ (by omega)]
    unfold mDrop
    rw [up_ne _ _ (by decide), up_ne _ _ (by decide), up_ne _ _ (by decide), up_ne _ _ (by decide)]
  · rw [up_ne _ _ (by decide), up_ne _ _ (by omega)]
theorem mRec0_st {S : zS} {h : Nat} (hs : S 15 0 0 = nI h) (h4 : h ≤ 4) : ∃ h', mRec0 S 15 0 0 = nI h' ∧ h' < 4 := by
  unfold mRec0
  by_cases hc : S 15 0 0 = 4
  · rw [if_pos hc]
    refine ⟨3, ?_, by decide⟩
    unfold mDrop
    rw [up_same, uj_same, upd_same, hc]
    decide
  · rw [if_neg hc]
    refine ⟨h, hs, ?_⟩
    rcases Nat.lt_or_ge h 4 with z | z
    · exact z
    · have : h = 4 := by omega
      subst this
      exact absurd hs hc
