/-! ===== the history behind the calls ===== -/
section SM
variable {S T : zS} {X Y : zCV}
theorem rc_7 (h : T 7 1 = S 7 1) (k : Nat) : rc T k = rc S k := by unfold rc; rw [h]
theorem zRec_view (hH : hWF S) : hWF (zRec S) ∧ ((hsz S < 4 ∧ hsz (zRec S) = hsz S + 1 ∧ (∀ k, k < hsz S → zRec S (rc (zRec S) k) = S (rc S k)) ∧ ∃ Z, zRec S (rc (zRec S) (hsz S)) = zCopy Z (S 0)) ∨ (hsz S = 4 ∧ hsz (zRec S) = 4 ∧ (∀ k, k < 3 → zRec S (rc (zRec S) k) = S (rc S (k + 1))) ∧ ∃ Z, zRec S (rc (zRec S) 3) = zCopy Z (S 0))) := by
  obtain ⟨h1, h2⟩ := zRec0_WF hH
  have key : ∀ S0 : zS, hWF S0 → hsz S0 < 4 → hWF (zRec1 S0) ∧ hsz (zRec1 S0) = hsz S0 + 1 ∧ (∀ k, k < hsz S0 → zRec1 S0 (rc (zRec1 S0) k) = S0 (rc S0 k)) ∧ zRec1 S0 (rc (zRec1 S0) (hsz S0)) = zCopy (S0 (rc S0 (hsz S0))) (S0 0) := by
    intro S0 hw hl
    have e7 : zRec1 S0 7 = uj (S0 7) 0 (upd (S0 7 0) 0 (S0 7 0 0 + 1)) := up_same _ _ _
    have e71 : zRec1 S0 7 1 = S0 7 1 := by rw [e7]; exact uj_ne _ _ (by decide)
    have e700 : zRec1 S0 7 0 0 = nI (hsz S0 + 1) := by rw [e7, uj_same, upd_same, hw.1.1]; exact nI_1 _
    have ehz : hsz (zRec1 S0) = hsz S0 + 1 := by
      show (zRec1 S0 7 0 0).toNatClampNeg = _
      rw [e700, nI_clamp (by omega)]
    have erc : ∀ k, rc (zRec1 S0) k = rc S0 k := fun k => rc_7 e71 k
    refine ⟨⟨⟨by rw [ehz]; exact e700, by omega⟩, fun k hk => ?_, fun k hk q hq hkq => ?_⟩, ehz, fun k hk => ?_, ?_⟩
    · rw [e71, erc]; exact hw.2.1 k hk
    · rw [erc, erc] at hkq; exact hw.2.2 k hk q hq hkq
    · rw [erc]
      have hr := hw.2.1 k (by omega)
      unfold zRec1
      rw [up_ne _ _ (by omega), up_ne _ _ (fun z => by have := hw.2.2 k (by omega) _ hl z; omega)]
    · rw [erc]
      have hr := hw.2.1 _ hl
      unfold zRec1
      rw [up_ne _ _ (by omega), up_same]
  obtain ⟨k1, k2, k3, k4⟩ := key _ h1 h2
  refine ⟨k1, ?_⟩
  have h4 := hH.1.2
  by_cases hl : hsz S < 4
  · left
    have e : zRec0 S = S := if_pos hl
    have ez : zRec S = zRec1 S := by unfold zRec; rw [e]
    rw [e] at k2 k3 k4
    rw [ez]
    exact ⟨hl, k2, k3, _, k4⟩
  · right
    have e : zRec0 S = zDrop S := if_neg hl
    have ez : zRec S = zRec1 (zDrop S) := by unfold zRec; rw [e]
    have hd := (hWF_drop hH).2
    rw [e] at k2 k3 k4
    rw [hd] at k2 k3 k4
    rw [ez]
    refine ⟨by omega, k2, fun k hk => ?_, zDrop S (rc (zDrop S) 3), ?_⟩
    · rw [k3 k hk]
      have er : rc (zDrop S) k = rc S (k + 1) := by
        unfold rc zDrop
        rw [up_same, uj_ne _ _ (by decide), uj_same, upd_ne _ _ (by omega)]
        unfold rotL
        rw [if_pos hk]
      have hr := hH.2.1 (k + 1) (by omega)
      rw [er, zDrop_ne (by omega)]
    · rw [k4, zDrop_ne (show 0 ≠ 7 by decide)]
theorem hWF_7 (hH : hWF S) (e7 : T 7 = S 7) : hWF T := by
  have erc : ∀ k, rc T k = rc S k := fun k => rc_7 (by rw [e7]) k
  have ehz : hsz T = hsz S := by unfold hsz; rw [e7]
  unfold hWF at hH ⊢
  rw [ehz, e7]
  exact ⟨hH.1, fun k hk => by rw [erc]; exact hH.2.1 k hk, fun k hk q hq z => by rw [erc, erc] at z; exact hH.2.2 k hk q hq z⟩
theorem kWF_1 (h : kWF S) (Z : zCV) : kWF (up S 1 Z) := by
  have ti : ∀ i, i ≠ 1 → up S 1 Z i = S i := fun i hi => up_ne _ _ hi
  have e7 := ti 7 (by decide)
  have erc : ∀ k, rc (up S 1 Z) k = rc S k := fun k => rc_7 (by rw [e7]) k
  have ehz : hsz (up S 1 Z) = hsz S := by unfold hsz; rw [e7]
  refine ⟨by rw [ti 0 (by decide)]; exact h.1, hWF_7 h.2.1 e7, fun k hk => ?_, by rw [e7]; exact h.2.2.2.1, by rw [e7]; exact h.2.2.2.2.1, by rw [e7, ti 2 (by decide)]; exact h.2.2.2.2.2⟩
  rw [ehz] at hk
  have h4 := h.2.1.1.2
  have hr := h.2.1.2.1 k (by omega)
  rw [erc, ti _ (by omega)]
  exact h.2.2.1 k hk
theorem kWF_rec (h : kWF S) (hX : zWF X) : kWF (up (zRec S) 0 X) ∧ hsz (up (zRec S) 0 X) = (if hsz S < 4 then hsz S + 1 else 4) ∧ up (zRec S) 0 X 7 0 1 = S 7 0 1 ∧ up (zRec S) 0 X 7 0 2 = S 7 0 2 ∧ up (zRec S) 0 X 2 = S 2 ∧ ∃ Z, up (zRec S) 0 X (rc (up (zRec S) 0 X) (hsz (up (zRec S) 0 X) - 1)) = zCopy Z (S 0) := by
  obtain ⟨hH, hk4⟩ := zRec_view h.2.1
  have t0 : up (zRec S) 0 X 0 = X := up_same _ _ _
  have ti : ∀ i, i ≠ 0 → up (zRec S) 0 X i = zRec S i := fun i hi => up_ne _ _ hi
  generalize up (zRec S) 0 X = T at t0 ti ⊢
  have e7 := ti 7 (by decide)
  have erc : ∀ k, rc T k = rc (zRec S) k := fun k => rc_7 (by rw [e7]) k
  have ehz : hsz T = hsz (zRec S) := by unfold hsz; rw [e7]
  have e701 : T 7 0 1 = S 7 0 1 := by rw [e7]; exact zRec_7 0 (Or.inr rfl) 1 (fun _ => by decide)
  have e702 : T 7 0 2 = S 7 0 2 := by rw [e7]; exact zRec_7 0 (Or.inr rfl) 2 (fun _ => by decide)
  have e2 : T 2 = S 2 := (ti 2 (by decide)).trans (zRec_low h.2.1 (by decide))
  have hHT : hWF T := hWF_7 hH e7
  have hs4 := h.2.1.1.2
  have hb : hsz T = (if hsz S < 4 then hsz S + 1 else 4) ∧ (∀ k, k < hsz T → zWF (T (rc T k))) ∧ ∃ Z, T (rc T (hsz T - 1)) = zCopy Z (S 0) := by
    rw [ehz]
    rcases hk4 with ⟨l1, l2, l3, Z, l4⟩ | ⟨l1, l2, l3, Z, l4⟩
    · have hl : T (rc T (hsz S)) = zCopy Z (S 0) := by
        have hr := hH.2.1 (hsz S) (by omega)
        rw [erc, ti _ (by omega)]
        exact l4
      refine ⟨by rw [if_pos l1, l2], fun k hk => ?_, Z, by rw [l2, Nat.add_sub_cancel]; exact hl⟩
      rw [l2] at hk
      by_cases e : k = hsz S
      · rw [e, hl]
        exact zCopy_WF h.1
      · have hr := hH.2.1 k (by omega)
        rw [erc, ti _ (by omega), l3 k (by omega)]
        exact h.2.2.1 k (by omega)
    · have hl : T (rc T 3) = zCopy Z (S 0) := by
        have hr := hH.2.1 3 (by omega)
        rw [erc, ti _ (by omega)]
        exact l4
      refine ⟨by rw [if_neg (by omega), l2], fun k hk => ?_, Z, by rw [l2]; exact hl⟩
      rw [l2] at hk
      by_cases e : k = 3
      · rw [e, hl]
        exact zCopy_WF h.1
      · have hr := hH.2.1 k (by omega)
        rw [erc, ti _ (by omega), l3 k (by omega)]
        exact h.2.2.1 (k + 1) (by omega)
  exact ⟨⟨by rw [t0]; exact hX, hHT, hb.2.1, by rw [e702]; exact h.2.2.2.1, by rw [e701]; exact h.2.2.2.2.1, fun z => by rw [e2]; rw [e701] at z; exact h.2.2.2.2.2 z⟩, hb.1, e701, e702, e2, hb.2.2⟩
theorem kWF_back (h : kWF S) (hne : hsz S ≠ 0) : kWF (zBack S) ∧ hsz (zBack S) = hsz S - 1 ∧ zBack S 7 0 1 = S 7 0 1 ∧ zBack S 7 0 2 = S 7 0 2 ∧ zBack S 2 = S 2 ∧ zBack S 0 = zCopy (S 0) (S (rc S (hsz S - 1))) := by
  have h4 := h.2.1.1.2
  have hsub : S 7 0 0 - 1 = nI (hsz S - 1) := by rw [h.2.1.1.1]; exact nI_sub1 (by omega)
  have t7 : zBack S 7 = uj (S 7) 0 (upd (S 7 0) 0 (nI (hsz S - 1))) := by unfold zBack; rw [up_ne _ _ (by decide), up_same, hsub]
  have t0 : zBack S 0 = zCopy (S 0) (S (rc S (hsz S - 1))) := up_same _ _ _
  have ti : ∀ i, i ≠ 0 → i ≠ 7 → zBack S i = S i := fun i a b => by unfold zBack; rw [up_ne _ _ a, up_ne _ _ b]
  generalize zBack S = T at t7 t0 ti ⊢
  have t71 : T 7 1 = S 7 1 := by rw [t7]; rfl
  have t700 : T 7 0 0 = nI (hsz S - 1) := by rw [t7]; rfl
  have t701 : T 7 0 1 = S 7 0 1 := by rw [t7]; rfl
  have t702 : T 7 0 2 = S 7 0 2 := by rw [t7]; rfl
  have e2 := ti 2 (by decide) (by decide)
  have erc : ∀ k, rc T k = rc S k := fun k => rc_7 t71 k
  have ehz : hsz T = hsz S - 1 := by show (T 7 0 0).toNatClampNeg = _; rw [t700, nI_clamp (by omega)]
  have hHT : hWF T := by
    have hH := h.2.1
    unfold hWF at hH ⊢
    rw [ehz, t71]
    exact ⟨⟨t700, by omega⟩, fun k hk => by rw [erc]; exact hH.2.1 k hk, fun k hk q hq z => by rw [erc, erc] at z; exact hH.2.2 k hk q hq z⟩
  refine ⟨⟨by rw [t0]; exact zCopy_WF (h.2.2.1 _ (by omega)), hHT, fun k hk => ?_, by rw [t702]; exact h.2.2.2.1, by rw [t701]; exact h.2.2.2.2.1, by rw [t701, e2]; exact h.2.2.2.2.2⟩, ehz, t701, t702, e2, t0⟩
  rw [ehz] at hk
  have hr := h.2.1.2.1 k (by omega)
  rw [erc, ti _ (by omega) (by omega)]
  exact h.2.2.1 k (by omega)
theorem kWF_save (h : kWF S) : kWF (up (up S 2 (zCopy (S 2) (S 0))) 7 (uj (S 7) 0 (upd (S 7 0) 1 1))) ∧ up (up S 2 (zCopy (S 2) (S 0))) 7 (uj (S 7) 0 (upd (S 7 0) 1 1)) 0 = S 0 ∧ up (up S 2 (zCopy (S 2) (S 0))) 7 (uj (S 7) 0 (upd (S 7 0) 1 1)) 2 = zCopy (S 2) (S 0) ∧ up (up S 2 (zCopy (S 2) (S 0))) 7 (uj (S 7) 0 (upd (S 7 0) 1 1)) 7 0 1 = 1 ∧ up (up S 2 (zCopy (S 2) (S 0))) 7 (uj (S 7) 0 (upd (S 7 0) 1 1)) 7 0 2 = S 7 0 2 ∧ hsz (up (up S 2 (zCopy (S 2) (S 0))) 7 (uj (S 7) 0 (upd (S 7 0) 1 1))) = hsz S := by
  have t7 : up (up S 2 (zCopy (S 2) (S 0))) 7 (uj (S 7) 0 (upd (S 7 0) 1 1)) 7 = uj (S 7) 0 (upd (S 7 0) 1 1) := up_same _ _ _
  have t2 : up (up S 2 (zCopy (S 2) (S 0))) 7 (uj (S 7) 0 (upd (S 7 0) 1 1)) 2 = zCopy (S 2) (S 0) := by rw [up_ne _ _ (by decide), up_same]
  have ti : ∀ i, i ≠ 2 → i ≠ 7 → up (up S 2 (zCopy (S 2) (S 0))) 7 (uj (S 7) 0 (upd (S 7 0) 1 1)) i = S i := fun i a b => by rw [up_ne _ _ b, up_ne _ _ a]
  generalize up (up S 2 (zCopy (S 2) (S 0))) 7 (uj (S 7) 0 (upd (S 7 0) 1 1)) = T at t7 t2 ti ⊢
  have h4 := h.2.1.1.2
  have t71 : T 7 1 = S 7 1 := by rw [t7]; rfl
  have t700 : T 7 0 0 = S 7 0 0 := by rw [t7]; rfl
  have t701 : T 7 0 1 = 1 := by rw [t7]; rfl
  have t702 : T 7 0 2 = S 7 0 2 := by rw [t7]; rfl
  have erc : ∀ k, rc T k = rc S k := fun k => rc_7 t71 k
  have ehz : hsz T = hsz S := by show (T 7 0 0).toNatClampNeg = _; rw [t700]; rfl
  have hHT : hWF T := by
    have hH := h.2.1
    unfold hWF at hH ⊢
    rw [ehz, t71, t700]
    exact ⟨hH.1, fun k hk => by rw [erc]; exact hH.2.1 k hk, fun k hk q hq z => by rw [erc, erc] at z; exact hH.2.2 k hk q hq z⟩
  have e0 := ti 0 (by decide) (by decide)
  refine ⟨⟨by rw [e0]; exact h.1, hHT, fun k hk => ?_, by rw [t702]; exact h.2.2.2.1, Or.inr t701, fun _ => by rw [t2]; exact zCopy_WF h.1⟩, e0, t2, t701, t702, ehz⟩
  rw [ehz] at hk
  have hr := h.2.1.2.1 k (by omega)
  rw [erc, ti _ (by omega) (by omega)]
  exact h.2.2.1 k (by omega)
end SM
