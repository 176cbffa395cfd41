/-! ===== the two sides of a state agree ===== -/
def Sim (S : zS) : Prop := kWF S ∧ Qv (S 0) (S 8) ∧ S 15 0 0 = S 7 0 0 ∧ (∀ k, k < hsz S → Qv (S (rc S k)) (S (11 + k))) ∧ S 15 0 1 = S 7 0 1 ∧ (S 7 0 1 = 1 → Qv (S 2) (S 10)) ∧ S 15 0 2 = S 7 0 2 ∧ ∀ L, S 7 0 2 = nI L → L ≤ 80 → ∀ k, k < L → S 7 2 k = S 15 1 k
section SM
variable {S S1 T : zS} {X Y : zCV}
theorem Sim_k (h : Sim S) : kWF S := h.1
theorem Sim_q (h : Sim S) : Qv (S 0) (S 8) := h.2.1
theorem Sim_hs (h : Sim S) : S 15 0 0 = nI (hsz S) ∧ hsz S ≤ 4 := ⟨h.2.2.1.trans h.1.2.1.1.1, h.1.2.1.1.2⟩
theorem Sim_W8 (h : Sim S) : zWF (S 8) := QWF h.2.1 h.1.1
theorem Sim_L (h : Sim S) : ∃ L, S 7 0 2 = nI L ∧ S 15 0 2 = nI L ∧ L ≤ 80 ∧ ∀ k, k < L → S 7 2 k = S 15 1 k := by
  obtain ⟨L, h1, h2⟩ := h.1.2.2.2.1
  exact ⟨L, h1, h.2.2.2.2.2.2.1.trans h1, h2, h.2.2.2.2.2.2.2 L h1 h2⟩
/-- the class's calls leave the reference's side -/
def kp8 (S S1 : zS) : Prop := ∀ i, 8 ≤ i → S1 i = S i
theorem kp8_rf : kp8 S S := fun _ _ => rfl
theorem kp8_if {c : Prop} [Decidable c] {A B : zS} (ha : kp8 S A) (hb : kp8 S B) : kp8 S (if c then A else B) := by
  split
  · exact ha
  · exact hb
theorem kp8_up {i : Nat} (hi : i < 8) (h : kp8 S T) : kp8 S (up T i X) := fun j hj => (up_ne _ _ (by omega)).trans (h j hj)
theorem kp8_rec (hH : hWF S) : kp8 S (zRec S) := by
  intro j hj
  obtain ⟨h1, h2⟩ := zRec0_WF hH
  have h3 := (h1.2.1 _ h2).2.2
  unfold zRec zRec1
  rw [up_ne _ _ (by omega), up_ne _ _ (by omega), zRec0_ne (by omega)]
theorem kp8_back : kp8 S (zBack S) := by
  intro j hj
  unfold zBack
  rw [up_ne _ _ (by omega), up_ne _ _ (by omega)]
theorem kp8_hs (h : Sim S) (hk : kp8 S S1) : S1 15 0 0 = nI (hsz S) := by rw [hk 15 (by decide)]; exact (Sim_hs h).1
theorem kp8_W (h : Sim S) (hk : kp8 S S1) : zWF (S1 8) := by rw [hk 8 (by decide)]; exact Sim_W8 h
theorem mRec_dep (hk : kp8 S T) : ∀ i, 8 ≤ i → mRec T i = mRec S i := by
  intro i hi
  have e8 := hk 8 (by decide)
  have e12 := hk 12 (by decide)
  have e13 := hk 13 (by decide)
  have e14 := hk 14 (by decide)
  have e15 := hk 15 (by decide)
  have ei := hk i hi
  have hd : ∀ j, 8 ≤ j → mRec0 T j = mRec0 S j := by
    intro j hj
    unfold mRec0
    rw [e15]
    split
    · unfold mDrop up
      rw [e12, e13, e14, e15, hk j hj]
    · exact hk j hj
  unfold mRec mRec1 up
  rw [hd 15 (by decide), hd 8 (by decide), hd i hi]
/-- what the class's record leaves -/
theorem rc_7 (h : T 7 1 = S 7 1) (k : Nat) : rc T k = rc S k := by unfold rc; rw [h]
theorem zRec_view (hH : hWF S) : hWF (zRec S) ∧ ((hsz S < 4 ∧ hsz (zRec S) = hsz S + 1 ∧ (∀ k, k < hsz S → zRec S (rc (zRec S) k) = S (rc S k)) ∧ ∃ Z, zRec S (rc (zRec S) (hsz S)) = zCopy Z (S 0)) ∨ (hsz S = 4 ∧ hsz (zRec S) = 4 ∧ (∀ k, k < 3 → zRec S (rc (zRec S) k) = S (rc S (k + 1))) ∧ ∃ Z, zRec S (rc (zRec S) 3) = zCopy Z (S 0))) := by
  obtain ⟨h1, h2⟩ := zRec0_WF hH
  have key : ∀ S0 : zS, hWF S0 → hsz S0 < 4 → hWF (zRec1 S0) ∧ hsz (zRec1 S0) = hsz S0 + 1 ∧ (∀ k, k < hsz S0 → zRec1 S0 (rc (zRec1 S0) k) = S0 (rc S0 k)) ∧ zRec1 S0 (rc (zRec1 S0) (hsz S0)) = zCopy (S0 (rc S0 (hsz S0))) (S0 0) := by
    intro S0 hw hl
    have e7 : zRec1 S0 7 = uj (S0 7) 0 (upd (S0 7 0) 0 (S0 7 0 0 + 1)) := up_same _ _ _
    have e71 : zRec1 S0 7 1 = S0 7 1 := by rw [e7]; exact uj_ne _ _ (by decide)
    have e700 : zRec1 S0 7 0 0 = nI (hsz S0 + 1) := by rw [e7, uj_same, upd_same, hw.1.1]; exact nI_1 _
    have ehz : hsz (zRec1 S0) = hsz S0 + 1 := by
      show (zRec1 S0 7 0 0).toNatClampNeg = _
      rw [e700, nI_clamp (by omega)]
    have erc : ∀ k, rc (zRec1 S0) k = rc S0 k := fun k => rc_7 e71 k
    refine ⟨⟨⟨by rw [ehz]; exact e700, by omega⟩, fun k hk => ?_, fun k hk q hq hkq => ?_⟩, ehz, fun k hk => ?_, ?_⟩
    · rw [e71, erc]; exact hw.2.1 k hk
    · rw [erc, erc] at hkq; exact hw.2.2 k hk q hq hkq
    · rw [erc]
      have hr := hw.2.1 k (by omega)
      unfold zRec1
      rw [up_ne _ _ (by omega), up_ne _ _ (fun z => by have := hw.2.2 k (by omega) _ hl z; omega)]
    · rw [erc]
      have hr := hw.2.1 _ hl
      unfold zRec1
      rw [up_ne _ _ (by omega), up_same]
  obtain ⟨k1, k2, k3, k4⟩ := key _ h1 h2
  refine ⟨k1, ?_⟩
  have h4 := hH.1.2
  by_cases hl : hsz S < 4
  · left
    have e : zRec0 S = S := if_pos hl
    have ez : zRec S = zRec1 S := by unfold zRec; rw [e]
    rw [e] at k2 k3 k4
    rw [ez]
    exact ⟨hl, k2, k3, _, k4⟩
  · right
    have e : zRec0 S = zDrop S := if_neg hl
    have ez : zRec S = zRec1 (zDrop S) := by unfold zRec; rw [e]
    have hd := (hWF_drop hH).2
    rw [e] at k2 k3 k4
    rw [hd] at k2 k3 k4
    rw [ez]
    refine ⟨by omega, k2, fun k hk => ?_, zDrop S (rc (zDrop S) 3), ?_⟩
    · rw [k3 k hk]
      have er : rc (zDrop S) k = rc S (k + 1) := by
        unfold rc zDrop
        rw [up_same, uj_ne _ _ (by decide), uj_same, upd_ne _ _ (by omega)]
        unfold rotL
        rw [if_pos hk]
      have hr := hH.2.1 (k + 1) (by omega)
      rw [er, zDrop_ne (by omega)]
    · rw [k4, zDrop_ne (show 0 ≠ 7 by decide)]
theorem mRec_view {h : Nat} (hs : S 15 0 0 = nI h) (h4 : h ≤ 4) : (h < 4 ∧ mRec S 15 0 0 = nI (h + 1) ∧ (∀ k, k < h → mRec S (11 + k) = S (11 + k)) ∧ mRec S (11 + h) = S 8) ∨ (h = 4 ∧ mRec S 15 0 0 = nI 4 ∧ (∀ k, k < 3 → mRec S (11 + k) = S (11 + (k + 1))) ∧ mRec S (11 + 3) = S 8) := by
  by_cases hl : h < 4
  · left
    have hne : ¬ S 15 0 0 = 4 := by
      rw [hs]
      intro z
      have := (nI_eq (b := 4) (by omega) (by decide)).mp z
      omega
    have e : mRec0 S = S := if_neg hne
    have ez : mRec S = mRec1 S := by unfold mRec; rw [e]
    have ht : tn (S 15 0 0) = h := by rw [hs]; exact nI_clamp (by omega)
    rw [ez]
    unfold mRec1
    rw [ht]
    refine ⟨hl, ?_, fun k hk => ?_, ?_⟩
    · rw [up_same, uj_same, upd_same, hs]; exact nI_1 _
    · rw [up_ne _ _ (by omega), up_ne _ _ (by omega)]
    · rw [up_ne _ _ (by omega), up_same]
  · right
    have h4' : h = 4 := by omega
    subst h4'
    have e : mRec0 S = mDrop S := if_pos hs
    have ez : mRec S = mRec1 (mDrop S) := by unfold mRec; rw [e]
    have e15 : mDrop S 15 0 0 = nI 3 := by
      unfold mDrop
      rw [up_same, uj_same, upd_same, hs]
      decide
    have ht : tn (mDrop S 15 0 0) = 3 := by rw [e15]; decide
    rw [ez]
    unfold mRec1
    rw [ht]
    refine ⟨rfl, ?_, fun k hk => ?_, ?_⟩
    · rw [up_same, uj_same, upd_same, e15]; exact nI_1 _
    · rw [up_ne _ _ (by omega), up_ne _ _ (by omega)]
      rcases (show k = 0 ∨ k = 1 ∨ k = 2 by omega) with rfl | rfl | rfl <;> rfl
    · rw [up_ne _ _ (by omega), up_same]
      rfl
/-- a recorded step keeps the agreement -/
theorem sim_core (h : Sim S) (hX : zWF X) (hQ : Qv X Y) (t0 : T 0 = X) (t8 : T 8 = Y) (tl : ∀ i, 2 ≤ i → i < 8 → T i = zRec S i) (t10 : T 10 = S 10) (th : ∀ k, k < 4 → T (11 + k) = mRec S (11 + k)) (t15 : T 15 0 = mRec S 15 0) (t151 : T 15 1 = S 15 1) : Sim T := by
  obtain ⟨hH, hk4⟩ := zRec_view h.1.2.1
  have e7 := tl 7 (by decide) (by decide)
  have erc : ∀ k, rc T k = rc (zRec S) k := fun k => rc_7 (by rw [e7]) k
  have ehz : hsz T = hsz (zRec S) := by unfold hsz; rw [e7]
  have e701 : T 7 0 1 = S 7 0 1 := by rw [e7]; exact zRec_7 0 (Or.inr rfl) 1 (fun _ => by decide)
  have e702 : T 7 0 2 = S 7 0 2 := by rw [e7]; exact zRec_7 0 (Or.inr rfl) 2 (fun _ => by decide)
  have e72 : ∀ k, T 7 2 k = S 7 2 k := fun k => by rw [e7]; exact zRec_7 2 (Or.inl rfl) k (fun z => absurd z (by decide))
  have e2 : T 2 = S 2 := (tl 2 (by decide) (by decide)).trans (zRec_low h.1.2.1 (by decide))
  have e1501 : T 15 0 1 = S 15 0 1 := by rw [t15]; exact mRec_15 0 1 (fun _ => by decide)
  have e1502 : T 15 0 2 = S 15 0 2 := by rw [t15]; exact mRec_15 0 2 (fun _ => by decide)
  have hHT : hWF T := by
    unfold hWF at hH ⊢
    rw [ehz, e7]
    exact ⟨hH.1, fun k hk => by rw [erc]; exact hH.2.1 k hk, fun k hk q hq z => by rw [erc, erc] at z; exact hH.2.2 k hk q hq z⟩
  have hsT : T 7 0 0 = nI (hsz T) := hHT.1.1
  have hst := Sim_hs h
  have hrow : T 15 0 0 = nI (hsz T) ∧ ∀ k, k < hsz T → zWF (T (rc T k)) ∧ Qv (T (rc T k)) (T (11 + k)) := by
    rw [ehz, t15]
    rcases hk4 with ⟨l1, l2, l3, Z, l4⟩ | ⟨l1, l2, l3, Z, l4⟩
    · rcases mRec_view hst.1 hst.2 with ⟨m1, m2, m3, m4⟩ | ⟨m1, _⟩
      · refine ⟨by rw [l2]; exact m2, fun k hk => ?_⟩
        rw [l2] at hk
        have hr := hHT.2.1 k (by omega)
        rw [tl (rc T k) (by omega) (by omega), erc, th k (by omega)]
        by_cases e : k = hsz S
        · subst e
          rw [l4, m4]
          exact ⟨zCopy_WF h.1.1, Qcopy h.2.1⟩
        · rw [l3 k (by omega), m3 k (by omega)]
          exact ⟨h.1.2.2.1 k (by omega), h.2.2.2.1 k (by omega)⟩
      · omega
    · rcases mRec_view hst.1 hst.2 with ⟨m1, _⟩ | ⟨m1, m2, m3, m4⟩
      · omega
      · refine ⟨by rw [l2]; exact m2, fun k hk => ?_⟩
        rw [l2] at hk
        have hr := hHT.2.1 k (by omega)
        rw [tl (rc T k) (by omega) (by omega), erc, th k (by omega)]
        by_cases e : k = 3
        · subst e
          rw [l4, m4]
          exact ⟨zCopy_WF h.1.1, Qcopy h.2.1⟩
        · rw [l3 k (by omega), m3 k (by omega)]
          exact ⟨h.1.2.2.1 (k + 1) (by omega), h.2.2.2.1 (k + 1) (by omega)⟩
  refine ⟨⟨by rw [t0]; exact hX, hHT, fun k hk => (hrow.2 k hk).1, by rw [e702]; exact h.1.2.2.2.1, by rw [e701]; exact h.1.2.2.2.2.1, fun z => by rw [e2]; rw [e701] at z; exact h.1.2.2.2.2.2 z⟩, by rw [t0, t8]; exact hQ, hrow.1.trans hsT.symm, fun k hk => (hrow.2 k hk).2, by rw [e1501, e701]; exact h.2.2.2.2.1, fun z => ?_, by rw [e1502, e702]; exact h.2.2.2.2.2.2.1, fun L hL h80 k hk => ?_⟩
  · rw [e2, t10]; rw [e701] at z; exact h.2.2.2.2.2.1 z
  · rw [e72, t151]; rw [e702] at hL; exact h.2.2.2.2.2.2.2 L hL h80 k hk
end SM
