/-! ===== every pair of calls keeps the agreement ===== -/
section SO
variable {S S1 T V : zS} {X Y : zCV} {F : Nat → Int32}
theorem Sim_ext (h : Sim S) (hT : ∀ i, i ≠ 1 → i ≠ 9 → i ≠ 15 → T i = S i) (h150 : T 15 0 = S 15 0) (h151 : T 15 1 = S 15 1) : Sim T := by
  have e0 := hT 0 (by decide) (by decide) (by decide)
  have e2 := hT 2 (by decide) (by decide) (by decide)
  have e7 := hT 7 (by decide) (by decide) (by decide)
  have e8 := hT 8 (by decide) (by decide) (by decide)
  have e10 := hT 10 (by decide) (by decide) (by decide)
  have erc : ∀ k, rc T k = rc S k := fun k => rc_7 (by rw [e7]) k
  have ehz : hsz T = hsz S := by unfold hsz; rw [e7]
  have hH := h.1.2.1
  have hst := Sim_hs h
  have er : ∀ k, k < hsz S → T (rc T k) = S (rc S k) := fun k hk => by
    have := hH.2.1 k (by omega)
    rw [erc]
    exact hT _ (by omega) (by omega) (by omega)
  have hHT : hWF T := by
    unfold hWF at hH ⊢
    rw [ehz, e7]
    exact ⟨hH.1, fun k hk => by rw [erc]; exact hH.2.1 k hk, fun k hk q hq z => by rw [erc, erc] at z; exact hH.2.2 k hk q hq z⟩
  refine ⟨⟨by rw [e0]; exact h.1.1, hHT, fun k hk => ?_, by rw [e7]; exact h.1.2.2.2.1, by rw [e7]; exact h.1.2.2.2.2.1, by rw [e7, e2]; exact h.1.2.2.2.2.2⟩, by rw [e0, e8]; exact h.2.1, by rw [h150, e7]; exact h.2.2.1, fun k hk => ?_, by rw [h150, e7]; exact h.2.2.2.2.1, by rw [e7, e2, e10]; exact h.2.2.2.2.2.1, by rw [h150, e7]; exact h.2.2.2.2.2.2.1, by rw [e7, h151]; exact h.2.2.2.2.2.2.2⟩
  · rw [ehz] at hk; rw [er k hk]; exact h.1.2.2.1 k hk
  · rw [ehz] at hk
    rw [er k hk, hT (11 + k) (by omega) (by omega) (by omega)]
    exact h.2.2.2.1 k hk
theorem sim_T (h : Sim S) (hX : zWF X) (hQ : Qv X Y) (hV : ∀ i, i ≠ 15 → V i = mRec (up (zRec S) 0 X) i) (hV0 : V 15 0 = mRec (up (zRec S) 0 X) 15 0) (hV1 : V 15 1 = mRec (up (zRec S) 0 X) 15 1) : Sim (up V 8 Y) := by
  have hk : kp8 S (up (zRec S) 0 X) := kp8_up (by decide) (kp8_rec h.1.2.1)
  have hs := kp8_hs h hk
  have h4 := (Sim_hs h).2
  refine sim_core h hX hQ ?_ (up_same _ _ _) (fun i h2 h8 => ?_) ?_ (fun k hk4 => ?_) ?_ ?_
  · rw [up_ne _ _ (by decide), hV 0 (by decide), mRec_lo hs h4 (by decide), up_same]
  · rw [up_ne _ _ (by omega), hV i (by omega), mRec_lo hs h4 (by omega), up_ne _ _ (by omega)]
  · rw [up_ne _ _ (by decide), hV 10 (by decide), mRec_lo hs h4 (by decide)]
    exact hk 10 (by decide)
  · rw [up_ne _ _ (by omega), hV (11 + k) (by omega)]
    exact mRec_dep hk _ (by omega)
  · rw [up_ne _ _ (by decide), hV0, mRec_dep hk 15 (by decide)]
  · rw [up_ne _ _ (by decide), hV1]
    have : mRec (up (zRec S) 0 X) 15 1 = up (zRec S) 0 X 15 1 := funext fun k => mRec_15 1 k (fun z => absurd z (by decide))
    rw [this, hk 15 (by decide)]
theorem sim_a {E E' : Int32} (h : Sim S) (hE : E' = E) (hX : E = 0 → zWF X ∧ Qv X Y) : Sim (if E' = 0 then up (mRec (if E = 0 then up (zRec S) 0 X else S)) 8 Y else (if E = 0 then up (zRec S) 0 X else S)) := by
  subst hE
  by_cases e : E' = 0
  · rw [if_pos e, if_pos e]
    exact sim_T h (hX e).1 (hX e).2 (fun _ _ => rfl) rfl rfl
  · rw [if_neg e, if_neg e]
    exact h
theorem sim_b {E E' : Int32} (h : Sim S) (hE : E' = E) (hX : E = 0 → zWF X ∧ Qv X Y) : Sim (if E' = 0 then up (fr (mRec (if E = 0 then up (zRec S) 0 X else S)) F) 8 Y else (if E = 0 then up (zRec S) 0 X else S)) := by
  subst hE
  by_cases e : E' = 0
  · rw [if_pos e, if_pos e]
    exact sim_T h (hX e).1 (hX e).2 (fun i hi => fr_ne _ _ hi) rfl rfl
  · rw [if_neg e, if_neg e]
    exact h
theorem sim_c (h : Sim S) (hX : zWF X ∧ Qv X Y) : Sim (up (fr (mRec (up (zRec S) 0 X)) F) 8 Y) := sim_T h hX.1 hX.2 (fun i hi => fr_ne _ _ hi) rfl rfl
theorem sim_fr (h : Sim S) (F : Nat → Int32) : Sim (fr S F) := Sim_ext h (fun i _ _ h15 => fr_ne _ _ h15) rfl rfl
theorem sim_1 (h : Sim S) (X : zCV) : Sim (up S 1 X) := Sim_ext h (fun i h1 _ _ => up_ne _ _ h1) rfl rfl
theorem sim_sp (h : Sim S) (F : Nat → Int32) : Sim (up (fr (up S 9 (S 8)) F) 8 (S 8)) := by
  refine Sim_ext h (fun i h1 h9 h15 => ?_) rfl rfl
  by_cases h8 : i = 8
  · subst h8; exact up_same _ _ _
  · rw [up_ne _ _ h8, fr_ne _ _ h15, up_ne _ _ h9]
theorem zCh_ok : ∀ w, w < 128 → zCh (nI w) = nI w := by decide +kernel
theorem sim_append {L : Nat} (h : Sim S) (hL : S 7 0 2 = nI L) (hL1 : S 15 0 2 = nI L) (h80 : L ≤ 80) (x : Int32) (hS1 : S1 = if eApp L x = 0 then up S 7 (uj (uj (S 7) 2 (upd (S 7 2) L (zCh x))) 0 (upd (S 7 0) 2 (nI (L + 1)))) else S) : Sim (if eApp L x = 0 then up S1 15 (uj (uj (S1 15) 1 (upd (S1 15 1) L x)) 0 (upd (S1 15 0) 2 (nI (L + 1)))) else S1) := by
  by_cases e : ¬ eApp L x = 0
  · rw [if_neg e, hS1, if_neg e]; exact h
  replace e := Decidable.not_not.mp e
  rw [if_pos e]
  rw [if_pos e] at hS1
  have e15 : S1 15 = S 15 := by rw [hS1]; exact up_ne _ _ (by decide)
  have e7 : S1 7 = uj (uj (S 7) 2 (upd (S 7 2) L (zCh x))) 0 (upd (S 7 0) 2 (nI (L + 1))) := by rw [hS1]; exact up_same _ _ _
  unfold eApp at e
  have hl80 : L < 80 := by
    by_cases e1 : zin x 32 126 = 0
    · rw [if_pos e1] at e; exact absurd e (by decide)
    rw [if_neg e1] at e
    by_cases e2 : nI L < 80
    · exact (nI_ltI (b := 80) (by omega) (by decide)).mp e2
    · rw [if_neg e2] at e; exact absurd e (by decide)
  have hch : zCh x = x := by
    by_cases e1 : zin x 32 126 = 0
    · rw [if_pos e1] at e; exact absurd e (by decide)
    have h1 := zin_1 e1
    obtain ⟨w, hw, rfl⟩ := nI_of (x := x) (Int32.not_lt.mpr (Int32.le_trans (by decide) h1.1))
    refine zCh_ok w ?_
    have : ¬ 126 < w := fun z => absurd h1.2 (Int32.not_le.mpr (nI_lt (a := 126) z hw))
    omega
  rw [hch] at e7
  generalize hT : up S1 15 (uj (uj (S1 15) 1 (upd (S1 15 1) L x)) 0 (upd (S1 15 0) 2 (nI (L + 1)))) = T
  have t7 : T 7 = uj (uj (S 7) 2 (upd (S 7 2) L x)) 0 (upd (S 7 0) 2 (nI (L + 1))) := by rw [← hT, up_ne _ _ (by decide), e7]
  have t15 : T 15 = uj (uj (S 15) 1 (upd (S 15 1) L x)) 0 (upd (S 15 0) 2 (nI (L + 1))) := by rw [← hT, up_same, e15]
  have ti : ∀ i, i ≠ 7 → i ≠ 15 → T i = S i := fun i h7 h15 => by rw [← hT, up_ne _ _ h15, hS1, up_ne _ _ h7]
  have t700 : T 7 0 0 = S 7 0 0 := by rw [t7]; rfl
  have t701 : T 7 0 1 = S 7 0 1 := by rw [t7]; rfl
  have t702 : T 7 0 2 = nI (L + 1) := by rw [t7]; rfl
  have t71 : T 7 1 = S 7 1 := by rw [t7]; rfl
  have t72 : T 7 2 = upd (S 7 2) L x := by rw [t7]; rfl
  have t150 : T 15 0 0 = S 15 0 0 := by rw [t15]; rfl
  have t1501 : T 15 0 1 = S 15 0 1 := by rw [t15]; rfl
  have t1502 : T 15 0 2 = nI (L + 1) := by rw [t15]; rfl
  have t151 : T 15 1 = upd (S 15 1) L x := by rw [t15]; rfl
  have erc : ∀ k, rc T k = rc S k := fun k => rc_7 t71 k
  have ehz : hsz T = hsz S := by unfold hsz; rw [t700]
  have hH := h.1.2.1
  have hst := Sim_hs h
  have er : ∀ k, k < hsz S → T (rc T k) = S (rc S k) := fun k hk => by
    have := hH.2.1 k (by omega)
    rw [erc]
    exact ti _ (by omega) (by omega)
  have hHT : hWF T := by
    unfold hWF at hH ⊢
    rw [ehz, t700, t71]
    exact ⟨hH.1, fun k hk => by rw [erc]; exact hH.2.1 k hk, fun k hk q hq z => by rw [erc, erc] at z; exact hH.2.2 k hk q hq z⟩
  have e0 := ti 0 (by decide) (by decide)
  have e2 := ti 2 (by decide) (by decide)
  have e8 := ti 8 (by decide) (by decide)
  have e10 := ti 10 (by decide) (by decide)
  refine ⟨⟨by rw [e0]; exact h.1.1, hHT, fun k hk => ?_, ⟨L + 1, t702, by omega⟩, by rw [t701]; exact h.1.2.2.2.2.1, by rw [t701, e2]; exact h.1.2.2.2.2.2⟩, by rw [e0, e8]; exact h.2.1, by rw [t150, t700]; exact h.2.2.1, fun k hk => ?_, by rw [t1501, t701]; exact h.2.2.2.2.1, by rw [t701, e2, e10]; exact h.2.2.2.2.2.1, by rw [t1502, t702], fun L' hL' h80' k hk => ?_⟩
  · rw [ehz] at hk; rw [er k hk]; exact h.1.2.2.1 k hk
  · rw [ehz] at hk
    rw [er k hk, ti (11 + k) (by omega) (by omega)]
    exact h.2.2.2.1 k hk
  · rw [t702] at hL'
    have : L + 1 = L' := (nI_eq (by omega) (by omega)).mp hL'
    rw [t72, t151]
    by_cases ek : k = L
    · rw [ek, upd_same, upd_same]
    · rw [upd_ne _ _ ek, upd_ne _ _ ek]
      exact h.2.2.2.2.2.2.2 L hL h80 k (by omega)
/-- the class's side of the text and the history changed alike to the reference's -/
theorem sim_7 (h : Sim S) (h0 : Qv (T 0) (T 8)) (hW : zWF (T 0)) (t2 : T 7 0 1 = 1 → zWF (T 2) ∧ Qv (T 2) (T 10)) (ti : ∀ i, 3 ≤ i → i < 7 → T i = S i) (tk : ∀ k, k < 4 → T (11 + k) = S (11 + k)) (t71 : T 7 1 = S 7 1) (t72 : T 7 2 = S 7 2) (t151 : T 15 1 = S 15 1) (hz : T 7 0 0 = nI (hsz T) ∧ hsz T ≤ hsz S) (e0 : T 15 0 0 = T 7 0 0) (e1 : T 15 0 1 = T 7 0 1) (e01 : T 7 0 1 = 0 ∨ T 7 0 1 = 1) (hL : ∃ L L', T 7 0 2 = nI L ∧ T 15 0 2 = nI L ∧ L ≤ L' ∧ S 7 0 2 = nI L' ∧ L' ≤ 80) : Sim T := by
  obtain ⟨L, L', l1, l2, l3, l4, l5⟩ := hL
  have erc : ∀ k, rc T k = rc S k := fun k => rc_7 t71 k
  have hH := h.1.2.1
  have hst := Sim_hs h
  have er : ∀ k, k < hsz T → T (rc T k) = S (rc S k) := fun k hk => by
    have := hH.2.1 k (by omega)
    rw [erc]
    exact ti _ (by omega) (by omega)
  have hHT : hWF T := by
    unfold hWF at hH ⊢
    rw [t71]
    exact ⟨⟨hz.1, by omega⟩, fun k hk => by rw [erc]; exact hH.2.1 k hk, fun k hk q hq z => by rw [erc, erc] at z; exact hH.2.2 k hk q hq z⟩
  refine ⟨⟨hW, hHT, fun k hk => by rw [er k hk]; exact h.1.2.2.1 k (by omega), ⟨L, l1, by omega⟩, e01, fun z => (t2 z).1⟩, h0, e0, fun k hk => by rw [er k hk, tk k (by omega)]; exact h.2.2.2.1 k (by omega), e1, fun z => (t2 z).2, l2.trans l1.symm, fun L2 hL2 h80' k hk => ?_⟩
  rw [l1] at hL2
  have : L = L2 := (nI_eq (by omega) (by omega)).mp hL2
  rw [t72, t151]
  exact h.2.2.2.2.2.2.2 L' l4 l5 k (by omega)
theorem Sim_sn (h : Sim S) : S 7 0 1 = 1 → zWF (S 2) ∧ Qv (S 2) (S 10) := fun z => ⟨h.1.2.2.2.2.2 z, h.2.2.2.2.2.1 z⟩
theorem sim_clear (h : Sim S) (hS1 : S1 = up S 7 (uj (S 7) 0 (upd (S 7 0) 2 0))) : Sim (up S1 15 (uj (S1 15) 0 (upd (S1 15 0) 2 0))) := by
  obtain ⟨L, l1, l2, l3, -⟩ := Sim_L h
  subst hS1
  have hz : hsz (up (up S 7 (uj (S 7) 0 (upd (S 7 0) 2 0))) 15 (uj (up S 7 (uj (S 7) 0 (upd (S 7 0) 2 0)) 15) 0 (upd (up S 7 (uj (S 7) 0 (upd (S 7 0) 2 0)) 15 0) 2 0))) = hsz S := rfl
  exact sim_7 h h.2.1 h.1.1 (fun z => Sim_sn (S := S) h z) (fun i h3 h7 => by rw [up_ne _ _ (by omega), up_ne _ _ (by omega)]) (fun k hk => by rw [up_ne _ _ (by omega), up_ne _ _ (by omega)]) rfl rfl rfl ⟨h.1.2.1.1.1, by rw [hz]; exact Nat.le_refl _⟩ h.2.2.1 h.2.2.2.2.1 h.1.2.2.2.2.1 ⟨0, L, rfl, rfl, Nat.zero_le _, l1, l3⟩
theorem sim_save (h : Sim S) (hS1 : S1 = up (up S 2 (zCopy (S 2) (S 0))) 7 (uj (S 7) 0 (upd (S 7 0) 1 1))) : Sim (up (up S1 10 (S1 8)) 15 (uj (S1 15) 0 (upd (S1 15 0) 1 1))) := by
  obtain ⟨L, l1, l2, l3, -⟩ := Sim_L h
  subst hS1
  exact sim_7 h h.2.1 h.1.1 (fun _ => ⟨zCopy_WF h.1.1, Qcopy h.2.1⟩) (fun i h3 h7 => by rw [up_ne _ _ (by omega), up_ne _ _ (by omega), up_ne _ _ (by omega), up_ne _ _ (by omega)]) (fun k hk => by rw [up_ne _ _ (by omega), up_ne _ _ (by omega), up_ne _ _ (by omega), up_ne _ _ (by omega)]) rfl rfl rfl ⟨h.1.2.1.1.1, Nat.le_refl (hsz S)⟩ h.2.2.1 rfl (Or.inr rfl) ⟨L, L, l1, l2, Nat.le_refl _, l1, l3⟩
theorem sim_undo (h : Sim S) (hS1 : S1 = if hsz S = 0 then S else zBack S) : Sim (if S1 15 0 0 = 0 then S1 else mBack S1) := by
  obtain ⟨L, l1, l2, l3, -⟩ := Sim_L h
  have hst := Sim_hs h
  by_cases e : hsz S = 0
  · rw [if_pos e] at hS1
    subst hS1
    rw [if_pos (by rw [hst.1, e]; rfl)]
    exact h
  rw [if_neg e] at hS1
  have hk : kp8 S S1 := by rw [hS1]; exact kp8_back
  have h150 : S1 15 0 0 = nI (hsz S) := kp8_hs h hk
  have hne : ¬ S1 15 0 0 = 0 := by
    rw [h150]
    intro z
    exact e ((nI_eq (b := 0) (by omega) (by decide)).mp z)
  rw [if_neg hne]
  have hsub : S1 15 0 0 - 1 = nI (hsz S - 1) := by rw [h150]; exact nI_sub1 (by omega)
  have h7sub : S 7 0 0 - 1 = nI (hsz S - 1) := by rw [h.1.2.1.1.1]; exact nI_sub1 (by omega)
  have htn : tn (S1 15 0 0 - 1) = hsz S - 1 := by rw [hsub]; exact nI_clamp (by omega)
  have hr := h.1.2.1.2.1 (hsz S - 1) (by omega)
  have s7 : S1 7 = uj (S 7) 0 (upd (S 7 0) 0 (S 7 0 0 - 1)) := by rw [hS1]; unfold zBack; rw [up_ne _ _ (by decide), up_same]
  have s0 : S1 0 = zCopy (S 0) (S (rc S (hsz S - 1))) := by rw [hS1]; exact up_same _ _ _
  have si : ∀ i, i ≠ 0 → i ≠ 7 → S1 i = S i := fun i a b => by rw [hS1]; unfold zBack; rw [up_ne _ _ a, up_ne _ _ b]
  generalize hT : mBack S1 = T
  have ti : ∀ i, i ≠ 8 → i ≠ 15 → T i = S1 i := fun i a b => by rw [← hT]; unfold mBack; rw [up_ne _ _ a, up_ne _ _ b]
  have t8 : T 8 = S (11 + (hsz S - 1)) := by rw [← hT]; unfold mBack; rw [up_same, htn, si _ (by omega) (by omega)]
  have t15 : T 15 = uj (S 15) 0 (upd (S 15 0) 0 (nI (hsz S - 1))) := by rw [← hT]; unfold mBack; rw [up_ne _ _ (by decide), up_same, hsub, si 15 (by decide) (by decide)]
  have t7 : T 7 = uj (S 7) 0 (upd (S 7 0) 0 (nI (hsz S - 1))) := by rw [ti 7 (by decide) (by decide), s7, h7sub]
  have thz : hsz T = hsz S - 1 := by unfold hsz; rw [t7, uj_same, upd_same, nI_clamp (by have := hst.2; unfold hsz at this e; omega)]; rfl
  have t0 : T 0 = zCopy (S 0) (S (rc S (hsz S - 1))) := by rw [ti 0 (by decide) (by decide), s0]
  refine sim_7 h (by rw [t0, t8]; exact Qcopy (h.2.2.2.1 _ (by omega))) (by rw [t0]; exact zCopy_WF (h.1.2.2.1 _ (by omega))) ?_ (fun i h3 h7 => by rw [ti i (by omega) (by omega), si i (by omega) (by omega)]) (fun k hk => by rw [ti _ (by omega) (by omega), si _ (by omega) (by omega)]) (by rw [t7]; rfl) (by rw [t7]; rfl) (by rw [t15]; rfl) ⟨by rw [thz, t7]; rfl, by omega⟩ (by rw [t15, t7]; rfl) (by rw [t15, t7]; exact h.2.2.2.2.1) (by rw [t7]; exact h.1.2.2.2.2.1) ⟨L, L, by rw [t7]; exact l1, by rw [t15]; exact l2, Nat.le_refl _, l1, l3⟩
  rw [ti 2 (by decide) (by decide), si 2 (by decide) (by decide), ti 10 (by decide) (by decide), si 10 (by decide) (by decide), t7]
  exact Sim_sn h
theorem sim_restore (h : Sim S) (hS1 : S1 = if S 7 0 1 = 0 then S else up (zRec S) 0 (zCopy (S 0) (S 2))) : Sim (if S1 15 0 1 = 0 then S1 else up (mRec S1) 8 (S1 10)) := by
  have hk : kp8 S S1 := by rw [hS1]; exact kp8_if kp8_rf (kp8_up (by decide) (kp8_rec h.1.2.1))
  rw [hk 15 (by decide), h.2.2.2.2.1, hk 10 (by decide)]
  by_cases e : S 7 0 1 = 0
  · rw [if_pos e]
    rw [if_pos e] at hS1
    rw [hS1]; exact h
  · rw [if_neg e]
    rw [if_neg e] at hS1
    have h1 := Sim_sn h (h.1.2.2.2.2.1.resolve_left e)
    rw [hS1]
    exact sim_T h (zCopy_WF h1.1) (Qcopy h1.2) (fun _ _ => rfl) rfl rfl
end SO
