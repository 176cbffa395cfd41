theorem zisId_pos {x : Int32} (h : ¬ zisId x = 0) : 0 ≤ x := by
  unfold zisId at h
  by_cases h0 : x = 0
  · rw [h0]; exact Int32.le_refl 0
  · rw [if_neg h0] at h
    by_cases h1 : zin x 1 253 = 0
    · rw [if_pos h1] at h; exact absurd rfl h
    · exact Int32.le_trans (by decide) (zin_1 h1).1
theorem zPins_WF {X : zCV} {t : Nat} {v : Int32} (h : zWF X) : zWF (zPinsX X t v) := by
  have h0 : zPinsX X t v 0 = X 0 := uj_ne _ _ (by omega)
  obtain ⟨h1, h2, h3, h4⟩ := h
  refine ⟨?_, ?_, ?_, fun q hq => ?_⟩
  · unfold num at h1 ⊢; rw [h0]; exact h1
  · unfold stt at h2 ⊢; rw [h0]; exact h2
  · unfold cnt at h3 ⊢; rw [h0]; exact h3
  · have hq' : q < num X := by unfold num at hq ⊢; rw [h0] at hq; exact hq
    have hc := h4 q hq'
    unfold zPinsX
    by_cases hqt : q = t
    · subst hqt
      rw [uj_same]
      exact cWF_upd hc (by omega)
    · rw [uj_ne _ _ (by omega)]
      exact hc
/-! ===== the two chains' values agree where they are read ===== -/
def Qv (X Y : zCV) : Prop := X 0 = Y 0 ∧ (∀ k, k < cnt X → X 2 k = Y 2 k) ∧ ∀ t, t < num X → X (t + 3) = Y (t + 3)
section QV
variable {X Y : zCV}
theorem Qrf (X : zCV) : Qv X X := ⟨rfl, fun _ _ => rfl, fun _ _ => rfl⟩
theorem Qnum (h : Qv X Y) : num X = num Y := by unfold num; rw [h.1]
theorem Qstt (h : Qv X Y) : stt X = stt Y := by unfold stt; rw [h.1]
theorem Qcnt (h : Qv X Y) : cnt X = cnt Y := by unfold cnt; rw [h.1]
theorem QWF (h : Qv X Y) (hW : zWF X) : zWF Y := by
  have hn := Qnum h
  have hs := Qstt h
  have hc := Qcnt h
  refine ⟨?_, ?_, ?_, fun t ht => ?_⟩
  · rw [← hn, ← h.1]; exact hW.1
  · rw [← hs, ← h.1]; exact hW.2.1
  · rw [← hc, ← h.1]; exact hW.2.2.1
  · rw [← hn] at ht
    rw [← h.2.2 t ht]
    exact hW.chip ht
theorem Qcopy {Z : zCV} (h : Qv X Y) : Qv (zCopy Z X) Y := by
  have h0 : zCopy Z X 0 = X 0 := zCopy_0 Z X
  refine ⟨h0.trans h.1, fun k hk => ?_, fun t ht => ?_⟩
  · have hk' : k < cnt X := by unfold cnt at hk ⊢; rw [h0] at hk; exact hk
    rw [← h.2.1 k hk']
    unfold zCopy
    rw [if_neg (by decide), if_pos rfl, if_pos hk']
  · have ht' : t < num X := by unfold num at ht ⊢; rw [h0] at ht; exact ht
    rw [← h.2.2 t ht']
    unfold zCopy
    rw [if_neg (by omega), if_neg (by omega), if_neg (by omega), if_pos (by omega)]
theorem Qcopy2 {Z : zCV} (h : Qv X Y) : Qv (zCopy Z X) X := Qcopy (Qrf X)
theorem Qout (h : Qv X Y) (x : Int32) : zOut X x = zOut Y x := by
  have hn := Qnum h
  unfold zOut
  rw [← h.1, ← hn]
  by_cases h0 : num X = 0
  · rw [if_pos h0, if_pos h0, if_pos h0, if_pos h0]
  · rw [h.2.2 (num X - 1) (by omega)]
theorem Qinc {O : (Nat → Int32) → Int32} (h : Qv X Y) (x : Int32) {k : Nat} (hk : k < num X) : zInc O X x k = zInc O Y x k := by
  cases k with
  | zero => rfl
  | succ k => show O _ = O _; rw [h.2.2 k (by omega)]
theorem Qmap {f g : Nat → (Nat → Int32) → (Nat → Int32)} (h : Qv X Y) (hf : ∀ t, t < num X → f t (X (t + 3)) = g t (Y (t + 3))) : Qv (zMap f (num X) X) (zMap g (num Y) Y) := by
  have e0 : zMap f (num X) X 0 = X 0 := zMap_lo (by decide)
  refine ⟨?_, fun k hk => ?_, fun t ht => ?_⟩
  · rw [e0, h.1]; exact (zMap_lo (by decide)).symm
  · rw [zMap_lo (by decide), zMap_lo (by decide)]
    exact h.2.1 k (by unfold cnt at hk ⊢; rw [e0] at hk; exact hk)
  · have hnm : num (zMap f (num X) X) = num X := by
      show (zMap f (num X) X 0 0).toNatClampNeg = _
      rw [e0]
      rfl
    have ht' : t < num X := by omega
    rw [zMap_in ht', zMap_in (by rw [← Qnum h]; exact ht')]
    exact hf t ht'
theorem Qwork (h : Qv X Y) (x : Int32) : Qv (zWorkAll X x) (zWorkAll Y x) := by
  unfold zWorkAll zShiftD zShiftC
  rw [← h.1]
  by_cases h4 : X 0 1 = 4
  · rw [if_pos h4, if_pos h4]
    exact Qmap h fun t ht => by rw [Qinc h x ht, h.2.2 t ht]
  · rw [if_neg h4, if_neg h4]
    by_cases h11 : X 0 1 = 11
    · rw [if_pos h11, if_pos h11]
      exact Qmap h fun t ht => by rw [Qinc h x ht, h.2.2 t ht]
    · rw [if_neg h11, if_neg h11]
      exact Qmap h fun t ht => by rw [h.2.2 t ht]
/-- the head changed alike, the counts of identities and chips kept -/
theorem Qhead {c d : Nat → Int32} (h : Qv X Y) (hc : c = d) (h1 : (c 3).toNatClampNeg = cnt X) (h2 : (c 0).toNatClampNeg = num X) : Qv (uj X 0 c) (uj Y 0 d) := by
  subst hc
  refine ⟨by rw [uj_same, uj_same], fun k hk => ?_, fun t ht => ?_⟩
  · rw [uj_ne _ _ (by decide), uj_ne _ _ (by decide)]
    refine h.2.1 k ?_
    unfold cnt at hk
    rw [uj_same, h1] at hk
    exact hk
  · rw [uj_ne _ _ (by omega), uj_ne _ _ (by omega)]
    refine h.2.2 t ?_
    unfold num at ht
    rw [uj_same, h2] at ht
    exact ht
theorem Qrow {t : Nat} {c d : Nat → Int32} (h : Qv X Y) (hc : c = d) : Qv (uj X (t + 3) c) (uj Y (t + 3) d) := by
  subst hc
  have e0 : uj X (t + 3) c 0 = X 0 := uj_ne _ _ (by omega)
  refine ⟨by rw [e0, h.1]; exact (uj_ne _ _ (by omega)).symm, fun k hk => ?_, fun q hq => ?_⟩
  · rw [uj_ne _ _ (by omega), uj_ne _ _ (by omega)]
    exact h.2.1 k (by unfold cnt at hk ⊢; rw [e0] at hk; exact hk)
  · have hq' : q < num X := by unfold num at hq ⊢; rw [e0] at hq; exact hq
    by_cases hqt : q = t
    · subst hqt
      rw [uj_same, uj_same]
    · rw [uj_ne _ _ (by omega), uj_ne _ _ (by omega)]
      exact h.2.2 q hq'
theorem Qtick (h : Qv X Y) (md x : Int32) : Qv (zTick X md x) (zTick Y md x) := by
  have hw := Qwork h x
  unfold zTick
  refine Qhead hw (by rw [Qstt h, h.1]) ?_ ?_
  · unfold cnt; rw [zWorkAll_0]; rfl
  · unfold num; rw [zWorkAll_0]; rfl
theorem QgoL {b : Nat} : ∀ (d : Nat) {X Y : zCV}, Qv X Y → Qv (zGoL d X b) (zGoL d Y b)
  | 0, _, _, h => h
  | d + 1, X, Y, h => by
    show Qv (zGoL d (zTick X (zMd (stt X) b) 1) b) (zGoL d (zTick Y (zMd (stt Y) b) 1) b)
    rw [← Qstt h]
    exact QgoL d (Qtick h _ _)
theorem Qgo (h : Qv X Y) (b : Nat) : Qv (zGo X b) (zGo Y b) := by
  unfold zGo
  rw [← Qstt h]
  exact QgoL _ h
theorem QthX {x : Int32} {L : Nat} {la : Int32} (h : Qv X Y) : ∀ b, Qv (zThX x L la b X) (zThX x L la b Y)
  | 0 => h
  | b + 1 => Qtick (QthX h b) _ _
theorem QthO {x : Int32} {L : Nat} {la : Int32} (h : Qv X Y) : ∀ b, zThO x L la b X = zThO x L la b Y
  | 0 => rfl
  | b + 1 => by
    show zThO x L la b X ||| _ = zThO x L la b Y ||| _
    rw [QthO h b, Qout (QthX h b)]
theorem QtkN : ∀ (k : Nat) {X Y : zCV}, Qv X Y → Qv (zTkN k X) (zTkN k Y)
  | 0, _, _, h => h
  | k + 1, _, _, h => QtkN k (Qtick h 1 1)
theorem QrdV (h : Qv X Y) : zRdV X = zRdV Y := by
  unfold zRdV
  rw [Qout h, QthO (Qtick h 0 1)]
theorem QrdX (h : Qv X Y) : Qv (zRdX X) (zRdX Y) := by
  unfold zRdX
  rw [Qout h]
  split
  · exact Qtick h 0 1
  · exact QthX (Qtick h 0 1) _
theorem Qforget (h : Qv X Y) : Qv (zForget X) (zForget Y) := by
  have h0 : zForget X 0 = upd (X 0) 3 0 := uj_same _ _ _
  have hY0 : zForget Y 0 = upd (Y 0) 3 0 := uj_same _ _ _
  refine ⟨by rw [h0, hY0, h.1], fun k hk => ?_, fun t ht => ?_⟩
  · rw [cnt_forget] at hk; omega
  · rw [num_forget] at ht
    unfold zForget
    rw [uj_ne _ _ (by omega), uj_ne _ _ (by omega)]
    exact h.2.2 t ht
theorem Qkeep {v : Int32} (h : Qv X Y) (hW : zWF X) : Qv (zKeep X v) (zKeep Y v) := by
  have hc := cnt_keep (v := v) hW
  have h0 : zKeep X v 0 = upd (X 0) 3 (X 0 3 + 1) := uj_same _ _ _
  have h0' : zKeep Y v 0 = upd (Y 0) 3 (Y 0 3 + 1) := uj_same _ _ _
  refine ⟨by rw [h0, h0', h.1], fun k hk => ?_, fun t ht => ?_⟩
  · rw [hc] at hk
    have eX : zKeep X v 2 = upd (X 2) (cnt X) v := (uj_ne _ _ (by decide)).trans (uj_same _ _ _)
    have eY : zKeep Y v 2 = upd (Y 2) (cnt Y) v := (uj_ne _ _ (by decide)).trans (uj_same _ _ _)
    rw [eX, eY, ← Qcnt h]
    by_cases e : k = cnt X
    · rw [e, upd_same, upd_same]
    · rw [upd_ne _ _ e, upd_ne _ _ e]
      exact h.2.1 k (by omega)
  · rw [num_keep] at ht
    unfold zKeep
    rw [uj_ne _ _ (by omega), uj_ne _ _ (by omega), uj_ne _ _ (by omega), uj_ne _ _ (by omega)]
    exact h.2.2 t ht
theorem QidL : ∀ (f : Nat) {X Y : zCV}, Qv X Y → zWF X → cnt X + f = 8 → Qv (zIdL f X) (zIdL f Y)
  | 0, _, _, h, _, _ => h
  | f + 1, X, Y, h, hW, hc => by
    have hw := zRdX_WF hW
    have hcr := cnt_rdX X
    show Qv (if zRdV X = 255 then zRdX X else zIdL f (zKeep (zRdX X) (zRdV X))) (if zRdV Y = 255 then zRdX Y else zIdL f (zKeep (zRdX Y) (zRdV Y)))
    rw [← QrdV h]
    split
    · exact QrdX h
    · exact QidL f (Qkeep (QrdX h) hw) (zKeep_WF hw (by omega)) (by rw [cnt_keep hw]; omega)
theorem Qident (h : Qv X Y) (hW : zWF X) : Qv (zIdent X) (zIdent Y) := by
  unfold zIdent
  exact Qgo (QidL 8 (Qforget (Qgo (QtkN 5 h) 4)) (zForget_WF (zGo_WF (zTkN_WF 5 hW))) (by rw [cnt_forget])) 1
theorem QldL {q : Nat} {x : Int32} : ∀ (k : Nat) {X Y : zCV}, Qv X Y → k ≤ num X → Qv (zLdL q x k X) (zLdL q x k Y)
  | 0, _, _, h, _ => h
  | k + 1, X, Y, h, hk => by
    show Qv (zLdL q x k (zThX (zCod q x X k) (zLen X k) (zLa k) (zLen X k) X)) (zLdL q x k (zThX (zCod q x Y k) (zLen Y k) (zLa k) (zLen Y k) Y))
    have e1 : zCod q x X k = zCod q x Y k := by unfold zCod; rw [h.2.2 k (by omega)]
    have e2 : zLen X k = zLen Y k := by unfold zLen; rw [h.2.2 k (by omega)]
    rw [← e1, ← e2]
    exact QldL k (QthX h _) (by rw [num_thX]; omega)
theorem Qload (h : Qv X Y) (q : Nat) (x : Int32) : Qv (zLoad X q x) (zLoad Y q x) := by
  unfold zLoad
  rw [← Qnum h]
  exact Qgo (QldL _ (Qgo h 11) (by rw [num_go]; exact Nat.le_refl _)) 1
theorem QexX {q : Nat} {x : Int32} : ∀ (k : Nat) {X Y : zCV}, Qv X Y → k ≤ num X → Qv (zExX q x k X) (zExX q x k Y)
  | 0, _, _, h, _ => h
  | k + 1, X, Y, h, hk => by
    show Qv (zExX q x k (zThX (zDat q x k) (zBtN X k) (zLa k) (zBtN X k) X)) (zExX q x k (zThX (zDat q x k) (zBtN Y k) (zLa k) (zBtN Y k) Y))
    have e2 : zBtN X k = zBtN Y k := by unfold zBtN; rw [h.2.2 k (by omega)]
    rw [← e2]
    exact QexX k (QthX h _) (by rw [num_thX]; omega)
theorem QexO {q : Nat} {x : Int32} : ∀ (k : Nat) (o : Int32) {X Y : zCV}, Qv X Y → k ≤ num X → zExO q x k o X = zExO q x k o Y
  | 0, _, _, _, _, _ => rfl
  | k + 1, o, X, Y, h, hk => by
    show zExO q x k _ (zThX (zDat q x k) (zBtN X k) (zLa k) (zBtN X k) X) = zExO q x k _ (zThX (zDat q x k) (zBtN Y k) (zLa k) (zBtN Y k) Y)
    have e2 : zBtN X k = zBtN Y k := by unfold zBtN; rw [h.2.2 k (by omega)]
    rw [← e2, ← QthO h]
    exact QexO k _ (QthX h _) (by rw [num_thX]; omega)
theorem Qexch (h : Qv X Y) (q : Nat) (x : Int32) : Qv (zExch X q x) (zExch Y q x) := by
  unfold zExch
  rw [← Qnum h]
  exact Qgo (QexX _ (Qgo h 4) (by rw [num_go]; exact Nat.le_refl _)) 1
theorem QexchO (h : Qv X Y) (q : Nat) (x : Int32) : zExchO X q x = zExchO Y q x := by
  unfold zExchO
  rw [← Qnum h]
  exact QexO _ _ (Qgo h 4) (by rw [num_go]; exact Nat.le_refl _)
theorem Qadd (h : Qv X Y) (hW : zWF X) (h6 : num X < 6) (cl id ce : Int32) : Qv (zAdd X cl id ce) (zAdd Y cl id ce) := by
  have hs : X 0 0 + 1 = nI (num X + 1) := by rw [hW.sz]; exact nI_1 _
  have hn : num (zAdd X cl id ce) = num X + 1 := by
    show (zAdd X cl id ce 0 0).toNatClampNeg = _
    unfold zAdd
    rw [uj_same, upd_same, hs, nI_clamp (by omega)]
  refine ⟨?_, fun k hk => ?_, fun t ht => ?_⟩
  · unfold zAdd; rw [uj_same, uj_same, h.1]
  · have hk' : k < cnt X := by
      have : cnt (zAdd X cl id ce) = cnt X := by unfold cnt zAdd; rw [uj_same]; rfl
      omega
    unfold zAdd
    rw [uj_ne _ _ (by decide), uj_ne _ _ (by omega), uj_ne _ _ (by decide), uj_ne _ _ (by omega)]
    exact h.2.1 k hk'
  · rw [hn] at ht
    have eX : zAdd X cl id ce (t + 3) = uj X (num X + 3) (zNew cl id ce) (t + 3) := uj_ne _ _ (by omega)
    have eY : zAdd Y cl id ce (t + 3) = uj Y (num Y + 3) (zNew cl id ce) (t + 3) := uj_ne _ _ (by omega)
    rw [eX, eY, ← Qnum h]
    by_cases e : t = num X
    · rw [e, uj_same, uj_same]
    · rw [uj_ne _ _ (by omega), uj_ne _ _ (by omega)]
      exact h.2.2 t (by omega)
theorem zAdd_WF (hW : zWF X) (h6 : num X < 6) {cl id ce : Int32} (he : eAdd X cl id ce = 0) : zWF (zAdd X cl id ce) := by
  have hs : X 0 0 + 1 = nI (num X + 1) := by rw [hW.sz]; exact nI_1 _
  have h0 : zAdd X cl id ce 0 = upd (X 0) 0 (X 0 0 + 1) := uj_same _ _ _
  have hn : num (zAdd X cl id ce) = num X + 1 := by
    show (zAdd X cl id ce 0 0).toNatClampNeg = _
    rw [h0, upd_same, hs, nI_clamp (by omega)]
  unfold eAdd at he
  by_cases e1 : zin cl 2 6 = 0
  · rw [if_pos e1] at he; exact absurd he (by decide)
  rw [if_neg e1] at he
  by_cases e2 : zisId id = 0
  · rw [if_pos e2] at he; exact absurd he (by decide)
  rw [if_neg e2] at he
  by_cases e3 : zin ce 1 8 = 0
  · rw [if_pos e3] at he; exact absurd he (by decide)
  have hcl := zin_1 e1
  have hce := zin_1 e3
  obtain ⟨a, ha, rfl⟩ := nI_of (x := cl) (Int32.not_lt.mpr (Int32.le_trans (by decide) hcl.1))
  obtain ⟨b, hb, rfl⟩ := nI_of (x := ce) (Int32.not_lt.mpr (Int32.le_trans (by decide) hce.1))
  refine ⟨⟨by rw [hn, h0, upd_same]; exact hs, by omega⟩, ?_, ?_, fun t ht => ?_⟩
  · have : stt (zAdd X (nI a) id (nI b)) = stt X := by unfold stt; rw [h0]; rfl
    rw [this, h0]; exact hW.2.1
  · have : cnt (zAdd X (nI a) id (nI b)) = cnt X := by unfold cnt; rw [h0]; rfl
    rw [this, h0]; exact hW.2.2.1
  · rw [hn] at ht
    unfold zAdd
    rw [uj_ne _ _ (by omega)]
    by_cases e : t = num X
    · rw [e, uj_same]
      refine ⟨⟨a, ?_, ?_, rfl⟩, ⟨b, ?_, ?_, rfl⟩, Or.inl rfl, zisId_pos e2⟩
      · exact Nat.not_lt.mp fun z => absurd hcl.1 (Int32.not_le.mpr (nI_lt (b := 2) z (by decide)))
      · exact Nat.not_lt.mp fun z => absurd hcl.2 (Int32.not_le.mpr (nI_lt (a := 6) z ha))
      · exact Nat.not_lt.mp fun z => absurd hce.1 (Int32.not_le.mpr (nI_lt (b := 1) z (by decide)))
      · exact Nat.not_lt.mp fun z => absurd hce.2 (Int32.not_le.mpr (nI_lt (a := 8) z hb))
    · rw [uj_ne _ _ (by omega)]
      exact hW.chip (by omega)
theorem num_take (hW : zWF X) (p : Nat) (h0 : 0 < num X) : num (zTake X p) = num X - 1 := by
  have h6 := hW.n6
  show (zTake X p 0 0).toNatClampNeg = _
  unfold zTake
  rw [uj_same, upd_same, hW.sz, nI_sub1 h0, nI_clamp (by omega)]
theorem zTake_row (hW : zWF X) {p t : Nat} (ht : t < num X - 1) : zTake X p (t + 3) = if p ≤ t then X (t + 4) else X (t + 3) := by
  unfold zTake zTakL
  rw [uj_ne _ _ (by omega), if_neg (by omega)]
  by_cases h : p ≤ t
  · rw [if_pos (by omega), if_pos h]
  · rw [if_neg (by omega), if_neg h]
theorem Qtake (h : Qv X Y) (hW : zWF X) {p : Nat} (hp : p < num X) : Qv (zTake X p) (zTake Y p) := by
  have hWY := QWF h hW
  have hnY := Qnum h
  refine ⟨?_, fun k hk => ?_, fun t ht => ?_⟩
  · unfold zTake; rw [uj_same, uj_same, h.1]
  · have hk' : k < cnt X := by
      have : cnt (zTake X p) = cnt X := by unfold cnt zTake; rw [uj_same]; rfl
      omega
    unfold zTake zTakL
    rw [uj_ne _ _ (by decide), if_pos (by decide), uj_ne _ _ (by decide), if_pos (by decide)]
    exact h.2.1 k hk'
  · rw [num_take hW p (by omega)] at ht
    rw [zTake_row hW ht, zTake_row hWY (by omega)]
    split
    · exact h.2.2 (t + 1) (by omega)
    · exact h.2.2 t (by omega)
theorem zTake_WF (hW : zWF X) {p : Nat} (hp : p < num X) : zWF (zTake X p) := by
  have h6 := hW.n6
  have hn := num_take hW p (by omega)
  have h0 : zTake X p 0 = upd (X 0) 0 (X 0 0 - 1) := uj_same _ _ _
  refine ⟨⟨by rw [hn, h0, upd_same, hW.sz]; exact nI_sub1 (by omega), by omega⟩, ?_, ?_, fun t ht => ?_⟩
  · have : stt (zTake X p) = stt X := by unfold stt; rw [h0]; rfl
    rw [this, h0]; exact hW.2.1
  · have : cnt (zTake X p) = cnt X := by unfold cnt; rw [h0]; rfl
    rw [this, h0]; exact hW.2.2.1
  · rw [hn] at ht
    rw [zTake_row hW ht]
    split
    · exact hW.chip (t := t + 1) (by omega)
    · exact hW.chip (by omega)
theorem QsumL {f : (Nat → Int32) → Int32} (h : Qv X Y) : ∀ k, k ≤ num X → zSumL f X k = zSumL f Y k
  | 0, _ => rfl
  | k + 1, hk => by
    show zSumL f X k + f (X (k + 3)) = zSumL f Y k + f (Y (k + 3))
    rw [QsumL h k (by omega), h.2.2 k (by omega)]
theorem Qsum {f : (Nat → Int32) → Int32} (h : Qv X Y) : zSum f X = zSum f Y := by
  unfold zSum
  rw [← Qnum h]
  exact QsumL h _ (Nat.le_refl _)
theorem Qhas (h : Qv X Y) (q : Int32) : zHas X q = zHas Y q := by unfold zHas; rw [h.1]
theorem Qerr (h : Qv X Y) (q v m : Int32) : eArg X q v m = eArg Y q v m := by unfold eArg; rw [Qhas h]
theorem QeHas (h : Qv X Y) (q : Int32) : eHas X q = eHas Y q := by unfold eHas; rw [Qhas h]
theorem QeAdd (h : Qv X Y) (a b c : Int32) : eAdd X a b c = eAdd Y a b c := by unfold eAdd; rw [h.1]
theorem Qtell (h : Qv X Y) (hW : zWF X) (q v : Int32) : zTellX X q v = zTellX Y q v := by
  unfold zTellX
  rw [← Qhas h]
  by_cases e : zHas X q = 0
  · rw [if_pos e, if_pos e]
  · rw [if_neg e, if_neg e]
    obtain ⟨t, ht, rfl⟩ := has_ix hW e
    have h6 := hW.n6
    rw [show tn (nI t) = t from nI_clamp (by omega), h.2.2 t ht]
theorem Qfound (h : Qv X Y) (hW : zWF X) (q : Int32) : zFound X q = zFound Y q := by
  have h8 := hW.c8
  unfold zFound
  rw [← h.1]
  by_cases e : q < 0
  · rw [if_pos e, if_pos e]
  · rw [if_neg e, if_neg e]
    by_cases e2 : q < X 0 3
    · rw [if_pos e2, if_pos e2]
      rw [hW.c3] at e2
      obtain ⟨t, ht, rfl⟩ := ix_lt e e2 (by omega)
      rw [show tn (nI t) = t from nI_clamp (by omega)]
      exact h.2.1 t ht
    · rw [if_neg e2, if_neg e2]
theorem Qcount (h : Qv X Y) (a b x : Int32) : zCount X a b x = zCount Y a b x := by
  unfold zCount
  rw [h.1, Qsum h, Qsum h, Qsum h]
theorem QFB (h : Qv X Y) : zFB X = zFB Y := by
  unfold zFB
  rw [Qnum h, Qsum h, h.1]
theorem Qpeek (h : Qv X Y) (x : Int32) : zPeek X x = zPeek Y x := by
  unfold zPeek
  rw [Qout h]
end QV
section AQ
variable {X Y : zCV}
theorem has_tn (hW : zWF X) {q : Int32} (he : ¬ zHas X q = 0) : tn q < num X := by
  obtain ⟨t, ht, rfl⟩ := has_ix hW he
  have := hW.n6
  rw [show tn (nI t) = t from nI_clamp (by omega)]
  exact ht
theorem eHas_h {q : Int32} (h : eHas X q = 0) : ¬ zHas X q = 0 := fun z => by unfold eHas at h; rw [if_pos z] at h; exact absurd h (by decide)
theorem eArg_h {q v m : Int32} (h : eArg X q v m = 0) : ¬ zHas X q = 0 := fun z => by unfold eArg at h; rw [if_pos z] at h; exact absurd h (by decide)
theorem eAdd_6 (hW : zWF X) {a b c : Int32} (h : eAdd X a b c = 0) : num X < 6 := by
  have h6 := hW.n6
  unfold eAdd at h
  by_cases e1 : zin a 2 6 = 0
  · rw [if_pos e1] at h; exact absurd h (by decide)
  rw [if_neg e1] at h
  by_cases e2 : zisId b = 0
  · rw [if_pos e2] at h; exact absurd h (by decide)
  rw [if_neg e2] at h
  by_cases e3 : zin c 1 8 = 0
  · rw [if_pos e3] at h; exact absurd h (by decide)
  rw [if_neg e3] at h
  by_cases e4 : X 0 0 < 6
  · rw [hW.sz] at e4; exact (nI_ltI (b := 6) (by omega) (by decide)).mp e4
  · rw [if_neg e4] at h; exact absurd h (by decide)
theorem QbrkX (h : Qv X Y) {t : Nat} (ht : t < num X) (v : Int32) : Qv (zBrkX X t v) (zBrkX Y t v) := by
  unfold zBrkX
  exact Qrow h (by rw [h.2.2 _ ht])
theorem QpinX (h : Qv X Y) {t : Nat} (ht : t < num X) (v : Int32) : Qv (zPinsX X t v) (zPinsX Y t v) := by
  unfold zPinsX
  exact Qrow h (by rw [h.2.2 _ ht])
end AQ
