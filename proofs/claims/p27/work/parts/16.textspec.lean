/-! ===== the text, the history, the master ===== -/
section P7
variable {G : zG} {S : zS} {i n : Nat} {X : zCV}
theorem p_SC : pic G S 7 0 = .inr (4, [.ref (zad G 0 0), .ref (zad G 1 0), .ref (zad G 2 0), .int (S 7 0 1), .ref (zad G 7 1), .ref (zad G 7 3)]) := rfl
theorem p_hist : pic G S 7 1 = .inr (2, [.ref (zad G 7 2), .int (S 7 0 0)]) := rfl
theorem p_recs : pic G S 7 2 = .inl (G.2.1 3, 4, .inr (.inr (.inr (.inr (fun k => if k < 4 then some (zad G (rc S k) 0) else none))))) := rfl
theorem p_script : pic G S 7 3 = .inr (3, [.ref (zad G 7 4), .int (S 7 0 2)]) := rfl
theorem p_chars : pic G S 7 4 = .inl (G.2.1 1, 80, .inl (tr 80 (S 7 2))) := rfl
theorem p_script' (hi : i < 7) : pic G (up S i X) 7 3 = .inr (3, [.ref (zad G 7 4), .int (S 7 0 2)]) := by rw [p_script, up_ne _ _ (by omega)]
theorem p_chars' (hi : i < 7) : pic G (up S i X) 7 4 = .inl (G.2.1 1, 80, .inl (tr 80 (S 7 2))) := by rw [p_chars, up_ne _ _ (by omega)]
theorem pp7 {Y : zCV} {j : Nat} {x : va_E} (hj : pic7 G (up S 7 Y) j = x) (hq : ∀ j', j' < 5 → j' ≠ j → pic7 G (up S 7 Y) j' = pic7 G S j') : ∀ i' j', zok i' j' → zix i' j' < n → pic G (up S 7 Y) i' j' = hset (pic G S) 7 j x i' j' := by
  intro i' j' hok _
  unfold hset
  by_cases hc : i' = 7 ∧ j' = j
  · rw [if_pos hc]
    obtain ⟨rfl, rfl⟩ := hc
    exact hj
  · rw [if_neg hc]
    by_cases h1 : i' = 7
    · subst h1
      have hj9 : j' < 5 := by rcases hok with h | h | h <;> omega
      exact hq j' hj9 (fun z => hc ⟨rfl, z⟩)
    · unfold pic
      rw [if_neg h1, if_neg h1]
      by_cases h8 : i' = 8
      · rw [if_pos h8, if_pos h8]
        unfold pic8 pf
        rw [up_ne _ _ (by omega), up_ne _ _ (by omega), up_ne _ _ (by omega), up_ne _ _ (by omega)]
        have : ∀ t, fl (up S 7 Y (11 + t / 66)) (t % 66) = fl (S (11 + t / 66)) (t % 66) := fun t => by rw [up_ne _ _ (by omega)]
        simp only [this]
      · rw [if_neg h8, if_neg h8, up_ne _ _ h1]
theorem pic7_uj {Y : zCV} {j : Nat} (h0 : j = 0 → Y 0 1 = S 7 0 1) (h1 : j = 1 → Y 0 0 = S 7 0 0) (h2 : j = 2 → ∀ k, k < 4 → Y 1 k = S 7 1 k) (h3 : j = 3 → Y 0 2 = S 7 0 2) (h4 : j = 4 → ∀ k, k < 80 → Y 2 k = S 7 2 k) (hj : j < 5) : pic7 G (up S 7 Y) j = pic7 G S j := by
  unfold pic7
  rw [up_same]
  rcases (show j = 0 ∨ j = 1 ∨ j = 2 ∨ j = 3 ∨ j = 4 by omega) with rfl | rfl | rfl | rfl | rfl
  · simp only [Nat.reduceEqDiff, ↓reduceIte]; rw [h0 rfl]
  · simp only [Nat.reduceEqDiff, ↓reduceIte]; rw [h1 rfl]
  · have : (fun k => if k < 4 then some (zad G (rc (up S 7 Y) k) 0) else none) = fun k => if k < 4 then some (zad G (rc S k) 0) else none := by
      funext k
      by_cases hk : k < 4
      · rw [if_pos hk, if_pos hk, rc, rc, up_same, h2 rfl k hk]
      · rw [if_neg hk, if_neg hk]
    simp only [Nat.reduceEqDiff, ↓reduceIte]
    rw [this]
  · simp only [Nat.reduceEqDiff, ↓reduceIte]; rw [h3 rfl]
  · simp only [Nat.reduceEqDiff, ↓reduceIte]; rw [tr_congr (h4 rfl)]
theorem pp_hist_size {v : Int32} : ∀ i' j', zok i' j' → zix i' j' < n → pic G (up S 7 (uj (S 7) 0 (upd (S 7 0) 0 v))) i' j' = hset (pic G S) 7 1 (.inr (2, [.ref (zad G 7 2), .int v])) i' j' :=
  pp7 rfl (fun j hj h => pic7_uj (fun _ => rfl) (fun z => absurd z h) (fun _ _ _ => rfl) (fun _ => rfl) (fun _ _ _ => rfl) hj)
theorem pp_SC_hasSnapshot {v : Int32} : ∀ i' j', zok i' j' → zix i' j' < n → pic G (up S 7 (uj (S 7) 0 (upd (S 7 0) 1 v))) i' j' = hset (pic G S) 7 0 (.inr (4, [.ref (zad G 0 0), .ref (zad G 1 0), .ref (zad G 2 0), .int v, .ref (zad G 7 1), .ref (zad G 7 3)])) i' j' :=
  pp7 rfl (fun j hj h => pic7_uj (fun z => absurd z h) (fun _ => rfl) (fun _ _ _ => rfl) (fun _ => rfl) (fun _ _ _ => rfl) hj)
theorem pp_script_length {v : Int32} : ∀ i' j', zok i' j' → zix i' j' < n → pic G (up S 7 (uj (S 7) 0 (upd (S 7 0) 2 v))) i' j' = hset (pic G S) 7 3 (.inr (3, [.ref (zad G 7 4), .int v])) i' j' :=
  pp7 rfl (fun j hj h => pic7_uj (fun _ => rfl) (fun _ => rfl) (fun _ _ _ => rfl) (fun z => absurd z h) (fun _ _ _ => rfl) hj)
theorem pp_chars {t : Nat} {v : Int32} (ht : t < 80) : ∀ i' j', zok i' j' → zix i' j' < n → pic G (up S 7 (uj (S 7) 2 (upd (S 7 2) t v))) i' j' = hset (pic G S) 7 4 (.inl (G.2.1 1, 80, .inl (upd (tr 80 (S 7 2)) t v))) i' j' :=
  pp7 (by rw [tr_upd ht]; rfl) (fun j hj h => pic7_uj (fun _ => rfl) (fun _ => rfl) (fun _ _ _ => rfl) (fun _ => rfl) (fun z => absurd z h) hj)
theorem pp_recs {t r : Nat} (ht : t < 4) (hr : r < 7) : ∀ i' j', zok i' j' → zix i' j' < n → pic G (up S 7 (uj (S 7) 1 (upd (S 7 1) t (nI r)))) i' j' = hset (pic G S) 7 2 (.inl (G.2.1 3, 4, .inr (.inr (.inr (.inr (va_up (fun k => if k < 4 then some (zad G (rc S k) 0) else none) t (some (zad G r 0)))))))) i' j' :=
  pp7 (by
    have : (fun k => if k < 4 then some (zad G (rc (up S 7 (uj (S 7) 1 (upd (S 7 1) t (nI r)))) k) 0) else none) = va_up (fun k => if k < 4 then some (zad G (rc S k) 0) else none) t (some (zad G r 0)) := by
      funext k
      unfold va_up
      by_cases hk : k = t
      · subst hk
        rw [if_pos ht, if_pos rfl, rc, up_same, uj_same, upd_same, nI_clamp (by omega)]
      · rw [if_neg hk]
        show _ = if k < 4 then some (zad G (rc S k) 0) else none
        by_cases h4 : k < 4
        · rw [if_pos h4, if_pos h4, rc, rc, up_same, uj_same, upd_ne _ _ hk]
        · rw [if_neg h4, if_neg h4]
    unfold pic7
    rw [if_neg (by decide), if_neg (by decide), if_pos rfl, this]) (fun j hj h => pic7_uj (fun _ => rfl) (fun _ => rfl) (fun z => absurd z h) (fun _ => rfl) (fun _ _ _ => rfl) hj)
end P7
/-! the text -/
def zCh (x : Int32) : Int32 := vp_nar .char ((x.toUInt32 % 65536).toInt32)
def zItem (c : Int32) : Int32 := if c = 48 then 1 else if c = 49 then 1 else if c = 97 then 1 else if c = 98 then 1 else if c = 63 then 1 else if c = 64 then 1 else 0
def zHex2 (c : Int32) : Int32 := if c < 97 then -1 else if 102 < c then -1 else c - 97 + 10
def zHex (c : Int32) : Int32 := if c < 48 then zHex2 c else if 57 < c then zHex2 c else c - 48
def zFit (w c : Int32) : Int32 := if w = 0 then zItem c else if zHex c = -1 then 0 else 1
def zNw (w c : Int32) : Int32 := if w = 0 then (if c = 64 then 1 else 0) else 0
/-- f characters are left, k have been read, w: a digit is wanted -/
def zFltL (T : Nat → Int32) : Nat → Nat → Int32 → Int32
  | 0, k, w => if 0 < k then (if w = 0 then -4 else nI k) else nI k
  | f + 1, k, w => if zFit w (T k) = 0 then nI k else zFltL T f (k + 1) (zNw w (T k))
def zFault (T : Nat → Int32) (L : Nat) : Int32 := zFltL T L 0 0
def zText (S : zS) (L : Nat) : Prop := S 7 0 2 = nI L ∧ L ≤ 80
/-! the history -/
def hsz (S : zS) : Nat := (S 7 0 0).toNatClampNeg
def hWF (S : zS) : Prop := (S 7 0 0 = nI (hsz S) ∧ hsz S ≤ 4) ∧ (∀ k, k < 4 → S 7 1 k = nI (rc S k) ∧ 3 ≤ rc S k ∧ rc S k ≤ 6) ∧ ∀ k, k < 4 → ∀ q, q < 4 → rc S k = rc S q → k = q
/-- the first k have moved up -/
def rotL (f : Nat → Int32) (k : Nat) : Nat → Int32 := fun q => if q < k then f (q + 1) else f q
theorem rotL_z (f : Nat → Int32) : rotL f 0 = f := by
  funext q
  unfold rotL
  rw [if_neg (by omega)]
theorem rotL_s (f : Nat → Int32) (k : Nat) : upd (rotL f k) k (f (k + 1)) = rotL f (k + 1) := by
  funext q
  by_cases hq : q = k
  · subst hq
    rw [upd_same]
    unfold rotL
    rw [if_pos (by omega)]
  · rw [upd_ne _ _ hq]
    unfold rotL
    by_cases h : q < k
    · rw [if_pos h, if_pos (by omega)]
    · rw [if_neg h, if_neg (by omega)]
theorem rotL_ge {f : Nat → Int32} {k q : Nat} (h : k ≤ q) : rotL f k q = f q := if_neg (by omega)
def zDrop (S : zS) : zS := up S 7 (uj (uj (S 7) 1 (upd (rotL (S 7 1) 3) 3 (S 7 1 0))) 0 (upd (S 7 0) 0 3))
def zRec0 (S : zS) : zS := if hsz S < 4 then S else zDrop S
def zRec1 (S : zS) : zS := up (up S (rc S (hsz S)) (zCopy (S (rc S (hsz S))) (S 0))) 7 (uj (S 7) 0 (upd (S 7 0) 0 (S 7 0 0 + 1)))
def zRec (S : zS) : zS := zRec1 (zRec0 S)
def zBack (S : zS) : zS := up (up S 7 (uj (S 7) 0 (upd (S 7 0) 0 (S 7 0 0 - 1)))) 0 (zCopy (S 0) (S (rc S (hsz S - 1))))
/-! the master -/
def zGoL : Nat → zCV → Nat → zCV
  | 0, X, _ => X
  | d + 1, X, b => zGoL d (zTick X (zMd (stt X) b) 1) b
def zGo (X : zCV) (b : Nat) : zCV := zGoL (dst (stt X) b) X b
def zLm (la : Int32) (L b : Nat) : Int32 := if la = 0 then 0 else if b + 1 = L then 1 else 0
def zBit (x : Int32) (b : Nat) : Int32 := (x >>> (nI b &&& 31)) &&& 1
def zThX (x : Int32) (L : Nat) (la : Int32) : Nat → zCV → zCV
  | 0, X => X
  | b + 1, X => zTick (zThX x L la b X) (zLm la L b) (zBit x b)
def zThO (x : Int32) (L : Nat) (la : Int32) : Nat → zCV → Int32
  | 0, _ => 0
  | b + 1, X => zThO x L la b X ||| (zOut (zThX x L la b X) (zBit x b) <<< (nI b &&& 31))
def zRdV (X : zCV) : Int32 := if zOut X 1 = 0 then 0 else (1 : Int32) ||| (zThO (zOnes 7) 7 0 7 (zTick X 0 1) <<< ((1 : Int32) &&& 31))
def zRdX (X : zCV) : zCV := if zOut X 1 = 0 then zTick X 0 1 else zThX (zOnes 7) 7 0 7 (zTick X 0 1)
def zTkN : Nat → zCV → zCV
  | 0, X => X
  | k + 1, X => zTkN k (zTick X 1 1)
def zIdL : Nat → zCV → zCV
  | 0, X => X
  | f + 1, X => if zRdV X = 255 then zRdX X else zIdL f (zKeep (zRdX X) (zRdV X))
def zIdent (X : zCV) : zCV := zGo (zIdL 8 (zForget (zGo (zTkN 5 X) 4))) 1
def zLa (k : Nat) : Int32 := if k = 0 then 1 else 0
def zLen (X : zCV) (k : Nat) : Nat := (X (k + 3) 0).toNatClampNeg
def zCod (q : Nat) (x : Int32) (X : zCV) (k : Nat) : Int32 := if k = q then x else zOnes (X (k + 3) 0)
def zLdL (q : Nat) (x : Int32) : Nat → zCV → zCV
  | 0, X => X
  | k + 1, X => zLdL q x k (zThX (zCod q x X k) (zLen X k) (zLa k) (zLen X k) X)
def zLoad (X : zCV) (q : Nat) (x : Int32) : zCV := zGo (zLdL q x (num X) (zGo X 11)) 1
def zBtN (X : zCV) (k : Nat) : Nat := (zBits (X (k + 3))).toNatClampNeg
def zDat (q : Nat) (x : Int32) (k : Nat) : Int32 := if k = q then x else 0
def zExX (q : Nat) (x : Int32) : Nat → zCV → zCV
  | 0, X => X
  | k + 1, X => zExX q x k (zThX (zDat q x k) (zBtN X k) (zLa k) (zBtN X k) X)
def zExO (q : Nat) (x : Int32) : Nat → Int32 → zCV → Int32
  | 0, o, _ => o
  | k + 1, o, X => zExO q x k (if k = q then zThO (zDat q x k) (zBtN X k) (zLa k) (zBtN X k) X else o) (zThX (zDat q x k) (zBtN X k) (zLa k) (zBtN X k) X)
def zExch (X : zCV) (q : Nat) (x : Int32) : zCV := zGo (zExX q x (num X) (zGo X 4)) 1
def zExchO (X : zCV) (q : Nat) (x : Int32) : Int32 := zExO q x (num X) 0 (zGo X 4)
def zCm (c : Int32) : Int32 := if c = 97 then 1 else if c = 98 then 1 else 0
def zCi (c : Int32) : Int32 := if c = 49 then 1 else if c = 98 then 1 else 0
def hexN (c : Int32) : Nat := (zHex c).toNatClampNeg
/-- the number noted and the chain's value; f: fuel -/
def zRunO (T : Nat → Int32) (L : Nat) : Nat → Nat → Int32 → Nat → zCV → Int32
  | 0, _, o, _, _ => o
  | f + 1, k, o, q, X => if k < L then (if T k = 63 then (if q < 30 then zRunO T L f (k + 1) (o ||| (zOut X 1 <<< (nI q &&& 31))) (q + 1) (zTick X 0 1) else zRunO T L f (k + 1) o q (zTick X 0 1)) else if T k = 64 then zRunO T L f (k + 2) o q (zGo X (hexN (T (k + 1)))) else zRunO T L f (k + 1) o q (zTick X (zCm (T k)) (zCi (T k)))) else o
def zRunX (T : Nat → Int32) (L : Nat) : Nat → Nat → zCV → zCV
  | 0, _, X => X
  | f + 1, k, X => if k < L then (if T k = 63 then zRunX T L f (k + 1) (zTick X 0 1) else if T k = 64 then zRunX T L f (k + 2) (zGo X (hexN (T (k + 1)))) else zRunX T L f (k + 1) (zTick X (zCm (T k)) (zCi (T k)))) else X
/-! what stays, and the bounds, through the master's ways -/
theorem zTick_0 (X : zCV) (md x : Int32) : zTick X md x 0 = upd (upd (X 0) 1 (zNx (stt X) md)) 2 (X 0 2 + 1) := uj_same _ _ _
theorem num_tick (X : zCV) (md x : Int32) : num (zTick X md x) = num X := by
  unfold num
  rw [zTick_0]
  rfl
theorem cnt_tick (X : zCV) (md x : Int32) : cnt (zTick X md x) = cnt X := by
  unfold cnt
  rw [zTick_0]
  rfl
theorem stt_tick (X : zCV) (md x : Int32) : stt (zTick X md x) = nx (stt X) md := by
  unfold stt nx
  rw [zTick_0]
  rfl
theorem zWorkAll_WF {X : zCV} {x : Int32} (h : zWF X) : zWF (zWorkAll X x) := by
  unfold zWorkAll zShiftD zShiftC
  repeat' split
  · exact zMap_WF h (fun _ _ z => cWF_upd z (by omega))
  · exact zMap_WF h (fun _ _ z => cWF_upd z (by omega))
  · exact zMap_WF h (fun _ _ z => cWF_work _ z)
theorem zTick_WF {X : zCV} {md x : Int32} (h : zWF X) : zWF (zTick X md x) := by
  have hw := zWorkAll_WF (x := x) h
  have hn := num_tick X md x
  have hc := cnt_tick X md x
  have hs := stt_tick X md x
  refine ⟨⟨?_, by rw [hn]; exact h.n6⟩, ⟨?_, by rw [hs]; exact nx_lt h.s16 md⟩, ⟨?_, by rw [hc]; exact h.c8⟩, fun t ht => ?_⟩
  · rw [hn, zTick_0]; exact h.sz
  · rw [hs, zTick_0]; exact nx_eq h.s16 md
  · rw [hc, zTick_0]; exact h.c3
  · rw [hn] at ht
    have hz : zTick X md x (t + 3) = zWorkAll X x (t + 3) := uj_ne _ _ (by omega)
    rw [hz]
    exact hw.chip (by unfold num at ht ⊢; rw [zWorkAll_0]; exact ht)
theorem zGoL_WF {b : Nat} : ∀ (d : Nat) {X : zCV}, zWF X → zWF (zGoL d X b)
  | 0, _, h => h
  | d + 1, _, h => zGoL_WF d (zTick_WF h)
theorem zGo_WF {X : zCV} {b : Nat} (h : zWF X) : zWF (zGo X b) := zGoL_WF _ h
theorem num_goL {b : Nat} : ∀ (d : Nat) (X : zCV), num (zGoL d X b) = num X
  | 0, _ => rfl
  | d + 1, X => by
    show num (zGoL d _ b) = _
    rw [num_goL d, num_tick]
theorem num_go (X : zCV) (b : Nat) : num (zGo X b) = num X := num_goL _ X
theorem cnt_goL {b : Nat} : ∀ (d : Nat) (X : zCV), cnt (zGoL d X b) = cnt X
  | 0, _ => rfl
  | d + 1, X => by
    show cnt (zGoL d _ b) = _
    rw [cnt_goL d, cnt_tick]
theorem cnt_go (X : zCV) (b : Nat) : cnt (zGo X b) = cnt X := cnt_goL _ X
theorem zThX_WF {x : Int32} {L : Nat} {la : Int32} {X : zCV} (h : zWF X) : ∀ b, zWF (zThX x L la b X)
  | 0 => h
  | b + 1 => zTick_WF (zThX_WF h b)
theorem num_thX {x : Int32} {L : Nat} {la : Int32} (X : zCV) : ∀ b, num (zThX x L la b X) = num X
  | 0 => rfl
  | b + 1 => by
    show num (zTick _ _ _) = _
    rw [num_tick, num_thX X b]
theorem cnt_thX {x : Int32} {L : Nat} {la : Int32} (X : zCV) : ∀ b, cnt (zThX x L la b X) = cnt X
  | 0 => rfl
  | b + 1 => by
    show cnt (zTick _ _ _) = _
    rw [cnt_tick, cnt_thX X b]
theorem zTkN_WF : ∀ (k : Nat) {X : zCV}, zWF X → zWF (zTkN k X)
  | 0, _, h => h
  | k + 1, _, h => zTkN_WF k (zTick_WF h)
theorem num_tkN : ∀ (k : Nat) (X : zCV), num (zTkN k X) = num X
  | 0, _ => rfl
  | k + 1, X => by
    show num (zTkN k _) = _
    rw [num_tkN k, num_tick]
theorem zRdX_WF {X : zCV} (h : zWF X) : zWF (zRdX X) := by
  unfold zRdX
  split
  · exact zTick_WF h
  · exact zThX_WF (zTick_WF h) _
theorem cnt_rdX (X : zCV) : cnt (zRdX X) = cnt X := by
  unfold zRdX
  split
  · exact cnt_tick _ _ _
  · rw [cnt_thX, cnt_tick]
theorem num_rdX (X : zCV) : num (zRdX X) = num X := by
  unfold zRdX
  split
  · exact num_tick _ _ _
  · rw [num_thX, num_tick]
theorem zForget_WF {X : zCV} (h : zWF X) : zWF (zForget X) := by
  obtain ⟨h1, h2, h3, h4⟩ := h
  have h0 : zForget X 0 = upd (X 0) 3 0 := uj_same _ _ _
  have hc : cnt (zForget X) = 0 := by unfold cnt; rw [h0]; rfl
  refine ⟨?_, ?_, ⟨?_, by omega⟩, fun t ht => ?_⟩
  · unfold num at h1 ⊢; rw [h0]; exact h1
  · unfold stt at h2 ⊢; rw [h0]; exact h2
  · rw [hc, h0]; rfl
  · have ht' : t < num X := by unfold num at ht ⊢; rw [h0] at ht; exact ht
    have hz : zForget X (t + 3) = X (t + 3) := uj_ne _ _ (by omega)
    rw [hz]
    exact h4 t ht'
theorem cnt_forget (X : zCV) : cnt (zForget X) = 0 := by
  unfold cnt zForget
  rw [uj_same]
  rfl
theorem num_forget (X : zCV) : num (zForget X) = num X := by
  unfold num zForget
  rw [uj_same]
  rfl
theorem cnt_keep {X : zCV} {v : Int32} (h : zWF X) : cnt (zKeep X v) = cnt X + 1 := by
  have h8 := h.c8
  have h0 : zKeep X v 0 = upd (X 0) 3 (X 0 3 + 1) := uj_same _ _ _
  have : zKeep X v 0 3 = nI (cnt X + 1) := by rw [h0, upd_same, h.c3]; exact nI_1 _
  show (zKeep X v 0 3).toNatClampNeg = _
  rw [this, nI_clamp (by omega)]
theorem num_keep (X : zCV) (v : Int32) : num (zKeep X v) = num X := by
  unfold num zKeep
  rw [uj_same]
  rfl
theorem zKeep_WF {X : zCV} {v : Int32} (h : zWF X) (hc : cnt X < 8) : zWF (zKeep X v) := by
  have hk := cnt_keep (v := v) h
  have h0 : zKeep X v 0 = upd (X 0) 3 (X 0 3 + 1) := uj_same _ _ _
  have hc3 := h.c3
  obtain ⟨h1, h2, h3, h4⟩ := h
  refine ⟨?_, ?_, ⟨?_, by omega⟩, fun t ht => ?_⟩
  · unfold num at h1 ⊢; rw [h0]; exact h1
  · unfold stt at h2 ⊢; rw [h0]; exact h2
  · rw [hk, h0, upd_same, hc3]; exact nI_1 _
  · rw [num_keep] at ht
    have hz : zKeep X v (t + 3) = X (t + 3) := by
      unfold zKeep
      rw [uj_ne _ _ (by omega), uj_ne _ _ (by omega)]
    rw [hz]
    exact h4 t ht
theorem zIdL_WF : ∀ (f : Nat) {X : zCV}, zWF X → cnt X + f = 8 → zWF (zIdL f X)
  | 0, _, h, _ => h
  | f + 1, X, h, hc => by
    have hw := zRdX_WF h
    have hcr := cnt_rdX X
    show zWF (if zRdV X = 255 then zRdX X else zIdL f (zKeep (zRdX X) (zRdV X)))
    split
    · exact hw
    · exact zIdL_WF f (zKeep_WF hw (by omega)) (by rw [cnt_keep hw]; omega)
theorem num_idL : ∀ (f : Nat) (X : zCV), num (zIdL f X) = num X
  | 0, _ => rfl
  | f + 1, X => by
    show num (if zRdV X = 255 then zRdX X else zIdL f (zKeep (zRdX X) (zRdV X))) = _
    split
    · exact num_rdX X
    · rw [num_idL f, num_keep, num_rdX]
theorem zIdent_WF {X : zCV} (h : zWF X) : zWF (zIdent X) := zGo_WF (zIdL_WF 8 (zForget_WF (zGo_WF (zTkN_WF 5 h))) (by rw [cnt_forget]))
theorem zLdL_WF {q : Nat} {x : Int32} : ∀ (k : Nat) {X : zCV}, zWF X → zWF (zLdL q x k X)
  | 0, _, h => h
  | k + 1, _, h => zLdL_WF k (zThX_WF h _)
theorem num_ldL {q : Nat} {x : Int32} : ∀ (k : Nat) (X : zCV), num (zLdL q x k X) = num X
  | 0, _ => rfl
  | k + 1, X => by
    show num (zLdL q x k _) = _
    rw [num_ldL k, num_thX]
theorem zLoad_WF {X : zCV} {q : Nat} {x : Int32} (h : zWF X) : zWF (zLoad X q x) := zGo_WF (zLdL_WF _ (zGo_WF h))
theorem num_load (X : zCV) (q : Nat) (x : Int32) : num (zLoad X q x) = num X := by
  unfold zLoad
  rw [num_go, num_ldL, num_go]
theorem zExX_WF {q : Nat} {x : Int32} : ∀ (k : Nat) {X : zCV}, zWF X → zWF (zExX q x k X)
  | 0, _, h => h
  | k + 1, _, h => zExX_WF k (zThX_WF h _)
theorem zExch_WF {X : zCV} {q : Nat} {x : Int32} (h : zWF X) : zWF (zExch X q x) := zGo_WF (zExX_WF _ (zGo_WF h))
theorem cWF_len {c : Nat → Int32} (h : cWF c) : c 0 = nI (c 0).toNatClampNeg ∧ 2 ≤ (c 0).toNatClampNeg ∧ (c 0).toNatClampNeg ≤ 6 := by
  obtain ⟨⟨L, h1, h2, h3⟩, -⟩ := h
  have : (c 0).toNatClampNeg = L := by rw [h3, nI_clamp (by omega)]
  rw [this]
  exact ⟨h3, h1, h2⟩
theorem cWF_bits {c : Nat → Int32} (h : cWF c) : zBits c = nI (zBits c).toNatClampNeg ∧ 1 ≤ (zBits c).toNatClampNeg ∧ (zBits c).toNatClampNeg ≤ 8 := by
  obtain ⟨-, ⟨K, h1, h2, h3⟩, -⟩ := h
  have key : ∀ v : Int32, ∀ m : Nat, v = nI m → 1 ≤ m → m ≤ 8 → v = nI v.toNatClampNeg ∧ 1 ≤ v.toNatClampNeg ∧ v.toNatClampNeg ≤ 8 := by
    intro v m e a b
    have : v.toNatClampNeg = m := by rw [e, nI_clamp (by omega)]
    rw [this]
    exact ⟨e, a, b⟩
  unfold zBits
  split
  · exact key _ K h3 h1 h2
  · split
    · exact key _ 8 rfl (by decide) (by decide)
    · exact key _ 1 rfl (by decide) (by decide)
theorem nI_dec (d : Nat) : nI d + Int32.ofInt (-1) = nI d - 1 := by
  rw [Int32.sub_eq_add_neg]
  rfl
theorem zok_7 {j : Nat} (h : j < 5) : zok 7 j := Or.inr (Or.inl ⟨rfl, h⟩)
theorem zok_8 {j : Nat} (h : j < 7) : zok 8 j := Or.inr (Or.inr ⟨rfl, h⟩)
