/-! ===== a chain's value: size, state, clocks, count at X 0; identities at X 2; chips at X (t + 3) ===== -/
def num (X : zCV) : Nat := (X 0 0).toNatClampNeg
def stt (X : zCV) : Nat := (X 0 1).toNatClampNeg
def cnt (X : zCV) : Nat := (X 0 3).toNatClampNeg
/-- a chip's numbers are within their bounds -/
def cWF (c : Nat → Int32) : Prop := (∃ L, 2 ≤ L ∧ L ≤ 6 ∧ c 0 = nI L) ∧ (∃ K, 1 ≤ K ∧ K ≤ 8 ∧ c 2 = nI K) ∧ (c 5 = 0 ∨ c 5 = 1) ∧ 0 ≤ c 1
def zWF (X : zCV) : Prop := (X 0 0 = nI (num X) ∧ num X ≤ 6) ∧ (X 0 1 = nI (stt X) ∧ stt X < 16) ∧ (X 0 3 = nI (cnt X) ∧ cnt X ≤ 8) ∧ ∀ t, t < num X → cWF (X (t + 3))
theorem zWF.sz {X : zCV} (h : zWF X) : X 0 0 = nI (num X) := h.1.1
theorem zWF.n6 {X : zCV} (h : zWF X) : num X ≤ 6 := h.1.2
theorem zWF.s1 {X : zCV} (h : zWF X) : X 0 1 = nI (stt X) := h.2.1.1
theorem zWF.s16 {X : zCV} (h : zWF X) : stt X < 16 := h.2.1.2
theorem zWF.c3 {X : zCV} (h : zWF X) : X 0 3 = nI (cnt X) := h.2.2.1.1
theorem zWF.c8 {X : zCV} (h : zWF X) : cnt X ≤ 8 := h.2.2.1.2
theorem zWF.chip {X : zCV} (h : zWF X) {t : Nat} (ht : t < num X) : cWF (X (t + 3)) := h.2.2.2 t ht
def zMap (f : Nat → (Nat → Int32) → (Nat → Int32)) (n : Nat) (X : zCV) : zCV := fun j => if j < 3 then X j else if j - 3 < n then f (j - 3) (X j) else X j
theorem zMap_lo {f : Nat → (Nat → Int32) → (Nat → Int32)} {n : Nat} {X : zCV} {j : Nat} (h : j < 3) : zMap f n X j = X j := if_pos h
theorem zMap_in {f : Nat → (Nat → Int32) → (Nat → Int32)} {n : Nat} {X : zCV} {t : Nat} (h : t < n) : zMap f n X (t + 3) = f t (X (t + 3)) := by
  unfold zMap
  rw [if_neg (by omega), if_pos (by omega), Nat.add_sub_cancel]
theorem zMap_out {f : Nat → (Nat → Int32) → (Nat → Int32)} {n : Nat} {X : zCV} {t : Nat} (h : n ≤ t) : zMap f n X (t + 3) = X (t + 3) := by
  unfold zMap
  rw [if_neg (by omega), if_neg (by omega)]
theorem zMap_z (f : Nat → (Nat → Int32) → (Nat → Int32)) (X : zCV) : zMap f 0 X = X := by
  funext j
  unfold zMap
  by_cases h : j < 3
  · rw [if_pos h]
  · rw [if_neg h, if_neg (by omega)]
theorem zMap_s (f : Nat → (Nat → Int32) → (Nat → Int32)) (k : Nat) (X : zCV) : zMap f (k + 1) X = uj (zMap f k X) (k + 3) (f k (X (k + 3))) := by
  funext j
  unfold uj
  by_cases hj : j = k + 3
  · subst hj
    rw [if_pos rfl, zMap_in (by omega)]
  · rw [if_neg hj]
    unfold zMap
    by_cases h : j < 3
    · rw [if_pos h, if_pos h]
    · rw [if_neg h, if_neg h]
      by_cases h2 : j - 3 < k
      · rw [if_pos h2, if_pos (by omega)]
      · rw [if_neg h2, if_neg (by omega)]
theorem zMap_num (f : Nat → (Nat → Int32) → (Nat → Int32)) (k : Nat) (X : zCV) : zMap f k X 0 = X 0 := zMap_lo (by decide)
/-- the bit that comes into the chip k -/
def zInc (O : (Nat → Int32) → Int32) (X : zCV) (inp : Int32) : Nat → Int32
  | 0 => inp
  | k + 1 => O (X (k + 3))
def zShiftD (X : zCV) (inp : Int32) : zCV := zMap (fun k c => zShD c (zInc zDO X inp k)) (num X) X
def zShiftC (X : zCV) (inp : Int32) : zCV := zMap (fun k c => zShC c (zInc zCO X inp k)) (num X) X
def zWork (s : Int32) (c : Nat → Int32) : Nat → Int32 := if s = 0 then zFirst c else if s = 3 then zCap c else if s = 8 then zUpd c else if s = 10 then upd c 7 1 else if s = 15 then zGive c (c 7) else c
def zWorkAll (X : zCV) (inp : Int32) : zCV := if X 0 1 = 4 then zShiftD X inp else if X 0 1 = 11 then zShiftC X inp else zMap (fun _ c => zWork (X 0 1) c) (num X) X
def zTick (X : zCV) (md inp : Int32) : zCV := uj (zWorkAll X inp) 0 (upd (upd (X 0) 1 (zNx (stt X) md)) 2 (X 0 2 + 1))
def zOut (X : zCV) (inp : Int32) : Int32 := if X 0 1 = 4 then (if num X = 0 then inp else zDO (X (num X - 1 + 3))) else if X 0 1 = 11 then (if num X = 0 then inp else zCO (X (num X - 1 + 3))) else 1
theorem zWorkAll_0 (X : zCV) (inp : Int32) : zWorkAll X inp 0 = X 0 := by
  unfold zWorkAll zShiftD zShiftC
  repeat' split
  all_goals exact zMap_num _ _ _
def zSumL (f : (Nat → Int32) → Int32) (X : zCV) : Nat → Int32
  | 0 => 0
  | k + 1 => zSumL f X k + f (X (k + 3))
def zSum (f : (Nat → Int32) → Int32) (X : zCV) : Int32 := zSumL f X (num X)
def zBrk (c : Nat → Int32) : Int32 := if c 5 = 0 then 0 else 1
def zByp (c : Nat → Int32) : Int32 := if zselB c = 0 then 0 else 1
def zHas (X : zCV) (x : Int32) : Int32 := if x < 0 then 0 else if X 0 0 ≤ x then 0 else 1
def zAdd (X : zCV) (cl id ce : Int32) : zCV := uj (uj X (num X + 3) (zNew cl id ce)) 0 (upd (X 0) 0 (X 0 0 + 1))
/-- k chips behind p have moved up -/
def zTakL (X : zCV) (p k : Nat) : zCV := fun j => if j < 3 then X j else if p ≤ j - 3 ∧ j - 3 < p + k then X (j + 1) else X j
def zTake (X : zCV) (p : Nat) : zCV := uj (zTakL X p (num X - 1 - p)) 0 (upd (X 0) 0 (X 0 0 - 1))
theorem zTakL_z (X : zCV) (p : Nat) : zTakL X p 0 = X := by
  funext j
  unfold zTakL
  by_cases h : j < 3
  · rw [if_pos h]
  · rw [if_neg h, if_neg (by omega)]
theorem zTakL_s (X : zCV) (p k : Nat) : zTakL X p (k + 1) = uj (zTakL X p k) (p + k + 3) (X (p + k + 4)) := by
  funext j
  unfold uj zTakL
  by_cases hj : j = p + k + 3
  · subst hj
    rw [if_pos rfl, if_neg (by omega), if_pos (by omega)]
  · rw [if_neg hj]
    by_cases h : j < 3
    · rw [if_pos h, if_pos h]
    · rw [if_neg h, if_neg h]
      by_cases h2 : p ≤ j - 3 ∧ j - 3 < p + k
      · rw [if_pos h2, if_pos (by omega)]
      · rw [if_neg h2, if_neg (by omega)]
theorem zTakL_0 (X : zCV) (p k : Nat) : zTakL X p k 0 = X 0 := if_pos (by decide)
theorem zTakL_ge (X : zCV) {p k t : Nat} (h : p + k ≤ t) : zTakL X p k (t + 3) = X (t + 3) := by
  unfold zTakL
  rw [if_neg (by omega), if_neg (by omega)]
/-- Y, with what of X is alive -/
def zCopy (Y X : zCV) : zCV := fun j => if j = 0 then X 0 else if j = 2 then (fun k => if k < cnt X then X 2 k else Y 2 k) else if j < 3 then Y j else if j - 3 < num X then X j else Y j
def zForget (X : zCV) : zCV := uj X 0 (upd (X 0) 3 0)
def zKeep (X : zCV) (v : Int32) : zCV := uj (uj X 2 (upd (X 2) (cnt X) v)) 0 (upd (X 0) 3 (X 0 3 + 1))
theorem num_of {X : zCV} {n : Nat} (h : X 0 0 = nI n) (hn : n < 2 ^ 31) : num X = n := by
  unfold num
  rw [h, nI_clamp hn]
theorem nI_sub1 {n : Nat} (h : 0 < n) : nI n - 1 = nI (n - 1) := by
  obtain ⟨k, rfl⟩ : ∃ k, n = k + 1 := ⟨n - 1, by omega⟩
  exact nI_pred k
/-! rows that name one chip's value, and the other way -/
section ZK
variable {p : Program} {l : Launch} {e : Env} {R : Room} {s : State} {m : MethodId} {args : Array Value} {below : List Frame} {meth : Method} {c : Code} {nL : Nat} {G : zG} {Q : State → Prop} {cells slots n : Nat} {S S' : zS} {i : Nat} {X X' : zCV} {pc : Nat} {ls : List (Option Value)} {st : List Value}
theorem x_chip (t : Nat) (kk : Xh p l e R s m args below meth c nL G Q cells slots n (pic G (up S i (uj X (t + 3) (X (t + 3))))) pc ls st) : Xh p l e R s m args below meth c nL G Q cells slots n (pic G (up S i X)) pc ls st := by
  rw [uj_self] at kk
  exact kk
theorem x_unchip {t : Nat} (kk : Xh p l e R s m args below meth c nL G Q cells slots n (pic G (up S i X)) pc ls st) : Xh p l e R s m args below meth c nL G Q cells slots n (pic G (up S i (uj X (t + 3) (X (t + 3))))) pc ls st := by
  rw [uj_self]
  exact kk
theorem x_up (hX : X = X') (kk : Xh p l e R s m args below meth c nL G Q cells slots n (pic G (up S i X')) pc ls st) : Xh p l e R s m args below meth c nL G Q cells slots n (pic G (up S i X)) pc ls st := hX ▸ kk
theorem x_S (hS : S = S') (kk : Xh p l e R s m args below meth c nL G Q cells slots n (pic G S') pc ls st) : Xh p l e R s m args below meth c nL G Q cells slots n (pic G S) pc ls st := hS ▸ kk
end ZK
/-! another chain's cells, where one chain's value is named -/
section PC2
variable {G : zG} {S : zS} {i i2 : Nat} {Y : zCV}
theorem pcO2 (hi2 : i2 < 7) (h : i2 ≠ i) : pic G (up S i Y) i2 0 = .inr (0, [.ref (zad G i2 1), .int (S i2 0 0), .int (S i2 0 1), .int (S i2 0 2), .ref (zad G i2 2), .int (S i2 0 3)]) := by
  rw [pic_c hi2, up_ne _ _ h]; rfl
theorem pcI2 (hi2 : i2 < 7) (h : i2 ≠ i) : pic G (up S i Y) i2 2 = .inl (G.2.1 0, 8, .inl (tr 8 (S i2 2))) := by
  rw [pic_c hi2, up_ne _ _ h]; rfl
theorem pcCc (hi2 : i2 < 7) (t : Nat) : pic G S i2 (t + 3) = .inr (1, chipL (S i2 (t + 3))) := by
  rw [pic_c hi2]
  unfold picC
  rw [if_neg (by omega), if_neg (by omega), if_neg (by omega)]
end PC2
/-- the identities of the first k have been laid -/
def zCpI (Y X : zCV) (k : Nat) : zCV := uj Y 2 (fun q => if q < k then X 2 q else Y 2 q)
theorem zCpI_z (Y X : zCV) : zCpI Y X 0 = Y := by
  unfold zCpI
  have : (fun q => if q < 0 then X 2 q else Y 2 q) = Y 2 := by funext q; rw [if_neg (by omega)]
  rw [this, uj_self]
theorem zCpI_s (Y X : zCV) (k : Nat) : uj (zCpI Y X k) 2 (upd (zCpI Y X k 2) k (X 2 k)) = zCpI Y X (k + 1) := by
  unfold zCpI
  rw [uj_uj, uj_same]
  congr 1
  funext q
  by_cases hq : q = k
  · subst hq
    rw [upd_same, if_pos (by omega)]
  · rw [upd_ne _ _ hq]
    by_cases h : q < k
    · rw [if_pos h, if_pos (by omega)]
    · rw [if_neg h, if_neg (by omega)]
theorem zCopy_eq {Y X V : zCV} {f : Nat → (Nat → Int32) → (Nat → Int32)} {n : Nat} (hW : zWF X) (h0 : V 0 = upd (upd (upd (zMap f n Y 0) 0 (X 0 0)) 1 (X 0 1)) 2 (X 0 2)) (hn : ∀ j, j ≠ 0 → V j = zMap (fun t _ => X (t + 3)) (num X) Y j) : eqX (zCopy Y X) (uj (zCpI V X (cnt X)) 0 (upd (zCpI V X (cnt X) 0) 3 (X 0 3))) := by
  have h6 := hW.n6
  refine ⟨fun k hk => ?_, fun k hk => ?_, fun t ht k hk => ?_⟩
  · rw [uj_same]
    have hz : zCpI V X (cnt X) 0 = V 0 := uj_ne _ _ (by decide)
    rw [hz, h0]
    show X 0 k = _
    rcases (show k = 0 ∨ k = 1 ∨ k = 2 ∨ k = 3 by omega) with rfl | rfl | rfl | rfl <;> rfl
  · rw [uj_ne _ _ (by decide)]
    have hz : zCpI V X (cnt X) 2 = fun q => if q < cnt X then X 2 q else V 2 q := uj_same _ _ _
    rw [hz]
    have h2 : V 2 = Y 2 := by rw [hn 2 (by decide), zMap_lo (by decide)]
    rw [h2]
    rfl
  · rw [uj_ne _ _ (by omega)]
    have hz : zCpI V X (cnt X) (t + 3) = V (t + 3) := uj_ne _ _ (by omega)
    rw [hz, hn _ (by omega)]
    unfold zCopy
    rw [if_neg (by omega), if_neg (by omega), if_neg (by omega), Nat.add_sub_cancel]
    by_cases h : t < num X
    · rw [if_pos h, zMap_in h]
    · rw [if_neg h, zMap_out (by omega)]
/-! bounds stay -/
theorem cWF_upd {c : Nat → Int32} {k : Nat} {v : Int32} (h : cWF c) (hk : 6 ≤ k ∨ k = 3 ∨ k = 4) : cWF (upd c k v) := by
  unfold cWF at h ⊢
  rw [upd_ne _ _ (by omega), upd_ne _ _ (by omega), upd_ne _ _ (by omega), upd_ne _ _ (by omega)]
  exact h
theorem cWF_give {c : Nat → Int32} {v : Int32} (h : cWF c) : cWF (zGive c v) := cWF_upd (cWF_upd h (by omega)) (by omega)
theorem cWF_work {c : Nat → Int32} (s : Int32) (h : cWF c) : cWF (zWork s c) := by
  unfold zWork
  repeat' split
  · exact cWF_give h
  · exact cWF_upd h (by omega)
  · unfold zUpd
    split
    · exact cWF_upd h (by omega)
    · exact h
  · exact cWF_upd h (by omega)
  · exact cWF_give h
  · exact h
theorem zMap_WF {X : zCV} {f : Nat → (Nat → Int32) → (Nat → Int32)} {k : Nat} (h : zWF X) (hf : ∀ t c, cWF c → cWF (f t c)) : zWF (zMap f k X) := by
  have h0 : zMap f k X 0 = X 0 := zMap_num _ _ _
  obtain ⟨h1, h2, h3, h4⟩ := h
  unfold zWF num stt cnt at *
  rw [h0]
  refine ⟨h1, h2, h3, fun t ht => ?_⟩
  by_cases hk : t < k
  · rw [zMap_in hk]
    exact hf t _ (h4 t ht)
  · rw [zMap_out (by omega)]
    exact h4 t ht
