/-! ===== the reference: its cells, its words ===== -/
theorem fl_0 {X : zCV} {k : Nat} (h : k < 4) : fl X k = X 0 k := if_pos h
theorem fl_2 {X : zCV} {k : Nat} (h : k < 8) : fl X (4 + k) = X 2 k := by
  unfold fl
  rw [if_neg (by omega), if_pos (by omega), Nat.add_sub_cancel_left]
theorem fl_c {X : zCV} {c w : Nat} (h : w < 9) : fl X (12 + 9 * c + w) = X (c + 3) w := by
  unfold fl
  rw [if_neg (by omega), if_neg (by omega), show (12 + 9 * c + w - 12) / 9 = c by omega, show (12 + 9 * c + w - 12) % 9 = w by omega]
theorem fl_put0 {X : zCV} {k : Nat} {v : Int32} (h : k < 4) : fl (uj X 0 (upd (X 0) k v)) = upd (fl X) k v := by
  funext t
  by_cases ht : t = k
  · subst ht
    rw [upd_same, fl_0 h, uj_same, upd_same]
  · rw [upd_ne _ _ ht]
    unfold fl
    by_cases h1 : t < 4
    · rw [if_pos h1, if_pos h1, uj_same, upd_ne _ _ ht]
    · rw [if_neg h1, if_neg h1]
      by_cases h2 : t < 12
      · rw [if_pos h2, if_pos h2, uj_ne _ _ (by decide)]
      · rw [if_neg h2, if_neg h2, uj_ne _ _ (by omega)]
theorem fl_put2 {X : zCV} {k : Nat} {v : Int32} (h : k < 8) : fl (uj X 2 (upd (X 2) k v)) = upd (fl X) (4 + k) v := by
  funext t
  by_cases ht : t = 4 + k
  · subst ht
    rw [upd_same, fl_2 h, uj_same, upd_same]
  · rw [upd_ne _ _ ht]
    unfold fl
    by_cases h1 : t < 4
    · rw [if_pos h1, if_pos h1, uj_ne _ _ (by decide)]
    · rw [if_neg h1, if_neg h1]
      by_cases h2 : t < 12
      · rw [if_pos h2, if_pos h2, uj_same, upd_ne _ _ (by omega)]
      · rw [if_neg h2, if_neg h2, uj_ne _ _ (by omega)]
theorem fl_putc {X : zCV} {c w : Nat} {v : Int32} (h : w < 9) : fl (uj X (c + 3) (upd (X (c + 3)) w v)) = upd (fl X) (12 + 9 * c + w) v := by
  funext t
  by_cases ht : t = 12 + 9 * c + w
  · subst ht
    rw [upd_same, fl_c h, uj_same, upd_same]
  · rw [upd_ne _ _ ht]
    unfold fl
    by_cases h1 : t < 4
    · rw [if_pos h1, if_pos h1, uj_ne _ _ (by omega)]
    · rw [if_neg h1, if_neg h1]
      by_cases h2 : t < 12
      · rw [if_pos h2, if_pos h2, uj_ne _ _ (by omega)]
      · rw [if_neg h2, if_neg h2]
        by_cases hc : (t - 12) / 9 = c
        · rw [hc, uj_same, upd_ne _ _ (by omega)]
        · rw [uj_ne _ _ (by omega)]
theorem ix_eq (c w : Nat) : (12 : Int32) + 9 * nI c + nI w = nI (12 + 9 * c + w) := by
  have h9 : (9 : Int32) * nI c = nI (9 * c) := (Int32.ofNat_mul 9 c).symm
  rw [h9, show (12 : Int32) = nI 12 from rfl, nI_add, nI_add]
section P8
variable {G : zG} {S S' : zS} {n : Nat} {X X' : zCV}
theorem p_M : pic G S 8 0 = .inr (5, [.ref (zad G 8 1), .ref (zad G 8 2), .ref (zad G 8 3), .int (S 15 0 0), .ref (zad G 8 4), .int (S 15 0 1), .ref (zad G 8 5), .int (S 15 0 2), .ref (zad G 8 6)]) := rfl
theorem p_z : pic G (up S 8 X) 8 1 = .inl (G.2.1 0, 66, .inl (tr 66 (fl X))) := rfl
theorem p_zg : pic G S 8 1 = .inl (G.2.1 0, 66, .inl (tr 66 (fl (S 8)))) := rfl
theorem p_spare : pic G S 8 2 = .inl (G.2.1 0, 66, .inl (tr 66 (fl (S 9)))) := rfl
theorem p_past : pic G S 8 3 = .inl (G.2.1 0, 264, .inl (tr 264 (pf S))) := rfl
theorem p_kept : pic G S 8 4 = .inl (G.2.1 0, 66, .inl (tr 66 (fl (S 10)))) := rfl
theorem p_text : pic G S 8 5 = .inl (G.2.1 0, 80, .inl (tr 80 (S 15 1))) := rfl
theorem p_far : pic G S 8 6 = .inl (G.2.1 0, 16, .inl (tr 16 (S 15 2))) := rfl
theorem pic8_eq {j : Nat} (hj : j < 7) (h0 : j = 0 → S' 15 0 = S 15 0) (h1 : j = 1 → S' 8 = S 8) (h2 : j = 2 → S' 9 = S 9) (h3 : j = 3 → ∀ q, q < 4 → S' (11 + q) = S (11 + q)) (h4 : j = 4 → S' 10 = S 10) (h5 : j = 5 → S' 15 1 = S 15 1) (h6 : j = 6 → S' 15 2 = S 15 2) : pic8 G S' j = pic8 G S j := by
  unfold pic8
  rcases (show j = 0 ∨ j = 1 ∨ j = 2 ∨ j = 3 ∨ j = 4 ∨ j = 5 ∨ j = 6 by omega) with rfl | rfl | rfl | rfl | rfl | rfl | rfl
  · simp only [Nat.reduceEqDiff, ↓reduceIte]; rw [h0 rfl]
  · simp only [Nat.reduceEqDiff, ↓reduceIte]; rw [h1 rfl]
  · simp only [Nat.reduceEqDiff, ↓reduceIte]; rw [h2 rfl]
  · simp only [Nat.reduceEqDiff, ↓reduceIte]
    have : tr 264 (pf S') = tr 264 (pf S) := tr_congr fun k hk => by unfold pf; rw [h3 rfl _ (by omega)]
    rw [this]
  · simp only [Nat.reduceEqDiff, ↓reduceIte]; rw [h4 rfl]
  · simp only [Nat.reduceEqDiff, ↓reduceIte]; rw [h5 rfl]
  · simp only [Nat.reduceEqDiff, ↓reduceIte]; rw [h6 rfl]
theorem pp8 {j : Nat} {x : va_E} (h7 : ∀ i, i < 8 → S' i = S i) (hj : pic8 G S' j = x) (hq : ∀ j', j' < 7 → j' ≠ j → pic8 G S' j' = pic8 G S j') : ∀ i' j', zok i' j' → zix i' j' < n → pic G S' i' j' = hset (pic G S) 8 j x i' j' := by
  intro i' j' hok _
  unfold hset
  by_cases hc : i' = 8 ∧ j' = j
  · rw [if_pos hc]
    obtain ⟨rfl, rfl⟩ := hc
    exact hj
  · rw [if_neg hc]
    unfold pic
    rcases hok with ⟨a, b⟩ | ⟨a, b⟩ | ⟨a, b⟩
    · rw [if_neg (by omega), if_neg (by omega), if_neg (by omega), if_neg (by omega), h7 i' (by omega)]
    · rw [if_pos a, if_pos a]
      unfold pic7 rc
      rw [h7 7 (by decide)]
    · subst a
      rw [if_neg (by decide), if_pos rfl, if_neg (by decide), if_pos rfl]
      exact hq j' b (fun z => hc ⟨rfl, z⟩)
theorem pp_z {t : Nat} {v : Int32} (ht : t < 66) (hX : fl X' = upd (fl X) t v) : ∀ i' j', zok i' j' → zix i' j' < n → pic G (up S 8 X') i' j' = hset (pic G (up S 8 X)) 8 1 (.inl (G.2.1 0, 66, .inl (upd (tr 66 (fl X)) t v))) i' j' :=
  pp8 (fun i hi => by rw [up_ne _ _ (by omega), up_ne _ _ (by omega)])
    (by rw [tr_upd ht, ← hX]; rfl)
    (fun j hj h => pic8_eq hj (fun _ => rfl) (fun z => absurd z h) (fun _ => rfl) (fun _ q hq => by rw [up_ne _ _ (by omega), up_ne _ _ (by omega)]) (fun _ => rfl) (fun _ => rfl) (fun _ => rfl))
theorem pp_z0 {k : Nat} {v : Int32} (h : k < 4) : ∀ i' j', zok i' j' → zix i' j' < n → pic G (up S 8 (uj X 0 (upd (X 0) k v))) i' j' = hset (pic G (up S 8 X)) 8 1 (.inl (G.2.1 0, 66, .inl (upd (tr 66 (fl X)) k v))) i' j' := pp_z (by omega) (fl_put0 h)
theorem pp_z2 {k : Nat} {v : Int32} (h : k < 8) : ∀ i' j', zok i' j' → zix i' j' < n → pic G (up S 8 (uj X 2 (upd (X 2) k v))) i' j' = hset (pic G (up S 8 X)) 8 1 (.inl (G.2.1 0, 66, .inl (upd (tr 66 (fl X)) (4 + k) v))) i' j' := pp_z (by omega) (fl_put2 h)
theorem pp_zc {c w : Nat} {v : Int32} (hc : c < 6) (h : w < 9) : ∀ i' j', zok i' j' → zix i' j' < n → pic G (up S 8 (uj X (c + 3) (upd (X (c + 3)) w v))) i' j' = hset (pic G (up S 8 X)) 8 1 (.inl (G.2.1 0, 66, .inl (upd (tr 66 (fl X)) (12 + 9 * c + w) v))) i' j' := pp_z (by omega) (fl_putc h)
theorem pp_far {t : Nat} {v : Int32} (ht : t < 16) : ∀ i' j', zok i' j' → zix i' j' < n → pic G (up S 15 (uj (S 15) 2 (upd (S 15 2) t v))) i' j' = hset (pic G S) 8 6 (.inl (G.2.1 0, 16, .inl (upd (tr 16 (S 15 2)) t v))) i' j' :=
  pp8 (fun i hi => by rw [up_ne _ _ (by omega)]) (by rw [tr_upd ht]; rfl)
    (fun j hj h => pic8_eq hj (fun _ => rfl) (fun _ => rfl) (fun _ => rfl) (fun _ q hq => by rw [up_ne _ _ (by omega)]) (fun _ => rfl) (fun _ => rfl) (fun z => absurd z h))
theorem pp_text {t : Nat} {v : Int32} (ht : t < 80) : ∀ i' j', zok i' j' → zix i' j' < n → pic G (up S 15 (uj (S 15) 1 (upd (S 15 1) t v))) i' j' = hset (pic G S) 8 5 (.inl (G.2.1 0, 80, .inl (upd (tr 80 (S 15 1)) t v))) i' j' :=
  pp8 (fun i hi => by rw [up_ne _ _ (by omega)]) (by rw [tr_upd ht]; rfl)
    (fun j hj h => pic8_eq hj (fun _ => rfl) (fun _ => rfl) (fun _ => rfl) (fun _ q hq => by rw [up_ne _ _ (by omega)]) (fun _ => rfl) (fun z => absurd z h) (fun _ => rfl))
theorem pp_M {k : Nat} {v : Int32} {x : va_E} (hx : pic8 G (up S 15 (uj (S 15) 0 (upd (S 15 0) k v))) 0 = x) : ∀ i' j', zok i' j' → zix i' j' < n → pic G (up S 15 (uj (S 15) 0 (upd (S 15 0) k v))) i' j' = hset (pic G S) 8 0 x i' j' :=
  pp8 (fun i hi => by rw [up_ne _ _ (by omega)]) hx
    (fun j hj h => pic8_eq hj (fun z => absurd z h) (fun _ => rfl) (fun _ => rfl) (fun _ q hq => by rw [up_ne _ _ (by omega)]) (fun _ => rfl) (fun _ => rfl) (fun _ => rfl))
theorem pp_M_states {v : Int32} : ∀ i' j', zok i' j' → zix i' j' < n → pic G (up S 15 (uj (S 15) 0 (upd (S 15 0) 0 v))) i' j' = hset (pic G S) 8 0 (.inr (5, [.ref (zad G 8 1), .ref (zad G 8 2), .ref (zad G 8 3), .int v, .ref (zad G 8 4), .int (S 15 0 1), .ref (zad G 8 5), .int (S 15 0 2), .ref (zad G 8 6)])) i' j' := pp_M rfl
theorem pp_M_isKept {v : Int32} : ∀ i' j', zok i' j' → zix i' j' < n → pic G (up S 15 (uj (S 15) 0 (upd (S 15 0) 1 v))) i' j' = hset (pic G S) 8 0 (.inr (5, [.ref (zad G 8 1), .ref (zad G 8 2), .ref (zad G 8 3), .int (S 15 0 0), .ref (zad G 8 4), .int v, .ref (zad G 8 5), .int (S 15 0 2), .ref (zad G 8 6)])) i' j' := pp_M rfl
theorem pp_M_length {v : Int32} : ∀ i' j', zok i' j' → zix i' j' < n → pic G (up S 15 (uj (S 15) 0 (upd (S 15 0) 2 v))) i' j' = hset (pic G S) 8 0 (.inr (5, [.ref (zad G 8 1), .ref (zad G 8 2), .ref (zad G 8 3), .int (S 15 0 0), .ref (zad G 8 4), .int (S 15 0 1), .ref (zad G 8 5), .int v, .ref (zad G 8 6)])) i' j' := pp_M rfl
/-! rows copied -/
def rowC (F T : Nat → Int32) (fa ta k : Nat) : Nat → Int32 := fun q => if ta ≤ q ∧ q < ta + k then F (fa + (q - ta)) else T q
theorem rowC_z (F T : Nat → Int32) (fa ta : Nat) : rowC F T fa ta 0 = T := by
  funext q
  unfold rowC
  rw [if_neg (by omega)]
theorem rowC_s (F T : Nat → Int32) (fa ta k : Nat) : upd (rowC F T fa ta k) (ta + k) (F (fa + k)) = rowC F T fa ta (k + 1) := by
  funext q
  by_cases hq : q = ta + k
  · subst hq
    rw [upd_same]
    unfold rowC
    rw [if_pos (by omega), Nat.add_sub_cancel_left]
  · rw [upd_ne _ _ hq]
    unfold rowC
    by_cases h : ta ≤ q ∧ q < ta + k
    · rw [if_pos h, if_pos (by omega)]
    · rw [if_neg h, if_neg (by omega)]
theorem rowC_all (F T : Nat → Int32) : rowC (tr 66 F) (tr 66 T) 0 0 66 = tr 66 F := by
  funext q
  unfold rowC tr
  by_cases h : q < 66
  · rw [if_pos ⟨Nat.zero_le _, by omega⟩, Nat.zero_add, Nat.sub_zero]
  · rw [if_neg (by omega), if_neg h, if_neg h]
theorem rowC_in {S : zS} {t : Nat} (ht : t < 4) (T : Nat → Int32) : rowC (tr 264 (pf S)) (tr 66 T) (66 * t) 0 66 = tr 66 (fl (S (11 + t))) := by
  funext q
  unfold rowC
  by_cases h : q < 66
  · rw [if_pos ⟨Nat.zero_le _, by omega⟩, tr_lt (by omega), tr_lt h]
    unfold pf
    rw [show (66 * t + (q - 0)) / 66 = t by omega, show (66 * t + (q - 0)) % 66 = q by omega]
  · rw [if_neg (by omega)]
    unfold tr
    rw [if_neg h, if_neg h]
theorem rowC_out {S : zS} {t : Nat} (ht : t < 4) (X : zCV) : rowC (tr 66 (fl X)) (tr 264 (pf S)) 0 (66 * t) 66 = tr 264 (pf (up S (11 + t) X)) := by
  funext q
  unfold rowC
  by_cases h : 66 * t ≤ q ∧ q < 66 * t + 66
  · rw [if_pos h, tr_lt (by omega), tr_lt (by omega)]
    unfold pf
    rw [show q / 66 = t by omega, up_same]
    congr 1
    omega
  · rw [if_neg h]
    unfold tr
    by_cases h2 : q < 264
    · rw [if_pos h2, if_pos h2]
      unfold pf
      rw [up_ne _ _ (by omega)]
    · rw [if_neg h2, if_neg h2]
theorem cp_z_past {t : Nat} (ht : t < 4) : ∀ i' j', zok i' j' → zix i' j' < n → pic G (up S (11 + t) (S 8)) i' j' = hset (pic G S) 8 3 (.inl (G.2.1 0, 264, .inl (rowC (tr 66 (fl (S 8))) (tr 264 (pf S)) 0 (66 * t) 66))) i' j' :=
  pp8 (fun i hi => by rw [up_ne _ _ (by omega)]) (by rw [rowC_out ht]; rfl)
    (fun j hj h => pic8_eq hj (fun _ => by rw [up_ne _ _ (by omega)]) (fun _ => by rw [up_ne _ _ (by omega)]) (fun _ => by rw [up_ne _ _ (by omega)]) (fun z => absurd z h) (fun _ => by rw [up_ne _ _ (by omega)]) (fun _ => by rw [up_ne _ _ (by omega)]) (fun _ => by rw [up_ne _ _ (by omega)]))
theorem cp_past_z {t : Nat} (ht : t < 4) : ∀ i' j', zok i' j' → zix i' j' < n → pic G (up S 8 (S (11 + t))) i' j' = hset (pic G S) 8 1 (.inl (G.2.1 0, 66, .inl (rowC (tr 264 (pf S)) (tr 66 (fl (S 8))) (66 * t) 0 66))) i' j' :=
  pp8 (fun i hi => by rw [up_ne _ _ (by omega)]) (by rw [rowC_in ht]; rfl)
    (fun j hj h => pic8_eq hj (fun _ => rfl) (fun z => absurd z h) (fun _ => rfl) (fun _ q hq => by rw [up_ne _ _ (by omega)]) (fun _ => rfl) (fun _ => rfl) (fun _ => rfl))
theorem cp_z_kept : ∀ i' j', zok i' j' → zix i' j' < n → pic G (up S 10 (S 8)) i' j' = hset (pic G S) 8 4 (.inl (G.2.1 0, 66, .inl (rowC (tr 66 (fl (S 8))) (tr 66 (fl (S 10))) 0 0 66))) i' j' :=
  pp8 (fun i hi => by rw [up_ne _ _ (by omega)]) (by rw [rowC_all]; rfl)
    (fun j hj h => pic8_eq hj (fun _ => rfl) (fun _ => rfl) (fun _ => rfl) (fun _ q hq => by rw [up_ne _ _ (by omega)]) (fun z => absurd z h) (fun _ => rfl) (fun _ => rfl))
theorem cp_kept_z : ∀ i' j', zok i' j' → zix i' j' < n → pic G (up S 8 (S 10)) i' j' = hset (pic G S) 8 1 (.inl (G.2.1 0, 66, .inl (rowC (tr 66 (fl (S 10))) (tr 66 (fl (S 8))) 0 0 66))) i' j' :=
  pp8 (fun i hi => by rw [up_ne _ _ (by omega)]) (by rw [rowC_all]; rfl)
    (fun j hj h => pic8_eq hj (fun _ => rfl) (fun z => absurd z h) (fun _ => rfl) (fun _ q hq => by rw [up_ne _ _ (by omega)]) (fun _ => rfl) (fun _ => rfl) (fun _ => rfl))
theorem cp_z_spare : ∀ i' j', zok i' j' → zix i' j' < n → pic G (up S 9 (S 8)) i' j' = hset (pic G S) 8 2 (.inl (G.2.1 0, 66, .inl (rowC (tr 66 (fl (S 8))) (tr 66 (fl (S 9))) 0 0 66))) i' j' :=
  pp8 (fun i hi => by rw [up_ne _ _ (by omega)]) (by rw [rowC_all]; rfl)
    (fun j hj h => pic8_eq hj (fun _ => rfl) (fun _ => rfl) (fun z => absurd z h) (fun _ q hq => by rw [up_ne _ _ (by omega)]) (fun _ => rfl) (fun _ => rfl) (fun _ => rfl))
theorem cp_spare_z : ∀ i' j', zok i' j' → zix i' j' < n → pic G (up S 8 (S 9)) i' j' = hset (pic G S) 8 1 (.inl (G.2.1 0, 66, .inl (rowC (tr 66 (fl (S 9))) (tr 66 (fl (S 8))) 0 0 66))) i' j' :=
  pp8 (fun i hi => by rw [up_ne _ _ (by omega)]) (by rw [rowC_all]; rfl)
    (fun j hj h => pic8_eq hj (fun _ => rfl) (fun z => absurd z h) (fun _ => rfl) (fun _ q hq => by rw [up_ne _ _ (by omega)]) (fun _ => rfl) (fun _ => rfl) (fun _ => rfl))
end P8
def fr (S : zS) (F : Nat → Int32) : zS := up S 15 (uj (S 15) 2 F)
theorem fr_fr (S : zS) (F F' : Nat → Int32) : fr (fr S F) F' = fr S F' := by
  unfold fr
  rw [up_up, up_same, uj_uj]
theorem fr_up8 (S : zS) (X : zCV) (F : Nat → Int32) : fr (up S 8 X) F = up (fr S F) 8 X := by
  unfold fr
  rw [up_comm _ (by decide), up_ne _ _ (by decide)]
def farF (b : Nat) : Nat → Int32 := fun a => nI (dst a b)
/-! the reference's history -/
def mDrop (S : zS) : zS := up (up (up (up S 11 (S 12)) 12 (S 13)) 13 (S 14)) 15 (uj (S 15) 0 (upd (S 15 0) 0 (S 15 0 0 - 1)))
def mRec0 (S : zS) : zS := if S 15 0 0 = 4 then mDrop S else S
def mRec1 (S : zS) : zS := up (up S (11 + tn (S 15 0 0)) (S 8)) 15 (uj (S 15) 0 (upd (S 15 0) 0 (S 15 0 0 + 1)))
def mRec (S : zS) : zS := mRec1 (mRec0 S)
def mBack (S : zS) : zS := up (up S 15 (uj (S 15) 0 (upd (S 15 0) 0 (S 15 0 0 - 1)))) 8 (S (11 + tn (S 15 0 0 - 1)))
theorem isChip_eq {X : zCV} (hW : zWF X) (q : Int32) : zin q 0 (X 0 0 - 1) = zHas X q := by
  have h6 := hW.n6
  unfold zin zHas
  by_cases h1 : q < 0
  · rw [if_pos h1, if_pos h1]
  · rw [if_neg h1, if_neg h1]
    obtain ⟨j, hj, rfl⟩ := nI_of h1
    rw [hW.sz]
    by_cases h0 : num X = 0
    · rw [h0]
      have a : (nI 0 - 1 : Int32) < nI j := Int32.lt_of_lt_of_le (by decide) (nI_le (Nat.zero_le j) hj)
      rw [if_pos a, if_pos (nI_le (Nat.zero_le _) hj)]
    · rw [nI_sub1 (by omega)]
      by_cases h2 : num X ≤ j
      · rw [if_pos (nI_lt (by omega) hj), if_pos (nI_le h2 hj)]
      · rw [if_neg (nI_nlt (by omega) (by omega)), if_neg (nI_ge (by omega) (by omega))]
def zDig (c : Int32) : Int32 := if zin c 48 57 = 0 then (if zin c 97 102 = 0 then -4 else c - 97 + 10) else c - 48
/-- the chips from k on have been done -/
def zMapD (f : Nat → (Nat → Int32) → (Nat → Int32)) (n k : Nat) (X : zCV) : zCV := fun j => if j < 3 then X j else if k ≤ j - 3 ∧ j - 3 < n then f (j - 3) (X j) else X j
theorem zMapD_z (f : Nat → (Nat → Int32) → (Nat → Int32)) (n : Nat) (X : zCV) : zMapD f n 0 X = zMap f n X := by
  funext j
  unfold zMapD zMap
  by_cases h : j < 3
  · rw [if_pos h, if_pos h]
  · rw [if_neg h, if_neg h]
    by_cases h2 : j - 3 < n
    · rw [if_pos ⟨Nat.zero_le _, h2⟩, if_pos h2]
    · rw [if_neg (fun z => h2 z.2), if_neg h2]
theorem zMapD_n (f : Nat → (Nat → Int32) → (Nat → Int32)) (n : Nat) (X : zCV) : zMapD f n n X = X := by
  funext j
  unfold zMapD
  by_cases h : j < 3
  · rw [if_pos h]
  · rw [if_neg h, if_neg (by omega)]
theorem zMapD_lo (f : Nat → (Nat → Int32) → (Nat → Int32)) (n k : Nat) (X : zCV) {t : Nat} (h : t < k) : zMapD f n k X (t + 3) = X (t + 3) := by
  unfold zMapD
  rw [if_neg (by omega), if_neg (by omega)]
theorem zMapD_0 (f : Nat → (Nat → Int32) → (Nat → Int32)) (n k : Nat) (X : zCV) : zMapD f n k X 0 = X 0 := if_pos (by decide)
theorem zMapD_s (f : Nat → (Nat → Int32) → (Nat → Int32)) {n k : Nat} (X : zCV) (hk : k < n) : zMapD f n k X = uj (zMapD f n (k + 1) X) (k + 3) (f k (X (k + 3))) := by
  funext j
  unfold uj
  by_cases hj : j = k + 3
  · subst hj
    rw [if_pos rfl]
    unfold zMapD
    rw [if_neg (by omega), if_pos (by omega), Nat.add_sub_cancel]
  · rw [if_neg hj]
    unfold zMapD
    by_cases h : j < 3
    · rw [if_pos h, if_pos h]
    · rw [if_neg h, if_neg h]
      by_cases h2 : k + 1 ≤ j - 3 ∧ j - 3 < n
      · rw [if_pos h2, if_pos (by omega)]
      · rw [if_neg h2, if_neg (by omega)]
theorem zMap_id {f : Nat → (Nat → Int32) → (Nat → Int32)} {n : Nat} {X : zCV} (h : ∀ t c, f t c = c) : zMap f n X = X := by
  funext j
  unfold zMap
  by_cases h1 : j < 3
  · rw [if_pos h1]
  · rw [if_neg h1]
    by_cases h2 : j - 3 < n
    · rw [if_pos h2, h]
    · rw [if_neg h2]
