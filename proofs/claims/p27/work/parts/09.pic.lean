/-! ===== the state as numbers, and its picture in cells ===== -/
abbrev zCV : Type := Nat → Nat → Int32
abbrev zS : Type := Nat → Nat → Nat → Int32
def up (S : zS) (i : Nat) (X : zCV) : zS := fun i' => if i' = i then X else S i'
def uj (X : zCV) (j : Nat) (c : Nat → Int32) : zCV := fun j' => if j' = j then c else X j'
theorem up_same (S : zS) (i : Nat) (X : zCV) : up S i X i = X := if_pos rfl
theorem up_ne (S : zS) {i j : Nat} (X : zCV) (h : j ≠ i) : up S i X j = S j := if_neg h
theorem up_up (S : zS) (i : Nat) (X Y : zCV) : up (up S i X) i Y = up S i Y := by
  funext j
  unfold up
  by_cases h : j = i
  · rw [if_pos h, if_pos h]
  · rw [if_neg h, if_neg h, if_neg h]
theorem up_self (S : zS) (i : Nat) : up S i (S i) = S := by
  funext j
  unfold up
  by_cases h : j = i
  · rw [if_pos h, h]
  · rw [if_neg h]
theorem up_comm (S : zS) {i j : Nat} (h : i ≠ j) (X Y : zCV) : up (up S i X) j Y = up (up S j Y) i X := by
  funext q
  unfold up
  by_cases h1 : q = j
  · subst h1
    rw [if_pos rfl, if_neg (Ne.symm h), if_pos rfl]
  · rw [if_neg h1]
    by_cases h2 : q = i
    · rw [if_pos h2, if_pos h2]
    · rw [if_neg h2, if_neg h2, if_neg h1]
theorem uj_same (X : zCV) (j : Nat) (c : Nat → Int32) : uj X j c j = c := if_pos rfl
theorem uj_ne (X : zCV) {i j : Nat} (c : Nat → Int32) (h : j ≠ i) : uj X i c j = X j := if_neg h
theorem uj_uj (X : zCV) (j : Nat) (c d : Nat → Int32) : uj (uj X j c) j d = uj X j d := by
  funext q
  unfold uj
  by_cases h : q = j
  · rw [if_pos h, if_pos h]
  · rw [if_neg h, if_neg h, if_neg h]
theorem uj_self (X : zCV) (j : Nat) : uj X j (X j) = X := by
  funext q
  unfold uj
  by_cases h : q = j
  · rw [if_pos h, h]
  · rw [if_neg h]
theorem upd_same (c : Nat → Int32) (k : Nat) (v : Int32) : upd c k v k = v := if_pos rfl
theorem upd_ne (c : Nat → Int32) {k q : Nat} (v : Int32) (h : q ≠ k) : upd c k v q = c q := if_neg h
/-- an array's first N values -/
def tr (N : Nat) (f : Nat → Int32) : Nat → Int32 := fun k => if k < N then f k else 0
theorem tr_lt {N k : Nat} {f : Nat → Int32} (h : k < N) : tr N f k = f k := if_pos h
theorem tr_congr {N : Nat} {f g : Nat → Int32} (h : ∀ k, k < N → f k = g k) : tr N f = tr N g := by
  funext k
  unfold tr
  by_cases hk : k < N
  · rw [if_pos hk, if_pos hk, h k hk]
  · rw [if_neg hk, if_neg hk]
theorem tr_upd {N t : Nat} {f : Nat → Int32} {v : Int32} (h : t < N) : upd (tr N f) t v = tr N (upd f t v) := by
  funext k
  by_cases hk : k = t
  · subst hk
    rw [upd_same, tr_lt h, upd_same]
  · rw [upd_ne _ _ hk]
    unfold tr
    by_cases h2 : k < N
    · rw [if_pos h2, if_pos h2, upd_ne _ _ hk]
    · rw [if_neg h2, if_neg h2]
/-- a chain's value as one row of 66 numbers -/
def fl (X : zCV) : Nat → Int32 := fun t => if t < 4 then X 0 t else if t < 12 then X 2 (t - 4) else X ((t - 12) / 9 + 3) ((t - 12) % 9)
def pf (S : zS) : Nat → Int32 := fun t => fl (S (11 + t / 66)) (t % 66)
def rc (S : zS) (k : Nat) : Nat := (S 7 1 k).toNatClampNeg
def chipL (c : Nat → Int32) : List Value := [.int (c 0), .int (c 1), .int (c 2), .int (c 3), .int (c 4), .int (c 5), .int (c 6), .int (c 7), .int (c 8)]
def picC (G : zG) (i : Nat) (X : zCV) (j : Nat) : va_E :=
  if j = 0 then .inr (0, [.ref (zad G i 1), .int (X 0 0), .int (X 0 1), .int (X 0 2), .ref (zad G i 2), .int (X 0 3)])
  else if j = 1 then .inl (G.2.1 2, 6, .inr (.inr (.inr (.inr (fun k => some (zad G i (k + 3)))))))
  else if j = 2 then .inl (G.2.1 0, 8, .inl (tr 8 (X 2)))
  else .inr (1, chipL (X j))
def pic7 (G : zG) (S : zS) (j : Nat) : va_E :=
  if j = 0 then .inr (4, [.ref (zad G 0 0), .ref (zad G 1 0), .ref (zad G 2 0), .int (S 7 0 1), .ref (zad G 7 1), .ref (zad G 7 3)])
  else if j = 1 then .inr (2, [.ref (zad G 7 2), .int (S 7 0 0)])
  else if j = 2 then .inl (G.2.1 3, 4, .inr (.inr (.inr (.inr (fun k => if k < 4 then some (zad G (rc S k) 0) else none)))))
  else if j = 3 then .inr (3, [.ref (zad G 7 4), .int (S 7 0 2)])
  else .inl (G.2.1 1, 80, .inl (tr 80 (S 7 2)))
def pic8 (G : zG) (S : zS) (j : Nat) : va_E :=
  if j = 0 then .inr (5, [.ref (zad G 8 1), .ref (zad G 8 2), .ref (zad G 8 3), .int (S 15 0 0), .ref (zad G 8 4), .int (S 15 0 1), .ref (zad G 8 5), .int (S 15 0 2), .ref (zad G 8 6)])
  else if j = 1 then .inl (G.2.1 0, 66, .inl (tr 66 (fl (S 8))))
  else if j = 2 then .inl (G.2.1 0, 66, .inl (tr 66 (fl (S 9))))
  else if j = 3 then .inl (G.2.1 0, 264, .inl (tr 264 (pf S)))
  else if j = 4 then .inl (G.2.1 0, 66, .inl (tr 66 (fl (S 10))))
  else if j = 5 then .inl (G.2.1 0, 80, .inl (tr 80 (S 15 1)))
  else .inl (G.2.1 0, 16, .inl (tr 16 (S 15 2)))
def pic (G : zG) (S : zS) : zH := fun i j => if i = 7 then pic7 G S j else if i = 8 then pic8 G S j else picC G i (S i) j
/-- what of a chain's value is held in cells -/
def eqX (X Y : zCV) : Prop := (∀ k, k < 4 → X 0 k = Y 0 k) ∧ (∀ k, k < 8 → X 2 k = Y 2 k) ∧ ∀ t, t < 6 → ∀ k, k < 9 → X (t + 3) k = Y (t + 3) k
theorem eqX.rf (X : zCV) : eqX X X := ⟨fun _ _ => rfl, fun _ _ => rfl, fun _ _ _ _ => rfl⟩
theorem eqX_fl {X Y : zCV} (h : eqX X Y) : ∀ t, t < 66 → fl X t = fl Y t := by
  intro t ht
  unfold fl
  by_cases h1 : t < 4
  · rw [if_pos h1, if_pos h1, h.1 t h1]
  · rw [if_neg h1, if_neg h1]
    by_cases h2 : t < 12
    · rw [if_pos h2, if_pos h2, h.2.1 _ (by omega)]
    · rw [if_neg h2, if_neg h2]
      exact h.2.2 _ (by omega) _ (Nat.mod_lt _ (by decide))
theorem eqX_pic {G : zG} {i j : Nat} {X Y : zCV} (h : eqX X Y) (hj : j < 9) : picC G i X j = picC G i Y j := by
  unfold picC
  by_cases h0 : j = 0
  · rw [if_pos h0, if_pos h0, h.1 0 (by decide), h.1 1 (by decide), h.1 2 (by decide), h.1 3 (by decide)]
  · rw [if_neg h0, if_neg h0]
    by_cases h1 : j = 1
    · rw [if_pos h1, if_pos h1]
    · rw [if_neg h1, if_neg h1]
      by_cases h2 : j = 2
      · rw [if_pos h2, if_pos h2, tr_congr h.2.1]
      · rw [if_neg h2, if_neg h2]
        obtain ⟨t, rfl⟩ : ∃ t, j = t + 3 := ⟨j - 3, by omega⟩
        have := h.2.2 t (by omega)
        unfold chipL
        rw [this 0 (by decide), this 1 (by decide), this 2 (by decide), this 3 (by decide), this 4 (by decide), this 5 (by decide), this 6 (by decide), this 7 (by decide), this 8 (by decide)]
/-- what of a whole state is held in cells -/
def eqS (S T : zS) : Prop := (∀ i, i < 7 → eqX (S i) (T i)) ∧ (∀ i, 8 ≤ i → i < 15 → eqX (S i) (T i)) ∧ (∀ k, k < 3 → S 7 0 k = T 7 0 k) ∧ (∀ k, k < 4 → S 7 1 k = T 7 1 k) ∧ (∀ k, k < 80 → S 7 2 k = T 7 2 k) ∧ (∀ k, k < 3 → S 15 0 k = T 15 0 k) ∧ (∀ k, k < 80 → S 15 1 k = T 15 1 k) ∧ ∀ k, k < 16 → S 15 2 k = T 15 2 k
theorem eqS_pic {G : zG} {S T : zS} (h : eqS S T) {n : Nat} : ∀ i j, zok i j → zix i j < n → pic G S i j = pic G T i j := by
  intro i j hok _
  obtain ⟨h1, h2, h3, h4, h5, h6, h7, h8⟩ := h
  unfold pic
  rcases hok with ⟨a, b⟩ | ⟨a, b⟩ | ⟨a, b⟩
  · rw [if_neg (by omega), if_neg (by omega), if_neg (by omega), if_neg (by omega)]
    exact eqX_pic (h1 i a) b
  · subst a
    rw [if_pos rfl, if_pos rfl]
    unfold pic7
    rw [h3 0 (by decide), h3 1 (by decide), h3 2 (by decide), tr_congr h5]
    have hr : (fun k => if k < 4 then some (zad G (rc S k) 0) else none) = fun k => if k < 4 then some (zad G (rc T k) 0) else none := by
      funext k
      by_cases hk : k < 4
      · rw [if_pos hk, if_pos hk, rc, rc, h4 k hk]
      · rw [if_neg hk, if_neg hk]
    rw [hr]
  · subst a
    rw [if_neg (by decide), if_pos rfl, if_neg (by decide), if_pos rfl]
    unfold pic8
    rw [h6 0 (by decide), h6 1 (by decide), h6 2 (by decide), tr_congr h7, tr_congr h8, tr_congr (eqX_fl (h2 8 (by decide) (by decide))), tr_congr (eqX_fl (h2 9 (by decide) (by decide))), tr_congr (eqX_fl (h2 10 (by decide) (by decide)))]
    have hp : tr 264 (pf S) = tr 264 (pf T) := tr_congr fun k hk => eqX_fl (h2 (11 + k / 66) (by omega) (by omega)) _ (Nat.mod_lt _ (by decide))
    rw [hp]
theorem eqS.rf (S : zS) : eqS S S := ⟨fun _ _ => eqX.rf _, fun _ _ _ => eqX.rf _, fun _ _ => rfl, fun _ _ => rfl, fun _ _ => rfl, fun _ _ => rfl, fun _ _ => rfl, fun _ _ => rfl⟩
/-- one chain's value, up to what is held -/
theorem eqS_up {S : zS} {i : Nat} {X Y : zCV} (hi : i < 7 ∨ (8 ≤ i ∧ i < 15)) (h : eqX X Y) : eqS (up S i X) (up S i Y) := by
  refine ⟨fun q hq => ?_, fun q hq hq2 => ?_, fun k _ => ?_, fun k _ => ?_, fun k _ => ?_, fun k _ => ?_, fun k _ => ?_, fun k _ => ?_⟩
  · unfold up
    by_cases hc : q = i
    · rw [if_pos hc, if_pos hc]; exact h
    · rw [if_neg hc, if_neg hc]; exact eqX.rf _
  · unfold up
    by_cases hc : q = i
    · rw [if_pos hc, if_pos hc]; exact h
    · rw [if_neg hc, if_neg hc]; exact eqX.rf _
  all_goals (rw [up_ne _ _ (by omega), up_ne _ _ (by omega)])
theorem eqS_pic_up {G : zG} {S : zS} {i n : Nat} {X Y : zCV} (hi : i < 7 ∨ (8 ≤ i ∧ i < 15)) (h : eqX X Y) : ∀ i' j', zok i' j' → zix i' j' < n → pic G (up S i X) i' j' = pic G (up S i Y) i' j' := eqS_pic (eqS_up hi h)
/-! the cells of a chain -/
section PC
variable {G : zG} {S : zS} {i n : Nat} {X : zCV}
theorem zok_c {j : Nat} (hi : i < 7) (hj : j < 9) : zok i j := Or.inl ⟨hi, hj⟩
theorem zix_c {j : Nat} (hi : i < 7) (hj : j < 9) : zix i j < 68 := by
  have z1 : zj j < 9 := by
    unfold zj
    repeat' split
    all_goals omega
  unfold zix
  repeat' split
  all_goals omega
theorem pic_c {j : Nat} (hi : i < 7) : pic G S i j = picC G i (S i) j := by
  unfold pic
  rw [if_neg (by omega), if_neg (by omega)]
theorem pcO (hi : i < 7) : pic G (up S i X) i 0 = .inr (0, [.ref (zad G i 1), .int (X 0 0), .int (X 0 1), .int (X 0 2), .ref (zad G i 2), .int (X 0 3)]) := by
  rw [pic_c hi, up_same]; rfl
theorem pcA (hi : i < 7) : pic G S i 1 = .inl (G.2.1 2, 6, .inr (.inr (.inr (.inr (fun k => some (zad G i (k + 3))))))) := by
  rw [pic_c hi]; rfl
theorem pcI (hi : i < 7) : pic G (up S i X) i 2 = .inl (G.2.1 0, 8, .inl (tr 8 (X 2))) := by
  rw [pic_c hi, up_same]; rfl
theorem pcC (hi : i < 7) (t : Nat) : pic G (up S i X) i (t + 3) = .inr (1, chipL (X (t + 3))) := by
  rw [pic_c hi, up_same]; unfold picC
  rw [if_neg (by omega), if_neg (by omega), if_neg (by omega)]
theorem pcC' (hi : i < 7) (t : Nat) (c : Nat → Int32) : pic G (up S i (uj X (t + 3) c)) i (t + 3) = .inr (1, chipL c) := by
  rw [pcC hi, uj_same]
theorem chipL_set (c : Nat → Int32) (v : Int32) : ∀ k, k < 9 → (chipL c).set k (.int v) = chipL (upd c k v) := by
  intro k hk
  rcases (show k = 0 ∨ k = 1 ∨ k = 2 ∨ k = 3 ∨ k = 4 ∨ k = 5 ∨ k = 6 ∨ k = 7 ∨ k = 8 by omega) with rfl | rfl | rfl | rfl | rfl | rfl | rfl | rfl | rfl <;> rfl
/-- a change within one chain -/
theorem pp_c {X' : zCV} {j : Nat} {x : va_E} (hi : i < 7) (hj : picC G i X' j = x) (hq : ∀ j', j' < 9 → j' ≠ j → picC G i X' j' = picC G i X j') : ∀ i' j', zok i' j' → zix i' j' < n → pic G (up S i X') i' j' = hset (pic G (up S i X)) i j x i' j' := by
  intro i' j' hok _
  unfold hset
  by_cases hc : i' = i ∧ j' = j
  · rw [if_pos hc]
    obtain ⟨rfl, rfl⟩ := hc
    rw [pic_c hi, up_same]
    exact hj
  · rw [if_neg hc]
    by_cases h1 : i' = i
    · subst h1
      rw [pic_c hi, pic_c hi, up_same, up_same]
      have hj9 : j' < 9 := by rcases hok with h | h | h <;> omega
      exact hq j' hj9 (fun z => hc ⟨rfl, z⟩)
    · unfold pic
      by_cases h7 : i' = 7
      · rw [if_pos h7, if_pos h7]
        unfold pic7 rc
        rw [up_ne _ _ (by omega), up_ne _ _ (by omega)]
      · rw [if_neg h7, if_neg h7]
        by_cases h8 : i' = 8
        · rw [if_pos h8, if_pos h8]
          unfold pic8 pf
          rw [up_ne _ _ (by omega), up_ne _ _ (by omega), up_ne _ _ (by omega), up_ne _ _ (by omega), up_ne _ _ (by omega), up_ne _ _ (by omega), up_ne _ _ (by omega), up_ne _ _ (by omega)]
          have : ∀ t, fl (up S i X' (11 + t / 66)) (t % 66) = fl (up S i X (11 + t / 66)) (t % 66) := fun t => by rw [up_ne _ _ (by omega), up_ne _ _ (by omega)]
          simp only [this]
        · rw [if_neg h8, if_neg h8, up_ne _ _ h1, up_ne _ _ h1]
theorem picC_uj {j j' : Nat} {c : Nat → Int32} (h : j' ≠ j) : picC G i (uj X j c) j' = picC G i X j' := by
  unfold picC
  by_cases h0 : j' = 0
  · subst h0
    rw [if_pos rfl, if_pos rfl, uj_ne _ _ h]
  · rw [if_neg h0, if_neg h0]
    by_cases h1 : j' = 1
    · rw [if_pos h1, if_pos h1]
    · rw [if_neg h1, if_neg h1]
      by_cases h2 : j' = 2
      · subst h2
        rw [if_pos rfl, if_pos rfl, uj_ne _ _ h]
      · rw [if_neg h2, if_neg h2, uj_ne _ _ h]
theorem ppO {c : Nat → Int32} (hi : i < 7) : ∀ i' j', zok i' j' → zix i' j' < n → pic G (up S i (uj X 0 c)) i' j' = hset (pic G (up S i X)) i 0 (.inr (0, [.ref (zad G i 1), .int (c 0), .int (c 1), .int (c 2), .ref (zad G i 2), .int (c 3)])) i' j' :=
  pp_c hi rfl (fun _ _ h => picC_uj h)
theorem ppI {t : Nat} {v : Int32} (hi : i < 7) (ht : t < 8) : ∀ i' j', zok i' j' → zix i' j' < n → pic G (up S i (uj X 2 (upd (X 2) t v))) i' j' = hset (pic G (up S i X)) i 2 (.inl (G.2.1 0, 8, .inl (upd (tr 8 (X 2)) t v))) i' j' :=
  pp_c hi (by rw [tr_upd ht]; rfl) (fun _ _ h => picC_uj h)
theorem ppC {t k : Nat} {v : Int32} (hi : i < 7) (hk : k < 9) : ∀ i' j', zok i' j' → zix i' j' < n → pic G (up S i (uj X (t + 3) (upd (X (t + 3)) k v))) i' j' = hset (pic G (up S i X)) i (t + 3) (.inr (1, (chipL (X (t + 3))).set k (.int v))) i' j' :=
  pp_c hi (by rw [chipL_set _ _ k hk]; unfold picC; rw [if_neg (by omega), if_neg (by omega), if_neg (by omega), uj_same]) (fun _ _ h => picC_uj h)
theorem ppC' {t k : Nat} {c : Nat → Int32} {v : Int32} (hi : i < 7) (hk : k < 9) : ∀ i' j', zok i' j' → zix i' j' < n → pic G (up S i (uj X (t + 3) (upd c k v))) i' j' = hset (pic G (up S i (uj X (t + 3) c))) i (t + 3) (.inr (1, (chipL c).set k (.int v))) i' j' := by
  have h := ppC (G := G) (S := S) (i := i) (n := n) (X := uj X (t + 3) c) (t := t) (k := k) (v := v) hi hk
  rw [uj_same, uj_uj] at h
  exact h
end PC
