/-! ===== what a chip's methods answer and do ===== -/
theorem nI_inc (k : Nat) : nI k + Int32.ofInt 1 = nI (k + 1) := (nI_succ k).symm
theorem k9 {P : Nat → Prop} (h0 : P 0) (h1 : P 1) (h2 : P 2) (h3 : P 3) (h4 : P 4) (h5 : P 5) (h6 : P 6) (h7 : P 7) (h8 : P 8) : ∀ k, k < 9 → P k := by
  intro k hk
  rcases (show k = 0 ∨ k = 1 ∨ k = 2 ∨ k = 3 ∨ k = 4 ∨ k = 5 ∨ k = 6 ∨ k = 7 ∨ k = 8 by omega) with rfl | rfl | rfl | rfl | rfl | rfl | rfl | rfl | rfl <;> assumption
def zOnes (b : Int32) : Int32 := (1 <<< (b &&& 31)) - 1
def zin (x a b : Int32) : Int32 := if x < a then 0 else if b < x then 0 else 1
theorem zin_01 (x a b : Int32) : zin x a b = 0 ∨ zin x a b = 1 := by
  unfold zin
  repeat' split
  all_goals first | exact Or.inl rfl | exact Or.inr rfl
theorem zin_0 {x a b : Int32} (h : zin x a b = 0) : ¬ (a ≤ x ∧ x ≤ b) := by
  unfold zin at h
  rintro ⟨h1, h2⟩
  rw [if_neg (Int32.not_lt.mpr h1), if_neg (Int32.not_lt.mpr h2)] at h
  exact absurd h (by decide)
theorem zin_1 {x a b : Int32} (h : ¬ zin x a b = 0) : a ≤ x ∧ x ≤ b := by
  unfold zin at h
  by_cases h1 : x < a
  · rw [if_pos h1] at h; exact absurd rfl h
  · rw [if_neg h1] at h
    by_cases h2 : b < x
    · rw [if_pos h2] at h; exact absurd rfl h
    · exact ⟨Int32.not_lt.mp h1, Int32.not_lt.mp h2⟩
def zisId (x : Int32) : Int32 := if x = 0 then 1 else if zin x 1 253 = 0 then 0 else if x - x / 2 * 2 = 1 then 1 else 0
abbrev zC (c : Nat → Int32) : Prop := c 6 = 0 ∨ c 6 = 2
abbrev zI (c : Nat → Int32) : Prop := c 6 = 1 ∧ ¬ c 1 = 0
def zselC (c : Nat → Int32) : Int32 := if zC c then 1 else 0
def zselI (c : Nat → Int32) : Int32 := if zI c then 1 else 0
theorem zselC_0 {c : Nat → Int32} : zselC c = 0 ↔ ¬ zC c := by
  unfold zselC
  by_cases h : zC c
  · rw [if_pos h]; exact ⟨fun z => absurd z (by decide), fun z => absurd h z⟩
  · rw [if_neg h]; exact ⟨fun _ => h, fun _ => rfl⟩
theorem zselI_0 {c : Nat → Int32} : zselI c = 0 ↔ ¬ zI c := by
  unfold zselI
  by_cases h : zI c
  · rw [if_pos h]; exact ⟨fun z => absurd z (by decide), fun z => absurd h z⟩
  · rw [if_neg h]; exact ⟨fun _ => h, fun _ => rfl⟩
def zselB (c : Nat → Int32) : Int32 := if zC c then 0 else if zI c then 0 else 1
def zBits (c : Nat → Int32) : Int32 := if zC c then c 2 else if zI c then 8 else 1
def zGive (c : Nat → Int32) (v : Int32) : Nat → Int32 := upd (upd c 6 v) 8 0
def zFI (c : Nat → Int32) : Int32 := if c 1 = 0 then zOnes (c 0) else 1
def zFirst (c : Nat → Int32) : Nat → Int32 := zGive c (zFI c)
def zNew (cl id ce : Int32) : Nat → Int32 := fun k => if k = 0 then cl else if k = 1 then id else if k = 2 then ce else if k = 6 then (if id = 0 then zOnes cl else 1) else 0
def zCapV (c : Nat → Int32) : Int32 := if zC c then c 3 else if zI c then c 1 else 0
def zCap (c : Nat → Int32) : Nat → Int32 := upd c 8 (zCapV c)
def zUpd (c : Nat → Int32) : Nat → Int32 := if c 6 = 0 then upd c 4 (c 8) else c
def zDO (c : Nat → Int32) : Int32 := if c 5 = 0 then c 8 &&& 1 else 1
def zCO (c : Nat → Int32) : Int32 := if c 5 = 0 then c 7 &&& 1 else 1
def zSh (r b x : Int32) : Int32 := (r >>> (1 &&& 31)) ||| (x <<< ((b - 1) &&& 31))
def zShD (c : Nat → Int32) (x : Int32) : Nat → Int32 := upd c 8 (zSh (c 8) (zBits c) x)
def zShC (c : Nat → Int32) (x : Int32) : Nat → Int32 := upd c 7 (zSh (c 7) (c 0) x)
def zPins (c : Nat → Int32) (x : Int32) : Nat → Int32 := upd c 3 (x &&& zOnes (c 2))
def zTell (c : Nat → Int32) (x : Int32) : Int32 := if x = 0 then c 0 else if x = 1 then c 1 else if x = 2 then c 2 else if x = 3 then c 3 else if x = 4 then c 4 else if x = 5 then (if c 5 = 0 then 0 else 1) else if x = 6 then c 6 else if x = 7 then c 7 else if x = 8 then c 8 else if x = 9 then zBits c else -2
theorem eqX_uj {X : zCV} {t : Nat} {c d : Nat → Int32} (h : ∀ k, k < 9 → c k = d k) : eqX (uj X (t + 3) c) (uj X (t + 3) d) := by
  refine ⟨fun k _ => ?_, fun k _ => ?_, fun q _ k hk => ?_⟩
  · rw [uj_ne _ _ (by omega), uj_ne _ _ (by omega)]
  · rw [uj_ne _ _ (by omega), uj_ne _ _ (by omega)]
  · by_cases hq : q = t
    · subst hq
      rw [uj_same, uj_same]
      exact h k hk
    · rw [uj_ne _ _ (by omega), uj_ne _ _ (by omega)]
/-- a number within a switch's bounds, or below, or above -/
theorem sw_cases (x : Int32) (n : Nat) (hn : n < 2 ^ 31) : x.toInt < 0 ∨ (n : Int) < x.toInt ∨ ∃ w, w ≤ n ∧ x = nI w := by
  by_cases h1 : x.toInt < 0
  · exact Or.inl h1
  · by_cases h2 : (n : Int) < x.toInt
    · exact Or.inr (Or.inl h2)
    · refine Or.inr (Or.inr ⟨x.toInt.toNat, by omega, ?_⟩)
      apply Int32.toInt_inj.mp
      rw [nI_toInt (by omega)]
      omega
theorem ppO0 {G : zG} {S : zS} {i n : Nat} {X : zCV} {v : Int32} (hi : i < 7) : ∀ i' j', zok i' j' → zix i' j' < n → pic G (up S i (uj X 0 (upd (X 0) 0 v))) i' j' = hset (pic G (up S i X)) i 0 (.inr (0, [.ref (zad G i 1), .int v, .int (X 0 1), .int (X 0 2), .ref (zad G i 2), .int (X 0 3)])) i' j' := ppO hi
theorem ppO1 {G : zG} {S : zS} {i n : Nat} {X : zCV} {v : Int32} (hi : i < 7) : ∀ i' j', zok i' j' → zix i' j' < n → pic G (up S i (uj X 0 (upd (X 0) 1 v))) i' j' = hset (pic G (up S i X)) i 0 (.inr (0, [.ref (zad G i 1), .int (X 0 0), .int v, .int (X 0 2), .ref (zad G i 2), .int (X 0 3)])) i' j' := ppO hi
theorem ppO2 {G : zG} {S : zS} {i n : Nat} {X : zCV} {v : Int32} (hi : i < 7) : ∀ i' j', zok i' j' → zix i' j' < n → pic G (up S i (uj X 0 (upd (X 0) 2 v))) i' j' = hset (pic G (up S i X)) i 0 (.inr (0, [.ref (zad G i 1), .int (X 0 0), .int (X 0 1), .int v, .ref (zad G i 2), .int (X 0 3)])) i' j' := ppO hi
theorem ppO3 {G : zG} {S : zS} {i n : Nat} {X : zCV} {v : Int32} (hi : i < 7) : ∀ i' j', zok i' j' → zix i' j' < n → pic G (up S i (uj X 0 (upd (X 0) 3 v))) i' j' = hset (pic G (up S i X)) i 0 (.inr (0, [.ref (zad G i 1), .int (X 0 0), .int (X 0 1), .int (X 0 2), .ref (zad G i 2), .int v])) i' j' := ppO hi
/-- another chip's cell, where one chip's is named -/
theorem pcC2 {G : zG} {S : zS} {i t i2 t2 : Nat} {c : Nat → Int32} (hi2 : i2 < 7) (h : ¬ (i2 = i ∧ t2 = t)) : pic G (up S i (uj (S i) (t + 3) c)) i2 (t2 + 3) = .inr (1, chipL (S i2 (t2 + 3))) := by
  by_cases h1 : i2 = i
  · subst h1
    rw [pcC hi2, uj_ne _ _ (by omega)]
  · rw [pic_c hi2, up_ne _ _ h1]
    unfold picC
    rw [if_neg (by omega), if_neg (by omega), if_neg (by omega)]
