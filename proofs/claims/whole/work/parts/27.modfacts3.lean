/-! ===== distances by the reference; bits ===== -/
theorem trf {S : zS} {c : Nat → Int32} {t : Nat} (h : t < 16) : tr 16 (fr S c 15 2) t = c t := by
  rw [tr_lt h]
  unfold fr
  rw [up_same, uj_same]
theorem trf8 {S : zS} {c : Nat → Int32} {X : zCV} {t : Nat} (h : t < 16) : tr 16 (up (fr S c) 8 X 15 2) t = c t := by
  rw [up_ne _ _ (by decide)]
  exact trf h
theorem ppf {G : zG} {S : zS} {n : Nat} {c : Nat → Int32} {t : Nat} {v : Int32} (ht : t < 16) : ∀ i' j', zok i' j' → zix i' j' < n → pic G (fr S (upd c t v)) i' j' = hset (pic G (fr S c)) 8 6 (.inl (G.2.1 0, 16, .inl (upd (tr 16 (fr S c 15 2)) t v))) i' j' := by
  have h := pp_far (G := G) (S := fr S c) (n := n) (t := t) (v := v) ht
  have e : up (fr S c) 15 (uj (fr S c 15) 2 (upd (fr S c 15 2) t v)) = fr S (upd c t v) := by
    unfold fr
    rw [up_same, up_up, uj_same, uj_uj]
  rw [e] at h
  exact h
theorem fr_self (S : zS) : fr S (S 15 2) = S := by
  unfold fr
  rw [uj_self, up_self]
theorem eqS_fr {S : zS} {F F' : Nat → Int32} (h : ∀ a, a < 16 → F a = F' a) : eqS (fr S F) (fr S F') := by
  refine ⟨fun q hq => ?_, fun q hq hq2 => ?_, fun k _ => ?_, fun k _ => ?_, fun k _ => ?_, fun k _ => ?_, fun k _ => ?_, fun k hk => ?_⟩
  · unfold fr; rw [up_ne _ _ (by omega), up_ne _ _ (by omega)]; exact eqX.rf _
  · unfold fr; rw [up_ne _ _ (by omega), up_ne _ _ (by omega)]; exact eqX.rf _
  · rfl
  · rfl
  · rfl
  · rfl
  · rfl
  · exact h k hk
def frI (b : Nat) (F : Nat → Int32) (k : Nat) : Nat → Int32 := fun a => if a < k then (if a = b then 0 else 16) else F a
def frM (c : Nat → Int32) (s : Nat) (md : Int32) : Nat → Int32 := upd c s (if c s ≤ c (nx s md) + 1 then c s else c (nx s md) + 1)
def frMl (c : Nat → Int32) (s : Nat) : Nat → (Nat → Int32)
  | 0 => c
  | m + 1 => frM (frMl c s m) s (nI m)
def frSt (c : Nat → Int32) : Nat → (Nat → Int32)
  | 0 => c
  | k + 1 => frMl (frSt c k) k 2
def frRd (c : Nat → Int32) : Nat → (Nat → Int32)
  | 0 => c
  | r + 1 => frSt (frRd c r) 16
theorem frI_z (b : Nat) (F : Nat → Int32) : frI b F 0 = F := by
  funext a
  unfold frI
  rw [if_neg (by omega)]
theorem frI_s (b : Nat) (F : Nat → Int32) (k : Nat) : upd (frI b F k) k (if k = b then 0 else 16) = frI b F (k + 1) := by
  funext a
  by_cases h : a = k
  · subst h
    rw [upd_same]
    unfold frI
    rw [if_pos (show a < a + 1 by omega)]
  · rw [upd_ne _ _ h]
    unfold frI
    by_cases h2 : a < k
    · rw [if_pos h2, if_pos (show a < k + 1 by omega)]
    · rw [if_neg h2, if_neg (show ¬ a < k + 1 by omega)]
/-! the same on lists, for the kernel to count -/
def lM (L : List Int32) (s : Nat) (md : Int32) : List Int32 := L.set s (if L.getD s 0 ≤ L.getD (nx s md) 0 + 1 then L.getD s 0 else L.getD (nx s md) 0 + 1)
def lSt (L : List Int32) : Nat → List Int32
  | 0 => L
  | k + 1 => lM (lM (lSt L k) k 0) k 1
def zLT : List (List (List Int32)) := [[[0, 16, 16, 16, 16, 16, 16, 16, 16, 16, 16, 16, 16, 16, 16, 16], [0, 16, 16, 16, 16, 16, 16, 16, 16, 1, 16, 16, 16, 16, 16, 16], [0, 16, 2, 16, 16, 16, 16, 16, 3, 1, 16, 16, 16, 16, 16, 3], [0, 3, 2, 16, 16, 4, 16, 4, 3, 1, 16, 16, 4, 16, 4, 3], [0, 3, 2, 5, 5, 4, 5, 4, 3, 1, 5, 5, 4, 5, 4, 3], [0, 3, 2, 5, 5, 4, 5, 4, 3, 1, 5, 5, 4, 5, 4, 3], [0, 3, 2, 5, 5, 4, 5, 4, 3, 1, 5, 5, 4, 5, 4, 3], [0, 3, 2, 5, 5, 4, 5, 4, 3, 1, 5, 5, 4, 5, 4, 3], [0, 3, 2, 5, 5, 4, 5, 4, 3, 1, 5, 5, 4, 5, 4, 3]], [[16, 0, 16, 16, 16, 16, 16, 16, 16, 16, 16, 16, 16, 16, 16, 16], [1, 0, 16, 16, 16, 16, 16, 16, 1, 2, 16, 16, 16, 16, 16, 1], [1, 0, 3, 16, 16, 2, 16, 2, 1, 2, 16, 16, 2, 16, 2, 1], [1, 0, 3, 3, 3, 2, 3, 2, 1, 2, 3, 3, 2, 3, 2, 1], [1, 0, 3, 3, 3, 2, 3, 2, 1, 2, 3, 3, 2, 3, 2, 1], [1, 0, 3, 3, 3, 2, 3, 2, 1, 2, 3, 3, 2, 3, 2, 1], [1, 0, 3, 3, 3, 2, 3, 2, 1, 2, 3, 3, 2, 3, 2, 1], [1, 0, 3, 3, 3, 2, 3, 2, 1, 2, 3, 3, 2, 3, 2, 1], [1, 0, 3, 3, 3, 2, 3, 2, 1, 2, 3, 3, 2, 3, 2, 1]], [[16, 16, 0, 16, 16, 16, 16, 16, 16, 16, 16, 16, 16, 16, 16, 16], [16, 1, 0, 16, 16, 16, 16, 16, 1, 16, 16, 16, 16, 16, 16, 1], [2, 1, 0, 16, 16, 2, 16, 2, 1, 3, 16, 16, 2, 16, 2, 1], [2, 1, 0, 3, 3, 2, 3, 2, 1, 3, 3, 3, 2, 3, 2, 1], [2, 1, 0, 3, 3, 2, 3, 2, 1, 3, 3, 3, 2, 3, 2, 1], [2, 1, 0, 3, 3, 2, 3, 2, 1, 3, 3, 3, 2, 3, 2, 1], [2, 1, 0, 3, 3, 2, 3, 2, 1, 3, 3, 3, 2, 3, 2, 1], [2, 1, 0, 3, 3, 2, 3, 2, 1, 3, 3, 3, 2, 3, 2, 1], [2, 1, 0, 3, 3, 2, 3, 2, 1, 3, 3, 3, 2, 3, 2, 1]], [[16, 16, 16, 0, 16, 16, 16, 16, 16, 16, 16, 16, 16, 16, 16, 16], [16, 16, 1, 0, 16, 16, 16, 16, 2, 16, 16, 16, 16, 16, 16, 2], [16, 2, 1, 0, 16, 3, 16, 3, 2, 16, 16, 16, 3, 16, 3, 2], [3, 2, 1, 0, 4, 3, 4, 3, 2, 4, 4, 4, 3, 4, 3, 2], [3, 2, 1, 0, 4, 3, 4, 3, 2, 4, 4, 4, 3, 4, 3, 2], [3, 2, 1, 0, 4, 3, 4, 3, 2, 4, 4, 4, 3, 4, 3, 2], [3, 2, 1, 0, 4, 3, 4, 3, 2, 4, 4, 4, 3, 4, 3, 2], [3, 2, 1, 0, 4, 3, 4, 3, 2, 4, 4, 4, 3, 4, 3, 2], [3, 2, 1, 0, 4, 3, 4, 3, 2, 4, 4, 4, 3, 4, 3, 2]], [[16, 16, 16, 16, 0, 16, 16, 16, 16, 16, 16, 16, 16, 16, 16, 16], [16, 16, 16, 1, 0, 16, 16, 1, 16, 16, 16, 16, 16, 16, 16, 16], [16, 16, 2, 1, 0, 16, 2, 1, 3, 16, 16, 16, 16, 16, 16, 3], [16, 3, 2, 1, 0, 3, 2, 1, 3, 16, 16, 16, 4, 16, 4, 3], [4, 3, 2, 1, 0, 3, 2, 1, 3, 5, 5, 5, 4, 5, 4, 3], [4, 3, 2, 1, 0, 3, 2, 1, 3, 5, 5, 5, 4, 5, 4, 3], [4, 3, 2, 1, 0, 3, 2, 1, 3, 5, 5, 5, 4, 5, 4, 3], [4, 3, 2, 1, 0, 3, 2, 1, 3, 5, 5, 5, 4, 5, 4, 3], [4, 3, 2, 1, 0, 3, 2, 1, 3, 5, 5, 5, 4, 5, 4, 3]], [[16, 16, 16, 16, 16, 0, 16, 16, 16, 16, 16, 16, 16, 16, 16, 16], [16, 16, 16, 1, 1, 0, 16, 2, 16, 16, 16, 16, 16, 16, 16, 16], [16, 16, 2, 1, 1, 0, 3, 2, 3, 16, 16, 16, 16, 16, 16, 3], [16, 3, 2, 1, 1, 0, 3, 2, 3, 16, 16, 16, 4, 16, 4, 3], [4, 3, 2, 1, 1, 0, 3, 2, 3, 5, 5, 5, 4, 5, 4, 3], [4, 3, 2, 1, 1, 0, 3, 2, 3, 5, 5, 5, 4, 5, 4, 3], [4, 3, 2, 1, 1, 0, 3, 2, 3, 5, 5, 5, 4, 5, 4, 3], [4, 3, 2, 1, 1, 0, 3, 2, 3, 5, 5, 5, 4, 5, 4, 3], [4, 3, 2, 1, 1, 0, 3, 2, 3, 5, 5, 5, 4, 5, 4, 3]], [[16, 16, 16, 16, 16, 16, 0, 16, 16, 16, 16, 16, 16, 16, 16, 16], [16, 16, 16, 16, 16, 1, 0, 16, 16, 16, 16, 16, 16, 16, 16, 16], [16, 16, 16, 2, 2, 1, 0, 3, 16, 16, 16, 16, 16, 16, 16, 16], [16, 16, 3, 2, 2, 1, 0, 3, 4, 16, 16, 16, 16, 16, 16, 4], [16, 4, 3, 2, 2, 1, 0, 3, 4, 16, 16, 16, 5, 16, 5, 4], [5, 4, 3, 2, 2, 1, 0, 3, 4, 6, 6, 6, 5, 6, 5, 4], [5, 4, 3, 2, 2, 1, 0, 3, 4, 6, 6, 6, 5, 6, 5, 4], [5, 4, 3, 2, 2, 1, 0, 3, 4, 6, 6, 6, 5, 6, 5, 4], [5, 4, 3, 2, 2, 1, 0, 3, 4, 6, 6, 6, 5, 6, 5, 4]], [[16, 16, 16, 16, 16, 16, 16, 0, 16, 16, 16, 16, 16, 16, 16, 16], [16, 16, 16, 16, 16, 16, 1, 0, 16, 16, 16, 16, 16, 16, 16, 16], [16, 16, 16, 16, 16, 2, 1, 0, 16, 16, 16, 16, 16, 16, 16, 16], [16, 16, 16, 3, 3, 2, 1, 0, 16, 16, 16, 16, 16, 16, 16, 16], [16, 16, 4, 3, 3, 2, 1, 0, 5, 16, 16, 16, 16, 16, 16, 5], [16, 5, 4, 3, 3, 2, 1, 0, 5, 16, 16, 16, 6, 16, 6, 5], [6, 5, 4, 3, 3, 2, 1, 0, 5, 7, 7, 7, 6, 7, 6, 5], [6, 5, 4, 3, 3, 2, 1, 0, 5, 7, 7, 7, 6, 7, 6, 5], [6, 5, 4, 3, 3, 2, 1, 0, 5, 7, 7, 7, 6, 7, 6, 5]], [[16, 16, 16, 16, 16, 16, 16, 16, 0, 16, 16, 16, 16, 16, 16, 16], [16, 16, 16, 16, 16, 1, 16, 1, 0, 16, 16, 16, 16, 16, 16, 16], [16, 16, 16, 2, 2, 1, 2, 1, 0, 16, 16, 16, 16, 16, 16, 16], [16, 16, 3, 2, 2, 1, 2, 1, 0, 16, 16, 16, 16, 16, 16, 4], [16, 4, 3, 2, 2, 1, 2, 1, 0, 16, 16, 16, 5, 16, 5, 4], [5, 4, 3, 2, 2, 1, 2, 1, 0, 6, 6, 6, 5, 6, 5, 4], [5, 4, 3, 2, 2, 1, 2, 1, 0, 6, 6, 6, 5, 6, 5, 4], [5, 4, 3, 2, 2, 1, 2, 1, 0, 6, 6, 6, 5, 6, 5, 4], [5, 4, 3, 2, 2, 1, 2, 1, 0, 6, 6, 6, 5, 6, 5, 4]], [[16, 16, 16, 16, 16, 16, 16, 16, 16, 0, 16, 16, 16, 16, 16, 16], [16, 16, 1, 16, 16, 16, 16, 16, 2, 0, 16, 16, 16, 16, 16, 2], [16, 2, 1, 16, 16, 3, 16, 3, 2, 0, 16, 16, 3, 16, 3, 2], [3, 2, 1, 4, 4, 3, 4, 3, 2, 0, 4, 4, 3, 4, 3, 2], [3, 2, 1, 4, 4, 3, 4, 3, 2, 0, 4, 4, 3, 4, 3, 2], [3, 2, 1, 4, 4, 3, 4, 3, 2, 0, 4, 4, 3, 4, 3, 2], [3, 2, 1, 4, 4, 3, 4, 3, 2, 0, 4, 4, 3, 4, 3, 2], [3, 2, 1, 4, 4, 3, 4, 3, 2, 0, 4, 4, 3, 4, 3, 2], [3, 2, 1, 4, 4, 3, 4, 3, 2, 0, 4, 4, 3, 4, 3, 2]], [[16, 16, 16, 16, 16, 16, 16, 16, 16, 16, 0, 16, 16, 16, 16, 16], [16, 16, 16, 16, 16, 16, 16, 16, 16, 1, 0, 16, 16, 16, 16, 16], [16, 16, 2, 16, 16, 16, 16, 16, 3, 1, 0, 16, 16, 16, 16, 3], [16, 3, 2, 16, 16, 4, 16, 4, 3, 1, 0, 16, 4, 16, 4, 3], [4, 3, 2, 5, 5, 4, 5, 4, 3, 1, 0, 5, 4, 5, 4, 3], [4, 3, 2, 5, 5, 4, 5, 4, 3, 1, 0, 5, 4, 5, 4, 3], [4, 3, 2, 5, 5, 4, 5, 4, 3, 1, 0, 5, 4, 5, 4, 3], [4, 3, 2, 5, 5, 4, 5, 4, 3, 1, 0, 5, 4, 5, 4, 3], [4, 3, 2, 5, 5, 4, 5, 4, 3, 1, 0, 5, 4, 5, 4, 3]], [[16, 16, 16, 16, 16, 16, 16, 16, 16, 16, 16, 0, 16, 16, 16, 16], [16, 16, 16, 16, 16, 16, 16, 16, 16, 16, 1, 0, 16, 16, 1, 16], [16, 16, 16, 16, 16, 16, 16, 16, 16, 2, 1, 0, 16, 2, 1, 16], [16, 16, 3, 16, 16, 16, 16, 16, 4, 2, 1, 0, 3, 2, 1, 4], [16, 4, 3, 16, 16, 5, 16, 5, 4, 2, 1, 0, 3, 2, 1, 4], [5, 4, 3, 6, 6, 5, 6, 5, 4, 2, 1, 0, 3, 2, 1, 4], [5, 4, 3, 6, 6, 5, 6, 5, 4, 2, 1, 0, 3, 2, 1, 4], [5, 4, 3, 6, 6, 5, 6, 5, 4, 2, 1, 0, 3, 2, 1, 4], [5, 4, 3, 6, 6, 5, 6, 5, 4, 2, 1, 0, 3, 2, 1, 4]], [[16, 16, 16, 16, 16, 16, 16, 16, 16, 16, 16, 16, 0, 16, 16, 16], [16, 16, 16, 16, 16, 16, 16, 16, 16, 16, 1, 1, 0, 16, 2, 16], [16, 16, 16, 16, 16, 16, 16, 16, 16, 2, 1, 1, 0, 3, 2, 16], [16, 16, 3, 16, 16, 16, 16, 16, 4, 2, 1, 1, 0, 3, 2, 4], [16, 4, 3, 16, 16, 5, 16, 5, 4, 2, 1, 1, 0, 3, 2, 4], [5, 4, 3, 6, 6, 5, 6, 5, 4, 2, 1, 1, 0, 3, 2, 4], [5, 4, 3, 6, 6, 5, 6, 5, 4, 2, 1, 1, 0, 3, 2, 4], [5, 4, 3, 6, 6, 5, 6, 5, 4, 2, 1, 1, 0, 3, 2, 4], [5, 4, 3, 6, 6, 5, 6, 5, 4, 2, 1, 1, 0, 3, 2, 4]], [[16, 16, 16, 16, 16, 16, 16, 16, 16, 16, 16, 16, 16, 0, 16, 16], [16, 16, 16, 16, 16, 16, 16, 16, 16, 16, 16, 16, 1, 0, 16, 16], [16, 16, 16, 16, 16, 16, 16, 16, 16, 16, 2, 2, 1, 0, 3, 16], [16, 16, 16, 16, 16, 16, 16, 16, 16, 3, 2, 2, 1, 0, 3, 16], [16, 16, 4, 16, 16, 16, 16, 16, 5, 3, 2, 2, 1, 0, 3, 5], [16, 5, 4, 16, 16, 6, 16, 6, 5, 3, 2, 2, 1, 0, 3, 5], [6, 5, 4, 7, 7, 6, 7, 6, 5, 3, 2, 2, 1, 0, 3, 5], [6, 5, 4, 7, 7, 6, 7, 6, 5, 3, 2, 2, 1, 0, 3, 5], [6, 5, 4, 7, 7, 6, 7, 6, 5, 3, 2, 2, 1, 0, 3, 5]], [[16, 16, 16, 16, 16, 16, 16, 16, 16, 16, 16, 16, 16, 16, 0, 16], [16, 16, 16, 16, 16, 16, 16, 16, 16, 16, 16, 16, 16, 1, 0, 16], [16, 16, 16, 16, 16, 16, 16, 16, 16, 16, 16, 16, 2, 1, 0, 16], [16, 16, 16, 16, 16, 16, 16, 16, 16, 16, 3, 3, 2, 1, 0, 16], [16, 16, 16, 16, 16, 16, 16, 16, 16, 4, 3, 3, 2, 1, 0, 16], [16, 16, 5, 16, 16, 16, 16, 16, 6, 4, 3, 3, 2, 1, 0, 6], [16, 6, 5, 16, 16, 7, 16, 7, 6, 4, 3, 3, 2, 1, 0, 6], [7, 6, 5, 8, 8, 7, 8, 7, 6, 4, 3, 3, 2, 1, 0, 6], [7, 6, 5, 8, 8, 7, 8, 7, 6, 4, 3, 3, 2, 1, 0, 6]], [[16, 16, 16, 16, 16, 16, 16, 16, 16, 16, 16, 16, 16, 16, 16, 0], [16, 16, 16, 16, 16, 16, 16, 16, 16, 16, 16, 16, 1, 16, 1, 0], [16, 16, 16, 16, 16, 16, 16, 16, 16, 16, 2, 2, 1, 2, 1, 0], [16, 16, 16, 16, 16, 16, 16, 16, 16, 3, 2, 2, 1, 2, 1, 0], [16, 16, 4, 16, 16, 16, 16, 16, 5, 3, 2, 2, 1, 2, 1, 0], [16, 5, 4, 16, 16, 6, 16, 6, 5, 3, 2, 2, 1, 2, 1, 0], [6, 5, 4, 7, 7, 6, 7, 6, 5, 3, 2, 2, 1, 2, 1, 0], [6, 5, 4, 7, 7, 6, 7, 6, 5, 3, 2, 2, 1, 2, 1, 0], [6, 5, 4, 7, 7, 6, 7, 6, 5, 3, 2, 2, 1, 2, 1, 0]]]
def lTab (b r : Nat) : List Int32 := (zLT.getD b []).getD (if r < 8 then r else 8) []
def rep (c : Nat → Int32) (L : List Int32) : Prop := L.length = 16 ∧ ∀ a, a < 16 → c a = L.getD a 0
theorem rep_M {c : Nat → Int32} {L : List Int32} {s : Nat} {md : Int32} (h : rep c L) (hs : s < 16) : rep (frM c s md) (lM L s md) := by
  refine ⟨by unfold lM; rw [List.length_set]; exact h.1, fun a ha => ?_⟩
  have hn := nx_lt hs md
  unfold frM lM
  rw [h.2 s hs, h.2 _ hn]
  generalize (if L.getD s 0 ≤ L.getD (nx s md) 0 + 1 then L.getD s 0 else L.getD (nx s md) 0 + 1) = v
  by_cases hc : a = s
  · subst hc
    rw [upd_same, List.getD_eq_getElem?_getD, List.getElem?_set_self (by rw [h.1]; exact ha), Option.getD_some]
  · rw [upd_ne _ _ hc, h.2 a ha, List.getD_eq_getElem?_getD, List.getD_eq_getElem?_getD, List.getElem?_set_ne (Ne.symm hc)]
theorem rep_St {c : Nat → Int32} {L : List Int32} (h : rep c L) : ∀ k, k ≤ 16 → rep (frSt c k) (lSt L k)
  | 0, _ => h
  | k + 1, hk => rep_M (rep_M (rep_St h k (by omega)) (by omega)) (by omega)
set_option maxRecDepth 100000 in
theorem lTab_0 : ∀ b, b < 16 → lTab b 0 = (List.range 16).map (fun a => if a = b then 0 else 16) := by decide +kernel
set_option maxRecDepth 100000 in
theorem lTab_s : ∀ b, b < 16 → ∀ r, r < 16 → lSt (lTab b r) 16 = lTab b (r + 1) := by decide +kernel
set_option maxRecDepth 100000 in
theorem lTab_e : ∀ b, b < 16 → ∀ a, a < 16 → (lTab b 16).getD a 0 = nI (dst a b) := by decide +kernel
theorem rep_Rd {c : Nat → Int32} {b : Nat} (hb : b < 16) (h : rep c (lTab b 0)) : ∀ r, r ≤ 16 → rep (frRd c r) (lTab b r)
  | 0, _ => h
  | r + 1, hr => by
    rw [← lTab_s b hb r (by omega)]
    exact rep_St (rep_Rd hb h r (by omega)) 16 (Nat.le_refl _)
theorem frRd_all {b : Nat} (hb : b < 16) (F : Nat → Int32) : ∀ a, a < 16 → frRd (frI b F 16) 16 a = nI (dst a b) := by
  intro a ha
  have h0 : rep (frI b F 16) (lTab b 0) := by
    rw [lTab_0 b hb]
    refine ⟨by simp, fun a ha => ?_⟩
    unfold frI
    rw [if_pos ha]
    simp [List.getD_eq_getElem?_getD, List.getElem?_map, List.getElem?_range ha]
  rw [(rep_Rd hb h0 16 (Nat.le_refl _)).2 a ha]
  exact lTab_e b hb a ha
theorem zMd_lt {a b : Nat} (ha : a < 16) (hb : b < 16) (h : ¬ nI (dst a b) ≤ nI (dst (nx a 0) b)) : zMd a b = 0 := by
  have h1 := dst_lt a ha b hb
  have h2 := dst_lt (nx a 0) (nx_lt ha 0) b hb
  unfold zMd
  rw [if_pos (Nat.lt_of_not_le fun z => h (nI_le z (by omega)))]
theorem zMd_ge {a b : Nat} (ha : a < 16) (hb : b < 16) (h : nI (dst a b) ≤ nI (dst (nx a 0) b)) : zMd a b = 1 := by
  have h1 := dst_lt a ha b hb
  have h2 := dst_lt (nx a 0) (nx_lt ha 0) b hb
  unfold zMd
  rw [if_neg (Nat.not_lt.mpr ((nI_leI (by omega) (by omega)).mp h))]
def zZero (X : zCV) : zCV := uj X 2 (zrs (X 2) 8)
theorem zZero_WF {X : zCV} (h : zWF X) : zWF (zZero X) := by
  have h0 : zZero X 0 = X 0 := uj_ne _ _ (by omega)
  obtain ⟨h1, h2, h3, h4⟩ := h
  refine ⟨?_, ?_, ?_, fun q hq => ?_⟩
  · unfold num at h1 ⊢; rw [h0]; exact h1
  · unfold stt at h2 ⊢; rw [h0]; exact h2
  · unfold cnt at h3 ⊢; rw [h0]; exact h3
  · have hq' : q < num X := by unfold num at hq ⊢; rw [h0] at hq; exact hq
    unfold zZero
    rw [uj_ne _ _ (by omega)]
    exact h4 q hq'
theorem cnt_zero (X : zCV) : cnt (zZero X) = cnt X := by
  unfold cnt zZero
  rw [uj_ne _ _ (by decide)]
def mIdent (X : zCV) : zCV := zGo (zIdL 8 (zZero (zForget (zGo (zTkN 5 X) 4)))) 1
theorem zLm_eq {la : Int32} {L k : Nat} (hla : la = 0 ∨ la = 1) (hk : k < L) (hL : L ≤ 8) (h : nI k = nI L - 1) : zLm la L k = la := by
  rcases hla with rfl | rfl
  · exact zLm_0 rfl
  · exact zLm_y (by decide) hk hL h
theorem zLm_nn {la : Int32} {L k : Nat} (hla : la = 0 ∨ la = 1) (hk : k < L) (hL : L ≤ 8) (h : ¬ nI k = nI L - 1) : zLm la L k = 0 := by
  rcases hla with rfl | rfl
  · exact zLm_0 rfl
  · exact zLm_n (by decide) hk hL h
theorem zThX_congr {x y : Int32} {L : Nat} {la : Int32} (X : zCV) : ∀ b, (∀ q, q < b → zBit x q = zBit y q) → zThX x L la b X = zThX y L la b X
  | 0, _ => rfl
  | b + 1, h => by
    show zTick (zThX x L la b X) _ (zBit x b) = zTick (zThX y L la b X) _ (zBit y b)
    rw [zThX_congr X b (fun q hq => h q (by omega)), h b (by omega)]
set_option maxRecDepth 100000 in
theorem bits_in : ∀ x, x < 64 → ∀ L, L < 7 → ∀ b, b < L → zBit (nI x &&& zOnes (nI L)) b = zBit (nI x) b := by decide +kernel
set_option maxRecDepth 100000 in
theorem bits_63 : ∀ L, L < 7 → ∀ b, b < L → zBit (63 &&& zOnes (nI L)) b = zBit (zOnes (nI L)) b := by decide +kernel
theorem zDig_hex (c : Int32) : (zDig c = -4 ↔ zHex c = -1) ∧ (¬ zHex c = -1 → zDig c = zHex c) := by
  have e2 : zHex2 c = if zin c 97 102 = 0 then -1 else c - 97 + 10 := by
    unfold zHex2 zin
    by_cases h1 : c < 97
    · rw [if_pos h1, if_pos h1, if_pos rfl]
    · rw [if_neg h1, if_neg h1]
      by_cases h2 : 102 < c
      · rw [if_pos h2, if_pos h2, if_pos rfl]
      · rw [if_neg h2, if_neg h2, if_neg (by decide)]
  have e1 : zHex c = if zin c 48 57 = 0 then zHex2 c else c - 48 := by
    unfold zHex zin
    by_cases h1 : c < 48
    · rw [if_pos h1, if_pos h1, if_pos rfl]
    · rw [if_neg h1, if_neg h1]
      by_cases h2 : 57 < c
      · rw [if_pos h2, if_pos h2, if_pos rfl]
      · rw [if_neg h2, if_neg h2, if_neg (by decide)]
  have key : ∀ m, m < 16 → (nI m = -4 ↔ nI m = -1) := by decide +kernel
  unfold zDig
  by_cases h1 : zin c 48 57 = 0
  · rw [if_pos h1]
    rw [if_pos h1, e2] at e1
    by_cases h2 : zin c 97 102 = 0
    · rw [if_pos h2] at e1 ⊢
      exact ⟨⟨fun _ => e1, fun _ => rfl⟩, fun z => absurd e1 z⟩
    · rw [if_neg h2] at e1 ⊢
      refine ⟨?_, fun _ => e1.symm⟩
      rw [← e1]
      refine ⟨fun z => ?_, fun z => ?_⟩
      · by_cases h3 : zHex c = -1
        · exact h3
        · obtain ⟨a, b⟩ := zHex_in h3
          rw [a] at z ⊢
          exact (key _ b).mp z
      · exfalso
        have hc := zin_1 h2
        rw [e1] at z
        have : c = 97 - 10 - 1 := by
          have h5 : c - 97 + 10 - 10 + 97 = -1 - 10 + 97 := by rw [z]
          rw [Int32.add_sub_cancel, Int32.sub_add_cancel] at h5
          rw [h5]
          decide
        rw [this] at hc
        exact absurd hc.1 (by decide)
  · rw [if_neg h1]
    rw [if_neg h1] at e1
    refine ⟨?_, fun _ => e1.symm⟩
    rw [← e1]
    refine ⟨fun z => ?_, fun z => ?_⟩
    · by_cases h3 : zHex c = -1
      · exact h3
      · obtain ⟨a, b⟩ := zHex_in h3
        rw [a] at z ⊢
        exact (key _ b).mp z
    · exfalso
      have hc := zin_1 h1
      rw [e1] at z
      have : c = 48 - 1 := by
        have h5 : c - 48 + 48 = -1 + 48 := by rw [z]
        rw [Int32.sub_add_cancel] at h5
        rw [h5]
        decide
      rw [this] at hc
      exact absurd hc.1 (by decide)
