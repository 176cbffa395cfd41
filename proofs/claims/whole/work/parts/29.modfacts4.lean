/-! ===== facts for the reference's face ===== -/
theorem in_ix {v : Int32} {m : Nat} (hm : m < 2 ^ 31) (h : ¬ zin v 0 (nI m) = 0) : ∃ t, t ≤ m ∧ v = nI t := by
  obtain ⟨h1, h2⟩ := zin_1 h
  obtain ⟨j, hj, rfl⟩ := nI_of (Int32.not_lt.mpr h1)
  exact ⟨j, Nat.not_lt.mp fun z => absurd (nI_lt z hj) (Int32.not_lt.mpr h2), rfl⟩
theorem zin_zis (b : Int32) : zin b 0 15 = zis b := by
  unfold zin zis
  by_cases h1 : b < 0
  · rw [if_pos h1, if_pos h1]
  · rw [if_neg h1, if_neg h1]
    obtain ⟨j, hj, rfl⟩ := nI_of h1
    by_cases h2 : 16 ≤ j
    · rw [if_pos (show (15 : Int32) < nI j from nI_lt (a := 15) (by omega) hj), if_pos (show (16 : Int32) ≤ nI j from nI_le (a := 16) h2 hj)]
    · rw [if_neg (show ¬ (15 : Int32) < nI j from nI_nlt (a := 15) (by omega) (by omega)), if_neg (show ¬ (16 : Int32) ≤ nI j from nI_ge (b := 16) (by omega) (by decide))]
theorem zMv_00 {X : zCV} {t k w : Nat} : zMv X t k 0 w = X 0 w := by
  unfold zMv
  rw [if_neg (by omega)]
theorem zTell_w {c : Nat → Int32} (hc : c 5 = 0 ∨ c 5 = 1) : ∀ w, w < 9 → zTell c (nI w) = c w := by
  intro w hw
  rcases (show w = 0 ∨ w = 1 ∨ w = 2 ∨ w = 3 ∨ w = 4 ∨ w = 5 ∨ w = 6 ∨ w = 7 ∨ w = 8 by omega) with rfl | rfl | rfl | rfl | rfl | rfl | rfl | rfl | rfl
  case inr.inr.inr.inr.inr.inl =>
    show (if c 5 = 0 then 0 else 1) = c 5
    rcases hc with h | h <;> rw [h] <;> rfl
  all_goals rfl
theorem zSum_brk {X : zCV} (hW : zWF X) : zSum (fun c => c 5) X = zSum zBrk X := by
  unfold zSum
  have : ∀ k, k ≤ num X → zSumL (fun c => c 5) X k = zSumL zBrk X k := by
    intro k
    induction k with
    | zero => intro _; rfl
    | succ k ih =>
      intro hk
      show zSumL (fun c => c 5) X k + X (k + 3) 5 = zSumL zBrk X k + zBrk (X (k + 3))
      rw [ih (by omega)]
      have h5 := (hW.chip (t := k) (by omega)).2.2.1
      unfold zBrk
      rcases h5 with h | h <;> rw [h] <;> rfl
  exact this _ (Nat.le_refl _)
theorem new_row {c0 : Nat → Int32} (cl id ce : Int32) : ∀ k, k < 9 → zNew cl id ce k = zFirst (upd (upd (upd (zrs c0 9) 0 cl) 1 id) 2 ce) k := by
  intro k hk
  rcases (show k = 0 ∨ k = 1 ∨ k = 2 ∨ k = 3 ∨ k = 4 ∨ k = 5 ∨ k = 6 ∨ k = 7 ∨ k = 8 by omega) with rfl | rfl | rfl | rfl | rfl | rfl | rfl | rfl | rfl <;> rfl
theorem zDig_nI {c : Int32} (h : ¬ zHex c = -1) : zDig c = nI (hexN c) := by rw [(zDig_hex c).2 h]; exact (zHex_in h).1
theorem flt_w1 {T : Nat → Int32} {f k : Nat} {w : Int32} : zFltL T (f + 1) k w = if zFit w (T k) = 0 then nI k else zFltL T f (k + 1) (zNw w (T k)) := rfl
def zRunF (T : Nat → Int32) (L : Nat) : Nat → Nat → (Nat → Int32) → (Nat → Int32)
  | 0, _, F => F
  | f + 1, k, F => if k < L then (if T k = 63 then zRunF T L f (k + 1) F else if T k = 64 then zRunF T L f (k + 2) (farF (hexN (T (k + 1)))) else zRunF T L f (k + 1) F) else F
theorem zRunF_end {T : Nat → Int32} {L k : Nat} (h : ¬ k < L) (f : Nat) (F : Nat → Int32) : zRunF T L f k F = F := by
  cases f with
  | zero => rfl
  | succ f => rw [zRunF, if_neg h]
theorem trt {S : zS} {F : Nat → Int32} {X : zCV} {t : Nat} (h : t < 80) : tr 80 (up (fr S F) 8 X 15 1) t = S 15 1 t := by
  rw [tr_lt h, up_ne _ _ (by decide)]
  unfold fr
  rw [up_same, uj_ne _ _ (by decide)]
theorem bit01 (c : Int32) : (if c = 97 then (1 : Int32) else if c = 98 then 1 else 0) = zCm c := rfl
theorem fr_15 (S : zS) (F : Nat → Int32) : fr S F 15 2 = F := by
  unfold fr
  rw [up_same, uj_same]
theorem fr_ne (S : zS) (F : Nat → Int32) {i : Nat} (h : i ≠ 15) : fr S F i = S i := up_ne _ _ h
def inM (c : Int32) : Int32 := if c = 48 then 0 else if c = 97 then 0 else 1
theorem flt_item {T : Nat → Int32} {f k : Nat} (hk : k < 2 ^ 31) (h : zFltL T (f + 1) k 0 = -4) : ¬ zItem (T k) = 0 := by
  intro z
  rw [flt_w1, if_pos (show zFit 0 (T k) = 0 from z)] at h
  exact nI_ne4 hk h
theorem inM_ci {c : Int32} (h : ¬ zItem c = 0) (h63 : ¬ c = 63) (h64 : ¬ c = 64) : inM c = zCi c := by
  by_cases h1 : c = 48
  · rw [h1]; rfl
  by_cases h2 : c = 49
  · rw [h2]; rfl
  by_cases h3 : c = 97
  · rw [h3]; rfl
  by_cases h4 : c = 98
  · rw [h4]; rfl
  exfalso
  apply h
  unfold zItem
  rw [if_neg h1, if_neg h2, if_neg h3, if_neg h4, if_neg h63, if_neg h64]
