/-! ===== small facts for the rows of History and Master ===== -/
theorem zMd_1 {a b d : Nat} (ha : a < 16) (hb : b < 16) (hd : dst a b = d + 1) (h : ¬ nI (dst (nx a 0) b) = nI d) : zMd a b = 1 := by
  have hne : a ≠ b := fun z => by have := (dst_0 a ha b hb).mpr z; omega
  have h1 := dst_t a ha b hb hne
  unfold zMd
  rw [if_neg (fun z => h (by rw [show dst (nx a 0) b = d by have := h1.mpr z; omega]))]
theorem zMd_0 {a b d : Nat} (ha : a < 16) (hb : b < 16) (hd : dst a b = d + 1) (h : nI (dst (nx a 0) b) = nI d) : zMd a b = 0 := by
  have h16 := dst_lt (nx a 0) (nx_lt ha 0) b hb
  have h17 := dst_lt a ha b hb
  have he : dst (nx a 0) b = d := (nI_eq (by omega) (by omega)).mp h
  unfold zMd
  rw [if_pos (by omega)]
theorem dst_go {a b d : Nat} (ha : a < 16) (hb : b < 16) (hd : dst a b = d + 1) : dst (nx a (zMd a b)) b = d := by
  have hne : a ≠ b := fun z => by have := (dst_0 a ha b hb).mpr z; omega
  have := dst_s a ha b hb hne
  omega
theorem zLm_0 {la : Int32} {L k : Nat} (h : la = 0) : zLm la L k = 0 := if_pos h
theorem zLm_n {la : Int32} {L k : Nat} (h : ¬ la = 0) (hk : k < L) (hL : L ≤ 8) (h2 : ¬ nI k = nI L - 1) : zLm la L k = 0 := by
  unfold zLm
  rw [if_neg h, if_neg (fun z => h2 (by rw [← z, nI_pred]))]
theorem zLm_y {la : Int32} {L k : Nat} (h : ¬ la = 0) (hk : k < L) (hL : L ≤ 8) (h2 : nI k = nI L - 1) : zLm la L k = 1 := by
  have h3 : k = L - 1 := (nI_eq (by omega) (by omega)).mp (by rw [h2, nI_sub1 (by omega)])
  unfold zLm
  rw [if_neg h, if_pos (by omega)]
theorem nI_ne4 {k : Nat} (h : k < 2 ^ 31) : ¬ nI k = -4 := fun z => by
  have h1 := nI_toInt h
  rw [z] at h1
  have h2 : (-4 : Int32).toInt = -4 := by decide
  omega
theorem flt_ot {T : Nat → Int32} {f k : Nat} (hk : k < 2 ^ 31) (h : zFltL T (f + 1) k 0 = -4) (hc : ¬ T k = 64) : zFltL T f (k + 1) 0 = -4 := by
  unfold zFltL at h
  by_cases h1 : zFit 0 (T k) = 0
  · rw [if_pos h1] at h; exact absurd h (nI_ne4 hk)
  · rw [if_neg h1] at h
    have : zNw 0 (T k) = 0 := by unfold zNw; rw [if_pos rfl, if_neg hc]
    rw [this] at h
    exact h
theorem flt_at {T : Nat → Int32} {f k : Nat} (hk : k + 1 < 2 ^ 31) (h : zFltL T (f + 1) k 0 = -4) (hc : T k = 64) : ∃ f', f = f' + 1 ∧ ¬ zHex (T (k + 1)) = -1 ∧ zFltL T f' (k + 2) 0 = -4 := by
  unfold zFltL at h
  by_cases h1 : zFit 0 (T k) = 0
  · rw [if_pos h1] at h; exact absurd h (nI_ne4 (by omega))
  · rw [if_neg h1] at h
    have : zNw 0 (T k) = 1 := by unfold zNw; rw [if_pos rfl, if_pos hc]
    rw [this] at h
    cases f with
    | zero =>
      unfold zFltL at h
      rw [if_pos (by omega), if_neg (by decide)] at h
      exact absurd h (nI_ne4 hk)
    | succ f =>
      refine ⟨f, rfl, ?_⟩
      unfold zFltL at h
      by_cases h2 : zFit 1 (T (k + 1)) = 0
      · rw [if_pos h2] at h; exact absurd h (nI_ne4 hk)
      · rw [if_neg h2] at h
        have hn : zNw 1 (T (k + 1)) = 0 := by unfold zNw; rw [if_neg (by decide)]
        rw [hn] at h
        refine ⟨fun z => h2 ?_, h⟩
        unfold zFit
        rw [if_neg (by decide), if_pos z]
theorem lt_neg {c : Int32} {k : Nat} (hk : k < 2 ^ 31) (h : c.toInt < 0) : c < nI k := by
  rw [Int32.lt_iff_toInt_lt, nI_toInt hk]
  omega
theorem lt_big {c : Int32} {k : Nat} (hk : k < 2 ^ 31) (h : (k : Int) < c.toInt) : nI k < c := by
  rw [Int32.lt_iff_toInt_lt, nI_toInt hk]
  exact h
theorem zHex_in {c : Int32} (h : ¬ zHex c = -1) : zHex c = nI (hexN c) ∧ hexN c < 16 := by
  have key : ∀ m, m < 16 → zHex c = nI m → zHex c = nI (hexN c) ∧ hexN c < 16 := by
    intro m hm e
    have : hexN c = m := by unfold hexN; rw [e, nI_clamp (by omega)]
    rw [this]
    exact ⟨e, hm⟩
  have c2 : zHex2 c = -1 ∨ ∃ m, m < 16 ∧ zHex2 c = nI m := by
    unfold zHex2
    by_cases h1 : c < 97
    · rw [if_pos h1]; exact Or.inl rfl
    · rw [if_neg h1]
      by_cases h2 : 102 < c
      · rw [if_pos h2]; exact Or.inl rfl
      · rw [if_neg h2]
        rcases sw_cases c 102 (by decide) with h3 | h3 | ⟨w, hw, rfl⟩
        · exact absurd (lt_neg (k := 97) (by decide) h3) h1
        · exact absurd (lt_big (k := 102) (by decide) h3) h2
        · have h97 : 97 ≤ w := Nat.not_lt.mp fun z => h1 (nI_lt (b := 97) z (by decide))
          refine Or.inr ⟨w - 97 + 10, by omega, ?_⟩
          rcases (show w = 97 ∨ w = 98 ∨ w = 99 ∨ w = 100 ∨ w = 101 ∨ w = 102 by omega) with rfl | rfl | rfl | rfl | rfl | rfl <;> decide
  by_cases h1 : c < 48
  · have e : zHex c = zHex2 c := by unfold zHex; rw [if_pos h1]
    rcases c2 with h2 | ⟨m, hm, h2⟩
    · exact absurd (e.trans h2) h
    · exact key m hm (e.trans h2)
  · by_cases h2 : 57 < c
    · have e : zHex c = zHex2 c := by unfold zHex; rw [if_neg h1, if_pos h2]
      rcases c2 with h3 | ⟨m, hm, h3⟩
      · exact absurd (e.trans h3) h
      · exact key m hm (e.trans h3)
    · have e : zHex c = c - 48 := by unfold zHex; rw [if_neg h1, if_neg h2]
      rcases sw_cases c 57 (by decide) with h3 | h3 | ⟨w, hw, rfl⟩
      · exact absurd (lt_neg (k := 48) (by decide) h3) h1
      · exact absurd (lt_big (k := 57) (by decide) h3) h2
      · have h48 : 48 ≤ w := Nat.not_lt.mp fun z => h1 (nI_lt (b := 48) z (by decide))
        refine key (w - 48) (by omega) (e.trans ?_)
        rcases (show w = 48 ∨ w = 49 ∨ w = 50 ∨ w = 51 ∨ w = 52 ∨ w = 53 ∨ w = 54 ∨ w = 55 ∨ w = 56 ∨ w = 57 by omega) with rfl | rfl | rfl | rfl | rfl | rfl | rfl | rfl | rfl | rfl <;> decide
theorem zRunO_end {T : Nat → Int32} {L k : Nat} (h : ¬ k < L) (f : Nat) (o : Int32) (q : Nat) (X : zCV) : zRunO T L f k o q X = o := by
  cases f with
  | zero => rfl
  | succ f => unfold zRunO; rw [if_neg h]
theorem zRunX_end {T : Nat → Int32} {L k : Nat} (h : ¬ k < L) (f : Nat) (X : zCV) : zRunX T L f k X = X := by
  cases f with
  | zero => rfl
  | succ f => unfold zRunX; rw [if_neg h]
/-! the history -/
theorem pcOg {G : zG} {S : zS} {i : Nat} (hi : i < 7) : pic G S i 0 = .inr (0, [.ref (zad G i 1), .int (S i 0 0), .int (S i 0 1), .int (S i 0 2), .ref (zad G i 2), .int (S i 0 3)]) := by
  rw [pic_c hi]; rfl
theorem rc_rot {S : zS} {k q : Nat} (h : k ≤ q) : rc (up S 7 (uj (S 7) 1 (rotL (S 7 1) k))) q = rc S q := by
  unfold rc
  rw [up_same, uj_same, rotL_ge h]
theorem rot_put {S : zS} {k : Nat} (hH : hWF S) (hk : k < 3) : up (up S 7 (uj (S 7) 1 (rotL (S 7 1) k))) 7 (uj (up S 7 (uj (S 7) 1 (rotL (S 7 1) k)) 7) 1 (upd (up S 7 (uj (S 7) 1 (rotL (S 7 1) k)) 7 1) k (nI (rc S (k + 1))))) = up S 7 (uj (S 7) 1 (rotL (S 7 1) (k + 1))) := by
  rw [up_same, up_up, uj_same, uj_uj, ← (hH.2.1 (k + 1) (by omega)).1, rotL_s]
theorem hWF_drop {S : zS} (h : hWF S) : hWF (zDrop S) ∧ hsz (zDrop S) = 3 := by
  have h0 : zDrop S 7 0 = upd (S 7 0) 0 3 := by unfold zDrop; rw [up_same, uj_same]
  have h1 : zDrop S 7 1 = upd (rotL (S 7 1) 3) 3 (S 7 1 0) := by unfold zDrop; rw [up_same, uj_ne _ _ (by decide), uj_same]
  have hz : hsz (zDrop S) = 3 := by unfold hsz; rw [h0]; rfl
  have hr : ∀ k, k < 4 → zDrop S 7 1 k = S 7 1 (if k = 3 then 0 else k + 1) := by
    intro k hk
    rw [h1]
    by_cases h3 : k = 3
    · subst h3; rw [upd_same]; rfl
    · rw [upd_ne _ _ h3, if_neg h3]
      unfold rotL
      rw [if_pos (by omega)]
  have hrc : ∀ k, k < 4 → rc (zDrop S) k = rc S (if k = 3 then 0 else k + 1) := fun k hk => by unfold rc; rw [hr k hk]
  obtain ⟨-, ha, hb⟩ := h
  refine ⟨⟨⟨by rw [hz, h0]; rfl, by omega⟩, fun k hk => ?_, fun k hk q hq e => ?_⟩, hz⟩
  · rw [hr k hk, hrc k hk]
    exact ha _ (by split <;> omega)
  · rw [hrc k hk, hrc q hq] at e
    have := hb _ (by split <;> omega) _ (by split <;> omega) e
    split at this <;> split at this <;> omega
theorem zDrop_ne {S : zS} {i : Nat} (h : i ≠ 7) : zDrop S i = S i := up_ne _ _ h
/-! the reading of an identity -/
theorem shl_or : ∀ k, k < 7 → ∀ A o : Int32, (A ||| (o <<< (nI k &&& 31))) <<< ((1 : Int32) &&& 31) = (A <<< ((1 : Int32) &&& 31)) ||| (o <<< (nI (k + 1) &&& 31)) := by
  intro k hk A o
  apply Int32.toBitVec_inj.mp
  have e : ∀ j : Nat, j < 8 → (nI j &&& 31).toBitVec.smod 32 = BitVec.ofNat 32 j := by decide +kernel
  have e1 : ((1 : Int32) &&& 31).toBitVec.smod 32 = BitVec.ofNat 32 1 := by decide +kernel
  simp only [Int32.toBitVec_or, Int32.toBitVec_shiftLeft, e k (by omega), e (k + 1) (by omega), e1]
  rw [BitVec.shiftLeft_eq', BitVec.shiftLeft_eq', BitVec.shiftLeft_eq', BitVec.shiftLeft_eq']
  have h1 : (BitVec.ofNat 32 1).toNat = 1 := rfl
  have h2 : (BitVec.ofNat 32 k).toNat = k := by rw [BitVec.toNat_ofNat]; omega
  have h3 : (BitVec.ofNat 32 (k + 1)).toNat = k + 1 := by rw [BitVec.toNat_ofNat]; omega
  rw [h1, h2, h3, BitVec.shiftLeft_or_distrib, BitVec.shiftLeft_add]
/-- k clocks with the mode 0 and the input 1 -/
def mX : Nat → zCV → zCV
  | 0, X => X
  | k + 1, X => zTick (mX k X) 0 1
def mO : Nat → zCV → Int32
  | 0, _ => 1
  | k + 1, X => mO k X ||| (zOut (mX k X) 1 <<< (nI (k + 1) &&& 31))
theorem bit127 : ∀ b, b < 7 → zBit (zOnes 7) b = 1 := by decide +kernel
theorem mX_th : ∀ k, k ≤ 7 → ∀ X, mX k X = zThX (zOnes 7) 7 0 k X
  | 0, _, _ => rfl
  | k + 1, hk, X => by
    show zTick (mX k X) 0 1 = zTick (zThX (zOnes 7) 7 0 k X) (zLm 0 7 k) (zBit (zOnes 7) k)
    rw [mX_th k (by omega), bit127 k (by omega), zLm_0 rfl]
theorem or_assoc32 (a b c : Int32) : a ||| b ||| c = a ||| (b ||| c) := Int32.or_assoc a b c
theorem mO_th : ∀ k, k ≤ 7 → ∀ X, mO k X = (1 : Int32) ||| (zThO (zOnes 7) 7 0 k X <<< ((1 : Int32) &&& 31))
  | 0, _, _ => by
    show (1 : Int32) = (1 : Int32) ||| ((0 : Int32) <<< ((1 : Int32) &&& 31))
    decide
  | k + 1, hk, X => by
    show mO k X ||| (zOut (mX k X) 1 <<< (nI (k + 1) &&& 31)) = (1 : Int32) ||| ((zThO (zOnes 7) 7 0 k X ||| (zOut (zThX (zOnes 7) 7 0 k X) (zBit (zOnes 7) k) <<< (nI k &&& 31))) <<< ((1 : Int32) &&& 31))
    rw [shl_or k (by omega), mO_th k (by omega), mX_th k (by omega), bit127 k (by omega), or_assoc32]
theorem mX_WF : ∀ k {X : zCV}, zWF X → zWF (mX k X)
  | 0, _, h => h
  | k + 1, _, h => zTick_WF (mX_WF k h)
theorem one_or_ne (a : Int32) : ¬ ((1 : Int32) ||| a) = 0 := by
  intro h
  have h1 := congrArg (fun x : Int32 => x.toBitVec.getLsbD 0) h
  simp [Int32.toBitVec_or, BitVec.getLsbD_or] at h1
theorem mO_ne (k : Nat) (hk : k ≤ 7) (X : zCV) : ¬ mO k X = 0 := by
  rw [mO_th k hk]
  exact one_or_ne _
theorem bit_01 (a : Int32) : a &&& 1 = 0 ∨ a &&& 1 = 1 := by
  have h : ∀ b : BitVec 32, b &&& 1#32 = 0#32 ∨ b &&& 1#32 = 1#32 := by
    intro b
    have e : (b &&& 1#32).toNat = b.toNat % 2 := by
      rw [BitVec.toNat_and]
      exact Nat.and_one_is_mod _
    rcases Nat.mod_two_eq_zero_or_one b.toNat with z | z
    · exact Or.inl (BitVec.eq_of_toNat_eq (e.trans z))
    · exact Or.inr (BitVec.eq_of_toNat_eq (e.trans z))
  rcases h a.toBitVec with z | z
  · exact Or.inl (Int32.toBitVec_inj.mp z)
  · exact Or.inr (Int32.toBitVec_inj.mp z)
theorem zOut_1 {X : zCV} (h : ¬ zOut X 1 = 0) : zOut X 1 = 1 := by
  have hd : ∀ c : Nat → Int32, zDO c = 0 ∨ zDO c = 1 := fun c => by unfold zDO; split <;> first | exact bit_01 _ | exact Or.inr rfl
  have hc : ∀ c : Nat → Int32, zCO c = 0 ∨ zCO c = 1 := fun c => by unfold zCO; split <;> first | exact bit_01 _ | exact Or.inr rfl
  have ho : zOut X 1 = 0 ∨ zOut X 1 = 1 := by
    unfold zOut
    split
    · split
      · exact Or.inr rfl
      · exact hd _
    · split
      · split
        · exact Or.inr rfl
        · exact hc _
      · exact Or.inr rfl
  exact ho.resolve_left h
