/-! ===== the controller: the next state, how far it is from state to state ===== -/
def zis (x : Int32) : Int32 := if x < 0 then 0 else if 16 ≤ x then 0 else 1
theorem zis_ok {a : Nat} (h : a < 16) : zis (nI a) = 1 := by
  unfold zis
  rw [if_neg (nI_pos (by omega)), if_neg (show ¬ (16 : Int32) ≤ nI a from nI_ge (b := 16) h (by decide))]
def zNx (a : Nat) (md : Int32) : Int32 := if md = 0 then zN0 a else zN1 a
theorem zNx_0 (a : Nat) : zNx a 0 = zN0 a := if_pos rfl
theorem zNx_1 (a : Nat) : zNx a 1 = zN1 a := if_neg (by decide)
def noaL (x : Int32) : Nat → Int32
  | 0 => 0
  | k + 1 => if (x >>> (nI k &&& 31)) &&& 1 = 1 then noaL x k ||| ((1 <<< (zN0 k &&& 31)) ||| (1 <<< (zN1 k &&& 31))) else noaL x k
def noa (x : Int32) : Int32 := noaL x 16
def rch (a : Nat) : Nat → Int32
  | 0 => 1 <<< (nI a &&& 31)
  | k + 1 => noa (rch a k)
def zRT : List Nat := [1, 3, 7, 527, 1599, 8063, 49151, 65535, 65535, 65535, 65535, 65535, 65535, 65535, 65535, 65535, 2, 6, 526, 1599, 8063, 49151, 65535, 65535, 65535, 65535, 65535, 65535, 65535, 65535, 65535, 65535, 4, 520, 1073, 6515, 47607, 64511, 65535, 65535, 65535, 65535, 65535, 65535, 65535, 65535, 65535, 65535, 8, 48, 368, 502, 1022, 2047, 8191, 49151, 65535, 65535, 65535, 65535, 65535, 65535, 65535, 65535, 16, 48, 368, 502, 1022, 2047, 8191, 49151, 65535, 65535, 65535, 65535, 65535, 65535, 65535, 65535, 32, 320, 198, 990, 2047, 8191, 49151, 65535, 65535, 65535, 65535, 65535, 65535, 65535, 65535, 65535, 64, 192, 464, 502, 1022, 2047, 8191, 49151, 65535, 65535, 65535, 65535, 65535, 65535, 65535, 65535, 128, 272, 54, 894, 2047, 8191, 49151, 65535, 65535, 65535, 65535, 65535, 65535, 65535, 65535, 65535, 256, 6, 526, 1599, 8063, 49151, 65535, 65535, 65535, 65535, 65535, 65535, 65535, 65535, 65535, 65535, 512, 1025, 6147, 47111, 64015, 65087, 65407, 65535, 65535, 65535, 65535, 65535, 65535, 65535, 65535, 65535, 1024, 6144, 47104, 63494, 64014, 65087, 65407, 65535, 65535, 65535, 65535, 65535, 65535, 65535, 65535, 65535, 2048, 6144, 47104, 63494, 64014, 65087, 65407, 65535, 65535, 65535, 65535, 65535, 65535, 65535, 65535, 65535, 4096, 40960, 24582, 59918, 65087, 65407, 65535, 65535, 65535, 65535, 65535, 65535, 65535, 65535, 65535, 65535, 8192, 24576, 59392, 63494, 64014, 65087, 65407, 65535, 65535, 65535, 65535, 65535, 65535, 65535, 65535, 65535, 16384, 34816, 6150, 47630, 65087, 65407, 65535, 65535, 65535, 65535, 65535, 65535, 65535, 65535, 65535, 65535, 32768, 6, 526, 1599, 8063, 49151, 65535, 65535, 65535, 65535, 65535, 65535, 65535, 65535, 65535, 65535]
def zDT : List Nat := [0, 1, 2, 3, 4, 4, 5, 6, 5, 3, 4, 5, 5, 6, 7, 6, 3, 0, 1, 2, 3, 3, 4, 5, 4, 2, 3, 4, 4, 5, 6, 5, 2, 3, 0, 1, 2, 2, 3, 4, 3, 1, 2, 3, 3, 4, 5, 4, 5, 3, 3, 0, 1, 1, 2, 3, 2, 4, 5, 6, 6, 7, 8, 7, 5, 3, 3, 4, 0, 1, 2, 3, 2, 4, 5, 6, 6, 7, 8, 7, 4, 2, 2, 3, 3, 0, 1, 2, 1, 3, 4, 5, 5, 6, 7, 6, 5, 3, 3, 4, 2, 3, 0, 1, 2, 4, 5, 6, 6, 7, 8, 7, 4, 2, 2, 3, 1, 2, 3, 0, 1, 3, 4, 5, 5, 6, 7, 6, 3, 1, 1, 2, 3, 3, 4, 5, 0, 2, 3, 4, 4, 5, 6, 5, 1, 2, 3, 4, 5, 5, 6, 7, 6, 0, 1, 2, 2, 3, 4, 3, 5, 3, 3, 4, 5, 5, 6, 7, 6, 4, 0, 1, 1, 2, 3, 2, 5, 3, 3, 4, 5, 5, 6, 7, 6, 4, 5, 0, 1, 2, 3, 2, 4, 2, 2, 3, 4, 4, 5, 6, 5, 3, 4, 3, 0, 1, 2, 1, 5, 3, 3, 4, 5, 5, 6, 7, 6, 4, 5, 2, 3, 0, 1, 2, 4, 2, 2, 3, 4, 4, 5, 6, 5, 3, 4, 1, 2, 3, 0, 1, 3, 1, 1, 2, 3, 3, 4, 5, 4, 2, 3, 4, 4, 5, 6, 0]
def rtab (a k : Nat) : Int32 := nI (zRT.getD (16 * a + k) 0)
/-- how many clocks lead from a to b -/
def dst (a b : Nat) : Nat := zDT.getD (16 * a + b) 0
set_option maxRecDepth 100000 in
theorem rtab_0 : ∀ a, a < 16 → (1 : Int32) <<< (nI a &&& 31) = rtab a 0 := by decide +kernel
set_option maxRecDepth 100000 in
theorem rtab_s : ∀ a, a < 16 → ∀ k, k < 15 → noa (rtab a k) = rtab a (k + 1) := by decide +kernel
theorem rch_tab {a : Nat} (ha : a < 16) : ∀ k, k < 16 → rch a k = rtab a k
  | 0, _ => rtab_0 a ha
  | k + 1, h => by
    show noa (rch a k) = _
    rw [rch_tab ha k (by omega)]
    exact rtab_s a ha k (by omega)
set_option maxRecDepth 100000 in
theorem dst_lt : ∀ a, a < 16 → ∀ b, b < 16 → dst a b < 16 := by decide +kernel
set_option maxRecDepth 100000 in
theorem dst_hit0 : ∀ a, a < 16 → ∀ b, b < 16 → ¬ (rtab a (dst a b) >>> (nI b &&& 31)) &&& 1 = 0 := by decide +kernel
set_option maxRecDepth 100000 in
theorem dst_miss0 : ∀ a, a < 16 → ∀ b, b < 16 → ∀ k, k < 16 → k < dst a b → (rtab a k >>> (nI b &&& 31)) &&& 1 = 0 := by decide +kernel
theorem dst_hit {a b : Nat} (ha : a < 16) (hb : b < 16) : ¬ (rch a (dst a b) >>> (nI b &&& 31)) &&& 1 = 0 := by
  rw [rch_tab ha _ (dst_lt a ha b hb)]
  exact dst_hit0 a ha b hb
theorem dst_miss {a b k : Nat} (ha : a < 16) (hb : b < 16) (hk : k < dst a b) : (rch a k >>> (nI b &&& 31)) &&& 1 = 0 := by
  have := dst_lt a ha b hb
  rw [rch_tab ha _ (by omega)]
  exact dst_miss0 a ha b hb k (by omega) hk
/-- the next state as a number -/
def nx (a : Nat) (md : Int32) : Nat := (zNx a md).toNatClampNeg
set_option maxRecDepth 100000 in
theorem zN_tab : ∀ a, a < 16 → (zN0 a = nI (zN0 a).toNatClampNeg ∧ (zN0 a).toNatClampNeg < 16) ∧ zN1 a = nI (zN1 a).toNatClampNeg ∧ (zN1 a).toNatClampNeg < 16 := by decide +kernel
theorem nx_eq {a : Nat} (ha : a < 16) (md : Int32) : zNx a md = nI (nx a md) := by
  unfold nx zNx
  by_cases h : md = 0
  · rw [if_pos h]; exact (zN_tab a ha).1.1
  · rw [if_neg h]; exact (zN_tab a ha).2.1
theorem nx_lt {a : Nat} (ha : a < 16) (md : Int32) : nx a md < 16 := by
  unfold nx zNx
  by_cases h : md = 0
  · rw [if_pos h]; exact (zN_tab a ha).1.2
  · rw [if_neg h]; exact (zN_tab a ha).2.2
/-- the mode of the first clock of a move -/
def zMd (a b : Nat) : Int32 := if dst (nx a 0) b < dst a b then 0 else 1
set_option maxRecDepth 100000 in
theorem dst_0 : ∀ a, a < 16 → ∀ b, b < 16 → (dst a b = 0 ↔ a = b) := by decide +kernel
set_option maxRecDepth 100000 in
theorem dst_s : ∀ a, a < 16 → ∀ b, b < 16 → a ≠ b → dst (nx a (zMd a b)) b + 1 = dst a b := by decide +kernel
set_option maxRecDepth 100000 in
theorem dst_t : ∀ a, a < 16 → ∀ b, b < 16 → a ≠ b → (dst (nx a 0) b + 1 = dst a b ↔ dst (nx a 0) b < dst a b) := by decide +kernel
