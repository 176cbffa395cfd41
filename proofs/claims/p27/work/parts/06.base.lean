/-! ===== the words that every method asks for: all words of the tables that are carried ===== -/
def zW : List Cond := lw_tbl.filter goodWord
theorem zm {w : Cond} (i : Nat) (h : lw_tbl[i]? = some w) (g : goodWord w = true) : w ∈ zW := List.mem_filter.mpr ⟨List.mem_of_getElem? h, g⟩
theorem zW_good {ws : List Cond} (h : ∀ w ∈ ws, w ∈ zW) : GoodIn zW ws := fun w hw => ⟨h w hw, good_of_word (List.mem_filter.mp (h w hw)).2⟩
theorem zWr (ws : List Cond) (ps : List Nat) (hp : ws = ps.filterMap (fun i => lw_tbl[i]?)) (h : ws.all goodWord = true) : ∀ w ∈ ws, w ∈ zW := by
  intro w hw
  have h1 := List.all_eq_true.mp h w hw
  rw [hp] at hw
  obtain ⟨i, -, hi⟩ := List.mem_filterMap.mp hw
  exact zm i hi h1
abbrev zws (y : MethodName) (c : ByteArray) (n : Nat) (r : Option FieldType) : List Cond := .code y c n r :: zW
theorem zGV {own C : String} {idx n : Nat} {y : MethodName} {c : ByteArray} {r : Option FieldType} (h1 : Cond.methodLink own idx y ∈ zW) (h2 : Cond.instanceMethod y ∈ zW) (h3 : Cond.selects C y y ∈ zW) (h4 : Cond.initialized C ∈ zW) (h5 : Cond.code y c n r ∈ zW) : GoodIn zW (wsV own idx C y (zws y c n r)) := zW_good (by
  intro w hw
  simp only [wsV, zws, List.cons_append, List.nil_append, List.mem_cons] at hw
  rcases hw with rfl | rfl | rfl | rfl | rfl | hw
  all_goals assumption)
theorem zGS {own : String} {idx n : Nat} {y : MethodName} {c : ByteArray} {r : Option FieldType} (h1 : Cond.methodLink own idx y ∈ zW) (h2 : Cond.static y ∈ zW) (h4 : Cond.initialized y.cls ∈ zW) (h5 : Cond.code y c n r ∈ zW) : GoodIn zW (va_wsS own idx y (zws y c n r)) := zW_good (by
  intro w hw
  simp only [va_wsS, zws, List.cons_append, List.nil_append, List.mem_cons] at hw
  rcases hw with rfl | rfl | rfl | rfl | hw
  all_goals assumption)
theorem zG0 {n : Nat} {y : MethodName} {c : ByteArray} {r : Option FieldType} (h5 : Cond.code y c n r ∈ zW) : GoodIn zW (zws y c n r) := zW_good (by
  intro w hw
  rcases List.mem_cons.mp hw with rfl | hw
  all_goals assumption)
/-! ===== the world: cells by two numbers, at addresses that follow each other from b ===== -/
/-- classes, array classes (0 int, 1 char, 2 Chip, 3 Chain), the first address -/
abbrev zG : Type := va_G × (Nat → ClassId) × Nat
abbrev zH : Type := Nat → Nat → va_E
abbrev ztys (G : zG) : List (ClassId × FieldType) := [(G.2.1 0, .int), (G.2.1 1, .char), (G.2.1 2, .object "ScanChain$Chip"), (G.2.1 3, .object "ScanChain$Chain")]
abbrev zA (G : zG) : Nat → Prop := fun q => G.2.2 ≤ q
/-- which cells there are, and where each lies -/
def zok (i j : Nat) : Prop := (i < 7 ∧ j < 9) ∨ (i = 7 ∧ j < 5) ∨ (i = 8 ∧ j < 7)
/-- a chain's cells: the chain, its array of chips, the chips, the identities -/
def zj (j : Nat) : Nat := if j = 2 then 8 else if j < 2 then j else j - 1
def zix (i j : Nat) : Nat := if i < 3 then 1 + 9 * i + zj j else if i < 7 then 3 + 9 * i + zj j else if i = 7 then (if j = 0 then 0 else if j = 1 then 28 else if j = 2 then 29 else if j = 3 then 66 else 67) else 68 + j
theorem zix_inj {i j i' j' : Nat} (h : zok i j) (h' : zok i' j') (e : zix i j = zix i' j') : i = i' ∧ j = j' := by
  unfold zok at h h'
  have z1 : (j = 2 ∧ zj j = 8) ∨ (j < 2 ∧ zj j = j) ∨ (2 < j ∧ zj j = j - 1) := by
    unfold zj
    repeat' split
    all_goals omega
  have z2 : (j' = 2 ∧ zj j' = 8) ∨ (j' < 2 ∧ zj j' = j') ∨ (2 < j' ∧ zj j' = j' - 1) := by
    unfold zj
    repeat' split
    all_goals omega
  unfold zix at e
  repeat' split at e
  all_goals omega
def zad (G : zG) (i j : Nat) : Nat := G.2.2 + zix i j
def HW (G : zG) (n : Nat) (h : zH) (H : Heap) : Prop := H.size = G.2.2 + n ∧ ∀ i j, zok i j → zix i j < n → va_at G.1 vwCl (zad G i j, h i j) H
def zNest : List Cond := [.methodLinkNest RX0 17 yX1_init "ScanChain", .fieldLinkNest RX4 54 "ScanChain$Chip" "codeLength" "I" "ScanChain", .fieldLinkNest RX0 56 "ScanChain$Chip" "codeLength" "I" "ScanChain", .fieldLinkNest RX0 45 "ScanChain$Chip" "identity" "I" "ScanChain", .fieldLinkNest RX6 76 "ScanChain$Chip" "isBroken" "Z" "ScanChain", .fieldLinkNest RX0 48 "ScanChain$Chip" "isBroken" "Z" "ScanChain", .fieldLinkNest RX0 96 "ScanChain$Chip" "codeRegister" "I" "ScanChain", .fieldLinkNest RX6 67 "ScanChain$Chain" "chips" "[LScanChain$Chip;" "ScanChain", .fieldLinkNest RX4 50 "ScanChain$Chain" "chips" "[LScanChain$Chip;" "ScanChain", .fieldLinkNest RX6 48 "ScanChain$Chain" "size" "I" "ScanChain", .fieldLinkNest RX4 47 "ScanChain$Chain" "size" "I" "ScanChain", .fieldLinkNest RX4 9 "ScanChain$Chain" "state" "I" "ScanChain", .fieldLinkNest RX6 141 "ScanChain$Chain" "state" "I" "ScanChain", .fieldLinkNest RX6 144 "ScanChain$Chain" "clocks" "I" "ScanChain", .fieldLinkNest RX6 157 "ScanChain$Chain" "identities" "[I" "ScanChain", .fieldLinkNest RX4 44 "ScanChain$Chain" "identityCount" "I" "ScanChain", .fieldLinkNest RX6 153 "ScanChain$Chain" "identityCount" "I" "ScanChain", .fieldLinkNest RX6 156 "ScanChain$History" "size" "I" "ScanChain", .fieldLinkNest RX4 76 "ScanChain$Script" "characters" "[C" "ScanChain", .fieldLinkNest RX4 71 "ScanChain$Script" "length" "I" "ScanChain", .fieldLinkNest RX6 116 "ScanChain$Script" "length" "I" "ScanChain", .methodLinkNest RX1 43 yX6_allOnes "ScanChain", .methodLinkNest RX4 59 yX6_allOnes "ScanChain"]
def KK (G : zG) (U : State) : Prop := va_K G.1 vwCl (ztys G) U ∧ (∀ w ∈ zNest, va_Nw w U) ∧ va_AO "ScanChain$Chip" U ∧ va_AO "ScanChain$Chain" U
def zN0 (k : Nat) : Int32 := [1, 1, 3, 4, 4, 6, 6, 4, 1, 10, 11, 11, 13, 13, 11, 1].getD k 0
def zN1 (k : Nat) : Int32 := [0, 2, 9, 5, 5, 8, 7, 8, 2, 0, 12, 12, 15, 14, 15, 2].getD k 0
def ST (G : zG) (U : State) (H : Heap) : Prop := ∃ t0 t1 : Nat, (va_Z "ScanChain$Controller" "NEXT_BY_MODE_0" "[I" (.ref t0) (zA G) U H ∧ va_T .int t0 16 (fun k => .int (zN0 k)) (zA G) U H) ∧ (va_Z "ScanChain$Controller" "NEXT_BY_MODE_1" "[I" (.ref t1) (zA G) U H ∧ va_T .int t1 16 (fun k => .int (zN1 k)) (zA G) U H)
def Wd (G : zG) (n : Nat) (h : zH) (U : State) (H : Heap) : Prop := HW G n h H ∧ KK G U ∧ ST G U H
theorem zNest_ok : ∀ w ∈ zNest, w.onTables = true ∧ ((∃ a i b n d h, w = .fieldLinkNest a i b n d h) ∨ ∃ a i x h, w = .methodLinkNest a i x h) := by
  intro w hw
  simp only [zNest, List.mem_cons, List.not_mem_nil, or_false] at hw
  rcases hw with rfl | rfl | rfl | rfl | rfl | rfl | rfl | rfl | rfl | rfl | rfl | rfl | rfl | rfl | rfl | rfl | rfl | rfl | rfl | rfl | rfl | rfl | rfl
  all_goals first
    | exact ⟨rfl, Or.inl ⟨_, _, _, _, _, _, rfl⟩⟩
    | exact ⟨rfl, Or.inr ⟨_, _, _, _, rfl⟩⟩
theorem KK.warm {G : zG} {s U : State} (h : KK G s) (hW : s.WarmedH U.vm) : KK G U := by
  refine ⟨va_K.moved hW.alike h.1, fun w hw => ?_, h.2.2.1.moved hW.alike, h.2.2.2.moved hW.alike⟩
  have h1 := h.2.1 w hw
  rcases (zNest_ok w hw).2 with ⟨a, i, b, n, d, x, rfl⟩ | ⟨a, i, b, x, rfl⟩
  · exact va_Nw.warmF hW h1
  · exact va_Nw.warmM hW h1
theorem KK.calling {G : zG} {U : State} {g : JFrame} {mk : MethodId} {a : Array Value} (h : KK G U) : KK G (U.calling g mk a) :=
  ⟨va_K.moved (u := U) (U := U.calling g mk a) (Vm.Alike.refl U.vm) h.1, fun w hw => va_Nw.same (zNest_ok w hw).1 (u := U) (U := U.calling g mk a) rfl (h.2.1 w hw), va_AO.moved (u := U) (U := U.calling g mk a) (Vm.Alike.refl U.vm) h.2.2.1, va_AO.moved (u := U) (U := U.calling g mk a) (Vm.Alike.refl U.vm) h.2.2.2⟩
theorem ST.moved {G : zG} {u U : State} {H : Heap} (hvm : u.vm.Alike U.vm) (h : ST G u H) : ST G U H := by
  obtain ⟨t0, t1, ⟨a, b⟩, ⟨c, d⟩⟩ := h
  exact ⟨t0, t1, ⟨a.moved hvm, b.moved hvm⟩, ⟨c.moved hvm, d.moved hvm⟩⟩
theorem ST.kept {G : zG} {U : State} {H H1 : Heap} (h : ST G U H) (hq : ∀ a : Nat, a < H.size → ¬ zA G a → H1[a]? = H[a]?) : ST G U H1 := by
  obtain ⟨t0, t1, ⟨a, b⟩, ⟨c, d⟩⟩ := h
  exact ⟨t0, t1, ⟨a.kept hq, b.kept hq⟩, ⟨c.kept hq, d.kept hq⟩⟩
theorem Wd.calling {G : zG} {n : Nat} {h : zH} {U : State} {g : JFrame} {mk : MethodId} {a : Array Value} (hw : Wd G n h U U.heap) : Wd G n h (U.calling g mk a) (U.calling g mk a).heap :=
  ⟨hw.1, hw.2.1.calling, ST.moved (u := U) (U := U.calling g mk a) (Vm.Alike.refl U.vm) hw.2.2⟩
/-! ===== locals: a list, a place a slot ===== -/
def lo : Nat → List (Option Value) → List (Nat × Value)
  | _, [] => []
  | k, none :: t => lo (k + 1) t
  | k, some v :: t => (k, v) :: lo (k + 1) t
theorem lo_mem {v : Value} : ∀ (ls : List (Option Value)) (b k : Nat), ls[k]? = some (some v) → (b + k, v) ∈ lo b ls
  | [], _, _, h => by simp at h
  | none :: t, b, 0, h => by simp at h
  | some w :: t, b, 0, h => by
    simp at h
    subst h
    exact List.mem_cons_self
  | none :: t, b, k + 1, h => by
    have h1 := lo_mem t (b + 1) k (by simpa using h)
    rw [show b + (k + 1) = b + 1 + k by omega]
    exact h1
  | some w :: t, b, k + 1, h => by
    have h1 := lo_mem t (b + 1) k (by simpa using h)
    rw [show b + (k + 1) = b + 1 + k by omega]
    exact List.mem_cons_of_mem _ h1
theorem lo_of_mem {k : Nat} {v : Value} : ∀ (ls : List (Option Value)) (b : Nat), (k, v) ∈ lo b ls → b ≤ k ∧ ls[k - b]? = some (some v)
  | [], _, h => by cases h
  | none :: t, b, h => by
    obtain ⟨h1, h2⟩ := lo_of_mem t (b + 1) h
    refine ⟨by omega, ?_⟩
    rw [show k - b = (k - (b + 1)) + 1 by omega]
    simpa using h2
  | some w :: t, b, h => by
    rcases List.mem_cons.mp h with h0 | h0
    · cases h0
      simp
    · obtain ⟨h1, h2⟩ := lo_of_mem t (b + 1) h0
      refine ⟨by omega, ?_⟩
      rw [show k - b = (k - (b + 1)) + 1 by omega]
      simpa using h2
theorem lo_at {lsA : Array Slot} {nL k : Nat} {ls : List (Option Value)} {v : Value} (h : lv_has lsA nL (lo 0 ls)) (hk : ls[k]? = some (some v)) : lsA[k]? = some (.val v) := by
  have := h.2.2 (k, v) (by simpa using lo_mem ls 0 k hk)
  exact this
theorem lo_len {lsA : Array Slot} {nL : Nat} {ls : List (Option Value)} (h : lv_has lsA nL (lo 0 ls)) : lsA.size = nL := h.1
/-- fewer values known -/
theorem lo_sub {lsA : Array Slot} {nL : Nat} {l : List (Nat × Value)} {ls' : List (Option Value)} (h : lv_has lsA nL l) (hs : ∀ q ∈ lo 0 ls', q ∈ l) : lv_has lsA nL (lo 0 ls') := ⟨h.1, h.2.1, fun q hq => h.2.2 q (hs q hq)⟩
/-- a two-slot value has an empty place behind it -/
def lo2 : Bool → List (Option Value) → Bool
  | _, [] => true
  | _, none :: t => lo2 false t
  | true, some _ :: _ => false
  | false, some v :: t => lo2 (decide (v.category ≠ 1)) t
def lo1 (ls : List (Option Value)) : Bool := lo2 false ls
theorem lo2_at {v w : Value} : ∀ (ls : List (Option Value)) (b : Bool) (k : Nat), lo2 b ls = true → ls[k]? = some (some v) → v.category ≠ 1 → ls[k + 1]? = some (some w) → False
  | [], _, _, _, h, _, _ => by simp at h
  | none :: t, b, 0, _, h, _, _ => by simp at h
  | none :: t, b, k + 1, h1, h, hc, h2 => lo2_at t false k (by cases b <;> exact h1) (by simpa using h) hc (by simpa using h2)
  | some u :: t, true, _, h1, _, _, _ => by cases h1
  | some u :: t, false, 0, h1, h, hc, h2 => by
    simp at h
    subst h
    have h3 : lo2 (decide (u.category ≠ 1)) t = true := h1
    rw [show decide (u.category ≠ 1) = true by simpa using hc] at h3
    cases t with
    | nil => simp at h2
    | cons o t =>
      simp at h2
      subst h2
      cases h3
  | some u :: t, false, k + 1, h1, h, hc, h2 => lo2_at t _ k h1 (by simpa using h) hc (by simpa using h2)
theorem lo_put {i : Nat} {ls ls' : List (Option Value)} {v : Value} (h1 : lo1 ls' = true) (h2 : ls'[i]? = some (some v)) (hls : ls.set i (some v) = ls') : ∀ q ∈ lo 0 ls', q ∈ (i, v) :: (lo 0 ls).filter (fun q => !(q.1 == i) && !(q.1 + 1 == i && q.2.category == 2)) := by
  intro q hq
  obtain ⟨k, w⟩ := q
  obtain ⟨-, h3⟩ := lo_of_mem _ 0 hq
  simp only [Nat.sub_zero] at h3
  by_cases hk : k = i
  · subst hk
    rw [h2] at h3
    cases h3
    exact List.mem_cons_self
  · have h4 : ls[k]? = some (some w) := by
      rw [← h3, ← hls, List.getElem?_set_ne (Ne.symm hk)]
    refine List.mem_cons_of_mem _ (List.mem_filter.mpr ⟨by simpa using lo_mem ls 0 k h4, ?_⟩)
    have hc : ¬ (k + 1 = i ∧ w.category = 2) := by
      rintro ⟨e, c2⟩
      subst e
      exact lo2_at ls' false k h1 h3 (by rw [c2]; decide) h2
    simp only [Bool.and_eq_true, Bool.not_eq_true', beq_eq_false_iff_ne, ne_eq, Bool.and_eq_false_iff]
    refine ⟨hk, ?_⟩
    by_cases e : k + 1 = i
    · exact Or.inr fun z => hc ⟨e, z⟩
    · exact Or.inl e
/-- a two-slot value is put -/
theorem lo_put2 {i : Nat} {ls ls' : List (Option Value)} {v : Value} (h1 : lo1 ls' = true) (h2 : ls'[i]? = some (some v)) (h3 : ls'[i + 1]? = some none) (hls : (ls.set i (some v)).set (i + 1) none = ls') : ∀ q ∈ lo 0 ls', q ∈ (i, v) :: (lo 0 ls).filter (fun q => !(q.1 == i) && (!(q.1 == i + 1) && !(q.1 + 1 == i && q.2.category == 2))) := by
  intro q hq
  obtain ⟨k, w⟩ := q
  obtain ⟨-, h4⟩ := lo_of_mem _ 0 hq
  simp only [Nat.sub_zero] at h4
  by_cases hk : k = i
  · subst hk
    rw [h2] at h4
    cases h4
    exact List.mem_cons_self
  · have hk2 : k ≠ i + 1 := by
      rintro rfl
      rw [h3] at h4
      cases h4
    have h5 : ls[k]? = some (some w) := by
      rw [← h4, ← hls, List.getElem?_set_ne (Ne.symm hk2), List.getElem?_set_ne (Ne.symm hk)]
    refine List.mem_cons_of_mem _ (List.mem_filter.mpr ⟨by simpa using lo_mem ls 0 k h5, ?_⟩)
    have hc : ¬ (k + 1 = i ∧ w.category = 2) := by
      rintro ⟨e, c2⟩
      subst e
      exact lo2_at ls' false k h1 h4 (by rw [c2]; decide) h2
    simp only [Bool.and_eq_true, Bool.not_eq_true', beq_eq_false_iff_ne, ne_eq, Bool.and_eq_false_iff]
    refine ⟨hk, hk2, ?_⟩
    by_cases e : k + 1 = i
    · exact Or.inr fun z => hc ⟨e, z⟩
    · exact Or.inl e
