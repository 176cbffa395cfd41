/-! ===== the law's rows ===== -/
/-- the world, and the script behind it -/
abbrev zPX (G : zG) (n : Nat) (h : zH) (b L : Nat) (xs : Nat → Int32) (av : List Value) : Array Value → State → Prop := va_Pc av (fun U => Wd G n h U U.heap ∧ va_X b L xs U U.heap ∧ b < U.heap.size)
theorem zfbX {G : zG} {n : Nat} {h : zH} {b L : Nat} {xs : Nat → Int32} {av : List Value} : FrameBlind (zPX G n h b L xs av) := fun a U g mk q => ⟨q.1, Wd.calling q.2.1, va_X.moved (u := U) (U := U.calling g mk a) (Vm.Alike.refl U.vm) q.2.2.1, q.2.2.2⟩
theorem zMetX {l : Launch} {y : MethodName} {cc : ByteArray} {nL : Nat} {ret : Option FieldType} {rm : Room} {n mc ms : Nat} {h : zH} {b L : Nat} {xs : Nat → Int32} {av : List Value} {Qc : Array Value → State → Outcome → State → Prop} {G : zG} (hy : plainName y.cls = true) (hav : (av.all fun v => decide (v.category = 1)) = true) (hlen : av.length ≤ nL)
    (body : ∀ (p : Program) (e : Env) (s : State) (m : MethodId) (args : Array Value) (below : List Frame) (meth : Method) (c : Code), args = av.toArray → Cx p s m args meth c cc nL y.cls G → meth.sig.returnType = ret → va_X b L xs s s.heap → b < s.heap.size →
      Xh p l e rm s m args below meth c nL G (MQ below Qc args s mc ms (zA G)) 0 0 n h 0 (av.map some ++ List.replicate (nL - av.length) none) []) : Met l y (zws y cc nL ret) rm (zPX G n h b L xs av) Qc mc ms (zA G) := by
  refine Met.ofW (cc := cc) (maxL := nL) (ret := ret) hy rfl ?_
  intro p e s m args below meth c s₁ B hml hv
  obtain ⟨rfl, ⟨hW, hK, hST⟩, hX, hbl⟩ := hv
  have hts := atoms_spec (ws := zws y cc nL ret) B.pre
  have hown : s.vm.findClass y.cls = some m.cls := findClass_of_methodNamed B.named
  have hl := lv_entry av (n := nL) (by rw [lg_sl1 av hav]; exact hlen)
  rw [lg_entry_eq]
  refine body p e s m _ below meth c rfl ⟨⟨B.exec, B.bytes, hml, hown, fun w hw => hts w (List.mem_cons_of_mem _ hw)⟩, hK, hST, B.notSynchronized⟩ B.returns hX hbl s.heap [] _ hW va_S.rf ?_ (lo1_args hav)
  rw [lo_app_none, ← lv_args1 av 0 hav]
  exact hl
section ZL
variable {p : Program} {l : Launch} {e : Env} {R : Room} {s : State} {m : MethodId} {args : Array Value} {below : List Frame} {meth : Method} {c : Code} {cc : ByteArray} {nL : Nat} {own : String} {G : zG} {Q : State → Prop} {cells slots n n2 : Nat} {h h2 : zH} {pc : Nat} {ls : List (Option Value)} {st rest : List Value}
theorem x_sld (cx : Cx p s m args meth c cc nL own G) {b L t : Nat} {xs : Nat → Int32} {y : Int32} (hX : va_X b L xs s s.heap) (hbl : b < s.heap.size) (hG : b < G.2.2) (hy : y = nI t) (ht : t < L) (hL : L ≤ 2048) (d : decode cc pc = .ok (.iaload, 1)) (kk : Xh p l e R s m args below meth c nL G Q cells slots n h (pc + 1) ls (.int (xs t) :: st)) : Xh p l e R s m args below meth c nL G Q cells slots n h pc ls (.int y :: .ref b :: st) := by
  intro H locs lsA hW hS hl h1
  subst hy
  refine va_sld cx.1.1 cx.1.2.1 hX hbl (show ¬ G.2.2 ≤ b by omega) hS (i := nI t) (nI_in ht (by omega)) d ?_
  rw [show (nI t).toNatClampNeg = t from nI_clamp (by omega)]
  exact kk H locs lsA hW hS hl h1
theorem x_slen (cx : Cx p s m args meth c cc nL own G) {b L : Nat} {xs : Nat → Int32} (hX : va_X b L xs s s.heap) (hbl : b < s.heap.size) (hG : b < G.2.2) (d : decode cc pc = .ok (.arraylength, 1)) (kk : Xh p l e R s m args below meth c nL G Q cells slots n h (pc + 1) ls (.int (nI L) :: st)) : Xh p l e R s m args below meth c nL G Q cells slots n h pc ls (.ref b :: st) := by
  intro H locs lsA hW hS hl h1
  refine va_slen cx.1.1 cx.1.2.1 hX hbl (show ¬ G.2.2 ≤ b by omega) hS d ?_
  exact kk H locs lsA hW hS hl h1
/-- a call that reads the script -/
theorem x_SX (cx : Cx p s m args meth c cc nL own G) {idx n' f' k' na mc ms b L : Nat} {xs : Nat → Int32} {y : MethodName} {c' : ByteArray} {ret : Option FieldType} {As : List Value} {r : Int32} (hX : va_X b L xs s s.heap) (hbl : b < s.heap.size) (hbG : b < G.2.2)
    (hM : Met l y (zws y c' n' ret) (zrm f' mc ms k') (zPX G n h b L xs As) (zQi G n2 r h2) mc ms (zA G)) (hG : GoodIn zW (va_wsS own idx y (zws y c' n' ret))) (hd : y.cls ≠ "java/lang/invoke/MethodHandle" ∧ y.cls ≠ "java/lang/invoke/VarHandle" ∧ (parseMethodDescriptor y.desc).map (fun d => d.parameters.length) = some na)
    (hR : f' + 1 ≤ R.frames ∧ 8 + (n' + 11) + k' ≤ R.locals) (hst : st = As.reverse ++ rest) (hlen : As.length = na) (hcat : (rest.map fun v => v.category).sum ≤ 8) (d : decode cc pc = .ok (.invokestatic idx, 3)) (hcs : cells + mc ≤ R.cells ∧ slots + ms ≤ R.slots)
    (kk : Xh p l e R s m args below meth c nL G Q (cells + mc) (slots + ms) n2 h2 (pc + 3) ls (.int r :: rest)) : Xh p l e R s m args below meth c nL G Q cells slots n h pc ls st := by
  intro H locs lsA hW hS hl h1
  refine va_calli (va_runS (As := As) (rest := rest) cx.1 hM (va_cwS na cx.1.2.2.2.2 hG rfl rfl rfl hd hR) ⟨zfbX, fun U hU hv => ⟨rfl, zpre cx hW hS hU hv, ?_, ?_⟩⟩ rfl hlen hl.1 hst (lv_room hcat) d hcs) hS (fun q _ z => z) (fun q z => z) (fun r0 u t H1 locs1 ht hvm hw hB hz hk hS1 => ?_)
  · rw [hU]
    exact va_X.kept (va_X.moved hv.alike hX) (hS.2.1 b hbl (show ¬ G.2.2 ≤ b by omega))
  · rw [hU]
    exact Nat.lt_of_lt_of_le hbl hS.1
  · subst hw
    exact kk H1 locs1 lsA (by rw [← ht]; exact hB.1) hS1 hl h1
/-- the state gets a name -/
theorem x_nm {S1 : zS} (kk : ∀ T, T = S1 → Xh p l e R s m args below meth c nL G Q cells slots n (pic G T) pc ls st) : Xh p l e R s m args below meth c nL G Q cells slots n (pic G S1) pc ls st := kk S1 rfl
end ZL
/-! the law's numbers -/
theorem nI_subN {a b : Nat} (h : b ≤ a) : nI a - nI b = nI (a - b) := by
  obtain ⟨k, rfl⟩ := Nat.exists_eq_add_of_le h
  rw [show nI (b + k) = nI b + nI k from (nI_add b k).symm, Int32.add_comm, Int32.add_sub_cancel, Nat.add_sub_cancel_left]
theorem nI_mulN (a b : Nat) : nI a * nI b = nI (a * b) := (Int32.ofNat_mul a b).symm
theorem nI_nq {a b : Nat} (h : a ≠ b) (ha : a < 2 ^ 31) (hb : b < 2 ^ 31) : ¬ nI a = nI b := fun z => h ((nI_eq ha hb).mp z)
theorem nI_ig {a b : Nat} (h : a = b) : nI a = nI b := congrArg nI h
theorem er {E v A : Int32} (h : E = v) (hv : ¬ v = 0) : (if E = 0 then A else E) = v := by rw [h, if_neg hv]
theorem erS {E v : Int32} {S T : zS} (h : E = v) (hv : ¬ v = 0) : (if E = 0 then T else S) = S := by rw [h, if_neg hv]
theorem okE {E A : Int32} (h : E = 0) : (if E = 0 then A else E) = A := if_pos h
theorem okS {E : Int32} {S T : zS} (h : E = 0) : (if E = 0 then T else S) = T := if_pos h
theorem cn0 {X : zCV} {a b : Int32} (h : zWF X) : zCount X a b (nI 0) = nI (num X) := h.sz
theorem cn1 {X : zCV} {a b : Int32} : zCount X a b (nI 1) = zSum zBrk X := rfl
theorem cn2 {X : zCV} {a b : Int32} (h : zWF X) : zCount X a b (nI 2) = nI (stt X) := h.s1
theorem cn3 {X : zCV} {a b : Int32} : zCount X a b (nI 3) = X 0 2 := rfl
theorem cn4 {X : zCV} {a b : Int32} : zCount X a b (nI 4) = zSum (fun c => c 0) X := rfl
theorem cn5 {X : zCV} {a b : Int32} : zCount X a b (nI 5) = zSum zBits X := rfl
theorem cn6 {X : zCV} {a b : Int32} (h : zWF X) : zCount X a b (nI 6) = nI (cnt X) := h.c3
theorem cn7 {S : zS} {X : zCV} {b : Int32} (h : kWF S) : zCount X (S 7 0 0) b (nI 7) = nI (hsz S) := h.2.1.1.1
theorem has_in {X : zCV} (h : zWF X) {t : Nat} (ht : t < num X) : ¬ zHas X (nI t) = 0 := by
  have h6 := h.n6
  unfold zHas
  rw [if_neg (nI_pos (by omega)), h.sz, if_neg (nI_ge ht (by omega))]
  decide
theorem has_out {X : zCV} (h : zWF X) {t : Nat} (ht : num X ≤ t) (hb : t < 2 ^ 31) : zHas X (nI t) = 0 := by
  unfold zHas
  rw [if_neg (nI_pos hb), h.sz, if_pos (nI_le ht hb)]
theorem has_neg {X : zCV} {q : Int32} (hq : q < 0) : zHas X q = 0 := if_pos hq
theorem tl_in {X : zCV} (h : zWF X) {t : Nat} (ht : t < num X) (v : Int32) : zTellX X (nI t) v = zTell (X (t + 3)) v := by
  have h6 := h.n6
  unfold zTellX
  rw [if_neg (has_in h ht), show tn (nI t) = t from nI_clamp (by omega)]
theorem tl_out {X : zCV} {q : Int32} (h : zHas X q = 0) (v : Int32) : zTellX X q v = -1 := if_pos h
/-- what a chip tells -/
theorem tl_0 {X : zCV} (h : XOK X) {t : Nat} (ht : t < num X) : zTellX X (nI t) (nI 0) = nI (aL (X (t + 3))) := (tl_in h.1 ht _).trans (h.chip ht).1.1.2.2
theorem tl_1 {X : zCV} (h : XOK X) {t : Nat} (ht : t < num X) : zTellX X (nI t) (nI 1) = nI (aI (X (t + 3))) := (tl_in h.1 ht _).trans (h.chip ht).1.2.2.1.2.2
theorem tl_2 {X : zCV} (h : XOK X) {t : Nat} (ht : t < num X) : zTellX X (nI t) (nI 2) = nI (aK (X (t + 3))) := (tl_in h.1 ht _).trans (h.chip ht).1.2.1.2.2
theorem tl_3 {X : zCV} (h : XOK X) {t : Nat} (ht : t < num X) : zTellX X (nI t) (nI 3) = X (t + 3) 3 := tl_in h.1 ht _
theorem tl_4 {X : zCV} (h : XOK X) {t : Nat} (ht : t < num X) : zTellX X (nI t) (nI 4) = X (t + 3) 4 := tl_in h.1 ht _
theorem tl_5 {X : zCV} (h : XOK X) {t : Nat} (ht : t < num X) : zTellX X (nI t) (nI 5) = X (t + 3) 5 := by
  rw [tl_in h.1 ht]
  have h5 := (h.chip ht).1.2.2.2
  show (if X (t + 3) 5 = 0 then 0 else 1) = _
  rcases h5 with e | e <;> rw [e] <;> rfl
theorem tl_6 {X : zCV} (h : XOK X) {t : Nat} (ht : t < num X) : zTellX X (nI t) (nI 6) = X (t + 3) 6 := tl_in h.1 ht _
theorem tl_7 {X : zCV} (h : XOK X) {t : Nat} (ht : t < num X) : zTellX X (nI t) (nI 7) = X (t + 3) 7 := tl_in h.1 ht _
theorem tl_8 {X : zCV} (h : XOK X) {t : Nat} (ht : t < num X) : zTellX X (nI t) (nI 8) = X (t + 3) 8 := tl_in h.1 ht _
theorem tl_9 {X : zCV} (h : XOK X) {t : Nat} (ht : t < num X) : zTellX X (nI t) (nI 9) = nI (aB (X (t + 3))) := (tl_in h.1 ht _).trans (cOK_B (h.chip ht)).1
theorem fd_in {X : zCV} (h : zWF X) {k : Nat} (hk : k < cnt X) : zFound X (nI k) = X 2 k := by
  have h8 := h.c8
  unfold zFound
  rw [if_neg (nI_pos (by omega)), h.c3, if_pos (nI_lt hk (by omega)), show tn (nI k) = k from nI_clamp (by omega)]
theorem fd_out {X : zCV} (h : zWF X) {k : Nat} (hk : cnt X ≤ k) (hb : k < 2 ^ 31) : zFound X (nI k) = -4 := by
  unfold zFound
  rw [if_neg (nI_pos hb), h.c3, if_neg (nI_nlt hk hb)]
theorem fd_neg {X : zCV} {q : Int32} (h : q < 0) : zFound X q = -2 := if_pos h
/-! the whole of a state, as one number -/
def sn1 (X : zCV) : Nat → Int64
  | 0 => 109
  | k + 1 => 31 * sn1 X k + (zCount X 0 0 (nI k)).toInt64
def sn2 (X : zCV) : Nat → Int64
  | 0 => sn1 X 7
  | k + 1 => 31 * sn2 X k + (zTellX X (nI (k / 10)) (nI (k % 10))).toInt64
def sn3 (X : zCV) : Nat → Int64
  | 0 => sn2 X 60
  | k + 1 => 31 * sn3 X k + (zFound X (nI k)).toInt64
def zSeen (X : zCV) : Int64 := sn3 X 8
theorem cn_lt {X : zCV} {a b : Int32} {k : Nat} (hk : k < 7) : zCount X a b (nI k) = zCount X 0 0 (nI k) := by
  rcases (show k = 0 ∨ k = 1 ∨ k = 2 ∨ k = 3 ∨ k = 4 ∨ k = 5 ∨ k = 6 by omega) with rfl | rfl | rfl | rfl | rfl | rfl | rfl <;> rfl
section SQ
variable {X Y : zCV}
theorem sn1_Q (h : Qv X Y) : ∀ k, sn1 X k = sn1 Y k
  | 0 => rfl
  | k + 1 => by rw [sn1, sn1, sn1_Q h k, Qcount h]
theorem sn2_Q (h : Qv X Y) (hW : zWF X) : ∀ k, sn2 X k = sn2 Y k
  | 0 => sn1_Q h 7
  | k + 1 => by rw [sn2, sn2, sn2_Q h hW k, Qtell h hW]
theorem sn3_Q (h : Qv X Y) (hW : zWF X) : ∀ k, sn3 X k = sn3 Y k
  | 0 => sn2_Q h hW 60
  | k + 1 => by rw [sn3, sn3, sn3_Q h hW k, Qfound h hW]
theorem seen_Q (h : Qv X Y) (hW : zWF X) : zSeen X = zSeen Y := sn3_Q h hW 8
end SQ
theorem cmp_self (x : Int64) : lg_cmp x x = 0 := by simp [lg_cmp]
theorem cmp_eq {x y : Int64} (h : x = y) : lg_cmp x y = 0 := by rw [h, cmp_self]
/-! the script's cell -/
def zcl (L : Nat) (xs : Nat → Int32) (k : Nat) : Int32 := (if k < L then xs k else 883997877 * (nI k + nI 173) + 35023) &&& 2147483647
theorem zcl_n (L : Nat) (xs : Nat → Int32) (k : Nat) : ∃ n, n < 2 ^ 31 ∧ zcl L xs k = nI n := pk_andE _ 31 (by decide)
/-! ways, refusals -/
theorem zd {a b : Nat} (ha : a < 16) (hb : b < 16) : zDist (nI a) (nI b) = nI (dst a b) := by
  unfold zDist
  rw [zis_ok ha, zis_ok hb, if_neg (by decide), if_neg (by decide), show tn (nI a) = a from nI_clamp (by omega), show tn (nI b) = b from nI_clamp (by omega)]
set_option maxRecDepth 100000 in
theorem dt_t : ∀ a, a < 16 → ∀ b, b < 16 → dst a b ≤ dst a 0 + dst 0 b ∧ dst a 0 < 6 := by decide +kernel
set_option maxRecDepth 100000 in
theorem dx_t : ∀ a, a < 16 → ∀ i, i < 2 → nx a (nI i) = a ∨ dst a (nx a (nI i)) = 1 := by decide +kernel
theorem ng_t : ∀ m, m < 99 → (-1 - nI m : Int32) < 0 := by decide +kernel
theorem zin_lo {v a b : Int32} (h : v < a) : zin v a b = 0 := if_pos h
theorem zin_hi {v a b : Int32} (h : b < v) : zin v a b = 0 := by
  unfold zin
  rw [if_pos h]
  exact ite_self _
theorem zis_lo {v : Int32} (h : v < 0) : zis v = 0 := if_pos h
theorem zis_hi {v : Int32} (h : 16 ≤ v) : zis v = 0 := by
  unfold zis
  rw [if_pos h]
  exact ite_self _
theorem id_t : ∀ m, m < 126 → zisId (nI (2 + m * 2)) = 0 := by decide +kernel
theorem clr_S {S : zS} (h : S 7 0 2 = 0) : up S 7 (uj (S 7) 0 (upd (S 7 0) 2 0)) = S := by
  have e : upd (S 7 0) 2 0 = S 7 0 := by
    funext k
    unfold upd
    split
    · rename_i hk; rw [hk, h]
    · rfl
  rw [e, uj_self, up_self]
theorem ad_full {X : zCV} {a b c : Int32} (h : zWF X) (h6 : 6 ≤ num X) (e1 : ¬ zin a 2 6 = 0) (e2 : ¬ zisId b = 0) (e3 : ¬ zin c 1 8 = 0) : eAdd X a b c = -3 := by
  have := h.n6
  unfold eAdd
  rw [if_neg e1, if_neg e2, if_neg e3, if_neg (by rw [h.sz]; exact nI_nlt (b := 6) h6 (by omega))]
theorem ad_room {X : zCV} {a b c : Int32} (h : zWF X) (h6 : num X < 6) (e1 : ¬ zin a 2 6 = 0) (e2 : ¬ zisId b = 0) (e3 : ¬ zin c 1 8 = 0) : eAdd X a b c = 0 := by
  unfold eAdd
  rw [if_neg e1, if_neg e2, if_neg e3, if_pos (by rw [h.sz]; exact nI_lt (b := 6) h6 (by omega))]
theorem flt0 (T : Nat → Int32) : zFault T 0 = 0 := by
  unfold zFault zFltL
  rw [if_neg (by decide)]
  rfl
theorem rn_a {A : Int32} (T : Nat → Int32) : (if zFault T 0 = -4 then A else -100 - zFault T 0) = -100 := by
  rw [flt0, if_neg (by decide)]
  decide
theorem rn_S {V S : zS} (T : Nat → Int32) : (if zFault T 0 = -4 then V else S) = S := by
  rw [flt0, if_neg (by decide)]
/-! what a whole state shows -/
theorem sh_k : ∀ b, b < 9 → ((nI b &&& 31).toBitVec.smod 32).toNat = b := by decide +kernel
theorem shr_0 {v : Int32} {b : Nat} (h : fN v b) (hb : b ≤ 8) : v >>> (nI b &&& 31) = nI 0 := by
  obtain ⟨m, hm, rfl⟩ := h
  have h8 : m < 2 ^ 8 := Nat.lt_of_lt_of_le hm (p2le hb)
  have h31 : m < 2 ^ 31 := Nat.lt_trans h8 (by decide)
  rw [pk_shrN h31 (nI b &&& 31) b (sh_k b (by omega)), Nat.div_eq_of_lt hm]
theorem shr_1 {v : Int32} (h : v = 0 ∨ v = 1) : v >>> (nI 1 &&& 31) = nI 0 := by
  rcases h with rfl | rfl <;> decide
theorem brk_5 {c : Nat → Int32} (h : c 5 = 0 ∨ c 5 = 1) : zBrk c = c 5 := by
  unfold zBrk
  rcases h with e | e <;> rw [e] <;> rfl
theorem byp_C {c : Nat → Int32} (h : zC c) : zByp c = nI 0 := by
  unfold zByp zselB
  rw [if_pos h]
  rfl
theorem byp_I {c : Nat → Int32} (h : ¬ zC c) (h2 : zI c) : zByp c = nI 0 := by
  unfold zByp zselB
  rw [if_neg h, if_pos h2]
  rfl
theorem byp_B {c : Nat → Int32} (h : ¬ zC c) (h2 : ¬ zI c) : zByp c = nI 1 := by
  unfold zByp zselB
  rw [if_neg h, if_neg h2]
  rfl
theorem aB_B {c : Nat → Int32} (h : ¬ zC c) (h2 : ¬ zI c) : aB c = 1 := by
  unfold aB zBits
  rw [if_neg h, if_neg h2]
  rfl
theorem pk_01 {X : zCV} {i : Nat} (hi : i < 2) : zPeek X (nI i) = zOut X (nI i) := by
  unfold zPeek
  rw [if_neg]
  rcases (show i = 0 ∨ i = 1 by omega) with rfl | rfl <;> decide
section OT
variable {X : zCV} {x : Int32}
theorem st_4 (h : zWF X) (hs : stt X = 4) : X 0 1 = 4 := by rw [h.s1, hs]; rfl
theorem st_11 (h : zWF X) (hs : stt X = 11) : X 0 1 = 11 := by rw [h.s1, hs]; rfl
theorem st_n (h : zWF X) {k : Nat} (hk : k < 16) (hs : stt X ≠ k) : ¬ X 0 1 = nI k := fun z => hs ((nI_eq (by have := h.s16; omega) (by omega)).mp (h.s1.symm.trans z))
theorem ot_40 (h : zWF X) (hs : stt X = 4) (h0 : num X = 0) : zOut X x = x := by
  unfold zOut
  rw [if_pos (st_4 h hs), if_pos h0]
theorem ot_4 (h : zWF X) (hs : stt X = 4) (h0 : num X ≠ 0) : zOut X x = zDO (X (num X - 1 + 3)) := by
  unfold zOut
  rw [if_pos (st_4 h hs), if_neg h0]
theorem ot_b0 (h : zWF X) (hs : stt X = 11) (h0 : num X = 0) : zOut X x = x := by
  unfold zOut
  rw [if_neg (show ¬ X 0 1 = 4 from st_n h (k := 4) (by decide) (by omega)), if_pos (st_11 h hs), if_pos h0]
theorem ot_b (h : zWF X) (hs : stt X = 11) (h0 : num X ≠ 0) : zOut X x = zCO (X (num X - 1 + 3)) := by
  unfold zOut
  rw [if_neg (show ¬ X 0 1 = 4 from st_n h (k := 4) (by decide) (by omega)), if_pos (st_11 h hs), if_neg h0]
theorem ot_o (h : zWF X) (h4 : stt X ≠ 4) (h11 : stt X ≠ 11) : zOut X x = nI 1 := by
  unfold zOut
  rw [if_neg (show ¬ X 0 1 = 4 from st_n h (k := 4) (by decide) h4), if_neg (show ¬ X 0 1 = 11 from st_n h (k := 11) (by decide) h11)]
  rfl
end OT
theorem do_1 {c : Nat → Int32} (h : c 5 = 1) : zDO c = nI 1 := by
  unfold zDO
  rw [h, if_neg (by decide)]
  rfl
theorem co_1 {c : Nat → Int32} (h : c 5 = 1) : zCO c = nI 1 := by
  unfold zCO
  rw [h, if_neg (by decide)]
  rfl
theorem do_0 {c : Nat → Int32} {m : Nat} (h : c 5 = 0) (hm : m < 2 ^ 31) (e : c 8 = nI m) : zDO c = nI (m % 2) := by
  unfold zDO
  rw [if_pos h, e]
  exact pk_andN (by omega) 1 (by decide)
theorem co_0 {c : Nat → Int32} {m : Nat} (h : c 5 = 0) (hm : m < 2 ^ 31) (e : c 7 = nI m) : zCO c = nI (m % 2) := by
  unfold zCO
  rw [if_pos h, e]
  exact pk_andN (by omega) 1 (by decide)
abbrev fq (m n : Nat) : UInt32 := FP.fdiv (FP.i2f (nI m)) (FP.i2f (nI n))
set_option maxRecDepth 100000 in
theorem fb_1 : ∀ m, m < 7 → ∀ n, n < 7 → 0 < n → m ≤ n → ¬ Op.cmpValue (FP.fcmp (fq m n) FP.fconst0) .l < 0 := by decide +kernel
set_option maxRecDepth 100000 in
theorem fb_2 : ∀ m, m < 7 → ∀ n, n < 7 → 0 < n → m ≤ n → ¬ 0 < Op.cmpValue (FP.fcmp (fq m n) FP.fconst1) .g := by decide +kernel
set_option maxRecDepth 100000 in
theorem fb_3 : ∀ m, m < 7 → ∀ n, n < 7 → 0 < n → m ≤ n → (Op.cmpValue (FP.fcmp (fq m n) FP.fconst0) .l = 0 ↔ m = 0) := by decide +kernel
set_option maxRecDepth 100000 in
theorem fb_4 : ∀ m, m < 7 → ∀ n, n < 7 → 0 < n → m ≤ n → (Op.cmpValue (FP.fcmp (fq m n) FP.fconst1) .l = 0 ↔ m = n) := by decide +kernel
theorem fb_0 : Op.cmpValue (FP.fcmp FP.fconst0 FP.fconst0) .l = 0 := by decide +kernel
theorem FB_0 {X : zCV} (h : num X = 0) : zFB X = FP.fconst0 := if_pos h
theorem FB_n {X : zCV} {m : Nat} (hW : zWF X) (h : num X ≠ 0) (e : zSumL zByp X (num X) = nI m) : zFB X = fq m (num X) := by
  unfold zFB zSum
  rw [if_neg h, e, hW.sz]
theorem x_eqf {p : Program} {l : Launch} {e : Env} {R : Room} {s : State} {m : MethodId} {args : Array Value} {below : List Frame} {meth : Method} {c : Code} {nL : Nat} {G : zG} {Q : State → Prop} {cells slots n : Nat} {h : zH} {pc : Nat} {ls : List (Option Value)} {st : List Value} {x y : UInt32} (hxy : x = y) (kk : Xh p l e R s m args below meth c nL G Q cells slots n h pc ls (.float y :: st)) : Xh p l e R s m args below meth c nL G Q cells slots n h pc ls (.float x :: st) := hxy ▸ kk
