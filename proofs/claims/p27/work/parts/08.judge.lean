def hset (h : zH) (i j : Nat) (x : va_E) : zH := fun i' j' => if i' = i ∧ j' = j then x else h i' j'
theorem HW.one {G : zG} {n i j : Nat} {h : zH} {H : Heap} {x : va_E} (hW : HW G n h H) (hok : zok i j) (hn : zix i j < n) (hp : h i j = x) : va_P G.1 vwCl [(zad G i j, x)] H := by
  intro k q hk
  cases k with
  | zero =>
    simp at hk
    subst hk
    rw [← hp]
    exact hW.2 i j hok hn
  | succ k => simp at hk
theorem HW.set {G : zG} {n i j : Nat} {h h' : zH} {H H1 : Heap} {x : va_E} (hW : HW G n h H) (hok : zok i j) (hn : zix i j < n) (z : H1.size = H.size) (he : va_at G.1 vwCl (zad G i j, x) H1) (oq : ∀ q : Nat, q ≠ zad G i j → H1[q]? = H[q]?) (hh : ∀ i' j', zok i' j' → zix i' j' < n → h' i' j' = hset h i j x i' j') : HW G n h' H1 := by
  refine ⟨z.trans hW.1, fun i' j' hok' hn' => ?_⟩
  rw [hh i' j' hok' hn']
  unfold hset
  by_cases hc : i' = i ∧ j' = j
  · rw [if_pos hc]
    obtain ⟨rfl, rfl⟩ := hc
    exact he
  · rw [if_neg hc]
    refine (hW.2 i' j' hok' hn').kept (oq _ fun e => hc ?_)
    exact zix_inj hok' hok (Nat.add_left_cancel e)
theorem HW.conv {G : zG} {n : Nat} {h h' : zH} {H : Heap} (hW : HW G n h H) (hh : ∀ i j, zok i j → zix i j < n → h' i j = h i j) : HW G n h' H :=
  ⟨hW.1, fun i j h1 h2 => by rw [hh i j h1 h2]; exact hW.2 i j h1 h2⟩
section ZJ
variable {p : Program} {l : Launch} {e : Env} {R : Room} {s : State} {m : MethodId} {args : Array Value} {below : List Frame} {meth : Method} {c : Code} {cc : ByteArray} {nL : Nat} {own : String} {G : zG} {Q : State → Prop} {cells slots n : Nat} {h h' : zH} {pc : Nat} {ls ls' : List (Option Value)} {st rest : List Value}
theorem x_conv (hh : ∀ i j, zok i j → zix i j < n → h' i j = h i j) (kk : Xh p l e R s m args below meth c nL G Q cells slots n h' pc ls st) : Xh p l e R s m args below meth c nL G Q cells slots n h pc ls st :=
  fun H locs lsA hW hS hl h1 => kk H locs lsA (hW.conv hh) hS hl h1
theorem x_as (hh : h' = h) (kk : Xh p l e R s m args below meth c nL G Q cells slots n h' pc ls st) : Xh p l e R s m args below meth c nL G Q cells slots n h pc ls st := hh ▸ kk
/-- fewer locals are known -/
theorem x_ls (hs : lo1 ls' = true) (hm : ∀ q ∈ lo 0 ls', q ∈ lo 0 ls) (kk : Xh p l e R s m args below meth c nL G Q cells slots n h pc ls' st) : Xh p l e R s m args below meth c nL G Q cells slots n h pc ls st :=
  fun H locs lsA hW hS hl _ => kk H locs lsA hW hS (lo_sub hl hm) hs
theorem x_iconst (cx : Cx p s m args meth c cc nL own G) {k : Int} {v : Int32} (d : decode cc pc = .ok (.iconst k, 1)) (hv : Int32.ofInt k = v) (kk : Xh p l e R s m args below meth c nL G Q cells slots n h (pc + 1) ls (.int v :: st)) : Xh p l e R s m args below meth c nL G Q cells slots n h pc ls (st) := fun H locs lsA hW hS hl h1 => lv_iconst cx.1.1 cx.1.2.1 d hv (kk H locs lsA hW hS hl h1)
theorem x_bipush (cx : Cx p s m args meth c cc nL own G) {k : Int} {v : Int32} (d : decode cc pc = .ok (.bipush k, 2)) (hv : (Int8.ofInt k).toInt32 = v) (kk : Xh p l e R s m args below meth c nL G Q cells slots n h (pc + 2) ls (.int v :: st)) : Xh p l e R s m args below meth c nL G Q cells slots n h pc ls (st) := fun H locs lsA hW hS hl h1 => lv_bipush cx.1.1 cx.1.2.1 d hv (kk H locs lsA hW hS hl h1)
theorem x_sipush (cx : Cx p s m args meth c cc nL own G) {k : Int} {v : Int32} (d : decode cc pc = .ok (.sipush k, 3)) (hv : (Int16.ofInt k).toInt32 = v) (kk : Xh p l e R s m args below meth c nL G Q cells slots n h (pc + 3) ls (.int v :: st)) : Xh p l e R s m args below meth c nL G Q cells slots n h pc ls (st) := fun H locs lsA hW hS hl h1 => lv_sipush cx.1.1 cx.1.2.1 d hv (kk H locs lsA hW hS hl h1)
theorem x_iload_n (cx : Cx p s m args meth c cc nL own G) {k : Fin 4} {i : Nat} {x : Int32} (d : decode cc pc = .ok (.iload_n k, 1)) (hi : (k : Nat) = i) (hv : ls[i]? = some (some (.int x))) (kk : Xh p l e R s m args below meth c nL G Q cells slots n h (pc + 1) ls (.int x :: st)) : Xh p l e R s m args below meth c nL G Q cells slots n h pc ls (st) := fun H locs lsA hW hS hl h1 => lv_iload_n cx.1.1 cx.1.2.1 d hi (lo_at hl hv) (kk H locs lsA hW hS hl h1)
theorem x_iload (cx : Cx p s m args meth c cc nL own G) {i : Nat} {x : Int32} (d : decode cc pc = .ok (.iload i, 2)) (hv : ls[i]? = some (some (.int x))) (kk : Xh p l e R s m args below meth c nL G Q cells slots n h (pc + 2) ls (.int x :: st)) : Xh p l e R s m args below meth c nL G Q cells slots n h pc ls (st) := fun H locs lsA hW hS hl h1 => lv_iload cx.1.1 cx.1.2.1 d (lo_at hl hv) (kk H locs lsA hW hS hl h1)
theorem x_aload_n (cx : Cx p s m args meth c cc nL own G) {k : Fin 4} {i : Nat} {x : Nat} (d : decode cc pc = .ok (.aload_n k, 1)) (hi : (k : Nat) = i) (hv : ls[i]? = some (some (.ref x))) (kk : Xh p l e R s m args below meth c nL G Q cells slots n h (pc + 1) ls (.ref x :: st)) : Xh p l e R s m args below meth c nL G Q cells slots n h pc ls (st) := fun H locs lsA hW hS hl h1 => lv_aload_n cx.1.1 cx.1.2.1 d hi (lo_at hl hv) (kk H locs lsA hW hS hl h1)
theorem x_aload (cx : Cx p s m args meth c cc nL own G) {i : Nat} {x : Nat} (d : decode cc pc = .ok (.aload i, 2)) (hv : ls[i]? = some (some (.ref x))) (kk : Xh p l e R s m args below meth c nL G Q cells slots n h (pc + 2) ls (.ref x :: st)) : Xh p l e R s m args below meth c nL G Q cells slots n h pc ls (st) := fun H locs lsA hW hS hl h1 => lv_aload cx.1.1 cx.1.2.1 d (lo_at hl hv) (kk H locs lsA hW hS hl h1)
theorem x_istore_n (cx : Cx p s m args meth c cc nL own G) {k : Fin 4} {i : Nat} {x : Int32} (d : decode cc pc = .ok (.istore_n k, 1)) (hi : (k : Nat) = i) (hn : i < nL) (hls : ls.set i (some (.int x)) = ls') (kk : Xh p l e R s m args below meth c nL G Q cells slots n h (pc + 1) ls' st) (hq1 : lo1 ls' = true := by rfl) (hq2 : ls'[i]? = some (some (.int x)) := by rfl) : Xh p l e R s m args below meth c nL G Q cells slots n h pc ls (.int x :: st) := fun H locs lsA hW hS hl h1 => lv_istore_n cx.1.1 cx.1.2.1 d hi hl hn rfl (fun lsB hB => kk H locs lsB hW hS (lo_sub hB (lo_put hq1 hq2 hls)) hq1)
theorem x_istore (cx : Cx p s m args meth c cc nL own G) {i : Nat} {x : Int32} (d : decode cc pc = .ok (.istore i, 2)) (hn : i < nL) (hls : ls.set i (some (.int x)) = ls') (kk : Xh p l e R s m args below meth c nL G Q cells slots n h (pc + 2) ls' st) (hq1 : lo1 ls' = true := by rfl) (hq2 : ls'[i]? = some (some (.int x)) := by rfl) : Xh p l e R s m args below meth c nL G Q cells slots n h pc ls (.int x :: st) := fun H locs lsA hW hS hl h1 => lv_istore cx.1.1 cx.1.2.1 d hl hn rfl (fun lsB hB => kk H locs lsB hW hS (lo_sub hB (lo_put hq1 hq2 hls)) hq1)
theorem x_astore_n (cx : Cx p s m args meth c cc nL own G) {k : Fin 4} {i : Nat} {x : Nat} (d : decode cc pc = .ok (.astore_n k, 1)) (hi : (k : Nat) = i) (hn : i < nL) (hls : ls.set i (some (.ref x)) = ls') (kk : Xh p l e R s m args below meth c nL G Q cells slots n h (pc + 1) ls' st) (hq1 : lo1 ls' = true := by rfl) (hq2 : ls'[i]? = some (some (.ref x)) := by rfl) : Xh p l e R s m args below meth c nL G Q cells slots n h pc ls (.ref x :: st) := fun H locs lsA hW hS hl h1 => lv_astore_n cx.1.1 cx.1.2.1 d hi hl hn rfl (fun lsB hB => kk H locs lsB hW hS (lo_sub hB (lo_put hq1 hq2 hls)) hq1)
theorem x_astore (cx : Cx p s m args meth c cc nL own G) {i : Nat} {x : Nat} (d : decode cc pc = .ok (.astore i, 2)) (hn : i < nL) (hls : ls.set i (some (.ref x)) = ls') (kk : Xh p l e R s m args below meth c nL G Q cells slots n h (pc + 2) ls' st) (hq1 : lo1 ls' = true := by rfl) (hq2 : ls'[i]? = some (some (.ref x)) := by rfl) : Xh p l e R s m args below meth c nL G Q cells slots n h pc ls (.ref x :: st) := fun H locs lsA hW hS hl h1 => lv_astore cx.1.1 cx.1.2.1 d hl hn rfl (fun lsB hB => kk H locs lsB hW hS (lo_sub hB (lo_put hq1 hq2 hls)) hq1)
theorem x_fstore_n (cx : Cx p s m args meth c cc nL own G) {k : Fin 4} {i : Nat} {x : UInt32} (d : decode cc pc = .ok (.fstore_n k, 1)) (hi : (k : Nat) = i) (hn : i < nL) (hls : ls.set i (some (.float x)) = ls') (kk : Xh p l e R s m args below meth c nL G Q cells slots n h (pc + 1) ls' st) (hq1 : lo1 ls' = true := by rfl) (hq2 : ls'[i]? = some (some (.float x)) := by rfl) : Xh p l e R s m args below meth c nL G Q cells slots n h pc ls (.float x :: st) := fun H locs lsA hW hS hl h1 => lv_fstore_n cx.1.1 cx.1.2.1 d hi hl hn rfl (fun lsB hB => kk H locs lsB hW hS (lo_sub hB (lo_put hq1 hq2 hls)) hq1)
theorem x_fstore (cx : Cx p s m args meth c cc nL own G) {i : Nat} {x : UInt32} (d : decode cc pc = .ok (.fstore i, 2)) (hn : i < nL) (hls : ls.set i (some (.float x)) = ls') (kk : Xh p l e R s m args below meth c nL G Q cells slots n h (pc + 2) ls' st) (hq1 : lo1 ls' = true := by rfl) (hq2 : ls'[i]? = some (some (.float x)) := by rfl) : Xh p l e R s m args below meth c nL G Q cells slots n h pc ls (.float x :: st) := fun H locs lsA hW hS hl h1 => lv_fstore cx.1.1 cx.1.2.1 d hl hn rfl (fun lsB hB => kk H locs lsB hW hS (lo_sub hB (lo_put hq1 hq2 hls)) hq1)
theorem x_fload_n (cx : Cx p s m args meth c cc nL own G) {k : Fin 4} {i : Nat} {x : UInt32} (d : decode cc pc = .ok (.fload_n k, 1)) (hi : (k : Nat) = i) (hv : ls[i]? = some (some (.float x))) (kk : Xh p l e R s m args below meth c nL G Q cells slots n h (pc + 1) ls (.float x :: st)) : Xh p l e R s m args below meth c nL G Q cells slots n h pc ls (st) := fun H locs lsA hW hS hl h1 => lv_fload_n cx.1.1 cx.1.2.1 d hi (lo_at hl hv) (kk H locs lsA hW hS hl h1)
theorem x_iinc (cx : Cx p s m args meth c cc nL own G) {i : Nat} {k : Int} {x v : Int32} (d : decode cc pc = .ok (.iinc i k, 3)) (hv : ls[i]? = some (some (.int x))) (hx : x + Int32.ofInt k = v) (hn : i < nL) (hls : ls.set i (some (.int v)) = ls') (kk : Xh p l e R s m args below meth c nL G Q cells slots n h (pc + 3) ls' st) (hq1 : lo1 ls' = true := by rfl) (hq2 : ls'[i]? = some (some (.int v)) := by rfl) : Xh p l e R s m args below meth c nL G Q cells slots n h pc ls st := by
  intro H locs lsA hW hS hl h1
  obtain ⟨q, hq⟩ := List.getElem?_of_mem (show (i, Value.int x) ∈ lo 0 ls by simpa using lo_mem ls 0 i hv)
  exact lv_iinc cx.1.1 cx.1.2.1 d hl hq hx hn rfl (fun lsB hB => kk H locs lsB hW hS (lo_sub hB (lo_put hq1 hq2 hls)) hq1)
theorem x_iadd (cx : Cx p s m args meth c cc nL own G) {x y : Int32} (d : decode cc pc = .ok (.iadd, 1)) (kk : Xh p l e R s m args below meth c nL G Q cells slots n h (pc + 1) ls (.int (x + y) :: st)) : Xh p l e R s m args below meth c nL G Q cells slots n h pc ls (.int y :: .int x :: st) := fun H locs lsA hW hS hl h1 => lv_iadd cx.1.1 cx.1.2.1 d (kk H locs lsA hW hS hl h1)
theorem x_isub (cx : Cx p s m args meth c cc nL own G) {x y : Int32} (d : decode cc pc = .ok (.isub, 1)) (kk : Xh p l e R s m args below meth c nL G Q cells slots n h (pc + 1) ls (.int (x - y) :: st)) : Xh p l e R s m args below meth c nL G Q cells slots n h pc ls (.int y :: .int x :: st) := fun H locs lsA hW hS hl h1 => lv_isub cx.1.1 cx.1.2.1 d (kk H locs lsA hW hS hl h1)
theorem x_imul (cx : Cx p s m args meth c cc nL own G) {x y : Int32} (d : decode cc pc = .ok (.imul, 1)) (kk : Xh p l e R s m args below meth c nL G Q cells slots n h (pc + 1) ls (.int (x * y) :: st)) : Xh p l e R s m args below meth c nL G Q cells slots n h pc ls (.int y :: .int x :: st) := fun H locs lsA hW hS hl h1 => lv_imul cx.1.1 cx.1.2.1 d (kk H locs lsA hW hS hl h1)
theorem x_iand (cx : Cx p s m args meth c cc nL own G) {x y : Int32} (d : decode cc pc = .ok (.iand, 1)) (kk : Xh p l e R s m args below meth c nL G Q cells slots n h (pc + 1) ls (.int (x &&& y) :: st)) : Xh p l e R s m args below meth c nL G Q cells slots n h pc ls (.int y :: .int x :: st) := fun H locs lsA hW hS hl h1 => lv_iand cx.1.1 cx.1.2.1 d (kk H locs lsA hW hS hl h1)
theorem x_ior (cx : Cx p s m args meth c cc nL own G) {x y : Int32} (d : decode cc pc = .ok (.ior, 1)) (kk : Xh p l e R s m args below meth c nL G Q cells slots n h (pc + 1) ls (.int (x ||| y) :: st)) : Xh p l e R s m args below meth c nL G Q cells slots n h pc ls (.int y :: .int x :: st) := fun H locs lsA hW hS hl h1 => lv_ior cx.1.1 cx.1.2.1 d (kk H locs lsA hW hS hl h1)
theorem x_ishl (cx : Cx p s m args meth c cc nL own G) {x y : Int32} (d : decode cc pc = .ok (.ishl, 1)) (kk : Xh p l e R s m args below meth c nL G Q cells slots n h (pc + 1) ls (.int (x <<< (y &&& 31)) :: st)) : Xh p l e R s m args below meth c nL G Q cells slots n h pc ls (.int y :: .int x :: st) := fun H locs lsA hW hS hl h1 => lv_ishl cx.1.1 cx.1.2.1 d (kk H locs lsA hW hS hl h1)
theorem x_ishr (cx : Cx p s m args meth c cc nL own G) {x y : Int32} (d : decode cc pc = .ok (.ishr, 1)) (kk : Xh p l e R s m args below meth c nL G Q cells slots n h (pc + 1) ls (.int (x >>> (y &&& 31)) :: st)) : Xh p l e R s m args below meth c nL G Q cells slots n h pc ls (.int y :: .int x :: st) := fun H locs lsA hW hS hl h1 => lv_ishr cx.1.1 cx.1.2.1 d (kk H locs lsA hW hS hl h1)
theorem x_irem (cx : Cx p s m args meth c cc nL own G) {x y : Int32} (d : decode cc pc = .ok (.irem, 1)) (hne : ¬ y = 0) (kk : Xh p l e R s m args below meth c nL G Q cells slots n h (pc + 1) ls (.int (x - x / y * y) :: st)) : Xh p l e R s m args below meth c nL G Q cells slots n h pc ls (.int y :: .int x :: st) := fun H locs lsA hW hS hl h1 => lv_irem cx.1.1 cx.1.2.1 d hne (kk H locs lsA hW hS hl h1)
theorem x_i2c (cx : Cx p s m args meth c cc nL own G) {x v : Int32} (d : decode cc pc = .ok (.i2c, 1)) (hv : (x.toUInt32 % 65536).toInt32 = v) (kk : Xh p l e R s m args below meth c nL G Q cells slots n h (pc + 1) ls (.int v :: st)) : Xh p l e R s m args below meth c nL G Q cells slots n h pc ls (.int x :: st) := fun H locs lsA hW hS hl h1 => lv_i2c cx.1.1 cx.1.2.1 d hv (kk H locs lsA hW hS hl h1)
theorem x_i2f (cx : Cx p s m args meth c cc nL own G) {x : Int32} (d : decode cc pc = .ok (.i2f, 1)) (kk : Xh p l e R s m args below meth c nL G Q cells slots n h (pc + 1) ls (.float (FP.i2f x) :: st)) : Xh p l e R s m args below meth c nL G Q cells slots n h pc ls (.int x :: st) := fun H locs lsA hW hS hl h1 => lv_i2f cx.1.1 cx.1.2.1 d (kk H locs lsA hW hS hl h1)
theorem x_fconst0 (cx : Cx p s m args meth c cc nL own G)  (d : decode cc pc = .ok (.fconst 0, 1)) (kk : Xh p l e R s m args below meth c nL G Q cells slots n h (pc + 1) ls (.float FP.fconst0 :: st)) : Xh p l e R s m args below meth c nL G Q cells slots n h pc ls (st) := fun H locs lsA hW hS hl h1 => lv_fconst0 cx.1.1 cx.1.2.1 d (kk H locs lsA hW hS hl h1)
theorem x_fdiv (cx : Cx p s m args meth c cc nL own G) {x y : UInt32} (d : decode cc pc = .ok (.fdiv, 1)) (hne : vf_n32 (FP.fdiv x y)) (kk : Xh p l e R s m args below meth c nL G Q cells slots n h (pc + 1) ls (.float (FP.fdiv x y) :: st)) : Xh p l e R s m args below meth c nL G Q cells slots n h pc ls (.float y :: .float x :: st) := fun H locs lsA hW hS hl h1 => lv_fdiv cx.1.1 cx.1.2.1 d hne (kk H locs lsA hW hS hl h1)
theorem x_dup (cx : Cx p s m args meth c cc nL own G) {va : Value} (d : decode cc pc = .ok (.dup, 1)) (hva : va.category = 1) (kk : Xh p l e R s m args below meth c nL G Q cells slots n h (pc + 1) ls (va :: va :: st)) : Xh p l e R s m args below meth c nL G Q cells slots n h pc ls (va :: st) := fun H locs lsA hW hS hl h1 => lv_dup cx.1.1 cx.1.2.1 d hva (kk H locs lsA hW hS hl h1)
theorem x_pop (cx : Cx p s m args meth c cc nL own G) {va : Value} (d : decode cc pc = .ok (.pop, 1)) (hva : va.category = 1) (kk : Xh p l e R s m args below meth c nL G Q cells slots n h (pc + 1) ls (st)) : Xh p l e R s m args below meth c nL G Q cells slots n h pc ls (va :: st) := fun H locs lsA hW hS hl h1 => lv_pop cx.1.1 cx.1.2.1 d hva (kk H locs lsA hW hS hl h1)
theorem x_dup2 (cx : Cx p s m args meth c cc nL own G) {va vb : Value} (d : decode cc pc = .ok (.dup2, 1)) (hva : va.category = 1) (hvb : vb.category = 1) (kk : Xh p l e R s m args below meth c nL G Q cells slots n h (pc + 1) ls (va :: vb :: va :: vb :: st)) : Xh p l e R s m args below meth c nL G Q cells slots n h pc ls (va :: vb :: st) := fun H locs lsA hW hS hl h1 => lv_dup2_11 cx.1.1 cx.1.2.1 d hva hvb (kk H locs lsA hW hS hl h1)
theorem x_idiv (cx : Cx p s m args meth c cc nL own G) {x y : Int32} (d : decode cc pc = .ok (.idiv, 1)) (hne : ¬ y = 0) (kk : Xh p l e R s m args below meth c nL G Q cells slots n h (pc + 1) ls (.int (x / y) :: st)) : Xh p l e R s m args below meth c nL G Q cells slots n h pc ls (.int y :: .int x :: st) := fun H locs lsA hW hS hl h1 => lv_idiv cx.1.1 cx.1.2.1 d hne (kk H locs lsA hW hS hl h1)
theorem x_fconst1 (cx : Cx p s m args meth c cc nL own G)  (d : decode cc pc = .ok (.fconst 1, 1)) (kk : Xh p l e R s m args below meth c nL G Q cells slots n h (pc + 1) ls (.float FP.fconst1 :: st)) : Xh p l e R s m args below meth c nL G Q cells slots n h pc ls (st) := fun H locs lsA hW hS hl h1 => lv_fconst1 cx.1.1 cx.1.2.1 d (kk H locs lsA hW hS hl h1)
theorem x_fcmp (cx : Cx p s m args meth c cc nL own G) {x y : UInt32} {op : CmpOp} (d : decode cc pc = .ok (.fcmp op, 1)) (kk : Xh p l e R s m args below meth c nL G Q cells slots n h (pc + 1) ls (.int (Op.cmpValue (FP.fcmp x y) op) :: st)) : Xh p l e R s m args below meth c nL G Q cells slots n h pc ls (.float y :: .float x :: st) := fun H locs lsA hW hS hl h1 => lv_fcmp cx.1.1 cx.1.2.1 d (kk H locs lsA hW hS hl h1)
theorem x_lmul (cx : Cx p s m args meth c cc nL own G) {x y : Int64} (d : decode cc pc = .ok (.lmul, 1)) (kk : Xh p l e R s m args below meth c nL G Q cells slots n h (pc + 1) ls (.long (x * y) :: st)) : Xh p l e R s m args below meth c nL G Q cells slots n h pc ls (.long y :: .long x :: st) := fun H locs lsA hW hS hl h1 => lv_lmul cx.1.1 cx.1.2.1 d (kk H locs lsA hW hS hl h1)
theorem x_ladd (cx : Cx p s m args meth c cc nL own G) {x y : Int64} (d : decode cc pc = .ok (.ladd, 1)) (kk : Xh p l e R s m args below meth c nL G Q cells slots n h (pc + 1) ls (.long (x + y) :: st)) : Xh p l e R s m args below meth c nL G Q cells slots n h pc ls (.long y :: .long x :: st) := fun H locs lsA hW hS hl h1 => lv_ladd cx.1.1 cx.1.2.1 d (kk H locs lsA hW hS hl h1)
theorem x_i2l (cx : Cx p s m args meth c cc nL own G) {x : Int32} (d : decode cc pc = .ok (.i2l, 1)) (kk : Xh p l e R s m args below meth c nL G Q cells slots n h (pc + 1) ls (.long x.toInt64 :: st)) : Xh p l e R s m args below meth c nL G Q cells slots n h pc ls (.int x :: st) := fun H locs lsA hW hS hl h1 => lv_i2l cx.1.1 cx.1.2.1 d rfl (kk H locs lsA hW hS hl h1)
theorem x_lcmp (cx : Cx p s m args meth c cc nL own G) {x y : Int64} (d : decode cc pc = .ok (.lcmp, 1)) (kk : Xh p l e R s m args below meth c nL G Q cells slots n h (pc + 1) ls (.int (lg_cmp x y) :: st)) : Xh p l e R s m args below meth c nL G Q cells slots n h pc ls (.long y :: .long x :: st) := fun H locs lsA hW hS hl h1 => W.lcmp cx.1.1 cx.1.2.1 d (kk H locs lsA hW hS hl h1)
theorem x_ldc (cx : Cx p s m args meth c cc nL own G) {idx : Nat} {v : Int32} (d : decode cc pc = .ok (.ldc idx, 2)) (hc : Cond.constant own idx v ∈ zW) (kk : Xh p l e R s m args below meth c nL G Q cells slots n h (pc + 2) ls (.int v :: st)) : Xh p l e R s m args below meth c nL G Q cells slots n h pc ls (st) := fun H locs lsA hW hS hl h1 => lv_ldc cx.1.1 cx.1.2.1 cx.1.2.2.2.1 (cx.1.2.2.2.2 _ hc) d (kk H locs lsA hW hS hl h1)
theorem x_ldc2 (cx : Cx p s m args meth c cc nL own G) {idx : Nat} {v : Int64} (d : decode cc pc = .ok (.ldc2_w idx, 3)) (hc : Cond.constantLong own idx v ∈ zW) (kk : Xh p l e R s m args below meth c nL G Q cells slots n h (pc + 3) ls (.long v :: st)) : Xh p l e R s m args below meth c nL G Q cells slots n h pc ls (st) := fun H locs lsA hW hS hl h1 => lv_ldc2 cx.1.1 cx.1.2.1 cx.1.2.2.2.1 (cx.1.2.2.2.2 _ hc) d (kk H locs lsA hW hS hl h1)
theorem x_lload_n (cx : Cx p s m args meth c cc nL own G) {k : Fin 4} {i : Nat} {x : Int64} (d : decode cc pc = .ok (.lload_n k, 1)) (hi : (k : Nat) = i) (hv : ls[i]? = some (some (.long x))) (kk : Xh p l e R s m args below meth c nL G Q cells slots n h (pc + 1) ls (.long x :: st)) : Xh p l e R s m args below meth c nL G Q cells slots n h pc ls (st) := fun H locs lsA hW hS hl h1 => lv_lload_n cx.1.1 cx.1.2.1 d hi (lo_at hl hv) (kk H locs lsA hW hS hl h1)
theorem x_lload (cx : Cx p s m args meth c cc nL own G) {i : Nat} {x : Int64} (d : decode cc pc = .ok (.lload i, 2)) (hv : ls[i]? = some (some (.long x))) (kk : Xh p l e R s m args below meth c nL G Q cells slots n h (pc + 2) ls (.long x :: st)) : Xh p l e R s m args below meth c nL G Q cells slots n h pc ls (st) := fun H locs lsA hW hS hl h1 => lv_lload cx.1.1 cx.1.2.1 d (lo_at hl hv) (kk H locs lsA hW hS hl h1)
theorem x_lstore_n (cx : Cx p s m args meth c cc nL own G) {k : Fin 4} {i : Nat} {x : Int64} (d : decode cc pc = .ok (.lstore_n k, 1)) (hi : (k : Nat) = i) (hn : i + 1 < nL) (hls : (ls.set i (some (.long x))).set (i + 1) none = ls') (kk : Xh p l e R s m args below meth c nL G Q cells slots n h (pc + 1) ls' st) (hq1 : lo1 ls' = true := by rfl) (hq2 : ls'[i]? = some (some (.long x)) := by rfl) (hq3 : ls'[i + 1]? = some none := by rfl) : Xh p l e R s m args below meth c nL G Q cells slots n h pc ls (.long x :: st) := fun H locs lsA hW hS hl h1 => lv_lstore_n cx.1.1 cx.1.2.1 d hi hl hn rfl (fun lsB hB => kk H locs lsB hW hS (lo_sub hB (lo_put2 hq1 hq2 hq3 hls)) hq1)
theorem x_lstore (cx : Cx p s m args meth c cc nL own G) {i : Nat} {x : Int64} (d : decode cc pc = .ok (.lstore i, 2)) (hn : i + 1 < nL) (hls : (ls.set i (some (.long x))).set (i + 1) none = ls') (kk : Xh p l e R s m args below meth c nL G Q cells slots n h (pc + 2) ls' st) (hq1 : lo1 ls' = true := by rfl) (hq2 : ls'[i]? = some (some (.long x)) := by rfl) (hq3 : ls'[i + 1]? = some none := by rfl) : Xh p l e R s m args below meth c nL G Q cells slots n h pc ls (.long x :: st) := fun H locs lsA hW hS hl h1 => lv_lstore cx.1.1 cx.1.2.1 d hl hn rfl (fun lsB hB => kk H locs lsB hW hS (lo_sub hB (lo_put2 hq1 hq2 hq3 hls)) hq1)
theorem x_eqi {x y : Int32} (hxy : x = y) (kk : Xh p l e R s m args below meth c nL G Q cells slots n h pc ls (.int y :: st)) : Xh p l e R s m args below meth c nL G Q cells slots n h pc ls (.int x :: st) := hxy ▸ kk
theorem x_eql {x y : Int64} (hxy : x = y) (kk : Xh p l e R s m args below meth c nL G Q cells slots n h pc ls (.long y :: st)) : Xh p l e R s m args below meth c nL G Q cells slots n h pc ls (.long x :: st) := hxy ▸ kk
theorem x_topi {x : Int32} (kk : ∀ y : Int32, y = x → Xh p l e R s m args below meth c nL G Q cells slots n h pc ls (.int y :: st)) : Xh p l e R s m args below meth c nL G Q cells slots n h pc ls (.int x :: st) := kk x rfl
theorem x_if_eq (cx : Cx p s m args meth c cc nL own G) {x : Int32} {off : Int} {tgt : Nat} (d : decode cc pc = .ok (.ifCond .eq off, 3)) (ht : (pc : Int) + off = (tgt : Int)) (kt : x = 0 → Xh p l e R s m args below meth c nL G Q cells slots n h tgt ls st) (kf : ¬ x = 0 → Xh p l e R s m args below meth c nL G Q cells slots n h (pc + 3) ls st) : Xh p l e R s m args below meth c nL G Q cells slots n h pc ls (.int x :: st) := fun H locs lsA hW hS hl h1 => lv_if_eq cx.1.1 cx.1.2.1 d ht (fun z => kt z H locs lsA hW hS hl h1) (fun z => kf z H locs lsA hW hS hl h1)
theorem x_if_eq_t (cx : Cx p s m args meth c cc nL own G) {x : Int32} {off : Int} {tgt : Nat} (d : decode cc pc = .ok (.ifCond .eq off, 3)) (ht : (pc : Int) + off = (tgt : Int)) (hc : x = 0) (kt : Xh p l e R s m args below meth c nL G Q cells slots n h tgt ls st) : Xh p l e R s m args below meth c nL G Q cells slots n h pc ls (.int x :: st) := x_if_eq cx d ht (fun _ => kt) (fun z => absurd hc z)
theorem x_if_eq_f (cx : Cx p s m args meth c cc nL own G) {x : Int32} {off : Int} (d : decode cc pc = .ok (.ifCond .eq off, 3)) {tgt : Nat} (ht : (pc : Int) + off = (tgt : Int)) (hc : ¬ x = 0) (kf : Xh p l e R s m args below meth c nL G Q cells slots n h (pc + 3) ls st) : Xh p l e R s m args below meth c nL G Q cells slots n h pc ls (.int x :: st) := x_if_eq cx d ht (fun z => absurd z hc) (fun _ => kf)
theorem x_icmp_eq (cx : Cx p s m args meth c cc nL own G) {x y : Int32} {off : Int} {tgt : Nat} (d : decode cc pc = .ok (.if_icmp .eq off, 3)) (ht : (pc : Int) + off = (tgt : Int)) (kt : x = y → Xh p l e R s m args below meth c nL G Q cells slots n h tgt ls st) (kf : ¬ x = y → Xh p l e R s m args below meth c nL G Q cells slots n h (pc + 3) ls st) : Xh p l e R s m args below meth c nL G Q cells slots n h pc ls (.int y :: .int x :: st) := fun H locs lsA hW hS hl h1 => lv_icmp_eq cx.1.1 cx.1.2.1 d ht (fun z => kt z H locs lsA hW hS hl h1) (fun z => kf z H locs lsA hW hS hl h1)
theorem x_icmp_eq_t (cx : Cx p s m args meth c cc nL own G) {x y : Int32} {off : Int} {tgt : Nat} (d : decode cc pc = .ok (.if_icmp .eq off, 3)) (ht : (pc : Int) + off = (tgt : Int)) (hc : x = y) (kt : Xh p l e R s m args below meth c nL G Q cells slots n h tgt ls st) : Xh p l e R s m args below meth c nL G Q cells slots n h pc ls (.int y :: .int x :: st) := x_icmp_eq cx d ht (fun _ => kt) (fun z => absurd hc z)
theorem x_icmp_eq_f (cx : Cx p s m args meth c cc nL own G) {x y : Int32} {off : Int} (d : decode cc pc = .ok (.if_icmp .eq off, 3)) {tgt : Nat} (ht : (pc : Int) + off = (tgt : Int)) (hc : ¬ x = y) (kf : Xh p l e R s m args below meth c nL G Q cells slots n h (pc + 3) ls st) : Xh p l e R s m args below meth c nL G Q cells slots n h pc ls (.int y :: .int x :: st) := x_icmp_eq cx d ht (fun z => absurd z hc) (fun _ => kf)
theorem x_if_ne (cx : Cx p s m args meth c cc nL own G) {x : Int32} {off : Int} {tgt : Nat} (d : decode cc pc = .ok (.ifCond .ne off, 3)) (ht : (pc : Int) + off = (tgt : Int)) (kt : ¬ x = 0 → Xh p l e R s m args below meth c nL G Q cells slots n h tgt ls st) (kf : x = 0 → Xh p l e R s m args below meth c nL G Q cells slots n h (pc + 3) ls st) : Xh p l e R s m args below meth c nL G Q cells slots n h pc ls (.int x :: st) := fun H locs lsA hW hS hl h1 => lv_if_ne cx.1.1 cx.1.2.1 d ht (fun z => kt z H locs lsA hW hS hl h1) (fun z => kf z H locs lsA hW hS hl h1)
theorem x_if_ne_t (cx : Cx p s m args meth c cc nL own G) {x : Int32} {off : Int} {tgt : Nat} (d : decode cc pc = .ok (.ifCond .ne off, 3)) (ht : (pc : Int) + off = (tgt : Int)) (hc : ¬ x = 0) (kt : Xh p l e R s m args below meth c nL G Q cells slots n h tgt ls st) : Xh p l e R s m args below meth c nL G Q cells slots n h pc ls (.int x :: st) := x_if_ne cx d ht (fun _ => kt) (fun z => absurd z hc)
theorem x_if_ne_f (cx : Cx p s m args meth c cc nL own G) {x : Int32} {off : Int} (d : decode cc pc = .ok (.ifCond .ne off, 3)) {tgt : Nat} (ht : (pc : Int) + off = (tgt : Int)) (hc : x = 0) (kf : Xh p l e R s m args below meth c nL G Q cells slots n h (pc + 3) ls st) : Xh p l e R s m args below meth c nL G Q cells slots n h pc ls (.int x :: st) := x_if_ne cx d ht (fun z => absurd hc z) (fun _ => kf)
theorem x_icmp_ne (cx : Cx p s m args meth c cc nL own G) {x y : Int32} {off : Int} {tgt : Nat} (d : decode cc pc = .ok (.if_icmp .ne off, 3)) (ht : (pc : Int) + off = (tgt : Int)) (kt : ¬ x = y → Xh p l e R s m args below meth c nL G Q cells slots n h tgt ls st) (kf : x = y → Xh p l e R s m args below meth c nL G Q cells slots n h (pc + 3) ls st) : Xh p l e R s m args below meth c nL G Q cells slots n h pc ls (.int y :: .int x :: st) := fun H locs lsA hW hS hl h1 => lv_icmp_ne cx.1.1 cx.1.2.1 d ht (fun z => kt z H locs lsA hW hS hl h1) (fun z => kf z H locs lsA hW hS hl h1)
theorem x_icmp_ne_t (cx : Cx p s m args meth c cc nL own G) {x y : Int32} {off : Int} {tgt : Nat} (d : decode cc pc = .ok (.if_icmp .ne off, 3)) (ht : (pc : Int) + off = (tgt : Int)) (hc : ¬ x = y) (kt : Xh p l e R s m args below meth c nL G Q cells slots n h tgt ls st) : Xh p l e R s m args below meth c nL G Q cells slots n h pc ls (.int y :: .int x :: st) := x_icmp_ne cx d ht (fun _ => kt) (fun z => absurd z hc)
theorem x_icmp_ne_f (cx : Cx p s m args meth c cc nL own G) {x y : Int32} {off : Int} (d : decode cc pc = .ok (.if_icmp .ne off, 3)) {tgt : Nat} (ht : (pc : Int) + off = (tgt : Int)) (hc : x = y) (kf : Xh p l e R s m args below meth c nL G Q cells slots n h (pc + 3) ls st) : Xh p l e R s m args below meth c nL G Q cells slots n h pc ls (.int y :: .int x :: st) := x_icmp_ne cx d ht (fun z => absurd hc z) (fun _ => kf)
theorem x_if_lt (cx : Cx p s m args meth c cc nL own G) {x : Int32} {off : Int} {tgt : Nat} (d : decode cc pc = .ok (.ifCond .lt off, 3)) (ht : (pc : Int) + off = (tgt : Int)) (kt : x < 0 → Xh p l e R s m args below meth c nL G Q cells slots n h tgt ls st) (kf : ¬ x < 0 → Xh p l e R s m args below meth c nL G Q cells slots n h (pc + 3) ls st) : Xh p l e R s m args below meth c nL G Q cells slots n h pc ls (.int x :: st) := fun H locs lsA hW hS hl h1 => lv_if_lt cx.1.1 cx.1.2.1 d ht (fun z => kt z H locs lsA hW hS hl h1) (fun z => kf z H locs lsA hW hS hl h1)
theorem x_if_lt_t (cx : Cx p s m args meth c cc nL own G) {x : Int32} {off : Int} {tgt : Nat} (d : decode cc pc = .ok (.ifCond .lt off, 3)) (ht : (pc : Int) + off = (tgt : Int)) (hc : x < 0) (kt : Xh p l e R s m args below meth c nL G Q cells slots n h tgt ls st) : Xh p l e R s m args below meth c nL G Q cells slots n h pc ls (.int x :: st) := x_if_lt cx d ht (fun _ => kt) (fun z => absurd hc z)
theorem x_if_lt_f (cx : Cx p s m args meth c cc nL own G) {x : Int32} {off : Int} (d : decode cc pc = .ok (.ifCond .lt off, 3)) {tgt : Nat} (ht : (pc : Int) + off = (tgt : Int)) (hc : ¬ x < 0) (kf : Xh p l e R s m args below meth c nL G Q cells slots n h (pc + 3) ls st) : Xh p l e R s m args below meth c nL G Q cells slots n h pc ls (.int x :: st) := x_if_lt cx d ht (fun z => absurd z hc) (fun _ => kf)
theorem x_icmp_lt (cx : Cx p s m args meth c cc nL own G) {x y : Int32} {off : Int} {tgt : Nat} (d : decode cc pc = .ok (.if_icmp .lt off, 3)) (ht : (pc : Int) + off = (tgt : Int)) (kt : x < y → Xh p l e R s m args below meth c nL G Q cells slots n h tgt ls st) (kf : ¬ x < y → Xh p l e R s m args below meth c nL G Q cells slots n h (pc + 3) ls st) : Xh p l e R s m args below meth c nL G Q cells slots n h pc ls (.int y :: .int x :: st) := fun H locs lsA hW hS hl h1 => lv_icmp_lt cx.1.1 cx.1.2.1 d ht (fun z => kt z H locs lsA hW hS hl h1) (fun z => kf z H locs lsA hW hS hl h1)
theorem x_icmp_lt_t (cx : Cx p s m args meth c cc nL own G) {x y : Int32} {off : Int} {tgt : Nat} (d : decode cc pc = .ok (.if_icmp .lt off, 3)) (ht : (pc : Int) + off = (tgt : Int)) (hc : x < y) (kt : Xh p l e R s m args below meth c nL G Q cells slots n h tgt ls st) : Xh p l e R s m args below meth c nL G Q cells slots n h pc ls (.int y :: .int x :: st) := x_icmp_lt cx d ht (fun _ => kt) (fun z => absurd hc z)
theorem x_icmp_lt_f (cx : Cx p s m args meth c cc nL own G) {x y : Int32} {off : Int} (d : decode cc pc = .ok (.if_icmp .lt off, 3)) {tgt : Nat} (ht : (pc : Int) + off = (tgt : Int)) (hc : ¬ x < y) (kf : Xh p l e R s m args below meth c nL G Q cells slots n h (pc + 3) ls st) : Xh p l e R s m args below meth c nL G Q cells slots n h pc ls (.int y :: .int x :: st) := x_icmp_lt cx d ht (fun z => absurd z hc) (fun _ => kf)
theorem x_if_ge (cx : Cx p s m args meth c cc nL own G) {x : Int32} {off : Int} {tgt : Nat} (d : decode cc pc = .ok (.ifCond .ge off, 3)) (ht : (pc : Int) + off = (tgt : Int)) (kt : 0 ≤ x → Xh p l e R s m args below meth c nL G Q cells slots n h tgt ls st) (kf : ¬ 0 ≤ x → Xh p l e R s m args below meth c nL G Q cells slots n h (pc + 3) ls st) : Xh p l e R s m args below meth c nL G Q cells slots n h pc ls (.int x :: st) := fun H locs lsA hW hS hl h1 => lv_if_ge cx.1.1 cx.1.2.1 d ht (fun z => kt z H locs lsA hW hS hl h1) (fun z => kf z H locs lsA hW hS hl h1)
theorem x_if_ge_t (cx : Cx p s m args meth c cc nL own G) {x : Int32} {off : Int} {tgt : Nat} (d : decode cc pc = .ok (.ifCond .ge off, 3)) (ht : (pc : Int) + off = (tgt : Int)) (hc : 0 ≤ x) (kt : Xh p l e R s m args below meth c nL G Q cells slots n h tgt ls st) : Xh p l e R s m args below meth c nL G Q cells slots n h pc ls (.int x :: st) := x_if_ge cx d ht (fun _ => kt) (fun z => absurd hc z)
theorem x_if_ge_f (cx : Cx p s m args meth c cc nL own G) {x : Int32} {off : Int} (d : decode cc pc = .ok (.ifCond .ge off, 3)) {tgt : Nat} (ht : (pc : Int) + off = (tgt : Int)) (hc : ¬ 0 ≤ x) (kf : Xh p l e R s m args below meth c nL G Q cells slots n h (pc + 3) ls st) : Xh p l e R s m args below meth c nL G Q cells slots n h pc ls (.int x :: st) := x_if_ge cx d ht (fun z => absurd z hc) (fun _ => kf)
theorem x_icmp_ge (cx : Cx p s m args meth c cc nL own G) {x y : Int32} {off : Int} {tgt : Nat} (d : decode cc pc = .ok (.if_icmp .ge off, 3)) (ht : (pc : Int) + off = (tgt : Int)) (kt : y ≤ x → Xh p l e R s m args below meth c nL G Q cells slots n h tgt ls st) (kf : ¬ y ≤ x → Xh p l e R s m args below meth c nL G Q cells slots n h (pc + 3) ls st) : Xh p l e R s m args below meth c nL G Q cells slots n h pc ls (.int y :: .int x :: st) := fun H locs lsA hW hS hl h1 => lv_icmp_ge cx.1.1 cx.1.2.1 d ht (fun z => kt z H locs lsA hW hS hl h1) (fun z => kf z H locs lsA hW hS hl h1)
theorem x_icmp_ge_t (cx : Cx p s m args meth c cc nL own G) {x y : Int32} {off : Int} {tgt : Nat} (d : decode cc pc = .ok (.if_icmp .ge off, 3)) (ht : (pc : Int) + off = (tgt : Int)) (hc : y ≤ x) (kt : Xh p l e R s m args below meth c nL G Q cells slots n h tgt ls st) : Xh p l e R s m args below meth c nL G Q cells slots n h pc ls (.int y :: .int x :: st) := x_icmp_ge cx d ht (fun _ => kt) (fun z => absurd hc z)
theorem x_icmp_ge_f (cx : Cx p s m args meth c cc nL own G) {x y : Int32} {off : Int} (d : decode cc pc = .ok (.if_icmp .ge off, 3)) {tgt : Nat} (ht : (pc : Int) + off = (tgt : Int)) (hc : ¬ y ≤ x) (kf : Xh p l e R s m args below meth c nL G Q cells slots n h (pc + 3) ls st) : Xh p l e R s m args below meth c nL G Q cells slots n h pc ls (.int y :: .int x :: st) := x_icmp_ge cx d ht (fun z => absurd z hc) (fun _ => kf)
theorem x_if_gt (cx : Cx p s m args meth c cc nL own G) {x : Int32} {off : Int} {tgt : Nat} (d : decode cc pc = .ok (.ifCond .gt off, 3)) (ht : (pc : Int) + off = (tgt : Int)) (kt : 0 < x → Xh p l e R s m args below meth c nL G Q cells slots n h tgt ls st) (kf : ¬ 0 < x → Xh p l e R s m args below meth c nL G Q cells slots n h (pc + 3) ls st) : Xh p l e R s m args below meth c nL G Q cells slots n h pc ls (.int x :: st) := fun H locs lsA hW hS hl h1 => lv_if_gt cx.1.1 cx.1.2.1 d ht (fun z => kt z H locs lsA hW hS hl h1) (fun z => kf z H locs lsA hW hS hl h1)
theorem x_if_gt_t (cx : Cx p s m args meth c cc nL own G) {x : Int32} {off : Int} {tgt : Nat} (d : decode cc pc = .ok (.ifCond .gt off, 3)) (ht : (pc : Int) + off = (tgt : Int)) (hc : 0 < x) (kt : Xh p l e R s m args below meth c nL G Q cells slots n h tgt ls st) : Xh p l e R s m args below meth c nL G Q cells slots n h pc ls (.int x :: st) := x_if_gt cx d ht (fun _ => kt) (fun z => absurd hc z)
theorem x_if_gt_f (cx : Cx p s m args meth c cc nL own G) {x : Int32} {off : Int} (d : decode cc pc = .ok (.ifCond .gt off, 3)) {tgt : Nat} (ht : (pc : Int) + off = (tgt : Int)) (hc : ¬ 0 < x) (kf : Xh p l e R s m args below meth c nL G Q cells slots n h (pc + 3) ls st) : Xh p l e R s m args below meth c nL G Q cells slots n h pc ls (.int x :: st) := x_if_gt cx d ht (fun z => absurd z hc) (fun _ => kf)
theorem x_icmp_gt (cx : Cx p s m args meth c cc nL own G) {x y : Int32} {off : Int} {tgt : Nat} (d : decode cc pc = .ok (.if_icmp .gt off, 3)) (ht : (pc : Int) + off = (tgt : Int)) (kt : y < x → Xh p l e R s m args below meth c nL G Q cells slots n h tgt ls st) (kf : ¬ y < x → Xh p l e R s m args below meth c nL G Q cells slots n h (pc + 3) ls st) : Xh p l e R s m args below meth c nL G Q cells slots n h pc ls (.int y :: .int x :: st) := fun H locs lsA hW hS hl h1 => lv_icmp_gt cx.1.1 cx.1.2.1 d ht (fun z => kt z H locs lsA hW hS hl h1) (fun z => kf z H locs lsA hW hS hl h1)
theorem x_icmp_gt_t (cx : Cx p s m args meth c cc nL own G) {x y : Int32} {off : Int} {tgt : Nat} (d : decode cc pc = .ok (.if_icmp .gt off, 3)) (ht : (pc : Int) + off = (tgt : Int)) (hc : y < x) (kt : Xh p l e R s m args below meth c nL G Q cells slots n h tgt ls st) : Xh p l e R s m args below meth c nL G Q cells slots n h pc ls (.int y :: .int x :: st) := x_icmp_gt cx d ht (fun _ => kt) (fun z => absurd hc z)
theorem x_icmp_gt_f (cx : Cx p s m args meth c cc nL own G) {x y : Int32} {off : Int} (d : decode cc pc = .ok (.if_icmp .gt off, 3)) {tgt : Nat} (ht : (pc : Int) + off = (tgt : Int)) (hc : ¬ y < x) (kf : Xh p l e R s m args below meth c nL G Q cells slots n h (pc + 3) ls st) : Xh p l e R s m args below meth c nL G Q cells slots n h pc ls (.int y :: .int x :: st) := x_icmp_gt cx d ht (fun z => absurd z hc) (fun _ => kf)
theorem x_if_le (cx : Cx p s m args meth c cc nL own G) {x : Int32} {off : Int} {tgt : Nat} (d : decode cc pc = .ok (.ifCond .le off, 3)) (ht : (pc : Int) + off = (tgt : Int)) (kt : x ≤ 0 → Xh p l e R s m args below meth c nL G Q cells slots n h tgt ls st) (kf : ¬ x ≤ 0 → Xh p l e R s m args below meth c nL G Q cells slots n h (pc + 3) ls st) : Xh p l e R s m args below meth c nL G Q cells slots n h pc ls (.int x :: st) := fun H locs lsA hW hS hl h1 => lv_if_le cx.1.1 cx.1.2.1 d ht (fun z => kt z H locs lsA hW hS hl h1) (fun z => kf z H locs lsA hW hS hl h1)
theorem x_if_le_t (cx : Cx p s m args meth c cc nL own G) {x : Int32} {off : Int} {tgt : Nat} (d : decode cc pc = .ok (.ifCond .le off, 3)) (ht : (pc : Int) + off = (tgt : Int)) (hc : x ≤ 0) (kt : Xh p l e R s m args below meth c nL G Q cells slots n h tgt ls st) : Xh p l e R s m args below meth c nL G Q cells slots n h pc ls (.int x :: st) := x_if_le cx d ht (fun _ => kt) (fun z => absurd hc z)
theorem x_if_le_f (cx : Cx p s m args meth c cc nL own G) {x : Int32} {off : Int} (d : decode cc pc = .ok (.ifCond .le off, 3)) {tgt : Nat} (ht : (pc : Int) + off = (tgt : Int)) (hc : ¬ x ≤ 0) (kf : Xh p l e R s m args below meth c nL G Q cells slots n h (pc + 3) ls st) : Xh p l e R s m args below meth c nL G Q cells slots n h pc ls (.int x :: st) := x_if_le cx d ht (fun z => absurd z hc) (fun _ => kf)
theorem x_icmp_le (cx : Cx p s m args meth c cc nL own G) {x y : Int32} {off : Int} {tgt : Nat} (d : decode cc pc = .ok (.if_icmp .le off, 3)) (ht : (pc : Int) + off = (tgt : Int)) (kt : x ≤ y → Xh p l e R s m args below meth c nL G Q cells slots n h tgt ls st) (kf : ¬ x ≤ y → Xh p l e R s m args below meth c nL G Q cells slots n h (pc + 3) ls st) : Xh p l e R s m args below meth c nL G Q cells slots n h pc ls (.int y :: .int x :: st) := fun H locs lsA hW hS hl h1 => lv_icmp_le cx.1.1 cx.1.2.1 d ht (fun z => kt z H locs lsA hW hS hl h1) (fun z => kf z H locs lsA hW hS hl h1)
theorem x_icmp_le_t (cx : Cx p s m args meth c cc nL own G) {x y : Int32} {off : Int} {tgt : Nat} (d : decode cc pc = .ok (.if_icmp .le off, 3)) (ht : (pc : Int) + off = (tgt : Int)) (hc : x ≤ y) (kt : Xh p l e R s m args below meth c nL G Q cells slots n h tgt ls st) : Xh p l e R s m args below meth c nL G Q cells slots n h pc ls (.int y :: .int x :: st) := x_icmp_le cx d ht (fun _ => kt) (fun z => absurd hc z)
theorem x_icmp_le_f (cx : Cx p s m args meth c cc nL own G) {x y : Int32} {off : Int} (d : decode cc pc = .ok (.if_icmp .le off, 3)) {tgt : Nat} (ht : (pc : Int) + off = (tgt : Int)) (hc : ¬ x ≤ y) (kf : Xh p l e R s m args below meth c nL G Q cells slots n h (pc + 3) ls st) : Xh p l e R s m args below meth c nL G Q cells slots n h pc ls (.int y :: .int x :: st) := x_icmp_le cx d ht (fun z => absurd z hc) (fun _ => kf)
theorem x_goto (cx : Cx p s m args meth c cc nL own G) {off : Int} {tgt : Nat} (d : decode cc pc = .ok (.goto off, 3)) (ht : (pc : Int) + off = (tgt : Int)) (kk : Xh p l e R s m args below meth c nL G Q cells slots n h tgt ls st) : Xh p l e R s m args below meth c nL G Q cells slots n h pc ls st := fun H locs lsA hW hS hl h1 => lv_goto cx.1.1 cx.1.2.1 d ht (kk H locs lsA hW hS hl h1)
theorem x_tableIn (cx : Cx p s m args meth c cc nL own G) {dflt lo0 hi0 : Int} {offs : Array Int} {len : Nat} {x : Int32} {off : Int} {tgt : Nat} (d : decode cc pc = .ok (.tableswitch dflt lo0 hi0 offs, len)) (ha : ¬ x.toInt < lo0) (hb : ¬ hi0 < x.toInt) (ho : offs[(x.toInt - lo0).toNat]? = some off) (ht : (pc : Int) + off = (tgt : Int)) (kk : Xh p l e R s m args below meth c nL G Q cells slots n h tgt ls st) : Xh p l e R s m args below meth c nL G Q cells slots n h pc ls (.int x :: st) := fun H locs lsA hW hS hl h1 => lv_tableIn cx.1.1 cx.1.2.1 d ha hb ho ht (kk H locs lsA hW hS hl h1)
theorem x_tableOut (cx : Cx p s m args meth c cc nL own G) {dflt lo0 hi0 : Int} {offs : Array Int} {len : Nat} {x : Int32} {tgt : Nat} (d : decode cc pc = .ok (.tableswitch dflt lo0 hi0 offs, len)) (ha : x.toInt < lo0 ∨ hi0 < x.toInt) (ht : (pc : Int) + dflt = (tgt : Int)) (kk : Xh p l e R s m args below meth c nL G Q cells slots n h tgt ls st) : Xh p l e R s m args below meth c nL G Q cells slots n h pc ls (.int x :: st) := fun H locs lsA hW hS hl h1 => lv_tableOut cx.1.1 cx.1.2.1 d ha ht (kk H locs lsA hW hS hl h1)
theorem x_lookup (cx : Cx p s m args meth c cc nL own G) {dflt : Int} {ps : Array (Int × Int)} {len : Nat} {x : Int32} {off : Int} {tgt : Nat} (d : decode cc pc = .ok (.lookupswitch dflt ps, len)) (hp : (ps.toList.zip (ps.toList.drop 1)).all (fun (a, next) => a.1 < next.1) = true) (ho : Op.lookupswitch.offset ps.toList dflt x.toInt = off) (ht : (pc : Int) + off = (tgt : Int)) (kk : Xh p l e R s m args below meth c nL G Q cells slots n h tgt ls st) : Xh p l e R s m args below meth c nL G Q cells slots n h pc ls (.int x :: st) := fun H locs lsA hW hS hl h1 => lv_lookup cx.1.1 cx.1.2.1 d hp ho ht (kk H locs lsA hW hS hl h1)
theorem x_getX0 (cx : Cx p s m args meth c cc nL own G) {idx i j : Nat} {fs : List Value} {v : Value} (k : Nat) (hk : k < 6) (hf : zFL s args own idx (TX0 k).1 (TX0 k).2.1 (TX0 k).2.2.1) (hok : zok i j) (hn : zix i j < n) (hp : h i j = .inr (0, fs)) (hv : fs[k]? = some v) (d : decode cc pc = .ok (.getfield idx, 3)) (kk : Xh p l e R s m args below meth c nL G Q cells slots n h (pc + 3) ls (v :: st)) : Xh p l e R s m args below meth c nL G Q cells slots n h pc ls (.ref (zad G i j) :: st) := by
  intro H locs lsA hW hS hl h1
  rcases hf with hf | ⟨host, hf⟩
  · exact va_get (D := G.1) (ci := 0) (C := RX0) (T := TX0) (N := 6) cx.1.1 cx.1.2.1 cx.1.2.2.2.2 zinX0 cx.1.2.2.2.1 cx.2.1.1 (hW.one hok hn hp) 0 rfl rfl k hk hf (fun _ z => z) hv d (kk H locs lsA hW hS hl h1)
  · exact va_getN (D := G.1) (ci := 0) (C := RX0) (T := TX0) (N := 6) cx.1.1 cx.1.2.1 cx.1.2.2.2.2 zinX0 cx.1.2.2.2.1 cx.2.1.1 (hW.one hok hn hp) 0 rfl rfl k hk hf (fun _ z => z) hv d (kk H locs lsA hW hS hl h1)
theorem x_putX0 (cx : Cx p s m args meth c cc nL own G) {idx i j : Nat} {fs : List Value} {v : Value} (k : Nat) (hk : k < 6) (hf : zFL s args own idx (TX0 k).1 (TX0 k).2.1 (TX0 k).2.2.1) (hok : zok i j) (hn : zix i j < n) (hp : h i j = .inr (0, fs)) (hfin : (TX0 k).2.2.2 = false) (hnar : narrow (tyX0 k) v = v) (hfit : fits (tyX0 k) v = true) (hlen : k < fs.length) (hh : ∀ i' j', zok i' j' → zix i' j' < n → h' i' j' = hset h i j (.inr (0, fs.set k v)) i' j') (d : decode cc pc = .ok (.putfield idx, 3)) (kk : Xh p l e R s m args below meth c nL G Q cells slots n h' (pc + 3) ls st) : Xh p l e R s m args below meth c nL G Q cells slots n h pc ls (v :: .ref (zad G i j) :: st) := by
  intro H locs lsA hW hS hl h1
  have hap := va_apart (own := own) cx.1.2.2.2.2 zinX0 tyX0 tyX0_ok nmX0 cx.2.1.1 (ci := 0) rfl
  obtain ⟨r, hr1, cell, q1, q2, q3, q4⟩ := (hW.one hok hn hp) 0 _ rfl
  have hr : r = (RX0, TX0, 6) := Option.some.inj (hr1.symm.trans rfl)
  subst hr
  obtain ⟨hSl, hfc, kC, hkC, hkind⟩ := cx.2.1.1.1 0 _ rfl
  obtain ⟨cf, kf, fi, f, hi, hsl⟩ := hSl k hk
  have hlay := cx.1.2.2.2.2 _ (zinX0 _ (u_in_lay hk))
  unfold u_lay at hlay
  rw [if_neg (by rw [hfin]; decide)] at hlay
  have hst := (u_facts hfc hkC (u_lays cx.1.2.2.2.2 zinX0 hk) hi).1
  have h6 := u_store hfc hkC hkind hlay hi (tyX0_ok k hk) hnar hfit
  have fin : ∀ H' : Heap, H'[zad G i j]? = some (cell.setSlot f.slot v) → H'.size = H.size → (∀ q, q ≠ zad G i j → H'[q]? = H[q]?) → W p l e R s m args below meth c H' (locs ++ [⟨zad G i j, f.slot⟩]) cells slots Q (F0 m (pc + 3) lsA st) := by
    intro H' e1 e2 e3
    rw [hsl] at e1
    refine kk H' _ lsA (hW.set (x := .inr (0, fs.set k v)) hok hn e2 ⟨_, rfl, t_OB.to (V := updV (vp_V fs) k v) ⟨_, e1, q2, q3, t_set q4 hap hk v⟩ (fun j _ => vp_updV_set hlen v j)⟩ e3 hh) (hS.put e2 e3 (Nat.le_add_right _ _)) hl h1
  rcases hf with hf | ⟨host, hf⟩
  · exact W.putK cx.1.1 cx.1.2.1 (f := f) ⟨cx.1.2.2.2.1, hf, ⟨_, _, _, hi⟩, hst⟩ (by rw [q2]; exact h6) q1 q3 (by rw [hsl]; exact k2_hasslot (q4 k hk)) rfl rfl d fin
  · exact va_WputK cx.1.1 cx.1.2.1 (f := f) cx.1.2.2.2.1 hf hi hst (by rw [q2]; exact h6) q1 q3 (by rw [hsl]; exact k2_hasslot (q4 k hk)) rfl rfl d fin
theorem x_putFX0 (cx : Cx p s m args meth c cc nL own G) {idx i j : Nat} {fs : List Value} {v : Value} (k : Nat) (hk : k < 6) (hf : (Cond.fieldLink own idx (TX0 k).1 (TX0 k).2.1 (TX0 k).2.2.1).before args s = true) (hin2 : meth.name = "<init>") (hok : zok i j) (hn : zix i j < n) (hp : h i j = .inr (0, fs)) (hfin : (TX0 k).2.2.2 = true) (hdecl : (TX0 k).1 = own) (hnar : narrow (tyX0 k) v = v) (hfit : fits (tyX0 k) v = true) (hlen : k < fs.length) (hh : ∀ i' j', zok i' j' → zix i' j' < n → h' i' j' = hset h i j (.inr (0, fs.set k v)) i' j') (d : decode cc pc = .ok (.putfield idx, 3)) (kk : Xh p l e R s m args below meth c nL G Q cells slots n h' (pc + 3) ls st) : Xh p l e R s m args below meth c nL G Q cells slots n h pc ls (v :: .ref (zad G i j) :: st) := by
  intro H locs lsA hW hS hl h1
  have hap := va_apart (own := own) cx.1.2.2.2.2 zinX0 tyX0 tyX0_ok nmX0 cx.2.1.1 (ci := 0) rfl
  obtain ⟨r, hr1, cell, q1, q2, q3, q4⟩ := (hW.one hok hn hp) 0 _ rfl
  have hr : r = (RX0, TX0, 6) := Option.some.inj (hr1.symm.trans rfl)
  subst hr
  obtain ⟨hSl, hfc, kC, hkC, hkind⟩ := cx.2.1.1.1 0 _ rfl
  obtain ⟨cf, kf, fi, f, hi, hsl⟩ := hSl k hk
  have hlay := cx.1.2.2.2.2 _ (zinX0 _ (u_in_lay hk))
  unfold u_lay at hlay
  rw [if_pos hfin] at hlay
  have hst := (u_facts hfc hkC (u_lays cx.1.2.2.2.2 zinX0 hk) hi).1
  have hcf : m.cls = cf := by
    obtain ⟨_, _, c', _, _, _, -, -, hf', -, -, -, hown2, -⟩ := Cond.laysFinal_spec hlay
    have e1 : c' = cf := by have := hi.symm.trans hf'; simp at this; exact this.1.symm
    rw [hdecl] at hown2
    rw [← e1]; exact Option.some.inj (cx.1.2.2.2.1.symm.trans hown2)
  have h6 := u_fits hfc hkC hkind (Or.inr hlay) hi (tyX0_ok k hk) hnar hfit
  have fin : ∀ H' : Heap, H'[zad G i j]? = some (cell.setSlot f.slot v) → H'.size = H.size → (∀ q, q ≠ zad G i j → H'[q]? = H[q]?) → W p l e R s m args below meth c H' (locs ++ [⟨zad G i j, f.slot⟩]) cells slots Q (F0 m (pc + 3) lsA st) := by
    intro H' e1 e2 e3
    rw [hsl] at e1
    refine kk H' _ lsA (hW.set (x := .inr (0, fs.set k v)) hok hn e2 ⟨_, rfl, t_OB.to (V := updV (vp_V fs) k v) ⟨_, e1, q2, q3, t_set q4 hap hk v⟩ (fun j _ => vp_updV_set hlen v j)⟩ e3 hh) (hS.put e2 e3 (Nat.le_add_right _ _)) hl h1
  exact W.putFinK cx.1.1 cx.1.2.1 cx.1.2.2.2.1 hf hi hst hcf hin2 (by rw [q2]; exact h6) q1 q3 (by rw [hsl]; exact k2_hasslot (q4 k hk)) rfl rfl d fin
theorem x_getX1 (cx : Cx p s m args meth c cc nL own G) {idx i j : Nat} {fs : List Value} {v : Value} (k : Nat) (hk : k < 9) (hf : zFL s args own idx (TX1 k).1 (TX1 k).2.1 (TX1 k).2.2.1) (hok : zok i j) (hn : zix i j < n) (hp : h i j = .inr (1, fs)) (hv : fs[k]? = some v) (d : decode cc pc = .ok (.getfield idx, 3)) (kk : Xh p l e R s m args below meth c nL G Q cells slots n h (pc + 3) ls (v :: st)) : Xh p l e R s m args below meth c nL G Q cells slots n h pc ls (.ref (zad G i j) :: st) := by
  intro H locs lsA hW hS hl h1
  rcases hf with hf | ⟨host, hf⟩
  · exact va_get (D := G.1) (ci := 1) (C := RX1) (T := TX1) (N := 9) cx.1.1 cx.1.2.1 cx.1.2.2.2.2 zinX1 cx.1.2.2.2.1 cx.2.1.1 (hW.one hok hn hp) 0 rfl rfl k hk hf (fun _ z => z) hv d (kk H locs lsA hW hS hl h1)
  · exact va_getN (D := G.1) (ci := 1) (C := RX1) (T := TX1) (N := 9) cx.1.1 cx.1.2.1 cx.1.2.2.2.2 zinX1 cx.1.2.2.2.1 cx.2.1.1 (hW.one hok hn hp) 0 rfl rfl k hk hf (fun _ z => z) hv d (kk H locs lsA hW hS hl h1)
theorem x_putX1 (cx : Cx p s m args meth c cc nL own G) {idx i j : Nat} {fs : List Value} {v : Value} (k : Nat) (hk : k < 9) (hf : zFL s args own idx (TX1 k).1 (TX1 k).2.1 (TX1 k).2.2.1) (hok : zok i j) (hn : zix i j < n) (hp : h i j = .inr (1, fs)) (hfin : (TX1 k).2.2.2 = false) (hnar : narrow (tyX1 k) v = v) (hfit : fits (tyX1 k) v = true) (hlen : k < fs.length) (hh : ∀ i' j', zok i' j' → zix i' j' < n → h' i' j' = hset h i j (.inr (1, fs.set k v)) i' j') (d : decode cc pc = .ok (.putfield idx, 3)) (kk : Xh p l e R s m args below meth c nL G Q cells slots n h' (pc + 3) ls st) : Xh p l e R s m args below meth c nL G Q cells slots n h pc ls (v :: .ref (zad G i j) :: st) := by
  intro H locs lsA hW hS hl h1
  have hap := va_apart (own := own) cx.1.2.2.2.2 zinX1 tyX1 tyX1_ok nmX1 cx.2.1.1 (ci := 1) rfl
  obtain ⟨r, hr1, cell, q1, q2, q3, q4⟩ := (hW.one hok hn hp) 0 _ rfl
  have hr : r = (RX1, TX1, 9) := Option.some.inj (hr1.symm.trans rfl)
  subst hr
  obtain ⟨hSl, hfc, kC, hkC, hkind⟩ := cx.2.1.1.1 1 _ rfl
  obtain ⟨cf, kf, fi, f, hi, hsl⟩ := hSl k hk
  have hlay := cx.1.2.2.2.2 _ (zinX1 _ (u_in_lay hk))
  unfold u_lay at hlay
  rw [if_neg (by rw [hfin]; decide)] at hlay
  have hst := (u_facts hfc hkC (u_lays cx.1.2.2.2.2 zinX1 hk) hi).1
  have h6 := u_store hfc hkC hkind hlay hi (tyX1_ok k hk) hnar hfit
  have fin : ∀ H' : Heap, H'[zad G i j]? = some (cell.setSlot f.slot v) → H'.size = H.size → (∀ q, q ≠ zad G i j → H'[q]? = H[q]?) → W p l e R s m args below meth c H' (locs ++ [⟨zad G i j, f.slot⟩]) cells slots Q (F0 m (pc + 3) lsA st) := by
    intro H' e1 e2 e3
    rw [hsl] at e1
    refine kk H' _ lsA (hW.set (x := .inr (1, fs.set k v)) hok hn e2 ⟨_, rfl, t_OB.to (V := updV (vp_V fs) k v) ⟨_, e1, q2, q3, t_set q4 hap hk v⟩ (fun j _ => vp_updV_set hlen v j)⟩ e3 hh) (hS.put e2 e3 (Nat.le_add_right _ _)) hl h1
  rcases hf with hf | ⟨host, hf⟩
  · exact W.putK cx.1.1 cx.1.2.1 (f := f) ⟨cx.1.2.2.2.1, hf, ⟨_, _, _, hi⟩, hst⟩ (by rw [q2]; exact h6) q1 q3 (by rw [hsl]; exact k2_hasslot (q4 k hk)) rfl rfl d fin
  · exact va_WputK cx.1.1 cx.1.2.1 (f := f) cx.1.2.2.2.1 hf hi hst (by rw [q2]; exact h6) q1 q3 (by rw [hsl]; exact k2_hasslot (q4 k hk)) rfl rfl d fin
theorem x_putFX1 (cx : Cx p s m args meth c cc nL own G) {idx i j : Nat} {fs : List Value} {v : Value} (k : Nat) (hk : k < 9) (hf : (Cond.fieldLink own idx (TX1 k).1 (TX1 k).2.1 (TX1 k).2.2.1).before args s = true) (hin2 : meth.name = "<init>") (hok : zok i j) (hn : zix i j < n) (hp : h i j = .inr (1, fs)) (hfin : (TX1 k).2.2.2 = true) (hdecl : (TX1 k).1 = own) (hnar : narrow (tyX1 k) v = v) (hfit : fits (tyX1 k) v = true) (hlen : k < fs.length) (hh : ∀ i' j', zok i' j' → zix i' j' < n → h' i' j' = hset h i j (.inr (1, fs.set k v)) i' j') (d : decode cc pc = .ok (.putfield idx, 3)) (kk : Xh p l e R s m args below meth c nL G Q cells slots n h' (pc + 3) ls st) : Xh p l e R s m args below meth c nL G Q cells slots n h pc ls (v :: .ref (zad G i j) :: st) := by
  intro H locs lsA hW hS hl h1
  have hap := va_apart (own := own) cx.1.2.2.2.2 zinX1 tyX1 tyX1_ok nmX1 cx.2.1.1 (ci := 1) rfl
  obtain ⟨r, hr1, cell, q1, q2, q3, q4⟩ := (hW.one hok hn hp) 0 _ rfl
  have hr : r = (RX1, TX1, 9) := Option.some.inj (hr1.symm.trans rfl)
  subst hr
  obtain ⟨hSl, hfc, kC, hkC, hkind⟩ := cx.2.1.1.1 1 _ rfl
  obtain ⟨cf, kf, fi, f, hi, hsl⟩ := hSl k hk
  have hlay := cx.1.2.2.2.2 _ (zinX1 _ (u_in_lay hk))
  unfold u_lay at hlay
  rw [if_pos hfin] at hlay
  have hst := (u_facts hfc hkC (u_lays cx.1.2.2.2.2 zinX1 hk) hi).1
  have hcf : m.cls = cf := by
    obtain ⟨_, _, c', _, _, _, -, -, hf', -, -, -, hown2, -⟩ := Cond.laysFinal_spec hlay
    have e1 : c' = cf := by have := hi.symm.trans hf'; simp at this; exact this.1.symm
    rw [hdecl] at hown2
    rw [← e1]; exact Option.some.inj (cx.1.2.2.2.1.symm.trans hown2)
  have h6 := u_fits hfc hkC hkind (Or.inr hlay) hi (tyX1_ok k hk) hnar hfit
  have fin : ∀ H' : Heap, H'[zad G i j]? = some (cell.setSlot f.slot v) → H'.size = H.size → (∀ q, q ≠ zad G i j → H'[q]? = H[q]?) → W p l e R s m args below meth c H' (locs ++ [⟨zad G i j, f.slot⟩]) cells slots Q (F0 m (pc + 3) lsA st) := by
    intro H' e1 e2 e3
    rw [hsl] at e1
    refine kk H' _ lsA (hW.set (x := .inr (1, fs.set k v)) hok hn e2 ⟨_, rfl, t_OB.to (V := updV (vp_V fs) k v) ⟨_, e1, q2, q3, t_set q4 hap hk v⟩ (fun j _ => vp_updV_set hlen v j)⟩ e3 hh) (hS.put e2 e3 (Nat.le_add_right _ _)) hl h1
  exact W.putFinK cx.1.1 cx.1.2.1 cx.1.2.2.2.1 hf hi hst hcf hin2 (by rw [q2]; exact h6) q1 q3 (by rw [hsl]; exact k2_hasslot (q4 k hk)) rfl rfl d fin
theorem x_getX3 (cx : Cx p s m args meth c cc nL own G) {idx i j : Nat} {fs : List Value} {v : Value} (k : Nat) (hk : k < 2) (hf : zFL s args own idx (TX3 k).1 (TX3 k).2.1 (TX3 k).2.2.1) (hok : zok i j) (hn : zix i j < n) (hp : h i j = .inr (2, fs)) (hv : fs[k]? = some v) (d : decode cc pc = .ok (.getfield idx, 3)) (kk : Xh p l e R s m args below meth c nL G Q cells slots n h (pc + 3) ls (v :: st)) : Xh p l e R s m args below meth c nL G Q cells slots n h pc ls (.ref (zad G i j) :: st) := by
  intro H locs lsA hW hS hl h1
  rcases hf with hf | ⟨host, hf⟩
  · exact va_get (D := G.1) (ci := 2) (C := RX3) (T := TX3) (N := 2) cx.1.1 cx.1.2.1 cx.1.2.2.2.2 zinX3 cx.1.2.2.2.1 cx.2.1.1 (hW.one hok hn hp) 0 rfl rfl k hk hf (fun _ z => z) hv d (kk H locs lsA hW hS hl h1)
  · exact va_getN (D := G.1) (ci := 2) (C := RX3) (T := TX3) (N := 2) cx.1.1 cx.1.2.1 cx.1.2.2.2.2 zinX3 cx.1.2.2.2.1 cx.2.1.1 (hW.one hok hn hp) 0 rfl rfl k hk hf (fun _ z => z) hv d (kk H locs lsA hW hS hl h1)
theorem x_putX3 (cx : Cx p s m args meth c cc nL own G) {idx i j : Nat} {fs : List Value} {v : Value} (k : Nat) (hk : k < 2) (hf : zFL s args own idx (TX3 k).1 (TX3 k).2.1 (TX3 k).2.2.1) (hok : zok i j) (hn : zix i j < n) (hp : h i j = .inr (2, fs)) (hfin : (TX3 k).2.2.2 = false) (hnar : narrow (tyX3 k) v = v) (hfit : fits (tyX3 k) v = true) (hlen : k < fs.length) (hh : ∀ i' j', zok i' j' → zix i' j' < n → h' i' j' = hset h i j (.inr (2, fs.set k v)) i' j') (d : decode cc pc = .ok (.putfield idx, 3)) (kk : Xh p l e R s m args below meth c nL G Q cells slots n h' (pc + 3) ls st) : Xh p l e R s m args below meth c nL G Q cells slots n h pc ls (v :: .ref (zad G i j) :: st) := by
  intro H locs lsA hW hS hl h1
  have hap := va_apart (own := own) cx.1.2.2.2.2 zinX3 tyX3 tyX3_ok nmX3 cx.2.1.1 (ci := 2) rfl
  obtain ⟨r, hr1, cell, q1, q2, q3, q4⟩ := (hW.one hok hn hp) 0 _ rfl
  have hr : r = (RX3, TX3, 2) := Option.some.inj (hr1.symm.trans rfl)
  subst hr
  obtain ⟨hSl, hfc, kC, hkC, hkind⟩ := cx.2.1.1.1 2 _ rfl
  obtain ⟨cf, kf, fi, f, hi, hsl⟩ := hSl k hk
  have hlay := cx.1.2.2.2.2 _ (zinX3 _ (u_in_lay hk))
  unfold u_lay at hlay
  rw [if_neg (by rw [hfin]; decide)] at hlay
  have hst := (u_facts hfc hkC (u_lays cx.1.2.2.2.2 zinX3 hk) hi).1
  have h6 := u_store hfc hkC hkind hlay hi (tyX3_ok k hk) hnar hfit
  have fin : ∀ H' : Heap, H'[zad G i j]? = some (cell.setSlot f.slot v) → H'.size = H.size → (∀ q, q ≠ zad G i j → H'[q]? = H[q]?) → W p l e R s m args below meth c H' (locs ++ [⟨zad G i j, f.slot⟩]) cells slots Q (F0 m (pc + 3) lsA st) := by
    intro H' e1 e2 e3
    rw [hsl] at e1
    refine kk H' _ lsA (hW.set (x := .inr (2, fs.set k v)) hok hn e2 ⟨_, rfl, t_OB.to (V := updV (vp_V fs) k v) ⟨_, e1, q2, q3, t_set q4 hap hk v⟩ (fun j _ => vp_updV_set hlen v j)⟩ e3 hh) (hS.put e2 e3 (Nat.le_add_right _ _)) hl h1
  rcases hf with hf | ⟨host, hf⟩
  · exact W.putK cx.1.1 cx.1.2.1 (f := f) ⟨cx.1.2.2.2.1, hf, ⟨_, _, _, hi⟩, hst⟩ (by rw [q2]; exact h6) q1 q3 (by rw [hsl]; exact k2_hasslot (q4 k hk)) rfl rfl d fin
  · exact va_WputK cx.1.1 cx.1.2.1 (f := f) cx.1.2.2.2.1 hf hi hst (by rw [q2]; exact h6) q1 q3 (by rw [hsl]; exact k2_hasslot (q4 k hk)) rfl rfl d fin
theorem x_putFX3 (cx : Cx p s m args meth c cc nL own G) {idx i j : Nat} {fs : List Value} {v : Value} (k : Nat) (hk : k < 2) (hf : (Cond.fieldLink own idx (TX3 k).1 (TX3 k).2.1 (TX3 k).2.2.1).before args s = true) (hin2 : meth.name = "<init>") (hok : zok i j) (hn : zix i j < n) (hp : h i j = .inr (2, fs)) (hfin : (TX3 k).2.2.2 = true) (hdecl : (TX3 k).1 = own) (hnar : narrow (tyX3 k) v = v) (hfit : fits (tyX3 k) v = true) (hlen : k < fs.length) (hh : ∀ i' j', zok i' j' → zix i' j' < n → h' i' j' = hset h i j (.inr (2, fs.set k v)) i' j') (d : decode cc pc = .ok (.putfield idx, 3)) (kk : Xh p l e R s m args below meth c nL G Q cells slots n h' (pc + 3) ls st) : Xh p l e R s m args below meth c nL G Q cells slots n h pc ls (v :: .ref (zad G i j) :: st) := by
  intro H locs lsA hW hS hl h1
  have hap := va_apart (own := own) cx.1.2.2.2.2 zinX3 tyX3 tyX3_ok nmX3 cx.2.1.1 (ci := 2) rfl
  obtain ⟨r, hr1, cell, q1, q2, q3, q4⟩ := (hW.one hok hn hp) 0 _ rfl
  have hr : r = (RX3, TX3, 2) := Option.some.inj (hr1.symm.trans rfl)
  subst hr
  obtain ⟨hSl, hfc, kC, hkC, hkind⟩ := cx.2.1.1.1 2 _ rfl
  obtain ⟨cf, kf, fi, f, hi, hsl⟩ := hSl k hk
  have hlay := cx.1.2.2.2.2 _ (zinX3 _ (u_in_lay hk))
  unfold u_lay at hlay
  rw [if_pos hfin] at hlay
  have hst := (u_facts hfc hkC (u_lays cx.1.2.2.2.2 zinX3 hk) hi).1
  have hcf : m.cls = cf := by
    obtain ⟨_, _, c', _, _, _, -, -, hf', -, -, -, hown2, -⟩ := Cond.laysFinal_spec hlay
    have e1 : c' = cf := by have := hi.symm.trans hf'; simp at this; exact this.1.symm
    rw [hdecl] at hown2
    rw [← e1]; exact Option.some.inj (cx.1.2.2.2.1.symm.trans hown2)
  have h6 := u_fits hfc hkC hkind (Or.inr hlay) hi (tyX3_ok k hk) hnar hfit
  have fin : ∀ H' : Heap, H'[zad G i j]? = some (cell.setSlot f.slot v) → H'.size = H.size → (∀ q, q ≠ zad G i j → H'[q]? = H[q]?) → W p l e R s m args below meth c H' (locs ++ [⟨zad G i j, f.slot⟩]) cells slots Q (F0 m (pc + 3) lsA st) := by
    intro H' e1 e2 e3
    rw [hsl] at e1
    refine kk H' _ lsA (hW.set (x := .inr (2, fs.set k v)) hok hn e2 ⟨_, rfl, t_OB.to (V := updV (vp_V fs) k v) ⟨_, e1, q2, q3, t_set q4 hap hk v⟩ (fun j _ => vp_updV_set hlen v j)⟩ e3 hh) (hS.put e2 e3 (Nat.le_add_right _ _)) hl h1
  exact W.putFinK cx.1.1 cx.1.2.1 cx.1.2.2.2.1 hf hi hst hcf hin2 (by rw [q2]; exact h6) q1 q3 (by rw [hsl]; exact k2_hasslot (q4 k hk)) rfl rfl d fin
theorem x_getX5 (cx : Cx p s m args meth c cc nL own G) {idx i j : Nat} {fs : List Value} {v : Value} (k : Nat) (hk : k < 2) (hf : zFL s args own idx (TX5 k).1 (TX5 k).2.1 (TX5 k).2.2.1) (hok : zok i j) (hn : zix i j < n) (hp : h i j = .inr (3, fs)) (hv : fs[k]? = some v) (d : decode cc pc = .ok (.getfield idx, 3)) (kk : Xh p l e R s m args below meth c nL G Q cells slots n h (pc + 3) ls (v :: st)) : Xh p l e R s m args below meth c nL G Q cells slots n h pc ls (.ref (zad G i j) :: st) := by
  intro H locs lsA hW hS hl h1
  rcases hf with hf | ⟨host, hf⟩
  · exact va_get (D := G.1) (ci := 3) (C := RX5) (T := TX5) (N := 2) cx.1.1 cx.1.2.1 cx.1.2.2.2.2 zinX5 cx.1.2.2.2.1 cx.2.1.1 (hW.one hok hn hp) 0 rfl rfl k hk hf (fun _ z => z) hv d (kk H locs lsA hW hS hl h1)
  · exact va_getN (D := G.1) (ci := 3) (C := RX5) (T := TX5) (N := 2) cx.1.1 cx.1.2.1 cx.1.2.2.2.2 zinX5 cx.1.2.2.2.1 cx.2.1.1 (hW.one hok hn hp) 0 rfl rfl k hk hf (fun _ z => z) hv d (kk H locs lsA hW hS hl h1)
theorem x_putX5 (cx : Cx p s m args meth c cc nL own G) {idx i j : Nat} {fs : List Value} {v : Value} (k : Nat) (hk : k < 2) (hf : zFL s args own idx (TX5 k).1 (TX5 k).2.1 (TX5 k).2.2.1) (hok : zok i j) (hn : zix i j < n) (hp : h i j = .inr (3, fs)) (hfin : (TX5 k).2.2.2 = false) (hnar : narrow (tyX5 k) v = v) (hfit : fits (tyX5 k) v = true) (hlen : k < fs.length) (hh : ∀ i' j', zok i' j' → zix i' j' < n → h' i' j' = hset h i j (.inr (3, fs.set k v)) i' j') (d : decode cc pc = .ok (.putfield idx, 3)) (kk : Xh p l e R s m args below meth c nL G Q cells slots n h' (pc + 3) ls st) : Xh p l e R s m args below meth c nL G Q cells slots n h pc ls (v :: .ref (zad G i j) :: st) := by
  intro H locs lsA hW hS hl h1
  have hap := va_apart (own := own) cx.1.2.2.2.2 zinX5 tyX5 tyX5_ok nmX5 cx.2.1.1 (ci := 3) rfl
  obtain ⟨r, hr1, cell, q1, q2, q3, q4⟩ := (hW.one hok hn hp) 0 _ rfl
  have hr : r = (RX5, TX5, 2) := Option.some.inj (hr1.symm.trans rfl)
  subst hr
  obtain ⟨hSl, hfc, kC, hkC, hkind⟩ := cx.2.1.1.1 3 _ rfl
  obtain ⟨cf, kf, fi, f, hi, hsl⟩ := hSl k hk
  have hlay := cx.1.2.2.2.2 _ (zinX5 _ (u_in_lay hk))
  unfold u_lay at hlay
  rw [if_neg (by rw [hfin]; decide)] at hlay
  have hst := (u_facts hfc hkC (u_lays cx.1.2.2.2.2 zinX5 hk) hi).1
  have h6 := u_store hfc hkC hkind hlay hi (tyX5_ok k hk) hnar hfit
  have fin : ∀ H' : Heap, H'[zad G i j]? = some (cell.setSlot f.slot v) → H'.size = H.size → (∀ q, q ≠ zad G i j → H'[q]? = H[q]?) → W p l e R s m args below meth c H' (locs ++ [⟨zad G i j, f.slot⟩]) cells slots Q (F0 m (pc + 3) lsA st) := by
    intro H' e1 e2 e3
    rw [hsl] at e1
    refine kk H' _ lsA (hW.set (x := .inr (3, fs.set k v)) hok hn e2 ⟨_, rfl, t_OB.to (V := updV (vp_V fs) k v) ⟨_, e1, q2, q3, t_set q4 hap hk v⟩ (fun j _ => vp_updV_set hlen v j)⟩ e3 hh) (hS.put e2 e3 (Nat.le_add_right _ _)) hl h1
  rcases hf with hf | ⟨host, hf⟩
  · exact W.putK cx.1.1 cx.1.2.1 (f := f) ⟨cx.1.2.2.2.1, hf, ⟨_, _, _, hi⟩, hst⟩ (by rw [q2]; exact h6) q1 q3 (by rw [hsl]; exact k2_hasslot (q4 k hk)) rfl rfl d fin
  · exact va_WputK cx.1.1 cx.1.2.1 (f := f) cx.1.2.2.2.1 hf hi hst (by rw [q2]; exact h6) q1 q3 (by rw [hsl]; exact k2_hasslot (q4 k hk)) rfl rfl d fin
theorem x_putFX5 (cx : Cx p s m args meth c cc nL own G) {idx i j : Nat} {fs : List Value} {v : Value} (k : Nat) (hk : k < 2) (hf : (Cond.fieldLink own idx (TX5 k).1 (TX5 k).2.1 (TX5 k).2.2.1).before args s = true) (hin2 : meth.name = "<init>") (hok : zok i j) (hn : zix i j < n) (hp : h i j = .inr (3, fs)) (hfin : (TX5 k).2.2.2 = true) (hdecl : (TX5 k).1 = own) (hnar : narrow (tyX5 k) v = v) (hfit : fits (tyX5 k) v = true) (hlen : k < fs.length) (hh : ∀ i' j', zok i' j' → zix i' j' < n → h' i' j' = hset h i j (.inr (3, fs.set k v)) i' j') (d : decode cc pc = .ok (.putfield idx, 3)) (kk : Xh p l e R s m args below meth c nL G Q cells slots n h' (pc + 3) ls st) : Xh p l e R s m args below meth c nL G Q cells slots n h pc ls (v :: .ref (zad G i j) :: st) := by
  intro H locs lsA hW hS hl h1
  have hap := va_apart (own := own) cx.1.2.2.2.2 zinX5 tyX5 tyX5_ok nmX5 cx.2.1.1 (ci := 3) rfl
  obtain ⟨r, hr1, cell, q1, q2, q3, q4⟩ := (hW.one hok hn hp) 0 _ rfl
  have hr : r = (RX5, TX5, 2) := Option.some.inj (hr1.symm.trans rfl)
  subst hr
  obtain ⟨hSl, hfc, kC, hkC, hkind⟩ := cx.2.1.1.1 3 _ rfl
  obtain ⟨cf, kf, fi, f, hi, hsl⟩ := hSl k hk
  have hlay := cx.1.2.2.2.2 _ (zinX5 _ (u_in_lay hk))
  unfold u_lay at hlay
  rw [if_pos hfin] at hlay
  have hst := (u_facts hfc hkC (u_lays cx.1.2.2.2.2 zinX5 hk) hi).1
  have hcf : m.cls = cf := by
    obtain ⟨_, _, c', _, _, _, -, -, hf', -, -, -, hown2, -⟩ := Cond.laysFinal_spec hlay
    have e1 : c' = cf := by have := hi.symm.trans hf'; simp at this; exact this.1.symm
    rw [hdecl] at hown2
    rw [← e1]; exact Option.some.inj (cx.1.2.2.2.1.symm.trans hown2)
  have h6 := u_fits hfc hkC hkind (Or.inr hlay) hi (tyX5_ok k hk) hnar hfit
  have fin : ∀ H' : Heap, H'[zad G i j]? = some (cell.setSlot f.slot v) → H'.size = H.size → (∀ q, q ≠ zad G i j → H'[q]? = H[q]?) → W p l e R s m args below meth c H' (locs ++ [⟨zad G i j, f.slot⟩]) cells slots Q (F0 m (pc + 3) lsA st) := by
    intro H' e1 e2 e3
    rw [hsl] at e1
    refine kk H' _ lsA (hW.set (x := .inr (3, fs.set k v)) hok hn e2 ⟨_, rfl, t_OB.to (V := updV (vp_V fs) k v) ⟨_, e1, q2, q3, t_set q4 hap hk v⟩ (fun j _ => vp_updV_set hlen v j)⟩ e3 hh) (hS.put e2 e3 (Nat.le_add_right _ _)) hl h1
  exact W.putFinK cx.1.1 cx.1.2.1 cx.1.2.2.2.1 hf hi hst hcf hin2 (by rw [q2]; exact h6) q1 q3 (by rw [hsl]; exact k2_hasslot (q4 k hk)) rfl rfl d fin
theorem x_getX6 (cx : Cx p s m args meth c cc nL own G) {idx i j : Nat} {fs : List Value} {v : Value} (k : Nat) (hk : k < 6) (hf : zFL s args own idx (TX6 k).1 (TX6 k).2.1 (TX6 k).2.2.1) (hok : zok i j) (hn : zix i j < n) (hp : h i j = .inr (4, fs)) (hv : fs[k]? = some v) (d : decode cc pc = .ok (.getfield idx, 3)) (kk : Xh p l e R s m args below meth c nL G Q cells slots n h (pc + 3) ls (v :: st)) : Xh p l e R s m args below meth c nL G Q cells slots n h pc ls (.ref (zad G i j) :: st) := by
  intro H locs lsA hW hS hl h1
  rcases hf with hf | ⟨host, hf⟩
  · exact va_get (D := G.1) (ci := 4) (C := RX6) (T := TX6) (N := 6) cx.1.1 cx.1.2.1 cx.1.2.2.2.2 zinX6 cx.1.2.2.2.1 cx.2.1.1 (hW.one hok hn hp) 0 rfl rfl k hk hf (fun _ z => z) hv d (kk H locs lsA hW hS hl h1)
  · exact va_getN (D := G.1) (ci := 4) (C := RX6) (T := TX6) (N := 6) cx.1.1 cx.1.2.1 cx.1.2.2.2.2 zinX6 cx.1.2.2.2.1 cx.2.1.1 (hW.one hok hn hp) 0 rfl rfl k hk hf (fun _ z => z) hv d (kk H locs lsA hW hS hl h1)
theorem x_putX6 (cx : Cx p s m args meth c cc nL own G) {idx i j : Nat} {fs : List Value} {v : Value} (k : Nat) (hk : k < 6) (hf : zFL s args own idx (TX6 k).1 (TX6 k).2.1 (TX6 k).2.2.1) (hok : zok i j) (hn : zix i j < n) (hp : h i j = .inr (4, fs)) (hfin : (TX6 k).2.2.2 = false) (hnar : narrow (tyX6 k) v = v) (hfit : fits (tyX6 k) v = true) (hlen : k < fs.length) (hh : ∀ i' j', zok i' j' → zix i' j' < n → h' i' j' = hset h i j (.inr (4, fs.set k v)) i' j') (d : decode cc pc = .ok (.putfield idx, 3)) (kk : Xh p l e R s m args below meth c nL G Q cells slots n h' (pc + 3) ls st) : Xh p l e R s m args below meth c nL G Q cells slots n h pc ls (v :: .ref (zad G i j) :: st) := by
  intro H locs lsA hW hS hl h1
  have hap := va_apart (own := own) cx.1.2.2.2.2 zinX6 tyX6 tyX6_ok nmX6 cx.2.1.1 (ci := 4) rfl
  obtain ⟨r, hr1, cell, q1, q2, q3, q4⟩ := (hW.one hok hn hp) 0 _ rfl
  have hr : r = (RX6, TX6, 6) := Option.some.inj (hr1.symm.trans rfl)
  subst hr
  obtain ⟨hSl, hfc, kC, hkC, hkind⟩ := cx.2.1.1.1 4 _ rfl
  obtain ⟨cf, kf, fi, f, hi, hsl⟩ := hSl k hk
  have hlay := cx.1.2.2.2.2 _ (zinX6 _ (u_in_lay hk))
  unfold u_lay at hlay
  rw [if_neg (by rw [hfin]; decide)] at hlay
  have hst := (u_facts hfc hkC (u_lays cx.1.2.2.2.2 zinX6 hk) hi).1
  have h6 := u_store hfc hkC hkind hlay hi (tyX6_ok k hk) hnar hfit
  have fin : ∀ H' : Heap, H'[zad G i j]? = some (cell.setSlot f.slot v) → H'.size = H.size → (∀ q, q ≠ zad G i j → H'[q]? = H[q]?) → W p l e R s m args below meth c H' (locs ++ [⟨zad G i j, f.slot⟩]) cells slots Q (F0 m (pc + 3) lsA st) := by
    intro H' e1 e2 e3
    rw [hsl] at e1
    refine kk H' _ lsA (hW.set (x := .inr (4, fs.set k v)) hok hn e2 ⟨_, rfl, t_OB.to (V := updV (vp_V fs) k v) ⟨_, e1, q2, q3, t_set q4 hap hk v⟩ (fun j _ => vp_updV_set hlen v j)⟩ e3 hh) (hS.put e2 e3 (Nat.le_add_right _ _)) hl h1
  rcases hf with hf | ⟨host, hf⟩
  · exact W.putK cx.1.1 cx.1.2.1 (f := f) ⟨cx.1.2.2.2.1, hf, ⟨_, _, _, hi⟩, hst⟩ (by rw [q2]; exact h6) q1 q3 (by rw [hsl]; exact k2_hasslot (q4 k hk)) rfl rfl d fin
  · exact va_WputK cx.1.1 cx.1.2.1 (f := f) cx.1.2.2.2.1 hf hi hst (by rw [q2]; exact h6) q1 q3 (by rw [hsl]; exact k2_hasslot (q4 k hk)) rfl rfl d fin
theorem x_putFX6 (cx : Cx p s m args meth c cc nL own G) {idx i j : Nat} {fs : List Value} {v : Value} (k : Nat) (hk : k < 6) (hf : (Cond.fieldLink own idx (TX6 k).1 (TX6 k).2.1 (TX6 k).2.2.1).before args s = true) (hin2 : meth.name = "<init>") (hok : zok i j) (hn : zix i j < n) (hp : h i j = .inr (4, fs)) (hfin : (TX6 k).2.2.2 = true) (hdecl : (TX6 k).1 = own) (hnar : narrow (tyX6 k) v = v) (hfit : fits (tyX6 k) v = true) (hlen : k < fs.length) (hh : ∀ i' j', zok i' j' → zix i' j' < n → h' i' j' = hset h i j (.inr (4, fs.set k v)) i' j') (d : decode cc pc = .ok (.putfield idx, 3)) (kk : Xh p l e R s m args below meth c nL G Q cells slots n h' (pc + 3) ls st) : Xh p l e R s m args below meth c nL G Q cells slots n h pc ls (v :: .ref (zad G i j) :: st) := by
  intro H locs lsA hW hS hl h1
  have hap := va_apart (own := own) cx.1.2.2.2.2 zinX6 tyX6 tyX6_ok nmX6 cx.2.1.1 (ci := 4) rfl
  obtain ⟨r, hr1, cell, q1, q2, q3, q4⟩ := (hW.one hok hn hp) 0 _ rfl
  have hr : r = (RX6, TX6, 6) := Option.some.inj (hr1.symm.trans rfl)
  subst hr
  obtain ⟨hSl, hfc, kC, hkC, hkind⟩ := cx.2.1.1.1 4 _ rfl
  obtain ⟨cf, kf, fi, f, hi, hsl⟩ := hSl k hk
  have hlay := cx.1.2.2.2.2 _ (zinX6 _ (u_in_lay hk))
  unfold u_lay at hlay
  rw [if_pos hfin] at hlay
  have hst := (u_facts hfc hkC (u_lays cx.1.2.2.2.2 zinX6 hk) hi).1
  have hcf : m.cls = cf := by
    obtain ⟨_, _, c', _, _, _, -, -, hf', -, -, -, hown2, -⟩ := Cond.laysFinal_spec hlay
    have e1 : c' = cf := by have := hi.symm.trans hf'; simp at this; exact this.1.symm
    rw [hdecl] at hown2
    rw [← e1]; exact Option.some.inj (cx.1.2.2.2.1.symm.trans hown2)
  have h6 := u_fits hfc hkC hkind (Or.inr hlay) hi (tyX6_ok k hk) hnar hfit
  have fin : ∀ H' : Heap, H'[zad G i j]? = some (cell.setSlot f.slot v) → H'.size = H.size → (∀ q, q ≠ zad G i j → H'[q]? = H[q]?) → W p l e R s m args below meth c H' (locs ++ [⟨zad G i j, f.slot⟩]) cells slots Q (F0 m (pc + 3) lsA st) := by
    intro H' e1 e2 e3
    rw [hsl] at e1
    refine kk H' _ lsA (hW.set (x := .inr (4, fs.set k v)) hok hn e2 ⟨_, rfl, t_OB.to (V := updV (vp_V fs) k v) ⟨_, e1, q2, q3, t_set q4 hap hk v⟩ (fun j _ => vp_updV_set hlen v j)⟩ e3 hh) (hS.put e2 e3 (Nat.le_add_right _ _)) hl h1
  exact W.putFinK cx.1.1 cx.1.2.1 cx.1.2.2.2.1 hf hi hst hcf hin2 (by rw [q2]; exact h6) q1 q3 (by rw [hsl]; exact k2_hasslot (q4 k hk)) rfl rfl d fin
theorem x_iald (cx : Cx p s m args meth c cc nL own G) {i j N t : Nat} {f : Nat → Int32} {x v : Int32} (hok : zok i j) (hn : zix i j < n) (hp : h i j = .inl (G.2.1 0, N, .inl f)) (hx : x = nI t) (ht : t < N) (hN : N ≤ 1000) (hv : f t = v) (d : decode cc pc = .ok (.iaload, 1)) (kk : Xh p l e R s m args below meth c nL G Q cells slots n h (pc + 1) ls (.int v :: st)) : Xh p l e R s m args below meth c nL G Q cells slots n h pc ls (.int x :: .ref (zad G i j) :: st) := by
  intro H locs lsA hW hS hl h1
  subst hx; subst hv
  have hc : (nI t).toNatClampNeg = t := nI_clamp (by omega)
  refine va_iald cx.1.1 cx.1.2.1 cx.2.1.1 (hW.one hok hn hp) 0 0 rfl rfl (i := nI t) (nI_in ht (by omega)) d ?_
  rw [hc]
  exact (kk H locs lsA hW hS hl h1)
theorem x_cald (cx : Cx p s m args meth c cc nL own G) {i j N t : Nat} {f : Nat → Int32} {x v : Int32} (hok : zok i j) (hn : zix i j < n) (hp : h i j = .inl (G.2.1 1, N, .inl f)) (hx : x = nI t) (ht : t < N) (hN : N ≤ 1000) (hv : f t = v) (d : decode cc pc = .ok (.caload, 1)) (kk : Xh p l e R s m args below meth c nL G Q cells slots n h (pc + 1) ls (.int v :: st)) : Xh p l e R s m args below meth c nL G Q cells slots n h pc ls (.int x :: .ref (zad G i j) :: st) := by
  intro H locs lsA hW hS hl h1
  subst hx; subst hv
  have hc : (nI t).toNatClampNeg = t := nI_clamp (by omega)
  refine va_cald cx.1.1 cx.1.2.1 cx.2.1.1 (hW.one hok hn hp) 0 1 rfl rfl (i := nI t) (nI_in ht (by omega)) d ?_
  rw [hc]
  exact (kk H locs lsA hW hS hl h1)
theorem x_aald (cx : Cx p s m args meth c cc nL own G) {i j N t a : Nat} {f : Nat → Option Nat} {x : Int32} (k : Nat) {C : String} (hk : (ztys G)[k]? = some (G.2.1 k, .object C)) (hok : zok i j) (hn : zix i j < n) (hp : h i j = .inl (G.2.1 k, N, .inr (.inr (.inr (.inr f))))) (hx : x = nI t) (ht : t < N) (hN : N ≤ 1000) (hv : f t = some a) (d : decode cc pc = .ok (.aaload, 1)) (kk : Xh p l e R s m args below meth c nL G Q cells slots n h (pc + 1) ls (.ref a :: st)) : Xh p l e R s m args below meth c nL G Q cells slots n h pc ls (.int x :: .ref (zad G i j) :: st) := by
  intro H locs lsA hW hS hl h1
  subst hx
  have hc : (nI t).toNatClampNeg = t := nI_clamp (by omega)
  refine va_aldq cx.1.1 cx.1.2.1 cx.2.1.1 (hW.one hok hn hp) 0 k rfl hk (i := nI t) (nI_in ht (by omega)) d ?_
  rw [hc, hv]
  exact (kk H locs lsA hW hS hl h1)
theorem x_iast (cx : Cx p s m args meth c cc nL own G) {i j N t : Nat} {f : Nat → Int32} {x y : Int32} (hok : zok i j) (hn : zix i j < n) (hp : h i j = .inl (G.2.1 0, N, .inl f)) (hy : y = nI t) (ht : t < N) (hN : N ≤ 1000) (hh : ∀ i' j', zok i' j' → zix i' j' < n → h' i' j' = hset h i j (.inl (G.2.1 0, N, .inl (upd f t (x)))) i' j') (d : decode cc pc = .ok (.iastore, 1)) (kk : Xh p l e R s m args below meth c nL G Q cells slots n h' (pc + 1) ls st) : Xh p l e R s m args below meth c nL G Q cells slots n h pc ls (.int x :: .int y :: .ref (zad G i j) :: st) := by
  intro H locs lsA hW hS hl h1
  subst hy
  have hc : (nI t).toNatClampNeg = t := nI_clamp (by omega)
  have hin : vp_in (nI t) N := nI_in ht (by omega)
  refine W.iast cx.1.1 cx.1.2.1 (hW.one hok hn hp 0 _ rfl) ((cx.2.1.1.2 0 _ rfl).1 N (fun j => .int (f j))) (fun q => by cases q) (by show ¬ (nI t < 0 ∨ (arrV _ _ _).slots.size ≤ _); rw [arrV_size]; exact hin) rfl rfl d fun H1 e1 z oq => ?_
  refine kk H1 _ lsA (hW.set hok hn z ?_ oq hh) (hS.put z oq (Nat.le_add_right _ _)) hl h1
  show H1[zad G i j]? = some (vp_cell _ _)
  rw [e1]
  rw [vp_cell_i, vp_cell_i, arrV_store, hc]
  congr 2
  funext q
  by_cases hq : q = t
  · subst hq
    simp [updV, upd, vp_nar]
    try rfl
  · simp [updV, upd, hq]
theorem x_cast (cx : Cx p s m args meth c cc nL own G) {i j N t : Nat} {f : Nat → Int32} {x y : Int32} (hok : zok i j) (hn : zix i j < n) (hp : h i j = .inl (G.2.1 1, N, .inl f)) (hy : y = nI t) (ht : t < N) (hN : N ≤ 1000) (hh : ∀ i' j', zok i' j' → zix i' j' < n → h' i' j' = hset h i j (.inl (G.2.1 1, N, .inl (upd f t (vp_nar .char x)))) i' j') (d : decode cc pc = .ok (.castore, 1)) (kk : Xh p l e R s m args below meth c nL G Q cells slots n h' (pc + 1) ls st) : Xh p l e R s m args below meth c nL G Q cells slots n h pc ls (.int x :: .int y :: .ref (zad G i j) :: st) := by
  intro H locs lsA hW hS hl h1
  subst hy
  have hc : (nI t).toNatClampNeg = t := nI_clamp (by omega)
  have hin : vp_in (nI t) N := nI_in ht (by omega)
  refine W.cast cx.1.1 cx.1.2.1 (hW.one hok hn hp 0 _ rfl) ((cx.2.1.1.2 1 _ rfl).1 N (fun j => .int (f j))) (fun q => by cases q) (by show ¬ (nI t < 0 ∨ (arrV _ _ _).slots.size ≤ _); rw [arrV_size]; exact hin) rfl rfl d fun H1 e1 z oq => ?_
  refine kk H1 _ lsA (hW.set hok hn z ?_ oq hh) (hS.put z oq (Nat.le_add_right _ _)) hl h1
  show H1[zad G i j]? = some (vp_cell _ _)
  rw [e1]
  rw [vp_cell_i, vp_cell_i, arrV_store, hc]
  congr 2
  funext q
  by_cases hq : q = t
  · subst hq
    simp [updV, upd, vp_nar]
    try rfl
  · simp [updV, upd, hq]
theorem x_aast (cx : Cx p s m args meth c cc nL own G) {i j N t i2 j2 ci : Nat} {r : vw_C} {vs : List Value} {f : Nat → Option Nat} {y : Int32} (k : Nat) (hk : (ztys G)[k]? = some (G.2.1 k, .object r.1)) (hok : zok i j) (hn : zix i j < n) (hp : h i j = .inl (G.2.1 k, N, .inr (.inr (.inr (.inr f))))) (hok2 : zok i2 j2) (hn2 : zix i2 j2 < n) (hp2 : h i2 j2 = .inr (ci, vs)) (hc : vwCl[ci]? = some r) (hy : y = nI t) (ht : t < N) (hN : N ≤ 1000) (hh : ∀ i' j', zok i' j' → zix i' j' < n → h' i' j' = hset h i j (.inl (G.2.1 k, N, .inr (.inr (.inr (.inr (va_up f t (some (zad G i2 j2)))))))) i' j') (d : decode cc pc = .ok (.aastore, 1)) (kk : Xh p l e R s m args below meth c nL G Q cells slots n h' (pc + 1) ls st) : Xh p l e R s m args below meth c nL G Q cells slots n h pc ls (.ref (zad G i2 j2) :: .int y :: .ref (zad G i j) :: st) := by
  intro H locs lsA hW hS hl h1
  subst hy
  have hcl : (nI t).toNatClampNeg = t := nI_clamp (by omega)
  have h0 : ¬ nI t < 0 := nI_pos (by omega)
  obtain ⟨r', hr', cellV, g1, g2, g3, -⟩ := hW.one hok2 hn2 hp2 0 _ rfl
  have hcls := (cx.2.1.1.1 ci r hc).2
  obtain ⟨kA, comp, k1, k2, k3, -⟩ := (cx.2.1.1.2 k _ hk).2
  have hcomp : comp = G.1.1 ci := Option.some.inj (k3.symm.trans hcls.1)
  subst hcomp
  obtain ⟨kC, hkC, -⟩ := hcls.2
  refine W.aast cx.1.1 cx.1.2.1 (hW.one hok hn hp 0 _ rfl) (fun q z => by cases z) (fun z => by cases z) k1 k2 rfl hkC ⟨h0, by show _ < (arrV _ _ _).slots.size; rw [arrV_size, hcl]; exact ht⟩ g1 (fun q z => by rw [g3] at z; cases z) (by rw [g2]; exact hkC) (by rw [g2]; exact va_assign hcls) rfl rfl d fun H1 e1 z oq => ?_
  refine kk H1 _ lsA (hW.set hok hn z ?_ oq hh) (hS.put z oq (Nat.le_add_right _ _)) hl h1
  show H1[zad G i j]? = some (vp_cell _ _)
  rw [e1]
  rw [vp_cell_q, vp_cell_q, arrV_store, hcl]
  congr 2
  funext q
  by_cases hq : q = t
  · subst hq
    simp [updV, va_up, va_rf]
  · simp [updV, va_up, hq]
theorem x_aleni (cx : Cx p s m args meth c cc nL own G) {i j N : Nat} {f : Nat → Int32} (k : Nat) {ty : FieldType} (hk : (ztys G)[k]? = some (G.2.1 k, ty)) (hok : zok i j) (hn : zix i j < n) (hp : h i j = .inl (G.2.1 k, N, .inl f)) (d : decode cc pc = .ok (.arraylength, 1)) (kk : Xh p l e R s m args below meth c nL G Q cells slots n h (pc + 1) ls (.int (nI N) :: st)) : Xh p l e R s m args below meth c nL G Q cells slots n h pc ls (.ref (zad G i j) :: st) := by
  intro H locs lsA hW hS hl h1
  exact W.alen cx.1.1 cx.1.2.1 (ty := ty) (hW.one hok hn hp 0 _ rfl) ((cx.2.1.1.2 k _ hk).1 N _) (by show (arrV _ _ _).slots.size.toInt32 = nI N; rw [arrV_size]; rfl) rfl rfl d (kk H locs lsA hW hS hl h1)
theorem x_alenq (cx : Cx p s m args meth c cc nL own G) {i j N : Nat} {f : Nat → Option Nat} (k : Nat) {ty : FieldType} (hk : (ztys G)[k]? = some (G.2.1 k, ty)) (hok : zok i j) (hn : zix i j < n) (hp : h i j = .inl (G.2.1 k, N, .inr (.inr (.inr (.inr f))))) (d : decode cc pc = .ok (.arraylength, 1)) (kk : Xh p l e R s m args below meth c nL G Q cells slots n h (pc + 1) ls (.int (nI N) :: st)) : Xh p l e R s m args below meth c nL G Q cells slots n h pc ls (.ref (zad G i j) :: st) := by
  intro H locs lsA hW hS hl h1
  exact W.alen cx.1.1 cx.1.2.1 (ty := ty) (hW.one hok hn hp 0 _ rfl) ((cx.2.1.1.2 k _ hk).1 N _) (by show (arrV _ _ _).slots.size.toInt32 = nI N; rw [arrV_size]; rfl) rfl rfl d (kk H locs lsA hW hS hl h1)
theorem x_gets0 (cx : Cx p s m args meth c cc nL own G) {idx : Nat} (hf : (Cond.fieldLink own idx "ScanChain$Controller" "NEXT_BY_MODE_0" "[I").before args s = true) (d : decode cc pc = .ok (.getstatic idx, 3)) (kk : ∀ t : Nat, va_T .int t 16 (fun k => .int (zN0 k)) (zA G) s s.heap → Xh p l e R s m args below meth c nL G Q cells slots n h (pc + 3) ls (.ref t :: st)) : Xh p l e R s m args below meth c nL G Q cells slots n h pc ls st := by
  intro H locs lsA hW hS hl h1
  obtain ⟨t0, t1, ⟨hZ, hT⟩, -⟩ := cx.2.2.1
  exact va_gets cx.1.1 cx.1.2.1 hZ hS cx.1.2.2.2.1 hf (fun _ z => z) d (kk _ hT H locs lsA hW hS hl h1)
theorem x_gets1 (cx : Cx p s m args meth c cc nL own G) {idx : Nat} (hf : (Cond.fieldLink own idx "ScanChain$Controller" "NEXT_BY_MODE_1" "[I").before args s = true) (d : decode cc pc = .ok (.getstatic idx, 3)) (kk : ∀ t : Nat, va_T .int t 16 (fun k => .int (zN1 k)) (zA G) s s.heap → Xh p l e R s m args below meth c nL G Q cells slots n h (pc + 3) ls (.ref t :: st)) : Xh p l e R s m args below meth c nL G Q cells slots n h pc ls st := by
  intro H locs lsA hW hS hl h1
  obtain ⟨t0, t1, -, ⟨hZ, hT⟩⟩ := cx.2.2.1
  exact va_gets cx.1.1 cx.1.2.1 hZ hS cx.1.2.2.2.1 hf (fun _ z => z) d (kk _ hT H locs lsA hW hS hl h1)
theorem x_tald (cx : Cx p s m args meth c cc nL own G) {t N a : Nat} {f : Nat → Int32} {x v : Int32} (hT : va_T .int a N (fun k => .int (f k)) (zA G) s s.heap) (hx : x = nI t) (ht : t < N) (hN : N ≤ 1000) (hv : f t = v) (d : decode cc pc = .ok (.iaload, 1)) (kk : Xh p l e R s m args below meth c nL G Q cells slots n h (pc + 1) ls (.int v :: st)) : Xh p l e R s m args below meth c nL G Q cells slots n h pc ls (.int x :: .ref a :: st) := by
  intro H locs lsA hW hS hl h1
  subst hx; subst hv
  refine va_ti cx.1.1 cx.1.2.1 hT hS (i := nI t) (nI_in ht (by omega)) (v := .int (f t)) ?_ d (kk H locs lsA hW hS hl h1)
  rw [nI_clamp (by omega)]
end ZJ
abbrev zPc (G : zG) (n : Nat) (h : zH) (av : List Value) : Array Value → State → Prop := va_Pc av (fun U => Wd G n h U U.heap)
abbrev zQi (G : zG) (n : Nat) (r : Int32) (h : zH) : Array Value → State → Outcome → State → Prop := va_Qi (fun (r' : Int32) (_ : Unit) => r' = r) (fun _ t => Wd G n h t t.heap) (zA G)
abbrev zQf (G : zG) (n : Nat) (r : UInt32) (h : zH) : Array Value → State → Outcome → State → Prop := va_Qf (fun (r' : UInt32) (_ : Unit) => r' = r) (fun _ t => Wd G n h t t.heap) (zA G)
abbrev zQl (G : zG) (n : Nat) (r : Int64) (h : zH) : Array Value → State → Outcome → State → Prop := va_Ql (fun (r' : Int64) (_ : Unit) => r' = r) (fun _ t => Wd G n h t t.heap) (zA G)
abbrev zQE (G : zG) (n : Nat) (P : Int32 → zH → Prop) : Array Value → State → Outcome → State → Prop := va_Qi (fun (r : Int32) (h : zH) => P r h) (fun h t => Wd G n h t t.heap) (zA G)
abbrev zQv (G : zG) (n : Nat) (h : zH) : Array Value → State → Outcome → State → Prop := va_Qv (fun (_ : Unit) => True) (fun _ t => Wd G n h t t.heap) (zA G)
abbrev zrm (f c s k : Nat) : Room := { frames := f, cells := c, slots := s, locals := k }
theorem lv_args1 : ∀ (av : List Value) (b : Nat), (av.all fun v => decide (v.category = 1)) = true → lv_args b av = lo b (av.map some)
  | [], _, _ => rfl
  | v :: vs, b, h => by
    simp only [List.all_cons, Bool.and_eq_true, decide_eq_true_eq] at h
    have hc : ¬ v.category = 2 := by rw [h.1]; decide
    simp only [lv_args, List.map_cons, lo, if_neg hc]
    rw [lv_args1 vs (b + 1) h.2]
theorem lo_app_none : ∀ (ls : List (Option Value)) (b n : Nat), lo b (ls ++ List.replicate n none) = lo b ls
  | [], b, n => by
    induction n generalizing b with
    | zero => rfl
    | succ n ih =>
      simp only [List.nil_append, List.replicate_succ, lo] at ih ⊢
      exact ih (b + 1)
  | none :: t, b, n => by simp only [List.cons_append, lo]; exact lo_app_none t (b + 1) n
  | some v :: t, b, n => by simp only [List.cons_append, lo]; rw [lo_app_none t (b + 1) n]
theorem lo2_app : ∀ (ls : List (Option Value)) (n : Nat), (∀ v, some v ∈ ls → v.category = 1) → lo2 false (ls ++ List.replicate n none) = true
  | [], 0, _ => rfl
  | [], n + 1, h => lo2_app [] n h
  | none :: t, n, h => lo2_app t n (fun v hv => h v (List.mem_cons_of_mem _ hv))
  | some v :: t, n, h => by
    show lo2 (decide (v.category ≠ 1)) (t ++ List.replicate n none) = true
    have hc := h v List.mem_cons_self
    rw [show decide (v.category ≠ 1) = false by simp [hc]]
    exact lo2_app t n (fun v hv => h v (List.mem_cons_of_mem _ hv))
theorem lo1_args {av : List Value} {n : Nat} (h : (av.all fun v => decide (v.category = 1)) = true) : lo1 (av.map some ++ List.replicate n none) = true := by
  refine lo2_app _ _ fun v hv => ?_
  obtain ⟨w, hw, e⟩ := List.mem_map.mp hv
  cases e
  have := List.all_eq_true.mp h v hw
  simpa using this
theorem lg_sl1 : ∀ (av : List Value), (av.all fun v => decide (v.category = 1)) = true → (lg_sl av).length = av.length
  | [], _ => rfl
  | v :: vs, h => by
    simp only [List.all_cons, Bool.and_eq_true, decide_eq_true_eq] at h
    have hc : ¬ v.category = 2 := by rw [h.1]; decide
    have := lg_sl1 vs h.2
    simp only [lg_sl, List.flatMap_cons, if_neg hc, List.length_append, List.length_cons, List.length_nil] at this ⊢
    omega
theorem zMet {l : Launch} {y : MethodName} {cc : ByteArray} {nL : Nat} {ret : Option FieldType} {rm : Room} {n mc ms : Nat} {h : zH} {av : List Value} {Qc : Array Value → State → Outcome → State → Prop} {G : zG} (hy : plainName y.cls = true) (hav : (av.all fun v => decide (v.category = 1)) = true) (hlen : av.length ≤ nL)
    (body : ∀ (p : Program) (e : Env) (s : State) (m : MethodId) (args : Array Value) (below : List Frame) (meth : Method) (c : Code), args = av.toArray → Cx p s m args meth c cc nL y.cls G → meth.sig.returnType = ret → (y.name = "<init>" → meth.name = "<init>") →
      Xh p l e rm s m args below meth c nL G (MQ below Qc args s mc ms (zA G)) 0 0 n h 0 (av.map some ++ List.replicate (nL - av.length) none) []) : Met l y (zws y cc nL ret) rm (zPc G n h av) Qc mc ms (zA G) := by
  refine Met.ofW (cc := cc) (maxL := nL) (ret := ret) hy rfl ?_
  intro p e s m args below meth c s₁ B hml hv
  obtain ⟨rfl, hW, hK, hST⟩ := hv
  have hts := atoms_spec (ws := zws y cc nL ret) B.pre
  have hown : s.vm.findClass y.cls = some m.cls := findClass_of_methodNamed B.named
  have hl := lv_entry av (n := nL) (by rw [lg_sl1 av hav]; exact hlen)
  rw [lg_entry_eq]
  have hin : y.name = "<init>" → meth.name = "<init>" := fun z => by rw [← z]; exact (name_of_methodNamed B.named B.method).1
  refine body p e s m _ below meth c rfl ⟨⟨B.exec, B.bytes, hml, hown, fun w hw => hts w (List.mem_cons_of_mem _ hw)⟩, hK, hST, B.notSynchronized⟩ B.returns hin s.heap [] _ hW va_S.rf ?_ (lo1_args hav)
  rw [lo_app_none, ← lv_args1 av 0 hav]
  exact hl
theorem zfb {G : zG} {n : Nat} {h : zH} {av : List Value} : FrameBlind (zPc G n h av) := fun a U g mk q => ⟨q.1, Wd.calling q.2⟩
section ZC
variable {p : Program} {l : Launch} {e : Env} {R : Room} {s : State} {m : MethodId} {args : Array Value} {below : List Frame} {meth : Method} {c : Code} {cc : ByteArray} {nL : Nat} {own : String} {G : zG} {Q : State → Prop} {cells slots n n2 : Nat} {h h2 : zH} {pc : Nat} {ls : List (Option Value)} {st rest : List Value}
theorem zpre {H : Heap} {locs : List Loc} {U : State} (cx : Cx p s m args meth c cc nL own G) (hW : HW G n h H) (hS : va_S (zA G) s.heap H locs) (hU : U.heap = H) (hv : s.WarmedH U.vm) : Wd G n h U U.heap := by
  rw [hU]
  exact ⟨hW, cx.2.1.warm hv, (ST.moved hv.alike cx.2.2.1).kept hS.2.1⟩
theorem x_Vi (cx : Cx p s m args meth c cc nL own G) {i j ci idx n' f' k' na mc ms : Nat} {y : MethodName} {c' : ByteArray} {ret : Option FieldType} {fs As : List Value} {r : Int32} {C : String} {T : u_T} {N : Nat}
    (hM : Met l y (zws y c' n' ret) (zrm f' mc ms k') (zPc G n h (.ref (zad G i j) :: As)) (zQi G n2 r h2) mc ms (zA G)) (hG : GoodIn zW (wsV own idx C y (zws y c' n' ret))) (hd : y.cls ≠ "java/lang/invoke/MethodHandle" ∧ y.cls ≠ "java/lang/invoke/VarHandle" ∧ (parseMethodDescriptor y.desc).map (fun d => d.parameters.length) = some na)
    (hc : y.cls = C) (hR : f' + 1 ≤ R.frames ∧ 8 + (n' + 11) + k' ≤ R.locals) (hok : zok i j) (hn : zix i j < n) (hp : h i j = .inr (ci, fs)) (hcl : vwCl[ci]? = some (C, T, N)) (hst : st = As.reverse ++ .ref (zad G i j) :: rest) (hlen : As.length = na) (hcat : (rest.map fun v => v.category).sum ≤ 8) (d : decode cc pc = .ok (.invokevirtual idx, 3)) (hcs : cells + mc ≤ R.cells ∧ slots + ms ≤ R.slots)
    (kk : Xh p l e R s m args below meth c nL G Q (cells + mc) (slots + ms) n2 h2 (pc + 3) ls (.int r :: rest)) : Xh p l e R s m args below meth c nL G Q cells slots n h pc ls st := by
  intro H locs lsA hW hS hl h1
  refine va_calli (va_runV (As := As) (rest := rest) cx.1 hM (cwV na cx.1.2.2.2.2 hG rfl rfl rfl ⟨hc, hd⟩ hR) ⟨zfb, va_recv (q0 := 0) (fs := fs) cx.2.1.1 (hW.one hok hn hp) hcl rfl, fun U hU hv => ⟨rfl, zpre cx hW hS hU hv⟩⟩ rfl hlen hl.1 hst (lv_room hcat) d hcs) hS (fun q _ z => z) (fun q z => z) (fun r0 u t H1 locs1 ht hvm hw hB hz hk hS1 => ?_)
  subst hw
  exact kk H1 locs1 lsA (by rw [← ht]; exact hB.1) hS1 hl h1
theorem x_Si (cx : Cx p s m args meth c cc nL own G) {idx n' f' k' na mc ms : Nat} {y : MethodName} {c' : ByteArray} {ret : Option FieldType} {As : List Value} {r : Int32}
    (hM : Met l y (zws y c' n' ret) (zrm f' mc ms k') (zPc G n h As) (zQi G n2 r h2) mc ms (zA G)) (hG : GoodIn zW (va_wsS own idx y (zws y c' n' ret))) (hd : y.cls ≠ "java/lang/invoke/MethodHandle" ∧ y.cls ≠ "java/lang/invoke/VarHandle" ∧ (parseMethodDescriptor y.desc).map (fun d => d.parameters.length) = some na)
    (hR : f' + 1 ≤ R.frames ∧ 8 + (n' + 11) + k' ≤ R.locals) (hst : st = As.reverse ++ rest) (hlen : As.length = na) (hcat : (rest.map fun v => v.category).sum ≤ 8) (d : decode cc pc = .ok (.invokestatic idx, 3)) (hcs : cells + mc ≤ R.cells ∧ slots + ms ≤ R.slots)
    (kk : Xh p l e R s m args below meth c nL G Q (cells + mc) (slots + ms) n2 h2 (pc + 3) ls (.int r :: rest)) : Xh p l e R s m args below meth c nL G Q cells slots n h pc ls st := by
  intro H locs lsA hW hS hl h1
  refine va_calli (va_runS (As := As) (rest := rest) cx.1 hM (va_cwS na cx.1.2.2.2.2 hG rfl rfl rfl hd hR) ⟨zfb, fun U hU hv => ⟨rfl, zpre cx hW hS hU hv⟩⟩ rfl hlen hl.1 hst (lv_room hcat) d hcs) hS (fun q _ z => z) (fun q z => z) (fun r0 u t H1 locs1 ht hvm hw hB hz hk hS1 => ?_)
  subst hw
  exact kk H1 locs1 lsA (by rw [← ht]; exact hB.1) hS1 hl h1
theorem x_SNi (cx : Cx p s m args meth c cc nL own G) {idx n' f' k' na mc ms : Nat} {y : MethodName} {c' : ByteArray} {ret : Option FieldType} {As : List Value} {r : Int32} {host : String}
    (hM : Met l y (zws y c' n' ret) (zrm f' mc ms k') (zPc G n h As) (zQi G n2 r h2) mc ms (zA G)) (hG : GoodIn zW (zws y c' n' ret)) (hl0 : va_Nw (.methodLinkNest own idx y host) s) (hini : Cond.initialized y.cls ∈ zW) (hst0 : Cond.static y ∈ zW) (hd : y.cls ≠ "java/lang/invoke/MethodHandle" ∧ y.cls ≠ "java/lang/invoke/VarHandle" ∧ (parseMethodDescriptor y.desc).map (fun d => d.parameters.length) = some na)
    (hR : f' + 1 ≤ R.frames ∧ 8 + (n' + 11) + k' ≤ R.locals) (hst : st = As.reverse ++ rest) (hlen : As.length = na) (hcat : (rest.map fun v => v.category).sum ≤ 8) (d : decode cc pc = .ok (.invokestatic idx, 3)) (hcs : cells + mc ≤ R.cells ∧ slots + ms ≤ R.slots)
    (kk : Xh p l e R s m args below meth c nL G Q (cells + mc) (slots + ms) n2 h2 (pc + 3) ls (.int r :: rest)) : Xh p l e R s m args below meth c nL G Q cells slots n h pc ls st := by
  intro H locs lsA hW hS hl h1
  refine va_calli (va_runSN (As := As) (rest := rest) cx.1 hM ⟨va_cnB na cx.1.2.2.2.2 hG rfl rfl rfl hl0 (cx.1.2.2.2.2 _ hini) hd hR, cx.1.2.2.2.2 _ hst0, trivial⟩ ⟨zfb, fun U hU hv => ⟨rfl, zpre cx hW hS hU hv⟩⟩ rfl hlen hl.1 hst (lv_room hcat) d hcs) hS (fun q _ z => z) (fun q z => z) (fun r0 u t H1 locs1 ht hvm hw hB hz hk hS1 => ?_)
  subst hw
  exact kk H1 locs1 lsA (by rw [← ht]; exact hB.1) hS1 hl h1
theorem x_Vf (cx : Cx p s m args meth c cc nL own G) {i j ci idx n' f' k' na mc ms : Nat} {y : MethodName} {c' : ByteArray} {ret : Option FieldType} {fs As : List Value} {r : UInt32} {C : String} {T : u_T} {N : Nat}
    (hM : Met l y (zws y c' n' ret) (zrm f' mc ms k') (zPc G n h (.ref (zad G i j) :: As)) (zQf G n2 r h2) mc ms (zA G)) (hG : GoodIn zW (wsV own idx C y (zws y c' n' ret))) (hd : y.cls ≠ "java/lang/invoke/MethodHandle" ∧ y.cls ≠ "java/lang/invoke/VarHandle" ∧ (parseMethodDescriptor y.desc).map (fun d => d.parameters.length) = some na)
    (hc : y.cls = C) (hR : f' + 1 ≤ R.frames ∧ 8 + (n' + 11) + k' ≤ R.locals) (hok : zok i j) (hn : zix i j < n) (hp : h i j = .inr (ci, fs)) (hcl : vwCl[ci]? = some (C, T, N)) (hst : st = As.reverse ++ .ref (zad G i j) :: rest) (hlen : As.length = na) (hcat : (rest.map fun v => v.category).sum ≤ 8) (d : decode cc pc = .ok (.invokevirtual idx, 3)) (hcs : cells + mc ≤ R.cells ∧ slots + ms ≤ R.slots)
    (kk : Xh p l e R s m args below meth c nL G Q (cells + mc) (slots + ms) n2 h2 (pc + 3) ls (.float r :: rest)) : Xh p l e R s m args below meth c nL G Q cells slots n h pc ls st := by
  intro H locs lsA hW hS hl h1
  refine va_callf (va_runV (As := As) (rest := rest) cx.1 hM (cwV na cx.1.2.2.2.2 hG rfl rfl rfl ⟨hc, hd⟩ hR) ⟨zfb, va_recv (q0 := 0) (fs := fs) cx.2.1.1 (hW.one hok hn hp) hcl rfl, fun U hU hv => ⟨rfl, zpre cx hW hS hU hv⟩⟩ rfl hlen hl.1 hst (lv_room hcat) d hcs) hS (fun q _ z => z) (fun q z => z) (fun r0 u t H1 locs1 ht hvm hw hB hz hk hS1 => ?_)
  subst hw
  exact kk H1 locs1 lsA (by rw [← ht]; exact hB.1) hS1 hl h1
theorem x_Sf (cx : Cx p s m args meth c cc nL own G) {idx n' f' k' na mc ms : Nat} {y : MethodName} {c' : ByteArray} {ret : Option FieldType} {As : List Value} {r : UInt32}
    (hM : Met l y (zws y c' n' ret) (zrm f' mc ms k') (zPc G n h As) (zQf G n2 r h2) mc ms (zA G)) (hG : GoodIn zW (va_wsS own idx y (zws y c' n' ret))) (hd : y.cls ≠ "java/lang/invoke/MethodHandle" ∧ y.cls ≠ "java/lang/invoke/VarHandle" ∧ (parseMethodDescriptor y.desc).map (fun d => d.parameters.length) = some na)
    (hR : f' + 1 ≤ R.frames ∧ 8 + (n' + 11) + k' ≤ R.locals) (hst : st = As.reverse ++ rest) (hlen : As.length = na) (hcat : (rest.map fun v => v.category).sum ≤ 8) (d : decode cc pc = .ok (.invokestatic idx, 3)) (hcs : cells + mc ≤ R.cells ∧ slots + ms ≤ R.slots)
    (kk : Xh p l e R s m args below meth c nL G Q (cells + mc) (slots + ms) n2 h2 (pc + 3) ls (.float r :: rest)) : Xh p l e R s m args below meth c nL G Q cells slots n h pc ls st := by
  intro H locs lsA hW hS hl h1
  refine va_callf (va_runS (As := As) (rest := rest) cx.1 hM (va_cwS na cx.1.2.2.2.2 hG rfl rfl rfl hd hR) ⟨zfb, fun U hU hv => ⟨rfl, zpre cx hW hS hU hv⟩⟩ rfl hlen hl.1 hst (lv_room hcat) d hcs) hS (fun q _ z => z) (fun q z => z) (fun r0 u t H1 locs1 ht hvm hw hB hz hk hS1 => ?_)
  subst hw
  exact kk H1 locs1 lsA (by rw [← ht]; exact hB.1) hS1 hl h1
theorem x_SNf (cx : Cx p s m args meth c cc nL own G) {idx n' f' k' na mc ms : Nat} {y : MethodName} {c' : ByteArray} {ret : Option FieldType} {As : List Value} {r : UInt32} {host : String}
    (hM : Met l y (zws y c' n' ret) (zrm f' mc ms k') (zPc G n h As) (zQf G n2 r h2) mc ms (zA G)) (hG : GoodIn zW (zws y c' n' ret)) (hl0 : va_Nw (.methodLinkNest own idx y host) s) (hini : Cond.initialized y.cls ∈ zW) (hst0 : Cond.static y ∈ zW) (hd : y.cls ≠ "java/lang/invoke/MethodHandle" ∧ y.cls ≠ "java/lang/invoke/VarHandle" ∧ (parseMethodDescriptor y.desc).map (fun d => d.parameters.length) = some na)
    (hR : f' + 1 ≤ R.frames ∧ 8 + (n' + 11) + k' ≤ R.locals) (hst : st = As.reverse ++ rest) (hlen : As.length = na) (hcat : (rest.map fun v => v.category).sum ≤ 8) (d : decode cc pc = .ok (.invokestatic idx, 3)) (hcs : cells + mc ≤ R.cells ∧ slots + ms ≤ R.slots)
    (kk : Xh p l e R s m args below meth c nL G Q (cells + mc) (slots + ms) n2 h2 (pc + 3) ls (.float r :: rest)) : Xh p l e R s m args below meth c nL G Q cells slots n h pc ls st := by
  intro H locs lsA hW hS hl h1
  refine va_callf (va_runSN (As := As) (rest := rest) cx.1 hM ⟨va_cnB na cx.1.2.2.2.2 hG rfl rfl rfl hl0 (cx.1.2.2.2.2 _ hini) hd hR, cx.1.2.2.2.2 _ hst0, trivial⟩ ⟨zfb, fun U hU hv => ⟨rfl, zpre cx hW hS hU hv⟩⟩ rfl hlen hl.1 hst (lv_room hcat) d hcs) hS (fun q _ z => z) (fun q z => z) (fun r0 u t H1 locs1 ht hvm hw hB hz hk hS1 => ?_)
  subst hw
  exact kk H1 locs1 lsA (by rw [← ht]; exact hB.1) hS1 hl h1
theorem x_Vl (cx : Cx p s m args meth c cc nL own G) {i j ci idx n' f' k' na mc ms : Nat} {y : MethodName} {c' : ByteArray} {ret : Option FieldType} {fs As : List Value} {r : Int64} {C : String} {T : u_T} {N : Nat}
    (hM : Met l y (zws y c' n' ret) (zrm f' mc ms k') (zPc G n h (.ref (zad G i j) :: As)) (zQl G n2 r h2) mc ms (zA G)) (hG : GoodIn zW (wsV own idx C y (zws y c' n' ret))) (hd : y.cls ≠ "java/lang/invoke/MethodHandle" ∧ y.cls ≠ "java/lang/invoke/VarHandle" ∧ (parseMethodDescriptor y.desc).map (fun d => d.parameters.length) = some na)
    (hc : y.cls = C) (hR : f' + 1 ≤ R.frames ∧ 8 + (n' + 11) + k' ≤ R.locals) (hok : zok i j) (hn : zix i j < n) (hp : h i j = .inr (ci, fs)) (hcl : vwCl[ci]? = some (C, T, N)) (hst : st = As.reverse ++ .ref (zad G i j) :: rest) (hlen : As.length = na) (hcat : (rest.map fun v => v.category).sum ≤ 8) (d : decode cc pc = .ok (.invokevirtual idx, 3)) (hcs : cells + mc ≤ R.cells ∧ slots + ms ≤ R.slots)
    (kk : Xh p l e R s m args below meth c nL G Q (cells + mc) (slots + ms) n2 h2 (pc + 3) ls (.long r :: rest)) : Xh p l e R s m args below meth c nL G Q cells slots n h pc ls st := by
  intro H locs lsA hW hS hl h1
  refine va_calll (va_runV (As := As) (rest := rest) cx.1 hM (cwV na cx.1.2.2.2.2 hG rfl rfl rfl ⟨hc, hd⟩ hR) ⟨zfb, va_recv (q0 := 0) (fs := fs) cx.2.1.1 (hW.one hok hn hp) hcl rfl, fun U hU hv => ⟨rfl, zpre cx hW hS hU hv⟩⟩ rfl hlen hl.1 hst (lv_room hcat) d hcs) hS (fun q _ z => z) (fun q z => z) (fun r0 u t H1 locs1 ht hvm hw hB hz hk hS1 => ?_)
  subst hw
  exact kk H1 locs1 lsA (by rw [← ht]; exact hB.1) hS1 hl h1
theorem x_Sl (cx : Cx p s m args meth c cc nL own G) {idx n' f' k' na mc ms : Nat} {y : MethodName} {c' : ByteArray} {ret : Option FieldType} {As : List Value} {r : Int64}
    (hM : Met l y (zws y c' n' ret) (zrm f' mc ms k') (zPc G n h As) (zQl G n2 r h2) mc ms (zA G)) (hG : GoodIn zW (va_wsS own idx y (zws y c' n' ret))) (hd : y.cls ≠ "java/lang/invoke/MethodHandle" ∧ y.cls ≠ "java/lang/invoke/VarHandle" ∧ (parseMethodDescriptor y.desc).map (fun d => d.parameters.length) = some na)
    (hR : f' + 1 ≤ R.frames ∧ 8 + (n' + 11) + k' ≤ R.locals) (hst : st = As.reverse ++ rest) (hlen : As.length = na) (hcat : (rest.map fun v => v.category).sum ≤ 8) (d : decode cc pc = .ok (.invokestatic idx, 3)) (hcs : cells + mc ≤ R.cells ∧ slots + ms ≤ R.slots)
    (kk : Xh p l e R s m args below meth c nL G Q (cells + mc) (slots + ms) n2 h2 (pc + 3) ls (.long r :: rest)) : Xh p l e R s m args below meth c nL G Q cells slots n h pc ls st := by
  intro H locs lsA hW hS hl h1
  refine va_calll (va_runS (As := As) (rest := rest) cx.1 hM (va_cwS na cx.1.2.2.2.2 hG rfl rfl rfl hd hR) ⟨zfb, fun U hU hv => ⟨rfl, zpre cx hW hS hU hv⟩⟩ rfl hlen hl.1 hst (lv_room hcat) d hcs) hS (fun q _ z => z) (fun q z => z) (fun r0 u t H1 locs1 ht hvm hw hB hz hk hS1 => ?_)
  subst hw
  exact kk H1 locs1 lsA (by rw [← ht]; exact hB.1) hS1 hl h1
theorem x_SNl (cx : Cx p s m args meth c cc nL own G) {idx n' f' k' na mc ms : Nat} {y : MethodName} {c' : ByteArray} {ret : Option FieldType} {As : List Value} {r : Int64} {host : String}
    (hM : Met l y (zws y c' n' ret) (zrm f' mc ms k') (zPc G n h As) (zQl G n2 r h2) mc ms (zA G)) (hG : GoodIn zW (zws y c' n' ret)) (hl0 : va_Nw (.methodLinkNest own idx y host) s) (hini : Cond.initialized y.cls ∈ zW) (hst0 : Cond.static y ∈ zW) (hd : y.cls ≠ "java/lang/invoke/MethodHandle" ∧ y.cls ≠ "java/lang/invoke/VarHandle" ∧ (parseMethodDescriptor y.desc).map (fun d => d.parameters.length) = some na)
    (hR : f' + 1 ≤ R.frames ∧ 8 + (n' + 11) + k' ≤ R.locals) (hst : st = As.reverse ++ rest) (hlen : As.length = na) (hcat : (rest.map fun v => v.category).sum ≤ 8) (d : decode cc pc = .ok (.invokestatic idx, 3)) (hcs : cells + mc ≤ R.cells ∧ slots + ms ≤ R.slots)
    (kk : Xh p l e R s m args below meth c nL G Q (cells + mc) (slots + ms) n2 h2 (pc + 3) ls (.long r :: rest)) : Xh p l e R s m args below meth c nL G Q cells slots n h pc ls st := by
  intro H locs lsA hW hS hl h1
  refine va_calll (va_runSN (As := As) (rest := rest) cx.1 hM ⟨va_cnB na cx.1.2.2.2.2 hG rfl rfl rfl hl0 (cx.1.2.2.2.2 _ hini) hd hR, cx.1.2.2.2.2 _ hst0, trivial⟩ ⟨zfb, fun U hU hv => ⟨rfl, zpre cx hW hS hU hv⟩⟩ rfl hlen hl.1 hst (lv_room hcat) d hcs) hS (fun q _ z => z) (fun q z => z) (fun r0 u t H1 locs1 ht hvm hw hB hz hk hS1 => ?_)
  subst hw
  exact kk H1 locs1 lsA (by rw [← ht]; exact hB.1) hS1 hl h1
theorem x_Vv (cx : Cx p s m args meth c cc nL own G) {i j ci idx n' f' k' na mc ms : Nat} {y : MethodName} {c' : ByteArray} {ret : Option FieldType} {fs As : List Value}  {C : String} {T : u_T} {N : Nat}
    (hM : Met l y (zws y c' n' ret) (zrm f' mc ms k') (zPc G n h (.ref (zad G i j) :: As)) (zQv G n2 h2) mc ms (zA G)) (hG : GoodIn zW (wsV own idx C y (zws y c' n' ret))) (hd : y.cls ≠ "java/lang/invoke/MethodHandle" ∧ y.cls ≠ "java/lang/invoke/VarHandle" ∧ (parseMethodDescriptor y.desc).map (fun d => d.parameters.length) = some na)
    (hc : y.cls = C) (hR : f' + 1 ≤ R.frames ∧ 8 + (n' + 11) + k' ≤ R.locals) (hok : zok i j) (hn : zix i j < n) (hp : h i j = .inr (ci, fs)) (hcl : vwCl[ci]? = some (C, T, N)) (hst : st = As.reverse ++ .ref (zad G i j) :: rest) (hlen : As.length = na) (hcat : (rest.map fun v => v.category).sum ≤ 8) (d : decode cc pc = .ok (.invokevirtual idx, 3)) (hcs : cells + mc ≤ R.cells ∧ slots + ms ≤ R.slots)
    (kk : Xh p l e R s m args below meth c nL G Q (cells + mc) (slots + ms) n2 h2 (pc + 3) ls (rest)) : Xh p l e R s m args below meth c nL G Q cells slots n h pc ls st := by
  intro H locs lsA hW hS hl h1
  refine va_callv (va_runV (As := As) (rest := rest) cx.1 hM (cwV na cx.1.2.2.2.2 hG rfl rfl rfl ⟨hc, hd⟩ hR) ⟨zfb, va_recv (q0 := 0) (fs := fs) cx.2.1.1 (hW.one hok hn hp) hcl rfl, fun U hU hv => ⟨rfl, zpre cx hW hS hU hv⟩⟩ rfl hlen hl.1 hst (lv_room hcat) d hcs) hS (fun q _ z => z) (fun q z => z) (fun u t H1 locs1 ht hvm hw hB hz hk hS1 => ?_)
  exact kk H1 locs1 lsA (by rw [← ht]; exact hB.1) hS1 hl h1
theorem x_Sv (cx : Cx p s m args meth c cc nL own G) {idx n' f' k' na mc ms : Nat} {y : MethodName} {c' : ByteArray} {ret : Option FieldType} {As : List Value} 
    (hM : Met l y (zws y c' n' ret) (zrm f' mc ms k') (zPc G n h As) (zQv G n2 h2) mc ms (zA G)) (hG : GoodIn zW (va_wsS own idx y (zws y c' n' ret))) (hd : y.cls ≠ "java/lang/invoke/MethodHandle" ∧ y.cls ≠ "java/lang/invoke/VarHandle" ∧ (parseMethodDescriptor y.desc).map (fun d => d.parameters.length) = some na)
    (hR : f' + 1 ≤ R.frames ∧ 8 + (n' + 11) + k' ≤ R.locals) (hst : st = As.reverse ++ rest) (hlen : As.length = na) (hcat : (rest.map fun v => v.category).sum ≤ 8) (d : decode cc pc = .ok (.invokestatic idx, 3)) (hcs : cells + mc ≤ R.cells ∧ slots + ms ≤ R.slots)
    (kk : Xh p l e R s m args below meth c nL G Q (cells + mc) (slots + ms) n2 h2 (pc + 3) ls (rest)) : Xh p l e R s m args below meth c nL G Q cells slots n h pc ls st := by
  intro H locs lsA hW hS hl h1
  refine va_callv (va_runS (As := As) (rest := rest) cx.1 hM (va_cwS na cx.1.2.2.2.2 hG rfl rfl rfl hd hR) ⟨zfb, fun U hU hv => ⟨rfl, zpre cx hW hS hU hv⟩⟩ rfl hlen hl.1 hst (lv_room hcat) d hcs) hS (fun q _ z => z) (fun q z => z) (fun u t H1 locs1 ht hvm hw hB hz hk hS1 => ?_)
  exact kk H1 locs1 lsA (by rw [← ht]; exact hB.1) hS1 hl h1
theorem x_SNv (cx : Cx p s m args meth c cc nL own G) {idx n' f' k' na mc ms : Nat} {y : MethodName} {c' : ByteArray} {ret : Option FieldType} {As : List Value}  {host : String}
    (hM : Met l y (zws y c' n' ret) (zrm f' mc ms k') (zPc G n h As) (zQv G n2 h2) mc ms (zA G)) (hG : GoodIn zW (zws y c' n' ret)) (hl0 : va_Nw (.methodLinkNest own idx y host) s) (hini : Cond.initialized y.cls ∈ zW) (hst0 : Cond.static y ∈ zW) (hd : y.cls ≠ "java/lang/invoke/MethodHandle" ∧ y.cls ≠ "java/lang/invoke/VarHandle" ∧ (parseMethodDescriptor y.desc).map (fun d => d.parameters.length) = some na)
    (hR : f' + 1 ≤ R.frames ∧ 8 + (n' + 11) + k' ≤ R.locals) (hst : st = As.reverse ++ rest) (hlen : As.length = na) (hcat : (rest.map fun v => v.category).sum ≤ 8) (d : decode cc pc = .ok (.invokestatic idx, 3)) (hcs : cells + mc ≤ R.cells ∧ slots + ms ≤ R.slots)
    (kk : Xh p l e R s m args below meth c nL G Q (cells + mc) (slots + ms) n2 h2 (pc + 3) ls (rest)) : Xh p l e R s m args below meth c nL G Q cells slots n h pc ls st := by
  intro H locs lsA hW hS hl h1
  refine va_callv (va_runSN (As := As) (rest := rest) cx.1 hM ⟨va_cnB na cx.1.2.2.2.2 hG rfl rfl rfl hl0 (cx.1.2.2.2.2 _ hini) hd hR, cx.1.2.2.2.2 _ hst0, trivial⟩ ⟨zfb, fun U hU hv => ⟨rfl, zpre cx hW hS hU hv⟩⟩ rfl hlen hl.1 hst (lv_room hcat) d hcs) hS (fun q _ z => z) (fun q z => z) (fun u t H1 locs1 ht hvm hw hB hz hk hS1 => ?_)
  exact kk H1 locs1 lsA (by rw [← ht]; exact hB.1) hS1 hl h1
theorem x_SE (cx : Cx p s m args meth c cc nL own G) {idx n' f' k' na mc ms : Nat} {y : MethodName} {c' : ByteArray} {ret : Option FieldType} {As : List Value} {PP : Int32 → zH → Prop}
    (hM : Met l y (zws y c' n' ret) (zrm f' mc ms k') (zPc G n h As) (zQE G n2 PP) mc ms (zA G)) (hG : GoodIn zW (va_wsS own idx y (zws y c' n' ret))) (hd : y.cls ≠ "java/lang/invoke/MethodHandle" ∧ y.cls ≠ "java/lang/invoke/VarHandle" ∧ (parseMethodDescriptor y.desc).map (fun d => d.parameters.length) = some na)
    (hR : f' + 1 ≤ R.frames ∧ 8 + (n' + 11) + k' ≤ R.locals) (hst : st = As.reverse ++ rest) (hlen : As.length = na) (hcat : (rest.map fun v => v.category).sum ≤ 8) (d : decode cc pc = .ok (.invokestatic idx, 3)) (hcs : cells + mc ≤ R.cells ∧ slots + ms ≤ R.slots)
    (kk : ∀ (r : Int32) (h2 : zH), PP r h2 → Xh p l e R s m args below meth c nL G Q (cells + mc) (slots + ms) n2 h2 (pc + 3) ls (.int r :: rest)) : Xh p l e R s m args below meth c nL G Q cells slots n h pc ls st := by
  intro H locs lsA hW hS hl h1
  exact va_calli (va_runS (As := As) (rest := rest) cx.1 hM (va_cwS na cx.1.2.2.2.2 hG rfl rfl rfl hd hR) ⟨zfb, fun U hU hv => ⟨rfl, zpre cx hW hS hU hv⟩⟩ rfl hlen hl.1 hst (lv_room hcat) d hcs) hS (fun q _ z => z) (fun q z => z) (fun r0 u t H1 locs1 ht hvm hw hB hz hk hS1 => kk r0 u hw H1 locs1 lsA (by rw [← ht]; exact hB.1) hS1 hl h1)
theorem x_Iv (cx : Cx p s m args meth c cc nL own G) {i j idx n' f' k' na mc ms : Nat} {y : MethodName} {c' : ByteArray} {As : List Value}
    (hM : Met l y (zws y c' n' none) (zrm f' mc ms k') (zPc G n h (.ref (zad G i j) :: As)) (zQv G n2 h2) mc ms (zA G)) (hG : GoodIn zW (zws y c' n' none)) (hini : Cond.initialized y.cls ∈ zW) (hl0 : Cond.methodLink own idx y ∈ zW) (hin : Cond.instanceMethod y ∈ zW) (hy1 : y.name = "<init>") (hd : y.cls ≠ "java/lang/invoke/MethodHandle" ∧ y.cls ≠ "java/lang/invoke/VarHandle" ∧ (parseMethodDescriptor y.desc).map (fun d => d.parameters.length) = some na)
    (hR : f' + 1 ≤ R.frames ∧ 8 + (n' + 11) + k' ≤ R.locals) (hst : st = As.reverse ++ .ref (zad G i j) :: rest) (hlen : As.length = na) (hcat : (rest.map fun v => v.category).sum ≤ 8) (d : decode cc pc = .ok (.invokespecial idx, 3)) (hcs : cells + mc ≤ R.cells ∧ slots + ms ≤ R.slots)
    (kk : Xh p l e R s m args below meth c nL G Q (cells + mc) (slots + ms) n2 h2 (pc + 3) ls rest) : Xh p l e R s m args below meth c nL G Q cells slots n h pc ls st := by
  intro H locs lsA hW hS hl h1
  refine va_callv (va_runI (As := As) (rest := rest) cx.1 hM (cwI na cx.1.2.2.2.2 hG rfl rfl rfl (cx.1.2.2.2.2 _ hini) (cx.1.2.2.2.2 _ hl0) (cx.1.2.2.2.2 _ hin) hy1 hd hR) ⟨zfb, fun U hU hv => ⟨rfl, zpre cx hW hS hU hv⟩⟩ rfl hlen hl.1 hst (lv_room hcat) d hcs) hS (fun q _ z => z) (fun q z => z) (fun u t H1 locs1 ht hvm hw hB hz hk hS1 => ?_)
  exact kk H1 locs1 lsA (by rw [← ht]; exact hB.1) hS1 hl h1
theorem x_INv (cx : Cx p s m args meth c cc nL own G) {i j idx n' f' k' na mc ms : Nat} {y : MethodName} {c' : ByteArray} {As : List Value} {host : String}
    (hM : Met l y (zws y c' n' none) (zrm f' mc ms k') (zPc G n h (.ref (zad G i j) :: As)) (zQv G n2 h2) mc ms (zA G)) (hG : GoodIn zW (zws y c' n' none)) (hini : Cond.initialized y.cls ∈ zW) (hl0 : va_Nw (.methodLinkNest own idx y host) s) (hin : Cond.instanceMethod y ∈ zW) (hy1 : y.name = "<init>") (hd : y.cls ≠ "java/lang/invoke/MethodHandle" ∧ y.cls ≠ "java/lang/invoke/VarHandle" ∧ (parseMethodDescriptor y.desc).map (fun d => d.parameters.length) = some na)
    (hR : f' + 1 ≤ R.frames ∧ 8 + (n' + 11) + k' ≤ R.locals) (hst : st = As.reverse ++ .ref (zad G i j) :: rest) (hlen : As.length = na) (hcat : (rest.map fun v => v.category).sum ≤ 8) (d : decode cc pc = .ok (.invokespecial idx, 3)) (hcs : cells + mc ≤ R.cells ∧ slots + ms ≤ R.slots)
    (kk : Xh p l e R s m args below meth c nL G Q (cells + mc) (slots + ms) n2 h2 (pc + 3) ls rest) : Xh p l e R s m args below meth c nL G Q cells slots n h pc ls st := by
  intro H locs lsA hW hS hl h1
  refine va_callv (va_runIN (As := As) (rest := rest) cx.1 hM ⟨va_cnB na cx.1.2.2.2.2 hG rfl rfl rfl hl0 (cx.1.2.2.2.2 _ hini) hd hR, hy1, cx.1.2.2.2.2 _ hin⟩ ⟨zfb, fun U hU hv => ⟨rfl, zpre cx hW hS hU hv⟩⟩ rfl hlen hl.1 hst (lv_room hcat) d hcs) hS (fun q _ z => z) (fun q z => z) (fun u t H1 locs1 ht hvm hw hB hz hk hS1 => ?_)
  exact kk H1 locs1 lsA (by rw [← ht]; exact hB.1) hS1 hl h1
theorem x_objInit (cx : Cx p s m args meth c cc nL own G) {idx a : Nat} (hl0 : Cond.methodLink own idx objectInit ∈ zW) (hin : Cond.instanceMethod objectInit ∈ zW) (hcd : Cond.code objectInit ⟨#[0xb1]⟩ 1 none ∈ zW) (d : decode cc pc = .ok (.invokespecial idx, 3)) (hR : 1 ≤ R.frames ∧ 20 ≤ R.locals) (hcat : (st.map fun v => v.category).sum ≤ 8) (kk : Xh p l e R s m args below meth c nL G Q cells slots n h (pc + 3) ls st) : Xh p l e R s m args below meth c nL G Q cells slots n h pc ls (.ref a :: st) := by
  intro H locs lsA hW hS hl h1
  refine W.objInit cx.1.1 cx.1.2.1 cx.1.2.2.2.1 (cx.1.2.2.2.2 _ hl0) (cx.1.2.2.2.2 _ hin) (cx.1.2.2.2.2 _ hcd) rfl (by rw [cx.1.2.2.1]; exact hl.1) rfl d hR.1 (by have := lv_room (m := m) (pc := pc) (ls := lsA) (rest := Value.ref a :: st) hcat; omega) ?_
  exact kk H locs lsA hW hS hl h1
theorem HW.push {G : zG} {n i j : Nat} {h h' : zH} {H H1 : Heap} {x : va_E} (hW : HW G n h H) (hok : zok i j) (hn : zix i j = n) (z : H1.size = H.size + 1) (he : va_at G.1 vwCl (H.size, x) H1) (oq : ∀ q : Nat, q < H.size → H1[q]? = H[q]?) (hh : ∀ i' j', zok i' j' → zix i' j' < n + 1 → h' i' j' = hset h i j x i' j') : HW G (n + 1) h' H1 := by
  have ha : zad G i j = H.size := by rw [hW.1, zad, hn]
  refine ⟨by rw [z, hW.1]; rfl, fun i' j' hok' hn' => ?_⟩
  rw [hh i' j' hok' hn']
  unfold hset
  by_cases hc : i' = i ∧ j' = j
  · rw [if_pos hc]
    obtain ⟨rfl, rfl⟩ := hc
    rw [ha]
    exact he
  · rw [if_neg hc]
    have hlt : zix i' j' < n := by
      rcases Nat.lt_or_ge (zix i' j') n with q | q
      · exact q
      · exact absurd (zix_inj hok' hok (by omega)) hc
    have hat := hW.2 i' j' hok' hlt
    exact hat.kept (oq _ hat.lt)
theorem x_newX0 (cx : Cx p s m args meth c cc nL own G) {idx i j : Nat} {fs : List Value} (hcl : Cond.classLink own idx RX0 ∈ zW) (hins : Cond.instantiable RX0 6 ∈ zW) (hini : Cond.initialized RX0 ∈ zW) (hok : zok i j) (hn : zix i j = n) (hfs : ∀ q, q < 6 → defaultValue (tyX0 q) = vp_V fs q) (hcs : cells + 1 ≤ R.cells ∧ slots + 6 ≤ R.slots) (hb : G.2.2 ≤ s.heap.size) (hh : ∀ i' j', zok i' j' → zix i' j' < n + 1 → h2 i' j' = hset h i j (.inr (0, fs)) i' j') (d : decode cc pc = .ok (.new idx, 3)) (kk : Xh p l e R s m args below meth c nL G Q (cells + 1) (slots + 6) (n + 1) h2 (pc + 3) ls (.ref (zad G i j) :: st)) : Xh p l e R s m args below meth c nL G Q cells slots n h pc ls st := by
  intro H locs lsA hW hS hl h1
  have hKn := cx.2.1.1.1 0 _ rfl
  have ha : zad G i j = H.size := by rw [hW.1, zad, hn]
  refine W.newcK cx.1.1 cx.1.2.1 cx.1.2.2.2.1 (cx.1.2.2.2.2 _ hcl) (cx.1.2.2.2.2 _ hins) (cx.1.2.2.2.2 _ hini) rfl d hcs.1 hcs.2 hKn.2.1 rfl fun H1 kC hkC e1 z1 o1 => ?_
  have hk := kk H1 locs lsA (hW.push (x := .inr (0, fs)) hok hn z1 ⟨_, rfl, (u_born tyX0 cx.1.2.2.2.2 zinX0 hKn hkC e1 tyX0_ok).to hfs⟩ o1 hh) ⟨Nat.le_trans hS.1 (by omega), fun x z2 z3 => (o1 x (Nat.lt_of_lt_of_le z2 hS.1)).trans (hS.2.1 x z2 z3), hS.2.2⟩ hl h1
  rw [ha] at hk
  exact hk
theorem x_newX1 (cx : Cx p s m args meth c cc nL own G) {idx i j : Nat} {fs : List Value} (hcl : Cond.classLink own idx RX1 ∈ zW) (hins : Cond.instantiable RX1 9 ∈ zW) (hini : Cond.initialized RX1 ∈ zW) (hok : zok i j) (hn : zix i j = n) (hfs : ∀ q, q < 9 → defaultValue (tyX1 q) = vp_V fs q) (hcs : cells + 1 ≤ R.cells ∧ slots + 9 ≤ R.slots) (hb : G.2.2 ≤ s.heap.size) (hh : ∀ i' j', zok i' j' → zix i' j' < n + 1 → h2 i' j' = hset h i j (.inr (1, fs)) i' j') (d : decode cc pc = .ok (.new idx, 3)) (kk : Xh p l e R s m args below meth c nL G Q (cells + 1) (slots + 9) (n + 1) h2 (pc + 3) ls (.ref (zad G i j) :: st)) : Xh p l e R s m args below meth c nL G Q cells slots n h pc ls st := by
  intro H locs lsA hW hS hl h1
  have hKn := cx.2.1.1.1 1 _ rfl
  have ha : zad G i j = H.size := by rw [hW.1, zad, hn]
  refine W.newcK cx.1.1 cx.1.2.1 cx.1.2.2.2.1 (cx.1.2.2.2.2 _ hcl) (cx.1.2.2.2.2 _ hins) (cx.1.2.2.2.2 _ hini) rfl d hcs.1 hcs.2 hKn.2.1 rfl fun H1 kC hkC e1 z1 o1 => ?_
  have hk := kk H1 locs lsA (hW.push (x := .inr (1, fs)) hok hn z1 ⟨_, rfl, (u_born tyX1 cx.1.2.2.2.2 zinX1 hKn hkC e1 tyX1_ok).to hfs⟩ o1 hh) ⟨Nat.le_trans hS.1 (by omega), fun x z2 z3 => (o1 x (Nat.lt_of_lt_of_le z2 hS.1)).trans (hS.2.1 x z2 z3), hS.2.2⟩ hl h1
  rw [ha] at hk
  exact hk
theorem x_newX3 (cx : Cx p s m args meth c cc nL own G) {idx i j : Nat} {fs : List Value} (hcl : Cond.classLink own idx RX3 ∈ zW) (hins : Cond.instantiable RX3 2 ∈ zW) (hini : Cond.initialized RX3 ∈ zW) (hok : zok i j) (hn : zix i j = n) (hfs : ∀ q, q < 2 → defaultValue (tyX3 q) = vp_V fs q) (hcs : cells + 1 ≤ R.cells ∧ slots + 2 ≤ R.slots) (hb : G.2.2 ≤ s.heap.size) (hh : ∀ i' j', zok i' j' → zix i' j' < n + 1 → h2 i' j' = hset h i j (.inr (2, fs)) i' j') (d : decode cc pc = .ok (.new idx, 3)) (kk : Xh p l e R s m args below meth c nL G Q (cells + 1) (slots + 2) (n + 1) h2 (pc + 3) ls (.ref (zad G i j) :: st)) : Xh p l e R s m args below meth c nL G Q cells slots n h pc ls st := by
  intro H locs lsA hW hS hl h1
  have hKn := cx.2.1.1.1 2 _ rfl
  have ha : zad G i j = H.size := by rw [hW.1, zad, hn]
  refine W.newcK cx.1.1 cx.1.2.1 cx.1.2.2.2.1 (cx.1.2.2.2.2 _ hcl) (cx.1.2.2.2.2 _ hins) (cx.1.2.2.2.2 _ hini) rfl d hcs.1 hcs.2 hKn.2.1 rfl fun H1 kC hkC e1 z1 o1 => ?_
  have hk := kk H1 locs lsA (hW.push (x := .inr (2, fs)) hok hn z1 ⟨_, rfl, (u_born tyX3 cx.1.2.2.2.2 zinX3 hKn hkC e1 tyX3_ok).to hfs⟩ o1 hh) ⟨Nat.le_trans hS.1 (by omega), fun x z2 z3 => (o1 x (Nat.lt_of_lt_of_le z2 hS.1)).trans (hS.2.1 x z2 z3), hS.2.2⟩ hl h1
  rw [ha] at hk
  exact hk
theorem x_newX5 (cx : Cx p s m args meth c cc nL own G) {idx i j : Nat} {fs : List Value} (hcl : Cond.classLink own idx RX5 ∈ zW) (hins : Cond.instantiable RX5 2 ∈ zW) (hini : Cond.initialized RX5 ∈ zW) (hok : zok i j) (hn : zix i j = n) (hfs : ∀ q, q < 2 → defaultValue (tyX5 q) = vp_V fs q) (hcs : cells + 1 ≤ R.cells ∧ slots + 2 ≤ R.slots) (hb : G.2.2 ≤ s.heap.size) (hh : ∀ i' j', zok i' j' → zix i' j' < n + 1 → h2 i' j' = hset h i j (.inr (3, fs)) i' j') (d : decode cc pc = .ok (.new idx, 3)) (kk : Xh p l e R s m args below meth c nL G Q (cells + 1) (slots + 2) (n + 1) h2 (pc + 3) ls (.ref (zad G i j) :: st)) : Xh p l e R s m args below meth c nL G Q cells slots n h pc ls st := by
  intro H locs lsA hW hS hl h1
  have hKn := cx.2.1.1.1 3 _ rfl
  have ha : zad G i j = H.size := by rw [hW.1, zad, hn]
  refine W.newcK cx.1.1 cx.1.2.1 cx.1.2.2.2.1 (cx.1.2.2.2.2 _ hcl) (cx.1.2.2.2.2 _ hins) (cx.1.2.2.2.2 _ hini) rfl d hcs.1 hcs.2 hKn.2.1 rfl fun H1 kC hkC e1 z1 o1 => ?_
  have hk := kk H1 locs lsA (hW.push (x := .inr (3, fs)) hok hn z1 ⟨_, rfl, (u_born tyX5 cx.1.2.2.2.2 zinX5 hKn hkC e1 tyX5_ok).to hfs⟩ o1 hh) ⟨Nat.le_trans hS.1 (by omega), fun x z2 z3 => (o1 x (Nat.lt_of_lt_of_le z2 hS.1)).trans (hS.2.1 x z2 z3), hS.2.2⟩ hl h1
  rw [ha] at hk
  exact hk
theorem x_newX6 (cx : Cx p s m args meth c cc nL own G) {idx i j : Nat} {fs : List Value} (hcl : Cond.classLink own idx RX6 ∈ zW) (hins : Cond.instantiable RX6 6 ∈ zW) (hini : Cond.initialized RX6 ∈ zW) (hok : zok i j) (hn : zix i j = n) (hfs : ∀ q, q < 6 → defaultValue (tyX6 q) = vp_V fs q) (hcs : cells + 1 ≤ R.cells ∧ slots + 6 ≤ R.slots) (hb : G.2.2 ≤ s.heap.size) (hh : ∀ i' j', zok i' j' → zix i' j' < n + 1 → h2 i' j' = hset h i j (.inr (4, fs)) i' j') (d : decode cc pc = .ok (.new idx, 3)) (kk : Xh p l e R s m args below meth c nL G Q (cells + 1) (slots + 6) (n + 1) h2 (pc + 3) ls (.ref (zad G i j) :: st)) : Xh p l e R s m args below meth c nL G Q cells slots n h pc ls st := by
  intro H locs lsA hW hS hl h1
  have hKn := cx.2.1.1.1 4 _ rfl
  have ha : zad G i j = H.size := by rw [hW.1, zad, hn]
  refine W.newcK cx.1.1 cx.1.2.1 cx.1.2.2.2.1 (cx.1.2.2.2.2 _ hcl) (cx.1.2.2.2.2 _ hins) (cx.1.2.2.2.2 _ hini) rfl d hcs.1 hcs.2 hKn.2.1 rfl fun H1 kC hkC e1 z1 o1 => ?_
  have hk := kk H1 locs lsA (hW.push (x := .inr (4, fs)) hok hn z1 ⟨_, rfl, (u_born tyX6 cx.1.2.2.2.2 zinX6 hKn hkC e1 tyX6_ok).to hfs⟩ o1 hh) ⟨Nat.le_trans hS.1 (by omega), fun x z2 z3 => (o1 x (Nat.lt_of_lt_of_le z2 hS.1)).trans (hS.2.1 x z2 z3), hS.2.2⟩ hl h1
  rw [ha] at hk
  exact hk
theorem KK_arr {G : zG} {U : State} (h : KK G U) (k : Nat) {ty : FieldType} {cA : ClassId} (hk : (ztys G)[k]? = some (G.2.1 k, ty)) (hty : ty = .int ∨ ty = .char) (hf : U.vm.findClass ("[" ++ ty.toString) = some cA) : cA = G.2.1 k := by
  have h1 := (h.1.2 k _ hk).2
  rcases hty with rfl | rfl
  · exact Option.some.inj (hf.symm.trans h1)
  · exact Option.some.inj (hf.symm.trans h1)
theorem KK_arrO {G : zG} {U : State} (h : KK G U) (k : Nat) {C : String} {cA : ClassId} (hk : (ztys G)[k]? = some (G.2.1 k, .object C)) (hf : U.vm.findClass ("[" ++ (FieldType.object C).toString) = some cA) : cA = G.2.1 k := by
  obtain ⟨kA, comp, -, -, -, h4⟩ := (h.1.2 k _ hk).2
  exact Option.some.inj (hf.symm.trans h4)
theorem x_newa_int (cx : Cx p s m args meth c cc nL own G) {i j N : Nat} {x : Int32} (hw : Cond.arrayClass .int ∈ zW) (hok : zok i j) (hn : zix i j = n) (hx : x = nI N) (hN : N ≤ 1000) (hcs : cells + 1 ≤ R.cells ∧ slots + N ≤ R.slots) (hh : ∀ i' j', zok i' j' → zix i' j' < n + 1 → h2 i' j' = hset h i j (.inl (G.2.1 0, N, .inl (fun _ => 0))) i' j') (d : decode cc pc = .ok (.newarray .int, 2)) (kk : Xh p l e R s m args below meth c nL G Q (cells + 1) (slots + N) (n + 1) h2 (pc + 2) ls (.ref (zad G i j) :: st)) : Xh p l e R s m args below meth c nL G Q cells slots n h pc ls (.int x :: st) := by
  intro H locs lsA hW hS hl h1
  subst hx
  have ha : zad G i j = H.size := by rw [hW.1, zad, hn]
  refine va_newaK (atype := .int) cx.1.1 cx.1.2.1 (cx.1.2.2.2.2 _ hw) rfl d rfl (nI_pos (by omega)) (nI_clamp (by omega)) (by simp only [newarray.typeOf, componentBytes]; omega) hcs.1 hcs.2 rfl fun H1 cA e1 z1 o1 hAr hNm => ?_
  have hcA : cA = G.2.1 0 := KK_arr cx.2.1 0 rfl (by first | exact Or.inl rfl | exact Or.inr rfl) hNm
  have hk := kk H1 locs lsA (hW.push hok hn z1 (by show H1[H.size]? = some (vp_cell _ _); rw [← hcA]; exact e1) o1 hh) ⟨Nat.le_trans hS.1 (by omega), fun x z2 z3 => (o1 x (Nat.lt_of_lt_of_le z2 hS.1)).trans (hS.2.1 x z2 z3), hS.2.2⟩ hl h1
  rw [ha] at hk
  exact hk
theorem x_newa_char (cx : Cx p s m args meth c cc nL own G) {i j N : Nat} {x : Int32} (hw : Cond.arrayClass .char ∈ zW) (hok : zok i j) (hn : zix i j = n) (hx : x = nI N) (hN : N ≤ 1000) (hcs : cells + 1 ≤ R.cells ∧ slots + N ≤ R.slots) (hh : ∀ i' j', zok i' j' → zix i' j' < n + 1 → h2 i' j' = hset h i j (.inl (G.2.1 1, N, .inl (fun _ => 0))) i' j') (d : decode cc pc = .ok (.newarray .char, 2)) (kk : Xh p l e R s m args below meth c nL G Q (cells + 1) (slots + N) (n + 1) h2 (pc + 2) ls (.ref (zad G i j) :: st)) : Xh p l e R s m args below meth c nL G Q cells slots n h pc ls (.int x :: st) := by
  intro H locs lsA hW hS hl h1
  subst hx
  have ha : zad G i j = H.size := by rw [hW.1, zad, hn]
  refine va_newaK (atype := .char) cx.1.1 cx.1.2.1 (cx.1.2.2.2.2 _ hw) rfl d rfl (nI_pos (by omega)) (nI_clamp (by omega)) (by simp only [newarray.typeOf, componentBytes]; omega) hcs.1 hcs.2 rfl fun H1 cA e1 z1 o1 hAr hNm => ?_
  have hcA : cA = G.2.1 1 := KK_arr cx.2.1 1 rfl (by first | exact Or.inl rfl | exact Or.inr rfl) hNm
  have hk := kk H1 locs lsA (hW.push hok hn z1 (by show H1[H.size]? = some (vp_cell _ _); rw [← hcA]; exact e1) o1 hh) ⟨Nat.le_trans hS.1 (by omega), fun x z2 z3 => (o1 x (Nat.lt_of_lt_of_le z2 hS.1)).trans (hS.2.1 x z2 z3), hS.2.2⟩ hl h1
  rw [ha] at hk
  exact hk
theorem x_newq (cx : Cx p s m args meth c cc nL own G) {i j N idx : Nat} {x : Int32} {C : String} (k : Nat) (hk0 : (ztys G)[k]? = some (G.2.1 k, .object C)) (hcl : Cond.classLink own idx C ∈ zW) (hw : va_AO C s) (hok : zok i j) (hn : zix i j = n) (hx : x = nI N) (hN : N ≤ 1000) (hcs : cells + 1 ≤ R.cells ∧ slots + N ≤ R.slots) (hh : ∀ i' j', zok i' j' → zix i' j' < n + 1 → h2 i' j' = hset h i j (.inl (G.2.1 k, N, .inr (.inr (.inr (.inr (fun _ => none)))))) i' j') (d : decode cc pc = .ok (.anewarray idx, 3)) (kk : Xh p l e R s m args below meth c nL G Q (cells + 1) (slots + N) (n + 1) h2 (pc + 3) ls (.ref (zad G i j) :: st)) : Xh p l e R s m args below meth c nL G Q cells slots n h pc ls (.int x :: st) := by
  intro H locs lsA hW hS hl h1
  subst hx
  have ha : zad G i j = H.size := by rw [hW.1, zad, hn]
  have hc : (nI N).toNatClampNeg = N := nI_clamp (by omega)
  refine W.anew cx.1.1 cx.1.2.1 cx.1.2.2.2.1 (cx.1.2.2.2.2 _ hcl) (va_AO.use hw) rfl d rfl (nI_pos (by omega)) (by rw [hc]; omega) hcs.1 (by rw [hc]; exact hcs.2) fun cA kA comp f1 f2 f3 f4 => ?_
  rw [hc]
  generalize hH1 : H.push ({ cls := cA, slots := Array.replicate N .null, vm := .none } : Cell) = H1
  have z1 : H1.size = H.size + 1 := by rw [← hH1, Array.size_push]
  have e1 : H1[H.size]? = some (arrV cA N (fun _ => .null)) := by rw [← hH1, Array.getElem?_push_size, ← arrV_new]
  have o1 : ∀ q : Nat, q < H.size → H1[q]? = H[q]? := fun q hq => by rw [← hH1, Array.getElem?_push, if_neg (Nat.ne_of_lt hq)]
  have hcA : cA = G.2.1 k := by first | exact KK_arrO cx.2.1 k hk0 f1 | exact KK_arrO cx.2.1 k hk0 f4 | exact KK_arrO cx.2.1 k hk0 f2
  have hk := kk H1 locs lsA (hW.push hok hn z1 (by show H1[H.size]? = some (vp_cell _ _); rw [← hcA]; exact e1) o1 hh) ⟨Nat.le_trans hS.1 (by omega), fun x z2 z3 => (o1 x (Nat.lt_of_lt_of_le z2 hS.1)).trans (hS.2.1 x z2 z3), hS.2.2⟩ hl h1
  rw [ha] at hk
  exact hk
theorem x_iret (cx : Cx p s m args meth c cc nL own G) {r v : Int32} (hr : meth.sig.returnType = some .int) (hv : v = r) (hh : ∀ i j, zok i j → zix i j < n → h2 i j = h i j) (d : decode cc pc = .ok (.ireturn, 1)) : Xh p l e R s m args below meth c nL G (MQ below (zQi G n r h2) args s cells slots (zA G)) cells slots n h pc ls [.int v] := by
  intro H locs lsA hW hS hl h1
  subst hv
  exact W.iret cx.1.1 cx.1.2.1 hr (fun t ht hw => ⟨⟨v, (), rfl, rfl, zpre cx (hW.conv hh) hS ht hw⟩, hS.F ht⟩) hS.2.2 d (hlocks := cx.2.2.2)
theorem x_lret (cx : Cx p s m args meth c cc nL own G) {r v : Int64} (hr : meth.sig.returnType = some .long) (hv : v = r) (hh : ∀ i j, zok i j → zix i j < n → h2 i j = h i j) (d : decode cc pc = .ok (.lreturn, 1)) : Xh p l e R s m args below meth c nL G (MQ below (zQl G n r h2) args s cells slots (zA G)) cells slots n h pc ls [.long v] := by
  intro H locs lsA hW hS hl h1
  subst hv
  exact W.lret cx.1.1 cx.1.2.1 hr (fun t ht hw => ⟨⟨v, (), rfl, rfl, zpre cx (hW.conv hh) hS ht hw⟩, hS.F ht⟩) hS.2.2 d (hlocks := cx.2.2.2)
theorem x_fret (cx : Cx p s m args meth c cc nL own G) {r v : UInt32} (hr : meth.sig.returnType = some .float) (hv : v = r) (hh : ∀ i j, zok i j → zix i j < n → h2 i j = h i j) (d : decode cc pc = .ok (.freturn, 1)) : Xh p l e R s m args below meth c nL G (MQ below (zQf G n r h2) args s cells slots (zA G)) cells slots n h pc ls [.float v] := by
  intro H locs lsA hW hS hl h1
  subst hv
  exact W.fret cx.1.1 cx.1.2.1 hr (fun t ht hw => ⟨⟨v, (), rfl, rfl, zpre cx (hW.conv hh) hS ht hw⟩, hS.F ht⟩) hS.2.2 d (hlocks := cx.2.2.2)
theorem x_iretE (cx : Cx p s m args meth c cc nL own G) {v : Int32} {PP : Int32 → zH → Prop} (hr : meth.sig.returnType = some .int) (hv : PP v h) (d : decode cc pc = .ok (.ireturn, 1)) : Xh p l e R s m args below meth c nL G (MQ below (zQE G n PP) args s cells slots (zA G)) cells slots n h pc ls [.int v] := by
  intro H locs lsA hW hS hl h1
  exact W.iret cx.1.1 cx.1.2.1 hr (fun t ht hw => ⟨⟨v, h, rfl, hv, zpre cx hW hS ht hw⟩, hS.F ht⟩) hS.2.2 d (hlocks := cx.2.2.2)
theorem x_zret (cx : Cx p s m args meth c cc nL own G) {r v : Int32} (hr : meth.sig.returnType = some .boolean) (hv : v = r) (hb : v = 0 ∨ v = 1) (hh : ∀ i j, zok i j → zix i j < n → h2 i j = h i j) (d : decode cc pc = .ok (.ireturn, 1)) : Xh p l e R s m args below meth c nL G (MQ below (zQi G n r h2) args s cells slots (zA G)) cells slots n h pc ls [.int v] := by
  intro H locs lsA hW hS hl h1
  subst hv
  exact W.zret cx.1.1 cx.1.2.1 hr (by rcases hb with rfl | rfl <;> rfl) (fun t ht hw => ⟨⟨v, (), rfl, rfl, zpre cx (hW.conv hh) hS ht hw⟩, hS.F ht⟩) hS.2.2 d (hlocks := cx.2.2.2)
theorem x_vret (cx : Cx p s m args meth c cc nL own G) (hr : meth.sig.returnType = none) (hh : ∀ i j, zok i j → zix i j < n → h2 i j = h i j) (d : decode cc pc = .ok (.return_, 1)) : Xh p l e R s m args below meth c nL G (MQ below (zQv G n h2) args s cells slots (zA G)) cells slots n h pc ls [] := by
  intro H locs lsA hW hS hl h1
  exact W.vret cx.1.1 cx.1.2.1 hr (fun t ht hw => ⟨⟨(), rfl, trivial, zpre cx (hW.conv hh) hS ht hw⟩, hS.F ht⟩) hS.2.2 d (hlocks := cx.2.2.2)
end ZC
