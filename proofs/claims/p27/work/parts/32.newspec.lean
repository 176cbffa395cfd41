/-! ===== cells that are made ===== -/
theorem arrV_cg {cI : ClassId} {N : Nat} {f g : Nat → Value} (h : ∀ k, k < N → f k = g k) : arrV cI N f = arrV cI N g := by
  unfold arrV
  have : (fun j : Fin N => f j.val) = fun j : Fin N => g j.val := funext fun j => h j.val j.isLt
  rw [this]
section ZN
variable {p : Program} {l : Launch} {e : Env} {R : Room} {s : State} {m : MethodId} {args : Array Value} {below : List Frame} {meth : Method} {c : Code} {nL : Nat} {G : zG} {Q : State → Prop} {cells slots n : Nat} {h h' : zH} {pc : Nat} {ls : List (Option Value)} {st : List Value}
theorem x_convC (hh : ∀ i j, zok i j → zix i j < n → h' i j = h i j ∨ ∃ (cA : ClassId) (N : Nat) (f g : Nat → Option Nat), h i j = .inl (cA, N, .inr (.inr (.inr (.inr f)))) ∧ h' i j = .inl (cA, N, .inr (.inr (.inr (.inr g)))) ∧ ∀ k, k < N → f k = g k) (kk : Xh p l e R s m args below meth c nL G Q cells slots n h' pc ls st) : Xh p l e R s m args below meth c nL G Q cells slots n h pc ls st := by
  intro H locs lsA hW hS hl h1
  refine kk H locs lsA ⟨hW.1, fun i j a b => ?_⟩ hS hl h1
  have hat := hW.2 i j a b
  rcases hh i j a b with z | ⟨cA, N, f, g, e1, e2, e3⟩
  · rw [z]; exact hat
  · rw [e1] at hat
    rw [e2]
    show H[zad G i j]? = some (arrV cA N (fun q => va_rf (g q)))
    rw [← arrV_cg (f := fun q => va_rf (f q)) (fun k hk => by rw [e3 k hk])]
    exact hat
theorem x_idx {cells' slots' n' : Nat} (h1 : cells = cells') (h2 : slots = slots') (h3 : n = n') (kk : Xh p l e R s m args below meth c nL G Q cells' slots' n' h pc ls st) : Xh p l e R s m args below meth c nL G Q cells slots n h pc ls st := by
  subst h1 h2 h3
  exact kk
end ZN
theorem zMetN {l : Launch} {y : MethodName} {cc : ByteArray} {nL : Nat} {ret : Option FieldType} {rm : Room} {n mc ms : Nat} {h : zH} {av : List Value} {Qc : Array Value → State → Outcome → State → Prop} {G : zG} (hy : plainName y.cls = true) (hav : (av.all fun v => decide (v.category = 1)) = true) (hlen : av.length ≤ nL)
    (body : ∀ (p : Program) (e : Env) (s : State) (m : MethodId) (args : Array Value) (below : List Frame) (meth : Method) (c : Code), args = av.toArray → Cx p s m args meth c cc nL y.cls G → meth.sig.returnType = ret → (y.name = "<init>" → meth.name = "<init>") → G.2.2 ≤ s.heap.size →
      Xh p l e rm s m args below meth c nL G (MQ below Qc args s mc ms (zA G)) 0 0 n h 0 (av.map some ++ List.replicate (nL - av.length) none) []) : Met l y (zws y cc nL ret) rm (zPc G n h av) Qc mc ms (zA G) := by
  refine Met.ofW (cc := cc) (maxL := nL) (ret := ret) hy rfl ?_
  intro p e s m args below meth c s₁ B hml hv
  obtain ⟨rfl, hW, hK, hST⟩ := hv
  have hts := atoms_spec (ws := zws y cc nL ret) B.pre
  have hown : s.vm.findClass y.cls = some m.cls := findClass_of_methodNamed B.named
  have hl := lv_entry av (n := nL) (by rw [lg_sl1 av hav]; exact hlen)
  rw [lg_entry_eq]
  have hin : y.name = "<init>" → meth.name = "<init>" := fun z => by rw [← z]; exact (name_of_methodNamed B.named B.method).1
  refine body p e s m _ below meth c rfl ⟨⟨B.exec, B.bytes, hml, hown, fun w hw => hts w (List.mem_cons_of_mem _ hw)⟩, hK, hST, B.notSynchronized⟩ B.returns hin (by rw [hW.1]; omega) s.heap [] _ hW va_S.rf ?_ (lo1_args hav)
  rw [lo_app_none, ← lv_args1 av 0 hav]
  exact hl
theorem hset_swap {h : zH} {i j i2 j2 : Nat} {x y x' : va_E} (hne : ¬ (i2 = i ∧ j2 = j)) (i' j' : Nat) : hset (hset h i j x') i2 j2 y i' j' = hset (hset (hset h i j x) i2 j2 y) i j x' i' j' := by
  unfold hset
  by_cases h1 : i' = i ∧ j' = j
  · have h2 : ¬ (i' = i2 ∧ j' = j2) := fun z => hne ⟨z.1.symm.trans h1.1, z.2.symm.trans h1.2⟩
    rw [if_neg h2, if_pos h1, if_pos h1]
  · rw [if_neg h1, if_neg h1, if_neg h1]
theorem hset_selfS {h : zH} {i j : Nat} {x : va_E} (hx : h i j = x) (i' j' : Nat) : h i' j' = hset h i j x i' j' := (hset_self hx i' j').symm
abbrev Z0 : zCV := fun _ _ => 0
theorem tr0 (N : Nat) : tr N (fun _ => 0) = fun _ => 0 := by
  funext k
  unfold tr
  exact ite_self _
/-- the first k of an array of references are made -/
def rfs (g : Nat → Nat) (k : Nat) : Nat → Option Nat := fun q => if q < k then some (g q) else none
theorem rfs_z (g : Nat → Nat) : rfs g 0 = fun _ => none := by
  funext q
  unfold rfs
  rw [if_neg (by omega)]
theorem rfs_s (g : Nat → Nat) (k : Nat) : va_up (rfs g k) k (some (g k)) = rfs g (k + 1) := by
  funext q
  unfold va_up rfs
  by_cases h : q = k
  · subst h
    rw [if_pos rfl, if_pos (by omega)]
  · rw [if_neg h]
    by_cases h2 : q < k
    · rw [if_pos h2, if_pos (by omega)]
    · rw [if_neg h2, if_neg (by omega)]
theorem zix_i {i : Nat} (hi : i < 7) (j : Nat) : zix i j = zix i 0 + zj j := by
  unfold zix
  by_cases h : i < 3
  · rw [if_pos h, if_pos h]; rfl
  · rw [if_neg h, if_neg h, if_pos hi, if_pos hi]; rfl
theorem zix_k {i k : Nat} (hi : i < 7) : zix i (k + 3) = zix i 0 + (k + 2) := by
  rw [zix_i hi]
  unfold zj
  rw [if_neg (by omega), if_neg (by omega)]
  omega
theorem zix_r {k : Nat} (hk : k < 4) : zix (k + 3) 0 = 30 + 9 * k := by
  unfold zix
  rw [if_neg (by omega), if_pos (by omega)]
  show 3 + 9 * (k + 3) + 0 = _
  omega
/-- the picture of a fresh chain -/
def fresh (G : zG) (F : zH) (i : Nat) : Prop := ∀ j, j < 9 → F i j = picC G i Z0 j
abbrev oX0 (a b : Value) : List Value := [a, .int 0, .int 0, .int 0, b, .int 0]
theorem df_X0 : ∀ q, q < 6 → defaultValue (tyX0 q) = vp_V (oX0 .null .null) q := by
  intro q hq
  rcases (show q = 0 ∨ q = 1 ∨ q = 2 ∨ q = 3 ∨ q = 4 ∨ q = 5 by omega) with rfl | rfl | rfl | rfl | rfl | rfl <;> rfl
theorem df_X1 : ∀ q, q < 9 → defaultValue (tyX1 q) = vp_V (chipL (fun _ => 0)) q := by
  intro q hq
  rcases (show q = 0 ∨ q = 1 ∨ q = 2 ∨ q = 3 ∨ q = 4 ∨ q = 5 ∨ q = 6 ∨ q = 7 ∨ q = 8 by omega) with rfl | rfl | rfl | rfl | rfl | rfl | rfl | rfl | rfl <;> rfl
theorem df_X3 : ∀ q, q < 2 → defaultValue (tyX3 q) = vp_V [.null, .int 0] q := by
  intro q hq
  rcases (show q = 0 ∨ q = 1 by omega) with rfl | rfl <;> rfl
theorem df_X5 : ∀ q, q < 2 → defaultValue (tyX5 q) = vp_V [.null, .int 0] q := by
  intro q hq
  rcases (show q = 0 ∨ q = 1 by omega) with rfl | rfl <;> rfl
theorem df_X6 : ∀ q, q < 6 → defaultValue (tyX6 q) = vp_V [.null, .null, .null, .int 0, .null, .null] q := by
  intro q hq
  rcases (show q = 0 ∨ q = 1 ∨ q = 2 ∨ q = 3 ∨ q = 4 ∨ q = 5 by omega) with rfl | rfl | rfl | rfl | rfl | rfl <;> rfl
