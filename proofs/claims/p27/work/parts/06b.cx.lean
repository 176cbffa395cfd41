def zFL (s : State) (args : Array Value) (own : String) (idx : Nat) (ref n d : String) : Prop := (Cond.fieldLink own idx ref n d).before args s = true ∨ ∃ host, (Cond.fieldLinkNest own idx ref n d host).before args s = true
/-- what holds in a method's body from its entry on -/
def Cx (p : Program) (s : State) (m : MethodId) (args : Array Value) (meth : Method) (c : Code) (cc : ByteArray) (nL : Nat) (own : String) (G : zG) : Prop :=
  CallFix p m c cc nL s args zW own ∧ KK G s ∧ ST G s s.heap ∧ meth.locks = false
/-- the judgement: at pc, with these locals and this stack, over any heap that holds the n cells h, the machine comes to Q -/
def Xh (p : Program) (l : Launch) (e : Env) (R : Room) (s : State) (m : MethodId) (args : Array Value) (below : List Frame) (meth : Method) (c : Code) (nL : Nat) (G : zG) (Q : State → Prop) (cells slots n : Nat) (h : zH) (pc : Nat) (ls : List (Option Value)) (st : List Value) : Prop :=
  ∀ (H : Heap) (locs : List Loc) (lsA : Array Slot), HW G n h H → va_S (zA G) s.heap H locs → lv_has lsA nL (lo 0 ls) → lo1 ls = true → W p l e R s m args below meth c H locs cells slots Q (F0 m pc lsA st)
