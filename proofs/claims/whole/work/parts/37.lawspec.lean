/-! ===== the law's rows; the answers agree ===== -/
section ZL
variable {p : Program} {l : Launch} {e : Env} {R : Room} {s : State} {m : MethodId} {args : Array Value} {below : List Frame} {meth : Method} {c : Code} {cc : ByteArray} {nL : Nat} {own : String} {G : zG} {Q : State → Prop} {cells slots n : Nat} {h : zH} {pc : Nat} {ls : List (Option Value)} {st : List Value}
theorem x_sld (cx : Cx p s m args meth c cc nL own G) {b L t : Nat} {xs : Nat → Int32} {y : Int32} (hX : va_X b L xs s s.heap) (hbl : b < s.heap.size) (hG : G.2.2 = s.heap.size) (hy : y = nI t) (ht : t < L) (hL : L ≤ 2048) (d : decode cc pc = .ok (.iaload, 1)) (kk : Xh p l e R s m args below meth c nL G Q cells slots n h (pc + 1) ls (.int (xs t) :: st)) : Xh p l e R s m args below meth c nL G Q cells slots n h pc ls (.int y :: .ref b :: st) := by
  intro H locs lsA hW hS hl h1
  subst hy
  refine va_sld cx.1.1 cx.1.2.1 hX hbl (show ¬ G.2.2 ≤ b by omega) hS (i := nI t) (nI_in ht (by omega)) d ?_
  rw [show (nI t).toNatClampNeg = t from nI_clamp (by omega)]
  exact kk H locs lsA hW hS hl h1
theorem x_slen (cx : Cx p s m args meth c cc nL own G) {b L : Nat} {xs : Nat → Int32} (hX : va_X b L xs s s.heap) (hbl : b < s.heap.size) (hG : G.2.2 = s.heap.size) (d : decode cc pc = .ok (.arraylength, 1)) (kk : Xh p l e R s m args below meth c nL G Q cells slots n h (pc + 1) ls (.int (nI L) :: st)) : Xh p l e R s m args below meth c nL G Q cells slots n h pc ls (.ref b :: st) := by
  intro H locs lsA hW hS hl h1
  refine va_slen cx.1.1 cx.1.2.1 hX hbl (show ¬ G.2.2 ≤ b by omega) hS d ?_
  exact kk H locs lsA hW hS hl h1
theorem x_kp {S S1 : zS} (hk : kp8 S S1) (kk : ∀ T, T = S1 → kp8 S T → Xh p l e R s m args below meth c nL G Q cells slots n (pic G T) pc ls st) : Xh p l e R s m args below meth c nL G Q cells slots n (pic G S1) pc ls st := kk S1 rfl hk
theorem x_lend {b : Nat} (cx : Cx p s m #[.ref b] meth c cL_law 8 RL G) (hG : G.2.2 = s.heap.size) (hr : meth.sig.returnType = ret) (hc : cells ≤ 600000) (hs : slots ≤ 7302250) (d : decode cL_law pc = .ok (.ireturn, 1)) : Xh p l e room_1 s m #[.ref b] below meth c 8 G (lw_Z below #[.ref b] s) cells slots n h pc ls [.int 1] := by
  intro H locs lsA hW hS hl h1
  refine va_forget (fun q hq => by have := hS.2.2 q hq; rw [← hG]; exact this) ?_
  refine W.widen hc hs ?_
  exact lw_ret (d0 := s.drawn) (Drawn.sameBut.refl s.drawn lw_cs) cx.1.1 cx.1.2.1 hr cx.2.2.2 d
end ZL
theorem law_cmp {i L : Nat} (hi : i ≤ 3000) (hL : L ≤ 2048) : nI L - 4 < nI i ↔ L < i + 4 := by
  by_cases h4 : 4 ≤ L
  · have e : nI L - 4 = nI (L - 4) := by
      have : nI (L - 4) + 4 = nI L := by rw [show (4 : Int32) = nI 4 from rfl, nI_add]; congr 1; omega
      rw [← this, Int32.add_sub_cancel]
    rw [e, nI_ltI (by omega) (by omega)]
    omega
  · have h0 : ¬ nI i < 0 := nI_pos (by omega)
    have h1 : nI L - 4 < 0 := by
      rcases (show L = 0 ∨ L = 1 ∨ L = 2 ∨ L = 3 by omega) with rfl | rfl | rfl | rfl <;> decide
    exact ⟨fun _ => by omega, fun _ => Int32.lt_of_lt_of_le h1 (Int32.not_lt.mp h0)⟩
section AQ
variable {X Y : zCV} {S S1 : zS}
theorem has_tn (hW : zWF X) {q : Int32} (he : ¬ zHas X q = 0) : tn q < num X := by
  obtain ⟨t, ht, rfl⟩ := has_ix hW he
  have := hW.n6
  rw [show tn (nI t) = t from nI_clamp (by omega)]
  exact ht
theorem eHas_h {q : Int32} (h : eHas X q = 0) : ¬ zHas X q = 0 := fun z => by unfold eHas at h; rw [if_pos z] at h; exact absurd h (by decide)
theorem eArg_h {q v m : Int32} (h : eArg X q v m = 0) : ¬ zHas X q = 0 := fun z => by unfold eArg at h; rw [if_pos z] at h; exact absurd h (by decide)
theorem eAdd_6 (hW : zWF X) {a b c : Int32} (h : eAdd X a b c = 0) : num X < 6 := by
  have h6 := hW.n6
  unfold eAdd at h
  by_cases e1 : zin a 2 6 = 0
  · rw [if_pos e1] at h; exact absurd h (by decide)
  rw [if_neg e1] at h
  by_cases e2 : zisId b = 0
  · rw [if_pos e2] at h; exact absurd h (by decide)
  rw [if_neg e2] at h
  by_cases e3 : zin c 1 8 = 0
  · rw [if_pos e3] at h; exact absurd h (by decide)
  rw [if_neg e3] at h
  by_cases e4 : X 0 0 < 6
  · rw [hW.sz] at e4; exact (nI_ltI (b := 6) (by omega) (by decide)).mp e4
  · rw [if_neg e4] at h; exact absurd h (by decide)
theorem A_take (h : Qv X Y) (hW : zWF X) (q : Int32) : (if eHas X q = 0 then X (tn q + 3) 1 else eHas X q) = if eHas Y q = 0 then Y (tn q + 3) 1 else eHas Y q := by
  rw [← QeHas h]
  by_cases e : eHas X q = 0
  · rw [if_pos e, if_pos e, h.2.2 _ (has_tn hW (eHas_h e))]
  · rw [if_neg e, if_neg e]
theorem A_pins (h : Qv X Y) (hW : zWF X) (q v : Int32) : (if eArg X q v 255 = 0 then X (tn q + 3) 3 else eArg X q v 255) = if eArg Y q v 255 = 0 then Y (tn q + 3) 3 else eArg Y q v 255 := by
  rw [← Qerr h]
  by_cases e : eArg X q v 255 = 0
  · rw [if_pos e, if_pos e, h.2.2 _ (has_tn hW (eArg_h e))]
  · rw [if_neg e, if_neg e]
theorem QbrkX (h : Qv X Y) {t : Nat} (ht : t < num X) (v : Int32) : Qv (zBrkX X t v) (zBrkX Y t v) := by
  unfold zBrkX
  exact Qrow h (by rw [h.2.2 _ ht])
theorem QpinX (h : Qv X Y) {t : Nat} (ht : t < num X) (v : Int32) : Qv (zPinsX X t v) (zPinsX Y t v) := by
  unfold zPinsX
  exact Qrow h (by rw [h.2.2 _ ht])
theorem A_brk (h : Qv X Y) (hW : zWF X) (q v : Int32) : (if eHas X q = 0 then zSum zBrk (zBrkX X (tn q) v) else eHas X q) = if eHas Y q = 0 then zSum zBrk (zBrkX Y (tn q) v) else eHas Y q := by
  rw [← QeHas h]
  by_cases e : eHas X q = 0
  · rw [if_pos e, if_pos e, Qsum (QbrkX h (has_tn hW (eHas_h e)) v)]
  · rw [if_neg e, if_neg e]
theorem A_load (h : Qv X Y) (hW : zWF X) (q v : Int32) : (if eArg X q v 63 = 0 then zBits (zLoad X (tn q) v (tn q + 3)) else eArg X q v 63) = if eArg Y q v 63 = 0 then zBits (zLoad Y (tn q) v (tn q + 3)) else eArg Y q v 63 := by
  rw [← Qerr h]
  by_cases e : eArg X q v 63 = 0
  · rw [if_pos e, if_pos e, (Qload h (tn q) v).2.2 _ (by rw [num_load]; exact has_tn hW (eArg_h e))]
  · rw [if_neg e, if_neg e]
theorem A_run (h : Sim S) {L : Nat} (h80 : L ≤ 80) (ht : ∀ k, k < L → S 7 2 k = S 15 1 k) : (if zFault (S 7 2) L = -4 then zRunO (S 7 2) L L 0 0 0 (S 0) else -100 - zFault (S 7 2) L) = if zFault (S 15 1) L = -4 then zRunO (S 15 1) L L 0 0 0 (S 8) else -100 - zFault (S 15 1) L := by
  rw [← Qfault ht]
  by_cases e : zFault (S 7 2) L = -4
  · rw [if_pos e, if_pos e]
    exact (Qrun h80 ht L 0 0 0 (Sim_q h) (Nat.zero_le _) e).1
  · rw [if_neg e, if_neg e]
theorem sim_run (h : Sim S) {L : Nat} {F : Nat → Int32} (h80 : L ≤ 80) (ht : ∀ k, k < L → S 7 2 k = S 15 1 k) (hk : kp8 S S1) (hS1 : S1 = if zFault (S 7 2) L = -4 then up (zRec S) 0 (zRunX (S 7 2) L L 0 (S 0)) else S) : Sim (if zFault (S1 15 1) L = -4 then up (fr (mRec S1) F) 8 (zRunX (S1 15 1) L L 0 (S1 8)) else S1) := by
  rw [hk 15 (by decide), hk 8 (by decide), ← Qfault ht]
  by_cases e : zFault (S 7 2) L = -4
  · rw [if_pos e]
    rw [if_pos e] at hS1
    subst hS1
    exact sim_c h ⟨zRunX_WF _ _ h.1.1, (Qrun h80 ht L 0 0 0 (Sim_q h) (Nat.zero_le _) e).2⟩
  · rw [if_neg e]
    rw [if_neg e] at hS1
    subst hS1
    exact h
theorem A_undo (h : Sim S) (hk : kp8 S S1) : (if hsz S = 0 then -4 else nI (hsz S - 1)) = if S1 15 0 0 = 0 then -4 else S1 15 0 0 - 1 := by
  have h4 := (Sim_hs h).2
  rw [kp8_hs h hk]
  by_cases e : hsz S = 0
  · rw [e, if_pos rfl, if_pos (by decide)]
  · rw [if_neg e, if_neg (show ¬ nI (hsz S) = 0 from fun z => e ((nI_eq (b := 0) (by omega) (by decide)).mp z))]
    exact (nI_sub1 (by omega)).symm
theorem A_restore (h : Sim S) (hk : kp8 S S1) : (if S 7 0 1 = 0 then -1 else S 2 0 0) = if S1 15 0 1 = 0 then -1 else S1 10 0 0 := by
  rw [hk 15 (by decide), hk 10 (by decide), h.2.2.2.2.1]
  by_cases e : S 7 0 1 = 0
  · rw [if_pos e, if_pos e]
  · rw [if_neg e, if_neg e, (Sim_sn h (h.1.2.2.2.2.1.resolve_left e)).2.1]
end AQ
