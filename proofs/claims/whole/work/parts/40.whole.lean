set_option maxHeartbeats 4000000 in
set_option maxRecDepth 100000 in
/-- the worlds and the words at the law's entry -/
theorem law_cx {p : Program} {s : State} {m : MethodId} {meth : Method} {c : Code} {b L : Nat} {xs : Nat → Int32} (C0 : lw_At p s m meth c b L xs) : ∃ G : zG, G.2.2 = s.heap.size ∧ Cx p s m #[.ref b] meth c cL_law 8 RL G := by
  obtain ⟨hx, hb, hr, hml, hown, hts, hX, hbl, hlocks, hgv⟩ := id C0
  have htsW : ∀ w ∈ zW, w.before #[Value.ref b] s = true := fun w hw => hts w (List.mem_filter.mp hw).1
  have hA : ∀ a : Nat, a < s.heap.size → ¬ (fun q : Nat => s.heap.size ≤ q) a := fun a h => Nat.not_le.mpr h
  obtain ⟨c0, i0, k0⟩ := u_known (C := RX0) (T := TX0) (N := 6) (n := 6) htsW zinX0 (htsW _ zt48)
  obtain ⟨c1, i1, k1⟩ := u_known (C := RX1) (T := TX1) (N := 9) (n := 9) htsW zinX1 (htsW _ zt55)
  obtain ⟨c3, i3, k3⟩ := u_known (C := RX3) (T := TX3) (N := 2) (n := 2) htsW zinX3 (htsW _ zt125)
  obtain ⟨c5, i5, k5⟩ := u_known (C := RX5) (T := TX5) (N := 2) (n := 2) htsW zinX5 (htsW _ zt142)
  obtain ⟨c6, i6, k6⟩ := u_known (C := RX6) (T := TX6) (N := 6) (n := 6) htsW zinX6 (htsW _ zt40)
  obtain ⟨c7, i7, k7⟩ := u_known (C := RX7) (T := TX7) (N := 9) (n := 9) htsW zinX7 (htsW _ zt502)
  obtain ⟨aI, kI, cI, f1, f2, f3⟩ := Cond.arrayClass_spec (htsW _ zt123)
  obtain ⟨aC, kC, cC, g1, g2, g3⟩ := Cond.arrayClass_spec (htsW _ zt157)
  have w1 : (Cond.arrayOver (.object "ScanChain$Chip")).before #[Value.ref b] s = true := hts _ (List.mem_of_getElem? (i := 54) (by decide +kernel))
  have w2 : (Cond.arrayOver (.object "ScanChain$Chain")).before #[Value.ref b] s = true := hts _ (List.mem_of_getElem? (i := 131) (by decide +kernel))
  obtain ⟨pP, aP, kP, p1, p2, p3, p4, p5⟩ := Cond.arrayOver_spec w1
  obtain ⟨pN, aN, kN, n1, n2, n3, n4, n5⟩ := Cond.arrayOver_spec w2
  let G : zG := ((fun k => match k with | 0 => c0 | 1 => c1 | 2 => c3 | 3 => c5 | 4 => c6 | _ => c7, fun k => match k with | 0 => i0 | 1 => i1 | 2 => i3 | 3 => i5 | 4 => i6 | _ => i7), fun k => match k with | 0 => aI | 1 => aC | 2 => aP | _ => aN, s.heap.size)
  have hs := flat_of_before _ hgv
  have hK : va_K G.1 vwCl (ztys G) s := by
    refine ⟨fun k q hq => ?_, fun k q hq => ?_⟩
    · match k, hq with
      | 0, hq => cases hq; exact k0
      | 1, hq => cases hq; exact k1
      | 2, hq => cases hq; exact k3
      | 3, hq => cases hq; exact k5
      | 4, hq => cases hq; exact k6
      | 5, hq => cases hq; exact k7
      | k + 6, hq => simp [vwCl] at hq
    · match k, hq with
      | 0, hq => cases hq; exact ⟨fun N z => ⟨(fun k h => by cases h), kI, f2, cI, f3⟩, f1⟩
      | 1, hq => cases hq; exact ⟨fun N z => ⟨(fun k h => by cases h), kC, g2, cC, g3⟩, g1⟩
      | 2, hq => cases hq; exact ⟨fun N z => ⟨(fun k h => by cases h), kP, p3, pP, p4⟩, kP, pP, p3, p4, p1, p5⟩
      | 3, hq => cases hq; exact ⟨fun N z => ⟨(fun k h => by cases h), kN, n3, pN, n4⟩, kN, pN, n3, n4, n1, n5⟩
      | k + 4, hq => simp [ztys] at hq
  have hN : ∀ w ∈ zNest, va_Nw w s := by
    intro w hw
    have ho := (zNest_ok w hw).1
    rw [zNest_in] at hw
    obtain ⟨i, -, hi⟩ := List.mem_filterMap.mp hw
    exact va_Nw.of ho (hts w (List.mem_of_getElem? hi))
  have hT0 : ∃ t, va_Z "ScanChain$Controller" "NEXT_BY_MODE_0" "[I" (.ref t) (zA G) s s.heap ∧ va_T .int t 16 (fun k => .int (zN0 k)) (zA G) s s.heap := by
    obtain ⟨t, ht, hT⟩ := va_Tof (tm := .static "ScanChain$Controller" "NEXT_BY_MODE_0" "[I") (ty := .int) (N := 16) (f := fun k => .int (zN0 k)) (A := zA G) (by decide) (hs _ (by decide +kernel)) (va_eqt (hs (.eq (.length (.static "ScanChain$Controller" "NEXT_BY_MODE_0" "[I")) (.int 16)) (by decide +kernel))) (fun j hj => by
      rcases (show j = 0 ∨ j = 1 ∨ j = 2 ∨ j = 3 ∨ j = 4 ∨ j = 5 ∨ j = 6 ∨ j = 7 ∨ j = 8 ∨ j = 9 ∨ j = 10 ∨ j = 11 ∨ j = 12 ∨ j = 13 ∨ j = 14 ∨ j = 15 by omega) with rfl | rfl | rfl | rfl | rfl | rfl | rfl | rfl | rfl | rfl | rfl | rfl | rfl | rfl | rfl | rfl
      all_goals exact va_eqt (hs _ (by decide +kernel))) hA
    exact ⟨t, va_Zref (hts _ (List.mem_of_getElem? (i := 322) (by decide +kernel))) (htsW _ zt37) ht hA, hT⟩
  have hT1 : ∃ t, va_Z "ScanChain$Controller" "NEXT_BY_MODE_1" "[I" (.ref t) (zA G) s s.heap ∧ va_T .int t 16 (fun k => .int (zN1 k)) (zA G) s s.heap := by
    obtain ⟨t, ht, hT⟩ := va_Tof (tm := .static "ScanChain$Controller" "NEXT_BY_MODE_1" "[I") (ty := .int) (N := 16) (f := fun k => .int (zN1 k)) (A := zA G) (by decide) (hs _ (by decide +kernel)) (va_eqt (hs (.eq (.length (.static "ScanChain$Controller" "NEXT_BY_MODE_1" "[I")) (.int 16)) (by decide +kernel))) (fun j hj => by
      rcases (show j = 0 ∨ j = 1 ∨ j = 2 ∨ j = 3 ∨ j = 4 ∨ j = 5 ∨ j = 6 ∨ j = 7 ∨ j = 8 ∨ j = 9 ∨ j = 10 ∨ j = 11 ∨ j = 12 ∨ j = 13 ∨ j = 14 ∨ j = 15 by omega) with rfl | rfl | rfl | rfl | rfl | rfl | rfl | rfl | rfl | rfl | rfl | rfl | rfl | rfl | rfl | rfl
      all_goals exact va_eqt (hs _ (by decide +kernel))) hA
    exact ⟨t, va_Zref (hts _ (List.mem_of_getElem? (i := 324) (by decide +kernel))) (htsW _ zt37) ht hA, hT⟩
  obtain ⟨t0, z0, y0⟩ := hT0
  obtain ⟨t1, z1, y1⟩ := hT1
  exact ⟨G, rfl, ⟨⟨hx, hb, hml, hown, htsW⟩, ⟨hK, hN, va_AO.of w1, va_AO.of w2⟩, ⟨t0, t1, ⟨z0, y0⟩, ⟨z1, y1⟩⟩, hlocks⟩⟩
