theorem xhts {args : Array Value} {s : State} (hts : ∀ w ∈ lw_tbl, w.before args s = true) : ∀ w ∈ q_gw lw_tbl, w.before args s = true := fun w h => hts w (List.mem_filter.mp h).1
set_option maxRecDepth 100000 in
set_option maxHeartbeats 4000000 in
theorem xKs {args : Array Value} {s : State} (hts : ∀ w ∈ lw_tbl, w.before args s = true) (B : Nat) : ∃ G : q_G, G.2.2 = B ∧ va_K G.1 xCl (q_ty xX G) s ∧ xXt s := by
  have ht2 := xhts hts
  obtain ⟨c0, i0, k0⟩ := u_known (C := xR_fe) (T := xT_fe) (N := 11) (n := 11) ht2 xin_fe (hts (.instantiable xR_fe 11) (List.mem_of_getElem? (i := 51) rfl))
  obtain ⟨c1, i1, k1⟩ := u_known (C := xR_hi) (T := xT_hi) (N := 5) (n := 5) ht2 xin_hi (hts (.instantiable xR_hi 5) (List.mem_of_getElem? (i := 103) rfl))
  obtain ⟨c2, i2, k2⟩ := u_known (C := xR_ke) (T := xT_ke) (N := 3) (n := 3) ht2 xin_ke (hts (.instantiable xR_ke 3) (List.mem_of_getElem? (i := 134) rfl))
  obtain ⟨c3, i3, k3⟩ := u_known (C := xR_pr) (T := xT_pr) (N := 4) (n := 4) ht2 xin_pr (hts (.instantiable xR_pr 4) (List.mem_of_getElem? (i := 78) rfl))
  obtain ⟨c4, i4, k4⟩ := u_known (C := xR_ta) (T := xT_ta) (N := 5) (n := 5) ht2 xin_ta (hts (.instantiable xR_ta 5) (List.mem_of_getElem? (i := 174) rfl))
  obtain ⟨c5, i5, k5⟩ := u_known (C := xR_tl) (T := xT_tl) (N := 2) (n := 2) ht2 xin_tl (hts (.instantiable xR_tl 2) (List.mem_of_getElem? (i := 63) rfl))
  obtain ⟨c6, i6, k6⟩ := u_known (C := xR_ul) (T := xT_ul) (N := 3) (n := 3) ht2 xin_ul (hts (.instantiable xR_ul 3) (List.mem_of_getElem? (i := 153) rfl))
  obtain ⟨c7, i7, k7⟩ := u_known (C := xR_wf) (T := xT_wf) (N := 17) (n := 17) ht2 xin_wf (hts (.instantiable xR_wf 17) (List.mem_of_getElem? (i := 97) rfl))
  obtain ⟨a0, b0, d0, e0, f0, g0⟩ := Cond.arrayClass_spec (hts (.arrayClass .int) (List.mem_of_getElem? (i := 77) rfl))
  have o1 := hts (.arrayOver (.object "FlowEngine$Program")) (List.mem_of_getElem? (i := 59) rfl)
  obtain ⟨d1, a1, b1, p1, -, f1, g1, e1⟩ := Cond.arrayOver_spec o1
  have o2 := hts (.arrayOver (.object "FlowEngine$Workflow")) (List.mem_of_getElem? (i := 61) rfl)
  obtain ⟨d2, a2, b2, p2, -, f2, g2, e2⟩ := Cond.arrayOver_spec o2
  refine ⟨((fun k => match k with | 0 => c0 | 1 => c1 | 2 => c2 | 3 => c3 | 4 => c4 | 5 => c5 | 6 => c6 | _ => c7, fun k => match k with | 0 => i0 | 1 => i1 | 2 => i2 | 3 => i3 | 4 => i4 | 5 => i5 | 6 => i6 | _ => i7), (fun k => match k with | 0 => a0 | 1 => a1 | _ => a2), B), rfl, ⟨fun k r hk => ?_, fun k r hk => ?_⟩, ?_⟩
  · match k, hk with
    | 0, hk => cases hk; exact k0
    | 1, hk => cases hk; exact k1
    | 2, hk => cases hk; exact k2
    | 3, hk => cases hk; exact k3
    | 4, hk => cases hk; exact k4
    | 5, hk => cases hk; exact k5
    | 6, hk => cases hk; exact k6
    | 7, hk => cases hk; exact k7
    | k + 8, hk => simp [xCl] at hk
  · match k, hk with
    | 0, hk => cases hk; exact ⟨fun N z => ⟨(fun k h => by cases h), b0, f0, d0, g0⟩, e0⟩
    | 1, hk => cases hk; exact ⟨fun N z => ⟨(fun k h => by cases h), b1, f1, d1, g1⟩, b1, d1, f1, g1, p1, e1⟩
    | 2, hk => cases hk; exact ⟨fun N z => ⟨(fun k h => by cases h), b2, f2, d2, g2⟩, b2, d2, f2, g2, p2, e2⟩
    | k + 3, hk => simp [q_ty, xX] at hk
  · exact ⟨va_Nw.of rfl (hts (.methodLinkNest "FlowEngine" 23 xy_tl_init "FlowEngine") (List.mem_of_getElem? (i := 64) rfl)), va_Nw.of rfl (hts (.methodLinkNest "FlowEngine" 28 xy_pr_init "FlowEngine") (List.mem_of_getElem? (i := 79) rfl)), va_Nw.of rfl (hts (.methodLinkNest "FlowEngine$Workflow" 17 xy_hi_init "FlowEngine") (List.mem_of_getElem? (i := 104) rfl)), va_Nw.of rfl (hts (.methodLinkNest "FlowEngine$Workflow" 24 xy_ke_init "FlowEngine") (List.mem_of_getElem? (i := 135) rfl)), va_Nw.of rfl (hts (.methodLinkNest "FlowEngine$Workflow" 31 xy_ul_init "FlowEngine") (List.mem_of_getElem? (i := 154) rfl)), va_Nw.of rfl (hts (.methodLinkNest "FlowEngine$Workflow" 38 xy_ta_init "FlowEngine") (List.mem_of_getElem? (i := 175) rfl)), va_AO.of o1, va_AO.of o2⟩
set_option maxRecDepth 100000 in
set_option maxHeartbeats 4000000 in
theorem xZs {args : Array Value} {s : State} (hts : ∀ w ∈ lw_tbl, w.before args s = true) (hgv : (Jvm.Cond.and given_1 narrow_1).before args s = true) (G : q_G) (hG : s.heap.size ≤ G.2.2) : xZ G s s.heap := by
  have hs := flat_of_before _ hgv
  have hA : ∀ a : Nat, a < s.heap.size → ¬ xAA G a := fun a h z => absurd (Nat.lt_of_lt_of_le h hG) (Nat.not_lt.mpr z)
  refine ⟨?_, ?_⟩
  · have hel : ∀ j : Nat, j < 11 → (Term.elem (.static "FlowEngine" "FIRST_LIMITS" "[I") (.int (Int32.ofNat j))).eval args s none [] s = some (.int (xL1 j)) := by
      intro j hj
      match j, hj with
      | 0, _ => exact va_eqt (hs _ (by decide +kernel))
      | 1, _ => exact va_eqt (hs _ (by decide +kernel))
      | 2, _ => exact va_eqt (hs _ (by decide +kernel))
      | 3, _ => exact va_eqt (hs _ (by decide +kernel))
      | 4, _ => exact va_eqt (hs _ (by decide +kernel))
      | 5, _ => exact va_eqt (hs _ (by decide +kernel))
      | 6, _ => exact va_eqt (hs _ (by decide +kernel))
      | 7, _ => exact va_eqt (hs _ (by decide +kernel))
      | 8, _ => exact va_eqt (hs _ (by decide +kernel))
      | 9, _ => exact va_eqt (hs _ (by decide +kernel))
      | 10, _ => exact va_eqt (hs _ (by decide +kernel))
      | j + 11, h => exact absurd h (by omega)
    obtain ⟨t, e1, hT⟩ := va_Tof (tm := .static "FlowEngine" "FIRST_LIMITS" "[I") (ty := .int) (N := 11) (f := fun j => .int (xL1 j)) (A := xAA G) (by decide) (hs _ (by decide +kernel)) (va_eqt (hs _ (by decide +kernel))) hel hA
    exact ⟨t, va_Zof (hts (.laysStatic "FlowEngine" "FIRST_LIMITS" "[I") (List.mem_of_getElem? (i := 312) rfl)) (hts (.initialized "FlowEngine") (List.mem_of_getElem? (i := 41) rfl)) e1 hA, hT⟩
  · have hel : ∀ j : Nat, j < 11 → (Term.elem (.static "FlowEngine" "SECOND_LIMITS" "[I") (.int (Int32.ofNat j))).eval args s none [] s = some (.int (xL2 j)) := by
      intro j hj
      match j, hj with
      | 0, _ => exact va_eqt (hs _ (by decide +kernel))
      | 1, _ => exact va_eqt (hs _ (by decide +kernel))
      | 2, _ => exact va_eqt (hs _ (by decide +kernel))
      | 3, _ => exact va_eqt (hs _ (by decide +kernel))
      | 4, _ => exact va_eqt (hs _ (by decide +kernel))
      | 5, _ => exact va_eqt (hs _ (by decide +kernel))
      | 6, _ => exact va_eqt (hs _ (by decide +kernel))
      | 7, _ => exact va_eqt (hs _ (by decide +kernel))
      | 8, _ => exact va_eqt (hs _ (by decide +kernel))
      | 9, _ => exact va_eqt (hs _ (by decide +kernel))
      | 10, _ => exact va_eqt (hs _ (by decide +kernel))
      | j + 11, h => exact absurd h (by omega)
    obtain ⟨t, e1, hT⟩ := va_Tof (tm := .static "FlowEngine" "SECOND_LIMITS" "[I") (ty := .int) (N := 11) (f := fun j => .int (xL2 j)) (A := xAA G) (by decide) (hs _ (by decide +kernel)) (va_eqt (hs _ (by decide +kernel))) hel hA
    exact ⟨t, va_Zof (hts (.laysStatic "FlowEngine" "SECOND_LIMITS" "[I") (List.mem_of_getElem? (i := 317) rfl)) (hts (.initialized "FlowEngine") (List.mem_of_getElem? (i := 41) rfl)) e1 hA, hT⟩
