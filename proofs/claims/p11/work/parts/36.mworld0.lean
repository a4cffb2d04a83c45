def mS0 : q_S := fun _ _ _ => .int 0
set_option maxRecDepth 100000 in
set_option maxHeartbeats 8000000 in
theorem mW0 (G : q_G) {H : Heap} (hL : q_L G.1 mCl G.2.2 (mk_fm G G.2.2) H) : q_W mX G mS0 H := by
  intro j i h
  have hj : j < 34 := (mlt h).1
  rcases (show j = 0 ∨ j = 1 ∨ j = 2 ∨ j = 3 ∨ j = 4 ∨ j = 5 ∨ j = 6 ∨ j = 7 ∨ j = 8 ∨ j = 9 ∨ j = 10 ∨ j = 11 ∨ j = 12 ∨ j = 13 ∨ j = 14 ∨ j = 15 ∨ j = 16 ∨ j = 17 ∨ j = 18 ∨ j = 19 ∨ j = 20 ∨ j = 21 ∨ j = 22 ∨ j = 23 ∨ j = 24 ∨ j = 25 ∨ j = 26 ∨ j = 27 ∨ j = 28 ∨ j = 29 ∨ j = 30 ∨ j = 31 ∨ j = 32 ∨ j = 33 by omega) with rfl | rfl | rfl | rfl | rfl | rfl | rfl | rfl | rfl | rfl | rfl | rfl | rfl | rfl | rfl | rfl | rfl | rfl | rfl | rfl | rfl | rfl | rfl | rfl | rfl | rfl | rfl | rfl | rfl | rfl | rfl | rfl | rfl | rfl
  · have h : i < 1 := h
    obtain rfl : i = 0 := by omega
    exact hL.2 0 _ rfl
  · have h : i < 1 := h
    obtain rfl : i = 0 := by omega
    exact hL.2 1 _ rfl
  · have h : i < 1 := h
    obtain rfl : i = 0 := by omega
    exact hL.2 2 _ rfl
  · have h : i < 1 := h
    obtain rfl : i = 0 := by omega
    exact hL.2 3 _ rfl
  · have h : i < 1 := h
    obtain rfl : i = 0 := by omega
    exact hL.2 4 _ rfl
  · have h : i < 1 := h
    obtain rfl : i = 0 := by omega
    exact hL.2 5 _ rfl
  · have h : i < 1 := h
    obtain rfl : i = 0 := by omega
    exact hL.2 6 _ rfl
  · have h : i < 1 := h
    obtain rfl : i = 0 := by omega
    exact hL.2 7 _ rfl
  · have h : i < 1 := h
    obtain rfl : i = 0 := by omega
    exact hL.2 8 _ rfl
  · have h : i < 1 := h
    obtain rfl : i = 0 := by omega
    exact hL.2 9 _ rfl
  · have h : i < 1 := h
    obtain rfl : i = 0 := by omega
    exact hL.2 10 _ rfl
  · have h : i < 1 := h
    obtain rfl : i = 0 := by omega
    exact hL.2 11 _ rfl
  · have h : i < 1 := h
    obtain rfl : i = 0 := by omega
    exact hL.2 12 _ rfl
  · have h : i < 1 := h
    obtain rfl : i = 0 := by omega
    exact hL.2 13 _ rfl
  · have h : i < 1 := h
    obtain rfl : i = 0 := by omega
    exact hL.2 14 _ rfl
  · have h : i < 1 := h
    obtain rfl : i = 0 := by omega
    exact hL.2 15 _ rfl
  · have h : i < 1 := h
    obtain rfl : i = 0 := by omega
    exact hL.2 16 _ rfl
  · have h : i < 1 := h
    obtain rfl : i = 0 := by omega
    exact hL.2 17 _ rfl
  · have h : i < 1 := h
    obtain rfl : i = 0 := by omega
    exact hL.2 18 _ rfl
  · have h : i < 1 := h
    obtain rfl : i = 0 := by omega
    exact hL.2 19 _ rfl
  · have h : i < 1 := h
    obtain rfl : i = 0 := by omega
    exact hL.2 20 _ rfl
  · have h : i < 1 := h
    obtain rfl : i = 0 := by omega
    exact hL.2 21 _ rfl
  · have h : i < 1 := h
    obtain rfl : i = 0 := by omega
    exact hL.2 22 _ rfl
  · have h : i < 1 := h
    obtain rfl : i = 0 := by omega
    exact hL.2 23 _ rfl
  · have h : i < 1 := h
    obtain rfl : i = 0 := by omega
    exact hL.2 24 _ rfl
  · have h : i < 1 := h
    obtain rfl : i = 0 := by omega
    exact hL.2 25 _ rfl
  · have h : i < 1 := h
    obtain rfl : i = 0 := by omega
    exact hL.2 26 _ rfl
  · have h : i < 1 := h
    obtain rfl : i = 0 := by omega
    exact hL.2 27 _ rfl
  · have h : i < 1 := h
    obtain rfl : i = 0 := by omega
    exact hL.2 28 _ rfl
  · have h : i < 1 := h
    obtain rfl : i = 0 := by omega
    exact hL.2 29 _ rfl
  · have h : i < 1 := h
    obtain rfl : i = 0 := by omega
    exact hL.2 30 _ rfl
  · have h : i < 1 := h
    obtain rfl : i = 0 := by omega
    exact hL.2 31 _ rfl
  · have h : i < 1 := h
    obtain rfl : i = 0 := by omega
    exact hL.2 32 _ rfl
  · have h : i < 1 := h
    obtain rfl : i = 0 := by omega
    exact hL.2 33 _ rfl
set_option maxRecDepth 100000 in
set_option maxHeartbeats 4000000 in
theorem mKs {args : Array Value} {s : State} (hts : ∀ w ∈ lw_tbl, w.before args s = true) (B : Nat) : ∃ G : q_G, G.2.2 = B ∧ va_K G.1 mCl (q_ty mX G) s ∧ mXt s := by
  have ht2 := xhts hts
  obtain ⟨c0, i0, k0⟩ := u_known (C := mR_fm) (T := mT_fm) (N := 35) (n := 35) ht2 min_fm (hts (.instantiable mR_fm 35) (List.mem_of_getElem? (i := 542) rfl))
  obtain ⟨a0, b0, d0, e0, f0, g0⟩ := Cond.arrayClass_spec (hts (.arrayClass .int) (List.mem_of_getElem? (i := 77) rfl))
  obtain ⟨a1, b1, d1, e1, f1, g1⟩ := Cond.arrayClass_spec (hts (.arrayClass .boolean) (List.mem_of_getElem? (i := 653) rfl))
  obtain ⟨a2, b2, d2, e2, f2, g2⟩ := Cond.arrayClass_spec (hts (.arrayClass .long) (List.mem_of_getElem? (i := 654) rfl))
  refine ⟨((fun _ => c0, fun _ => i0), (fun k => match k with | 0 => a0 | 1 => a1 | _ => a2), B), rfl, ⟨fun k r hk => ?_, fun k r hk => ?_⟩, trivial⟩
  · match k, hk with
    | 0, hk => cases hk; exact k0
    | k + 1, hk => simp [mCl] at hk
  · match k, hk with
    | 0, hk => cases hk; exact ⟨fun N z => ⟨(fun k h => by cases h), b0, f0, d0, g0⟩, e0⟩
    | 1, hk => cases hk; exact ⟨fun N z => ⟨(fun k h => by cases h), b1, f1, d1, g1⟩, e1⟩
    | 2, hk => cases hk; exact ⟨fun N z => ⟨(fun k h => by cases h), b2, f2, d2, g2⟩, e2⟩
    | k + 3, hk => simp [q_ty, mX] at hk
