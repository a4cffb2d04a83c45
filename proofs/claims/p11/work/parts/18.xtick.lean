def x_fe_tick_L1 : Nat → q_S → Int32 → Nat → Nat → q_S
  | 0, S, _, _, _ => S
  | n + 1, S, a, t, u =>
    if 6 ≤ nI u then
      S
    else
      if x_ta_isOverdue S ((nI u).toNatClampNeg) (q_i (S 0 0 3)) = 0 then
        x_fe_tick_L1 n S a t (u + 1)
      else
        x_fe_tick_L1 n (x_fe_goWrong S ((nI u).toNatClampNeg)) a t (u + 1)
set_option maxRecDepth 100000 in
set_option maxHeartbeats 4000000 in
theorem xL_fe_tick_L1 (l : Launch) (G : q_G) (a : Int32)  {p : Program} {e : Env} {s : State} {m : MethodId} {below : List Frame} {meth : Method} {c : Code} {Q : State → Prop} (hC : q_C xX G p m c xb_fe_tick 4 s ([.ref (q_a xX G 0 0), .int a] : List Value).toArray (q_ws (q_gw lw_tbl) xy_fe_tick xb_fe_tick 4 (some .int)) xR_fe) : ∀ (n : Nat) (S : q_S) (t : Nat) (u : Nat) (H : Heap) (locs : List Loc) (ls : Array Slot), u + n = 7 → u ≤ 6 → t ≤ 20 → xI S → xJ S → q_w xX G s S H → va_S (q_A xX G) s.heap H locs → lv_has ls 4 [(0, .ref (q_a xX G 0 0)), (1, .int a), (2, .int (nI t)), (3, .int (nI u))] → (∀ (H1 : Heap) (locs1 : List Loc) (ls1 : Array Slot), q_w xX G s (x_fe_tick_L1 n S a t u) H1 → va_S (q_A xX G) s.heap H1 locs1 → lv_has ls1 4 [(0, .ref (q_a xX G 0 0)), (1, .int a), (2, .int (nI t))] → W p l e (headSpec (q_ws (q_gw lw_tbl) xy_fe_tick xb_fe_tick 4 (some .int)) (q_rm 6)).room s m ([.ref (q_a xX G 0 0), .int a] : List Value).toArray below meth c H1 locs1 0 0 Q (F0 m 73 ls1 [])) → W p l e (headSpec (q_ws (q_gw lw_tbl) xy_fe_tick xb_fe_tick 4 (some .int)) (q_rm 6)).room s m ([.ref (q_a xX G 0 0), .int a] : List Value).toArray below meth c H locs 0 0 Q (F0 m 32 ls []) := by
  have hx := hC.1.1
  have hb := hC.1.2.1
  intro n
  induction n with
  | zero =>
    intro S t u H locs ls ht hu hw hI hJ hW hS hl kk
    exfalso
    omega
  | succ n ih =>
    intro S t u H locs ls ht hu hw hI hJ hW hS hl kk
    refine lv_iload_n hx hb xd_fe_tick_32 rfl (lv_at hl 3 rfl) ?_
    refine lv_bipush (v := 6) hx hb xd_fe_tick_33 (by decide) ?_
    refine lv_icmp_ge (tgt := 73) hx hb xd_fe_tick_35 (by decide) (fun c_1 => ?_) (fun c_1 => ?_)
    · -- taken
      have hf : x_fe_tick_L1 (n + 1) S a t u = S := by rw [x_fe_tick_L1, if_pos c_1]
      rw [hf] at kk
      exact kk H locs ls hW hS (lv_sub hl [0, 1, 2] rfl)
    · -- not taken
      refine lv_aload_n hx hb xd_fe_tick_38 rfl (lv_at hl 0 rfl) ?_
      refine xg_fe_17 hC hW 0 Nat.one_pos xd_fe_tick_39 ?_
      refine lv_iload_n hx hb xd_fe_tick_42 rfl (lv_at hl 3 rfl) ?_
      have h_2 : vp_in (nI u) 6 := by have n_t := nI_toInt (n := t) (by omega); have m_t := q_nT (n := t) (by omega); have n_u := nI_toInt (n := u) (by omega); have m_u := q_nT (n := u) (by omega); simp only [vp_in_iff, Int32.lt_iff_toInt_lt, Int32.le_iff_toInt_le, q_n0, q_n1, q_n2, q_n3, q_n4, q_n5, q_n6, q_n7, q_n10, q_n14, q_n15, q_n20, q_n60, q_n1288] at c_1 ⊢; omega
      refine xal_2 hC hW 0 Nat.one_pos h_2 xd_fe_tick_43 ?_
      refine xg_fe_107 hC hW ((nI u).toNatClampNeg) (q_lt h_2) xd_fe_tick_44 ?_
      refine lv_aload_n hx hb xd_fe_tick_47 rfl (lv_at hl 0 rfl) ?_
      refine xg_fe_116 hC hW 0 Nat.one_pos (rfl) xd_fe_tick_48 ?_
      refine q_calli hC hS (fun _ h => h) (q_runV (rest := []) hC hW (xC_ta_isOverdue l G S ((nI u).toNatClampNeg) (q_i (S 0 0 3)) (q_lt h_2)) (xc_fe_137 (q_rm 0) hC.1.2.2.2.2 ⟨Nat.le_of_ble_eq_true rfl, Nat.le_of_ble_eq_true rfl⟩ rfl rfl) (q_lt h_2) rfl rfl rfl hl.1 rfl (Nat.le_of_ble_eq_true rfl) xd_fe_tick_51 ⟨Nat.zero_le _, Nat.zero_le _⟩) (fun H locs hW hS => ?_)
      refine lv_if_eq (tgt := 67) hx hb xd_fe_tick_54 (by decide) (fun c_3 => ?_) (fun c_3 => ?_)
      · -- taken
        refine lv_iinc (v := nI u + 1) (lv' := [(3, .int (nI u + 1)), (0, .ref (q_a xX G 0 0)), (1, .int a), (2, .int (nI t))]) hx hb xd_fe_tick_67 hl (k := 3) rfl rfl (by decide) rfl (fun ls hl => ?_)
        refine lv_goto (tgt := 32) hx hb xd_fe_tick_70 (by decide) ?_
        have hf : x_fe_tick_L1 (n + 1) S a t u = x_fe_tick_L1 n S a t (u + 1) := by rw [x_fe_tick_L1, if_neg c_1, if_pos c_3]
        rw [hf] at kk
        have hl2 : lv_has ls 4 [(0, .ref (q_a xX G 0 0)), (1, .int a), (2, .int (nI t)), (3, .int (nI (u + 1)))] := by rw [← nI_1 u]; exact lv_sub hl [1, 2, 3, 0] rfl
        exact ih S t (u + 1) _ _ ls (by have n_t := nI_toInt (n := t) (by omega); have m_t := q_nT (n := t) (by omega); have n_u := nI_toInt (n := u) (by omega); have m_u := q_nT (n := u) (by omega); simp only [Int32.lt_iff_toInt_lt, Int32.le_iff_toInt_le, q_n0, q_n1, q_n2, q_n3, q_n4, q_n5, q_n6, q_n7, q_n10, q_n14, q_n15, q_n20, q_n60, q_n1288] at c_1; omega) (by have n_t := nI_toInt (n := t) (by omega); have m_t := q_nT (n := t) (by omega); have n_u := nI_toInt (n := u) (by omega); have m_u := q_nT (n := u) (by omega); simp only [Int32.lt_iff_toInt_lt, Int32.le_iff_toInt_le, q_n0, q_n1, q_n2, q_n3, q_n4, q_n5, q_n6, q_n7, q_n10, q_n14, q_n15, q_n20, q_n60, q_n1288] at c_1; omega) (by have n_t := nI_toInt (n := t) (by omega); have m_t := q_nT (n := t) (by omega); have n_u := nI_toInt (n := u) (by omega); have m_u := q_nT (n := u) (by omega); simp only [Int32.lt_iff_toInt_lt, Int32.le_iff_toInt_le, q_n0, q_n1, q_n2, q_n3, q_n4, q_n5, q_n6, q_n7, q_n10, q_n14, q_n15, q_n20, q_n60, q_n1288] at c_1; omega) hI hJ hW hS hl2 kk
      · -- not taken
        refine lv_aload_n hx hb xd_fe_tick_57 rfl (lv_at hl 0 rfl) ?_
        refine lv_aload_n hx hb xd_fe_tick_58 rfl (lv_at hl 0 rfl) ?_
        refine xg_fe_17 hC hW 0 Nat.one_pos xd_fe_tick_59 ?_
        refine lv_iload_n hx hb xd_fe_tick_62 rfl (lv_at hl 3 rfl) ?_
        have h_4 : vp_in (nI u) 6 := by have n_t := nI_toInt (n := t) (by omega); have m_t := q_nT (n := t) (by omega); have n_u := nI_toInt (n := u) (by omega); have m_u := q_nT (n := u) (by omega); simp only [vp_in_iff, Int32.lt_iff_toInt_lt, Int32.le_iff_toInt_le, q_n0, q_n1, q_n2, q_n3, q_n4, q_n5, q_n6, q_n7, q_n10, q_n14, q_n15, q_n20, q_n60, q_n1288] at c_1 ⊢; omega
        refine xal_2 hC hW 0 Nat.one_pos h_4 xd_fe_tick_63 ?_
        refine q_callv hC hS (fun _ h => h) (q_runV (rest := []) hC hW (xC_fe_goWrong l G S ((nI u).toNatClampNeg) (q_lt h_4) hI hJ) (xc_fe_131 (q_rm 5) hC.1.2.2.2.2 ⟨Nat.le_of_ble_eq_true rfl, Nat.le_of_ble_eq_true rfl⟩ rfl rfl) Nat.one_pos rfl rfl rfl hl.1 rfl (Nat.le_of_ble_eq_true rfl) xd_fe_tick_64 ⟨Nat.zero_le _, Nat.zero_le _⟩) (fun H locs hW hS => ?_)
        refine lv_iinc (v := nI u + 1) (lv' := [(3, .int (nI u + 1)), (0, .ref (q_a xX G 0 0)), (1, .int a), (2, .int (nI t))]) hx hb xd_fe_tick_67 hl (k := 3) rfl rfl (by decide) rfl (fun ls hl => ?_)
        refine lv_goto (tgt := 32) hx hb xd_fe_tick_70 (by decide) ?_
        have hf : x_fe_tick_L1 (n + 1) S a t u = x_fe_tick_L1 n (x_fe_goWrong S ((nI u).toNatClampNeg)) a t (u + 1) := by rw [x_fe_tick_L1, if_neg c_1, if_neg c_3]
        rw [hf] at kk
        have hl2 : lv_has ls 4 [(0, .ref (q_a xX G 0 0)), (1, .int a), (2, .int (nI t)), (3, .int (nI (u + 1)))] := by rw [← nI_1 u]; exact lv_sub hl [1, 2, 3, 0] rfl
        have hI_5 : xI (x_fe_goWrong S ((nI u).toNatClampNeg)) := (xI_fe_goWrong S ((nI u).toNatClampNeg) (q_lt h_4) hI hJ)
        have hJ_6 : xJ (x_fe_goWrong S ((nI u).toNatClampNeg)) := xJ_keep hJ (fun x y z hx => ((xK_fe_goWrong S ((nI u).toNatClampNeg) x y z (show x ≠ 0 by omega) (show x ≠ 3 by omega) (show x ≠ 4 by omega) (show x ≠ 9 by omega) (show x ≠ 10 by omega) (show x ≠ 11 by omega) (show x ≠ 12 by omega) (show x ≠ 13 by omega) (show x ≠ 14 by omega) (show x ≠ 15 by omega) (show x ≠ 16 by omega) (show x ≠ 17 by omega) (show x ≠ 18 by omega) (show x ≠ 19 by omega) (show x ≠ 20 by omega) (show x ≠ 21 by omega))))
        exact ih (x_fe_goWrong S ((nI u).toNatClampNeg)) t (u + 1) _ _ ls (by have n_t := nI_toInt (n := t) (by omega); have m_t := q_nT (n := t) (by omega); have n_u := nI_toInt (n := u) (by omega); have m_u := q_nT (n := u) (by omega); simp only [Int32.lt_iff_toInt_lt, Int32.le_iff_toInt_le, q_n0, q_n1, q_n2, q_n3, q_n4, q_n5, q_n6, q_n7, q_n10, q_n14, q_n15, q_n20, q_n60, q_n1288] at c_1; omega) (by have n_t := nI_toInt (n := t) (by omega); have m_t := q_nT (n := t) (by omega); have n_u := nI_toInt (n := u) (by omega); have m_u := q_nT (n := u) (by omega); simp only [Int32.lt_iff_toInt_lt, Int32.le_iff_toInt_le, q_n0, q_n1, q_n2, q_n3, q_n4, q_n5, q_n6, q_n7, q_n10, q_n14, q_n15, q_n20, q_n60, q_n1288] at c_1; omega) (by have n_t := nI_toInt (n := t) (by omega); have m_t := q_nT (n := t) (by omega); have n_u := nI_toInt (n := u) (by omega); have m_u := q_nT (n := u) (by omega); simp only [Int32.lt_iff_toInt_lt, Int32.le_iff_toInt_le, q_n0, q_n1, q_n2, q_n3, q_n4, q_n5, q_n6, q_n7, q_n10, q_n14, q_n15, q_n20, q_n60, q_n1288] at c_1; omega) hI_5 hJ_6 hW hS hl2 kk
set_option maxRecDepth 100000 in
set_option maxHeartbeats 4000000 in
theorem xK_fe_tick_L1 : ∀ (n : Nat) (S : q_S) (a : Int32) (t : Nat) (u : Nat) (x y z : Nat) (h0 : x ≠ 0) (h3 : x ≠ 3) (h4 : x ≠ 4) (h9 : x ≠ 9) (h10 : x ≠ 10) (h11 : x ≠ 11) (h12 : x ≠ 12) (h13 : x ≠ 13) (h14 : x ≠ 14) (h15 : x ≠ 15) (h16 : x ≠ 16) (h17 : x ≠ 17) (h18 : x ≠ 18) (h19 : x ≠ 19) (h20 : x ≠ 20) (h21 : x ≠ 21), (x_fe_tick_L1 n S a t u) x y z = S x y z := by
  intro n
  induction n with
  | zero => intro S a t u x y z h0 h3 h4 h9 h10 h11 h12 h13 h14 h15 h16 h17 h18 h19 h20 h21; rfl
  | succ n ih =>
    intro S a t u x y z h0 h3 h4 h9 h10 h11 h12 h13 h14 h15 h16 h17 h18 h19 h20 h21
    by_cases c_1 : 6 ≤ nI u
    · -- yes
      have hf : x_fe_tick_L1 (n + 1) S a t u = S := by rw [x_fe_tick_L1, if_pos c_1]
      rw [hf]
    · -- no
      by_cases c_3 : x_ta_isOverdue S ((nI u).toNatClampNeg) (q_i (S 0 0 3)) = 0
      · -- yes
        have hf : x_fe_tick_L1 (n + 1) S a t u = x_fe_tick_L1 n S a t (u + 1) := by rw [x_fe_tick_L1, if_neg c_1, if_pos c_3]
        rw [hf]
        exact (ih S a t (u + 1) x y z h0 h3 h4 h9 h10 h11 h12 h13 h14 h15 h16 h17 h18 h19 h20 h21).trans (rfl)
      · -- no
        have hf : x_fe_tick_L1 (n + 1) S a t u = x_fe_tick_L1 n (x_fe_goWrong S ((nI u).toNatClampNeg)) a t (u + 1) := by rw [x_fe_tick_L1, if_neg c_1, if_neg c_3]
        rw [hf]
        exact (ih (x_fe_goWrong S ((nI u).toNatClampNeg)) a t (u + 1) x y z h0 h3 h4 h9 h10 h11 h12 h13 h14 h15 h16 h17 h18 h19 h20 h21).trans (((xK_fe_goWrong S ((nI u).toNatClampNeg) x y z h0 h3 h4 h9 h10 h11 h12 h13 h14 h15 h16 h17 h18 h19 h20 h21)))
set_option maxRecDepth 100000 in
set_option maxHeartbeats 4000000 in
theorem xI_fe_tick_L1 (a : Int32)  : ∀ (n : Nat) (S : q_S) (t : Nat) (u : Nat), u + n = 7 → u ≤ 6 → t ≤ 20 → xI S → xJ S → xI (x_fe_tick_L1 n S a t u) := by
  intro n
  induction n with
  | zero =>
    intro S t u ht hu hw hI hJ
    exfalso
    omega
  | succ n ih =>
    intro S t u ht hu hw hI hJ
    by_cases c_1 : 6 ≤ nI u
    · -- yes
      have hf : x_fe_tick_L1 (n + 1) S a t u = S := by rw [x_fe_tick_L1, if_pos c_1]
      rw [hf]
      exact hI
    · -- no
      by_cases c_3 : x_ta_isOverdue S ((nI u).toNatClampNeg) (q_i (S 0 0 3)) = 0
      · -- yes
        have h_2 : vp_in (nI u) 6 := by have n_t := nI_toInt (n := t) (by omega); have m_t := q_nT (n := t) (by omega); have n_u := nI_toInt (n := u) (by omega); have m_u := q_nT (n := u) (by omega); simp only [vp_in_iff, Int32.lt_iff_toInt_lt, Int32.le_iff_toInt_le, q_n0, q_n1, q_n2, q_n3, q_n4, q_n5, q_n6, q_n7, q_n10, q_n14, q_n15, q_n20, q_n60, q_n1288] at c_1 ⊢; omega
        have hf : x_fe_tick_L1 (n + 1) S a t u = x_fe_tick_L1 n S a t (u + 1) := by rw [x_fe_tick_L1, if_neg c_1, if_pos c_3]
        rw [hf]
        exact ih S t (u + 1) (by have n_t := nI_toInt (n := t) (by omega); have m_t := q_nT (n := t) (by omega); have n_u := nI_toInt (n := u) (by omega); have m_u := q_nT (n := u) (by omega); simp only [Int32.lt_iff_toInt_lt, Int32.le_iff_toInt_le, q_n0, q_n1, q_n2, q_n3, q_n4, q_n5, q_n6, q_n7, q_n10, q_n14, q_n15, q_n20, q_n60, q_n1288] at c_1; omega) (by have n_t := nI_toInt (n := t) (by omega); have m_t := q_nT (n := t) (by omega); have n_u := nI_toInt (n := u) (by omega); have m_u := q_nT (n := u) (by omega); simp only [Int32.lt_iff_toInt_lt, Int32.le_iff_toInt_le, q_n0, q_n1, q_n2, q_n3, q_n4, q_n5, q_n6, q_n7, q_n10, q_n14, q_n15, q_n20, q_n60, q_n1288] at c_1; omega) (by have n_t := nI_toInt (n := t) (by omega); have m_t := q_nT (n := t) (by omega); have n_u := nI_toInt (n := u) (by omega); have m_u := q_nT (n := u) (by omega); simp only [Int32.lt_iff_toInt_lt, Int32.le_iff_toInt_le, q_n0, q_n1, q_n2, q_n3, q_n4, q_n5, q_n6, q_n7, q_n10, q_n14, q_n15, q_n20, q_n60, q_n1288] at c_1; omega) hI hJ
      · -- no
        have h_2 : vp_in (nI u) 6 := by have n_t := nI_toInt (n := t) (by omega); have m_t := q_nT (n := t) (by omega); have n_u := nI_toInt (n := u) (by omega); have m_u := q_nT (n := u) (by omega); simp only [vp_in_iff, Int32.lt_iff_toInt_lt, Int32.le_iff_toInt_le, q_n0, q_n1, q_n2, q_n3, q_n4, q_n5, q_n6, q_n7, q_n10, q_n14, q_n15, q_n20, q_n60, q_n1288] at c_1 ⊢; omega
        have h_4 : vp_in (nI u) 6 := by have n_t := nI_toInt (n := t) (by omega); have m_t := q_nT (n := t) (by omega); have n_u := nI_toInt (n := u) (by omega); have m_u := q_nT (n := u) (by omega); simp only [vp_in_iff, Int32.lt_iff_toInt_lt, Int32.le_iff_toInt_le, q_n0, q_n1, q_n2, q_n3, q_n4, q_n5, q_n6, q_n7, q_n10, q_n14, q_n15, q_n20, q_n60, q_n1288] at c_1 ⊢; omega
        have hI_5 : xI (x_fe_goWrong S ((nI u).toNatClampNeg)) := (xI_fe_goWrong S ((nI u).toNatClampNeg) (q_lt h_4) hI hJ)
        have hJ_6 : xJ (x_fe_goWrong S ((nI u).toNatClampNeg)) := xJ_keep hJ (fun x y z hx => ((xK_fe_goWrong S ((nI u).toNatClampNeg) x y z (show x ≠ 0 by omega) (show x ≠ 3 by omega) (show x ≠ 4 by omega) (show x ≠ 9 by omega) (show x ≠ 10 by omega) (show x ≠ 11 by omega) (show x ≠ 12 by omega) (show x ≠ 13 by omega) (show x ≠ 14 by omega) (show x ≠ 15 by omega) (show x ≠ 16 by omega) (show x ≠ 17 by omega) (show x ≠ 18 by omega) (show x ≠ 19 by omega) (show x ≠ 20 by omega) (show x ≠ 21 by omega))))
        have hf : x_fe_tick_L1 (n + 1) S a t u = x_fe_tick_L1 n (x_fe_goWrong S ((nI u).toNatClampNeg)) a t (u + 1) := by rw [x_fe_tick_L1, if_neg c_1, if_neg c_3]
        rw [hf]
        have hI_905 : xI (x_fe_goWrong S ((nI u).toNatClampNeg)) := (xI_fe_goWrong S ((nI u).toNatClampNeg) (q_lt h_4) hI hJ)
        have hJ_906 : xJ (x_fe_goWrong S ((nI u).toNatClampNeg)) := xJ_keep hJ (fun x y z hx => ((xK_fe_goWrong S ((nI u).toNatClampNeg) x y z (show x ≠ 0 by omega) (show x ≠ 3 by omega) (show x ≠ 4 by omega) (show x ≠ 9 by omega) (show x ≠ 10 by omega) (show x ≠ 11 by omega) (show x ≠ 12 by omega) (show x ≠ 13 by omega) (show x ≠ 14 by omega) (show x ≠ 15 by omega) (show x ≠ 16 by omega) (show x ≠ 17 by omega) (show x ≠ 18 by omega) (show x ≠ 19 by omega) (show x ≠ 20 by omega) (show x ≠ 21 by omega))))
        exact ih (x_fe_goWrong S ((nI u).toNatClampNeg)) t (u + 1) (by have n_t := nI_toInt (n := t) (by omega); have m_t := q_nT (n := t) (by omega); have n_u := nI_toInt (n := u) (by omega); have m_u := q_nT (n := u) (by omega); simp only [Int32.lt_iff_toInt_lt, Int32.le_iff_toInt_le, q_n0, q_n1, q_n2, q_n3, q_n4, q_n5, q_n6, q_n7, q_n10, q_n14, q_n15, q_n20, q_n60, q_n1288] at c_1; omega) (by have n_t := nI_toInt (n := t) (by omega); have m_t := q_nT (n := t) (by omega); have n_u := nI_toInt (n := u) (by omega); have m_u := q_nT (n := u) (by omega); simp only [Int32.lt_iff_toInt_lt, Int32.le_iff_toInt_le, q_n0, q_n1, q_n2, q_n3, q_n4, q_n5, q_n6, q_n7, q_n10, q_n14, q_n15, q_n20, q_n60, q_n1288] at c_1; omega) (by have n_t := nI_toInt (n := t) (by omega); have m_t := q_nT (n := t) (by omega); have n_u := nI_toInt (n := u) (by omega); have m_u := q_nT (n := u) (by omega); simp only [Int32.lt_iff_toInt_lt, Int32.le_iff_toInt_le, q_n0, q_n1, q_n2, q_n3, q_n4, q_n5, q_n6, q_n7, q_n10, q_n14, q_n15, q_n20, q_n60, q_n1288] at c_1; omega) hI_905 hJ_906
def x_fe_tick_L2 : Nat → q_S → Int32 → Nat → Nat → q_S
  | 0, S, _, _, _ => S
  | n + 1, S, a, t, u =>
    if 6 ≤ nI u then
      S
    else
      if x_wf_hasSlept S ((nI u).toNatClampNeg) (q_i (S 0 0 3)) = 0 then
        x_fe_tick_L2 n S a t (u + 1)
      else
        x_fe_tick_L2 n (x_fe_happen (x_fe_remember S ((nI u).toNatClampNeg)) ((nI u).toNatClampNeg) 6 0 0) a t (u + 1)
set_option maxRecDepth 100000 in
set_option maxHeartbeats 4000000 in
theorem xL_fe_tick_L2 (l : Launch) (G : q_G) (a : Int32)  {p : Program} {e : Env} {s : State} {m : MethodId} {below : List Frame} {meth : Method} {c : Code} {Q : State → Prop} (hC : q_C xX G p m c xb_fe_tick 4 s ([.ref (q_a xX G 0 0), .int a] : List Value).toArray (q_ws (q_gw lw_tbl) xy_fe_tick xb_fe_tick 4 (some .int)) xR_fe) : ∀ (n : Nat) (S : q_S) (t : Nat) (u : Nat) (H : Heap) (locs : List Loc) (ls : Array Slot), u + n = 7 → u ≤ 6 → t ≤ 20 → xI S → xJ S → q_w xX G s S H → va_S (q_A xX G) s.heap H locs → lv_has ls 4 [(0, .ref (q_a xX G 0 0)), (1, .int a), (2, .int (nI t)), (3, .int (nI u))] → (∀ (H1 : Heap) (locs1 : List Loc) (ls1 : Array Slot), q_w xX G s (x_fe_tick_L2 n S a t u) H1 → va_S (q_A xX G) s.heap H1 locs1 → lv_has ls1 4 [(0, .ref (q_a xX G 0 0)), (1, .int a), (2, .int (nI t))] → W p l e (headSpec (q_ws (q_gw lw_tbl) xy_fe_tick xb_fe_tick 4 (some .int)) (q_rm 6)).room s m ([.ref (q_a xX G 0 0), .int a] : List Value).toArray below meth c H1 locs1 0 0 Q (F0 m 127 ls1 [])) → W p l e (headSpec (q_ws (q_gw lw_tbl) xy_fe_tick xb_fe_tick 4 (some .int)) (q_rm 6)).room s m ([.ref (q_a xX G 0 0), .int a] : List Value).toArray below meth c H locs 0 0 Q (F0 m 75 ls []) := by
  have hx := hC.1.1
  have hb := hC.1.2.1
  intro n
  induction n with
  | zero =>
    intro S t u H locs ls ht hu hw hI hJ hW hS hl kk
    exfalso
    omega
  | succ n ih =>
    intro S t u H locs ls ht hu hw hI hJ hW hS hl kk
    refine lv_iload_n hx hb xd_fe_tick_75 rfl (lv_at hl 3 rfl) ?_
    refine lv_bipush (v := 6) hx hb xd_fe_tick_76 (by decide) ?_
    refine lv_icmp_ge (tgt := 127) hx hb xd_fe_tick_78 (by decide) (fun c_1 => ?_) (fun c_1 => ?_)
    · -- taken
      have hf : x_fe_tick_L2 (n + 1) S a t u = S := by rw [x_fe_tick_L2, if_pos c_1]
      rw [hf] at kk
      exact kk H locs ls hW hS (lv_sub hl [0, 1, 2] rfl)
    · -- not taken
      refine lv_aload_n hx hb xd_fe_tick_81 rfl (lv_at hl 0 rfl) ?_
      refine xg_fe_17 hC hW 0 Nat.one_pos xd_fe_tick_82 ?_
      refine lv_iload_n hx hb xd_fe_tick_85 rfl (lv_at hl 3 rfl) ?_
      have h_2 : vp_in (nI u) 6 := by have n_t := nI_toInt (n := t) (by omega); have m_t := q_nT (n := t) (by omega); have n_u := nI_toInt (n := u) (by omega); have m_u := q_nT (n := u) (by omega); simp only [vp_in_iff, Int32.lt_iff_toInt_lt, Int32.le_iff_toInt_le, q_n0, q_n1, q_n2, q_n3, q_n4, q_n5, q_n6, q_n7, q_n10, q_n14, q_n15, q_n20, q_n60, q_n1288] at c_1 ⊢; omega
      refine xal_2 hC hW 0 Nat.one_pos h_2 xd_fe_tick_86 ?_
      refine lv_aload_n hx hb xd_fe_tick_87 rfl (lv_at hl 0 rfl) ?_
      refine xg_fe_116 hC hW 0 Nat.one_pos (rfl) xd_fe_tick_88 ?_
      refine q_calli hC hS (fun _ h => h) (q_runV (rest := []) hC hW (xC_wf_hasSlept l G S ((nI u).toNatClampNeg) (q_i (S 0 0 3)) (q_lt h_2)) (xc_fe_140 (q_rm 0) hC.1.2.2.2.2 ⟨Nat.le_of_ble_eq_true rfl, Nat.le_of_ble_eq_true rfl⟩ rfl rfl) (q_lt h_2) rfl rfl rfl hl.1 rfl (Nat.le_of_ble_eq_true rfl) xd_fe_tick_91 ⟨Nat.zero_le _, Nat.zero_le _⟩) (fun H locs hW hS => ?_)
      refine lv_if_eq (tgt := 121) hx hb xd_fe_tick_94 (by decide) (fun c_3 => ?_) (fun c_3 => ?_)
      · -- taken
        refine lv_iinc (v := nI u + 1) (lv' := [(3, .int (nI u + 1)), (0, .ref (q_a xX G 0 0)), (1, .int a), (2, .int (nI t))]) hx hb xd_fe_tick_121 hl (k := 3) rfl rfl (by decide) rfl (fun ls hl => ?_)
        refine lv_goto (tgt := 75) hx hb xd_fe_tick_124 (by decide) ?_
        have hf : x_fe_tick_L2 (n + 1) S a t u = x_fe_tick_L2 n S a t (u + 1) := by rw [x_fe_tick_L2, if_neg c_1, if_pos c_3]
        rw [hf] at kk
        have hl2 : lv_has ls 4 [(0, .ref (q_a xX G 0 0)), (1, .int a), (2, .int (nI t)), (3, .int (nI (u + 1)))] := by rw [← nI_1 u]; exact lv_sub hl [1, 2, 3, 0] rfl
        exact ih S t (u + 1) _ _ ls (by have n_t := nI_toInt (n := t) (by omega); have m_t := q_nT (n := t) (by omega); have n_u := nI_toInt (n := u) (by omega); have m_u := q_nT (n := u) (by omega); simp only [Int32.lt_iff_toInt_lt, Int32.le_iff_toInt_le, q_n0, q_n1, q_n2, q_n3, q_n4, q_n5, q_n6, q_n7, q_n10, q_n14, q_n15, q_n20, q_n60, q_n1288] at c_1; omega) (by have n_t := nI_toInt (n := t) (by omega); have m_t := q_nT (n := t) (by omega); have n_u := nI_toInt (n := u) (by omega); have m_u := q_nT (n := u) (by omega); simp only [Int32.lt_iff_toInt_lt, Int32.le_iff_toInt_le, q_n0, q_n1, q_n2, q_n3, q_n4, q_n5, q_n6, q_n7, q_n10, q_n14, q_n15, q_n20, q_n60, q_n1288] at c_1; omega) (by have n_t := nI_toInt (n := t) (by omega); have m_t := q_nT (n := t) (by omega); have n_u := nI_toInt (n := u) (by omega); have m_u := q_nT (n := u) (by omega); simp only [Int32.lt_iff_toInt_lt, Int32.le_iff_toInt_le, q_n0, q_n1, q_n2, q_n3, q_n4, q_n5, q_n6, q_n7, q_n10, q_n14, q_n15, q_n20, q_n60, q_n1288] at c_1; omega) hI hJ hW hS hl2 kk
      · -- not taken
        refine lv_aload_n hx hb xd_fe_tick_97 rfl (lv_at hl 0 rfl) ?_
        refine lv_aload_n hx hb xd_fe_tick_98 rfl (lv_at hl 0 rfl) ?_
        refine xg_fe_17 hC hW 0 Nat.one_pos xd_fe_tick_99 ?_
        refine lv_iload_n hx hb xd_fe_tick_102 rfl (lv_at hl 3 rfl) ?_
        have h_4 : vp_in (nI u) 6 := by have n_t := nI_toInt (n := t) (by omega); have m_t := q_nT (n := t) (by omega); have n_u := nI_toInt (n := u) (by omega); have m_u := q_nT (n := u) (by omega); simp only [vp_in_iff, Int32.lt_iff_toInt_lt, Int32.le_iff_toInt_le, q_n0, q_n1, q_n2, q_n3, q_n4, q_n5, q_n6, q_n7, q_n10, q_n14, q_n15, q_n20, q_n60, q_n1288] at c_1 ⊢; omega
        refine xal_2 hC hW 0 Nat.one_pos h_4 xd_fe_tick_103 ?_
        refine q_callv hC hS (fun _ h => h) (q_runV (rest := []) hC hW (xC_fe_remember l G S ((nI u).toNatClampNeg) (q_lt h_4) hI hJ) (xc_fe_89 (q_rm 4) hC.1.2.2.2.2 ⟨Nat.le_of_ble_eq_true rfl, Nat.le_of_ble_eq_true rfl⟩ rfl rfl) Nat.one_pos rfl rfl rfl hl.1 rfl (Nat.le_of_ble_eq_true rfl) xd_fe_tick_104 ⟨Nat.zero_le _, Nat.zero_le _⟩) (fun H locs hW hS => ?_)
        refine lv_aload_n hx hb xd_fe_tick_107 rfl (lv_at hl 0 rfl) ?_
        refine lv_aload_n hx hb xd_fe_tick_108 rfl (lv_at hl 0 rfl) ?_
        refine xg_fe_17 hC hW 0 Nat.one_pos xd_fe_tick_109 ?_
        refine lv_iload_n hx hb xd_fe_tick_112 rfl (lv_at hl 3 rfl) ?_
        have h_5 : vp_in (nI u) 6 := by have n_t := nI_toInt (n := t) (by omega); have m_t := q_nT (n := t) (by omega); have n_u := nI_toInt (n := u) (by omega); have m_u := q_nT (n := u) (by omega); simp only [vp_in_iff, Int32.lt_iff_toInt_lt, Int32.le_iff_toInt_le, q_n0, q_n1, q_n2, q_n3, q_n4, q_n5, q_n6, q_n7, q_n10, q_n14, q_n15, q_n20, q_n60, q_n1288] at c_1 ⊢; omega
        refine xal_2 hC hW 0 Nat.one_pos h_5 xd_fe_tick_113 ?_
        refine lv_bipush (v := 6) hx hb xd_fe_tick_114 (by decide) ?_
        refine lv_iconst (v := 0) hx hb xd_fe_tick_116 (by decide) ?_
        refine lv_iconst (v := 0) hx hb xd_fe_tick_117 (by decide) ?_
        refine W.eq (g2 := F0 m 118 ls [.int 0, .int 0, .int 6, .ref (q_a xX G 9 ((nI u).toNatClampNeg)), .ref (q_a xX G 0 0)]) rfl ?_
        have hI_6 : xI (x_fe_remember S ((nI u).toNatClampNeg)) := (xI_fe_remember S ((nI u).toNatClampNeg) (q_lt h_4) hI hJ)
        have hJ_7 : xJ (x_fe_remember S ((nI u).toNatClampNeg)) := xJ_keep hJ (fun x y z hx => ((xK_fe_remember S ((nI u).toNatClampNeg) x y z (show x ≠ 0 by omega) (show x ≠ 3 by omega) (show x ≠ 4 by omega) (show x ≠ 9 by omega) (show x ≠ 10 by omega) (show x ≠ 11 by omega) (show x ≠ 12 by omega) (show x ≠ 13 by omega) (show x ≠ 14 by omega) (show x ≠ 15 by omega) (show x ≠ 16 by omega) (show x ≠ 17 by omega) (show x ≠ 18 by omega) (show x ≠ 19 by omega) (show x ≠ 20 by omega) (show x ≠ 21 by omega))))
        refine q_callv hC hS (fun _ h => h) (q_runV (rest := []) hC hW (xC_fe_happen l G (x_fe_remember S ((nI u).toNatClampNeg)) ((nI u).toNatClampNeg) 6 0 0 (q_lt h_5) hI_6 hJ_7) (xc_fe_96 (q_rm 4) hC.1.2.2.2.2 ⟨Nat.le_of_ble_eq_true rfl, Nat.le_of_ble_eq_true rfl⟩ rfl rfl) Nat.one_pos rfl rfl rfl hl.1 rfl (Nat.le_of_ble_eq_true rfl) xd_fe_tick_118 ⟨Nat.zero_le _, Nat.zero_le _⟩) (fun H locs hW hS => ?_)
        refine lv_iinc (v := nI u + 1) (lv' := [(3, .int (nI u + 1)), (0, .ref (q_a xX G 0 0)), (1, .int a), (2, .int (nI t))]) hx hb xd_fe_tick_121 hl (k := 3) rfl rfl (by decide) rfl (fun ls hl => ?_)
        refine lv_goto (tgt := 75) hx hb xd_fe_tick_124 (by decide) ?_
        have hf : x_fe_tick_L2 (n + 1) S a t u = x_fe_tick_L2 n (x_fe_happen (x_fe_remember S ((nI u).toNatClampNeg)) ((nI u).toNatClampNeg) 6 0 0) a t (u + 1) := by rw [x_fe_tick_L2, if_neg c_1, if_neg c_3]
        rw [hf] at kk
        have hl2 : lv_has ls 4 [(0, .ref (q_a xX G 0 0)), (1, .int a), (2, .int (nI t)), (3, .int (nI (u + 1)))] := by rw [← nI_1 u]; exact lv_sub hl [1, 2, 3, 0] rfl
        have hI_8 : xI (x_fe_happen (x_fe_remember S ((nI u).toNatClampNeg)) ((nI u).toNatClampNeg) 6 0 0) := (xI_fe_happen (x_fe_remember S ((nI u).toNatClampNeg)) ((nI u).toNatClampNeg) 6 0 0 (q_lt h_5) hI_6 hJ_7)
        have hJ_9 : xJ (x_fe_happen (x_fe_remember S ((nI u).toNatClampNeg)) ((nI u).toNatClampNeg) 6 0 0) := xJ_keep hJ (fun x y z hx => ((xK_fe_happen (x_fe_remember S ((nI u).toNatClampNeg)) ((nI u).toNatClampNeg) 6 0 0 x y z (show x ≠ 0 by omega) (show x ≠ 3 by omega) (show x ≠ 4 by omega) (show x ≠ 9 by omega) (show x ≠ 10 by omega) (show x ≠ 11 by omega) (show x ≠ 12 by omega) (show x ≠ 13 by omega) (show x ≠ 14 by omega) (show x ≠ 15 by omega) (show x ≠ 16 by omega) (show x ≠ 17 by omega) (show x ≠ 18 by omega) (show x ≠ 19 by omega) (show x ≠ 20 by omega) (show x ≠ 21 by omega))).trans (((xK_fe_remember S ((nI u).toNatClampNeg) x y z (show x ≠ 0 by omega) (show x ≠ 3 by omega) (show x ≠ 4 by omega) (show x ≠ 9 by omega) (show x ≠ 10 by omega) (show x ≠ 11 by omega) (show x ≠ 12 by omega) (show x ≠ 13 by omega) (show x ≠ 14 by omega) (show x ≠ 15 by omega) (show x ≠ 16 by omega) (show x ≠ 17 by omega) (show x ≠ 18 by omega) (show x ≠ 19 by omega) (show x ≠ 20 by omega) (show x ≠ 21 by omega)))))
        exact ih (x_fe_happen (x_fe_remember S ((nI u).toNatClampNeg)) ((nI u).toNatClampNeg) 6 0 0) t (u + 1) _ _ ls (by have n_t := nI_toInt (n := t) (by omega); have m_t := q_nT (n := t) (by omega); have n_u := nI_toInt (n := u) (by omega); have m_u := q_nT (n := u) (by omega); simp only [Int32.lt_iff_toInt_lt, Int32.le_iff_toInt_le, q_n0, q_n1, q_n2, q_n3, q_n4, q_n5, q_n6, q_n7, q_n10, q_n14, q_n15, q_n20, q_n60, q_n1288] at c_1; omega) (by have n_t := nI_toInt (n := t) (by omega); have m_t := q_nT (n := t) (by omega); have n_u := nI_toInt (n := u) (by omega); have m_u := q_nT (n := u) (by omega); simp only [Int32.lt_iff_toInt_lt, Int32.le_iff_toInt_le, q_n0, q_n1, q_n2, q_n3, q_n4, q_n5, q_n6, q_n7, q_n10, q_n14, q_n15, q_n20, q_n60, q_n1288] at c_1; omega) (by have n_t := nI_toInt (n := t) (by omega); have m_t := q_nT (n := t) (by omega); have n_u := nI_toInt (n := u) (by omega); have m_u := q_nT (n := u) (by omega); simp only [Int32.lt_iff_toInt_lt, Int32.le_iff_toInt_le, q_n0, q_n1, q_n2, q_n3, q_n4, q_n5, q_n6, q_n7, q_n10, q_n14, q_n15, q_n20, q_n60, q_n1288] at c_1; omega) hI_8 hJ_9 hW hS hl2 kk
set_option maxRecDepth 100000 in
set_option maxHeartbeats 4000000 in
theorem xK_fe_tick_L2 : ∀ (n : Nat) (S : q_S) (a : Int32) (t : Nat) (u : Nat) (x y z : Nat) (h0 : x ≠ 0) (h3 : x ≠ 3) (h4 : x ≠ 4) (h9 : x ≠ 9) (h10 : x ≠ 10) (h11 : x ≠ 11) (h12 : x ≠ 12) (h13 : x ≠ 13) (h14 : x ≠ 14) (h15 : x ≠ 15) (h16 : x ≠ 16) (h17 : x ≠ 17) (h18 : x ≠ 18) (h19 : x ≠ 19) (h20 : x ≠ 20) (h21 : x ≠ 21), (x_fe_tick_L2 n S a t u) x y z = S x y z := by
  intro n
  induction n with
  | zero => intro S a t u x y z h0 h3 h4 h9 h10 h11 h12 h13 h14 h15 h16 h17 h18 h19 h20 h21; rfl
  | succ n ih =>
    intro S a t u x y z h0 h3 h4 h9 h10 h11 h12 h13 h14 h15 h16 h17 h18 h19 h20 h21
    by_cases c_1 : 6 ≤ nI u
    · -- yes
      have hf : x_fe_tick_L2 (n + 1) S a t u = S := by rw [x_fe_tick_L2, if_pos c_1]
      rw [hf]
    · -- no
      by_cases c_3 : x_wf_hasSlept S ((nI u).toNatClampNeg) (q_i (S 0 0 3)) = 0
      · -- yes
        have hf : x_fe_tick_L2 (n + 1) S a t u = x_fe_tick_L2 n S a t (u + 1) := by rw [x_fe_tick_L2, if_neg c_1, if_pos c_3]
        rw [hf]
        exact (ih S a t (u + 1) x y z h0 h3 h4 h9 h10 h11 h12 h13 h14 h15 h16 h17 h18 h19 h20 h21).trans (rfl)
      · -- no
        have hf : x_fe_tick_L2 (n + 1) S a t u = x_fe_tick_L2 n (x_fe_happen (x_fe_remember S ((nI u).toNatClampNeg)) ((nI u).toNatClampNeg) 6 0 0) a t (u + 1) := by rw [x_fe_tick_L2, if_neg c_1, if_neg c_3]
        rw [hf]
        exact (ih (x_fe_happen (x_fe_remember S ((nI u).toNatClampNeg)) ((nI u).toNatClampNeg) 6 0 0) a t (u + 1) x y z h0 h3 h4 h9 h10 h11 h12 h13 h14 h15 h16 h17 h18 h19 h20 h21).trans (((xK_fe_happen (x_fe_remember S ((nI u).toNatClampNeg)) ((nI u).toNatClampNeg) 6 0 0 x y z h0 h3 h4 h9 h10 h11 h12 h13 h14 h15 h16 h17 h18 h19 h20 h21)).trans (((xK_fe_remember S ((nI u).toNatClampNeg) x y z h0 h3 h4 h9 h10 h11 h12 h13 h14 h15 h16 h17 h18 h19 h20 h21))))
set_option maxRecDepth 100000 in
set_option maxHeartbeats 4000000 in
theorem xI_fe_tick_L2 (a : Int32)  : ∀ (n : Nat) (S : q_S) (t : Nat) (u : Nat), u + n = 7 → u ≤ 6 → t ≤ 20 → xI S → xJ S → xI (x_fe_tick_L2 n S a t u) := by
  intro n
  induction n with
  | zero =>
    intro S t u ht hu hw hI hJ
    exfalso
    omega
  | succ n ih =>
    intro S t u ht hu hw hI hJ
    by_cases c_1 : 6 ≤ nI u
    · -- yes
      have hf : x_fe_tick_L2 (n + 1) S a t u = S := by rw [x_fe_tick_L2, if_pos c_1]
      rw [hf]
      exact hI
    · -- no
      by_cases c_3 : x_wf_hasSlept S ((nI u).toNatClampNeg) (q_i (S 0 0 3)) = 0
      · -- yes
        have h_2 : vp_in (nI u) 6 := by have n_t := nI_toInt (n := t) (by omega); have m_t := q_nT (n := t) (by omega); have n_u := nI_toInt (n := u) (by omega); have m_u := q_nT (n := u) (by omega); simp only [vp_in_iff, Int32.lt_iff_toInt_lt, Int32.le_iff_toInt_le, q_n0, q_n1, q_n2, q_n3, q_n4, q_n5, q_n6, q_n7, q_n10, q_n14, q_n15, q_n20, q_n60, q_n1288] at c_1 ⊢; omega
        have hf : x_fe_tick_L2 (n + 1) S a t u = x_fe_tick_L2 n S a t (u + 1) := by rw [x_fe_tick_L2, if_neg c_1, if_pos c_3]
        rw [hf]
        exact ih S t (u + 1) (by have n_t := nI_toInt (n := t) (by omega); have m_t := q_nT (n := t) (by omega); have n_u := nI_toInt (n := u) (by omega); have m_u := q_nT (n := u) (by omega); simp only [Int32.lt_iff_toInt_lt, Int32.le_iff_toInt_le, q_n0, q_n1, q_n2, q_n3, q_n4, q_n5, q_n6, q_n7, q_n10, q_n14, q_n15, q_n20, q_n60, q_n1288] at c_1; omega) (by have n_t := nI_toInt (n := t) (by omega); have m_t := q_nT (n := t) (by omega); have n_u := nI_toInt (n := u) (by omega); have m_u := q_nT (n := u) (by omega); simp only [Int32.lt_iff_toInt_lt, Int32.le_iff_toInt_le, q_n0, q_n1, q_n2, q_n3, q_n4, q_n5, q_n6, q_n7, q_n10, q_n14, q_n15, q_n20, q_n60, q_n1288] at c_1; omega) (by have n_t := nI_toInt (n := t) (by omega); have m_t := q_nT (n := t) (by omega); have n_u := nI_toInt (n := u) (by omega); have m_u := q_nT (n := u) (by omega); simp only [Int32.lt_iff_toInt_lt, Int32.le_iff_toInt_le, q_n0, q_n1, q_n2, q_n3, q_n4, q_n5, q_n6, q_n7, q_n10, q_n14, q_n15, q_n20, q_n60, q_n1288] at c_1; omega) hI hJ
      · -- no
        have h_2 : vp_in (nI u) 6 := by have n_t := nI_toInt (n := t) (by omega); have m_t := q_nT (n := t) (by omega); have n_u := nI_toInt (n := u) (by omega); have m_u := q_nT (n := u) (by omega); simp only [vp_in_iff, Int32.lt_iff_toInt_lt, Int32.le_iff_toInt_le, q_n0, q_n1, q_n2, q_n3, q_n4, q_n5, q_n6, q_n7, q_n10, q_n14, q_n15, q_n20, q_n60, q_n1288] at c_1 ⊢; omega
        have h_4 : vp_in (nI u) 6 := by have n_t := nI_toInt (n := t) (by omega); have m_t := q_nT (n := t) (by omega); have n_u := nI_toInt (n := u) (by omega); have m_u := q_nT (n := u) (by omega); simp only [vp_in_iff, Int32.lt_iff_toInt_lt, Int32.le_iff_toInt_le, q_n0, q_n1, q_n2, q_n3, q_n4, q_n5, q_n6, q_n7, q_n10, q_n14, q_n15, q_n20, q_n60, q_n1288] at c_1 ⊢; omega
        have h_5 : vp_in (nI u) 6 := by have n_t := nI_toInt (n := t) (by omega); have m_t := q_nT (n := t) (by omega); have n_u := nI_toInt (n := u) (by omega); have m_u := q_nT (n := u) (by omega); simp only [vp_in_iff, Int32.lt_iff_toInt_lt, Int32.le_iff_toInt_le, q_n0, q_n1, q_n2, q_n3, q_n4, q_n5, q_n6, q_n7, q_n10, q_n14, q_n15, q_n20, q_n60, q_n1288] at c_1 ⊢; omega
        have hI_6 : xI (x_fe_remember S ((nI u).toNatClampNeg)) := (xI_fe_remember S ((nI u).toNatClampNeg) (q_lt h_4) hI hJ)
        have hJ_7 : xJ (x_fe_remember S ((nI u).toNatClampNeg)) := xJ_keep hJ (fun x y z hx => ((xK_fe_remember S ((nI u).toNatClampNeg) x y z (show x ≠ 0 by omega) (show x ≠ 3 by omega) (show x ≠ 4 by omega) (show x ≠ 9 by omega) (show x ≠ 10 by omega) (show x ≠ 11 by omega) (show x ≠ 12 by omega) (show x ≠ 13 by omega) (show x ≠ 14 by omega) (show x ≠ 15 by omega) (show x ≠ 16 by omega) (show x ≠ 17 by omega) (show x ≠ 18 by omega) (show x ≠ 19 by omega) (show x ≠ 20 by omega) (show x ≠ 21 by omega))))
        have hI_8 : xI (x_fe_happen (x_fe_remember S ((nI u).toNatClampNeg)) ((nI u).toNatClampNeg) 6 0 0) := (xI_fe_happen (x_fe_remember S ((nI u).toNatClampNeg)) ((nI u).toNatClampNeg) 6 0 0 (q_lt h_5) hI_6 hJ_7)
        have hJ_9 : xJ (x_fe_happen (x_fe_remember S ((nI u).toNatClampNeg)) ((nI u).toNatClampNeg) 6 0 0) := xJ_keep hJ (fun x y z hx => ((xK_fe_happen (x_fe_remember S ((nI u).toNatClampNeg)) ((nI u).toNatClampNeg) 6 0 0 x y z (show x ≠ 0 by omega) (show x ≠ 3 by omega) (show x ≠ 4 by omega) (show x ≠ 9 by omega) (show x ≠ 10 by omega) (show x ≠ 11 by omega) (show x ≠ 12 by omega) (show x ≠ 13 by omega) (show x ≠ 14 by omega) (show x ≠ 15 by omega) (show x ≠ 16 by omega) (show x ≠ 17 by omega) (show x ≠ 18 by omega) (show x ≠ 19 by omega) (show x ≠ 20 by omega) (show x ≠ 21 by omega))).trans (((xK_fe_remember S ((nI u).toNatClampNeg) x y z (show x ≠ 0 by omega) (show x ≠ 3 by omega) (show x ≠ 4 by omega) (show x ≠ 9 by omega) (show x ≠ 10 by omega) (show x ≠ 11 by omega) (show x ≠ 12 by omega) (show x ≠ 13 by omega) (show x ≠ 14 by omega) (show x ≠ 15 by omega) (show x ≠ 16 by omega) (show x ≠ 17 by omega) (show x ≠ 18 by omega) (show x ≠ 19 by omega) (show x ≠ 20 by omega) (show x ≠ 21 by omega)))))
        have hf : x_fe_tick_L2 (n + 1) S a t u = x_fe_tick_L2 n (x_fe_happen (x_fe_remember S ((nI u).toNatClampNeg)) ((nI u).toNatClampNeg) 6 0 0) a t (u + 1) := by rw [x_fe_tick_L2, if_neg c_1, if_neg c_3]
        rw [hf]
        have hI_905 : xI (x_fe_happen (x_fe_remember S ((nI u).toNatClampNeg)) ((nI u).toNatClampNeg) 6 0 0) := (xI_fe_happen (x_fe_remember S ((nI u).toNatClampNeg)) ((nI u).toNatClampNeg) 6 0 0 (q_lt h_5) hI_6 hJ_7)
        have hJ_906 : xJ (x_fe_happen (x_fe_remember S ((nI u).toNatClampNeg)) ((nI u).toNatClampNeg) 6 0 0) := xJ_keep hJ (fun x y z hx => ((xK_fe_happen (x_fe_remember S ((nI u).toNatClampNeg)) ((nI u).toNatClampNeg) 6 0 0 x y z (show x ≠ 0 by omega) (show x ≠ 3 by omega) (show x ≠ 4 by omega) (show x ≠ 9 by omega) (show x ≠ 10 by omega) (show x ≠ 11 by omega) (show x ≠ 12 by omega) (show x ≠ 13 by omega) (show x ≠ 14 by omega) (show x ≠ 15 by omega) (show x ≠ 16 by omega) (show x ≠ 17 by omega) (show x ≠ 18 by omega) (show x ≠ 19 by omega) (show x ≠ 20 by omega) (show x ≠ 21 by omega))).trans (((xK_fe_remember S ((nI u).toNatClampNeg) x y z (show x ≠ 0 by omega) (show x ≠ 3 by omega) (show x ≠ 4 by omega) (show x ≠ 9 by omega) (show x ≠ 10 by omega) (show x ≠ 11 by omega) (show x ≠ 12 by omega) (show x ≠ 13 by omega) (show x ≠ 14 by omega) (show x ≠ 15 by omega) (show x ≠ 16 by omega) (show x ≠ 17 by omega) (show x ≠ 18 by omega) (show x ≠ 19 by omega) (show x ≠ 20 by omega) (show x ≠ 21 by omega)))))
        exact ih (x_fe_happen (x_fe_remember S ((nI u).toNatClampNeg)) ((nI u).toNatClampNeg) 6 0 0) t (u + 1) (by have n_t := nI_toInt (n := t) (by omega); have m_t := q_nT (n := t) (by omega); have n_u := nI_toInt (n := u) (by omega); have m_u := q_nT (n := u) (by omega); simp only [Int32.lt_iff_toInt_lt, Int32.le_iff_toInt_le, q_n0, q_n1, q_n2, q_n3, q_n4, q_n5, q_n6, q_n7, q_n10, q_n14, q_n15, q_n20, q_n60, q_n1288] at c_1; omega) (by have n_t := nI_toInt (n := t) (by omega); have m_t := q_nT (n := t) (by omega); have n_u := nI_toInt (n := u) (by omega); have m_u := q_nT (n := u) (by omega); simp only [Int32.lt_iff_toInt_lt, Int32.le_iff_toInt_le, q_n0, q_n1, q_n2, q_n3, q_n4, q_n5, q_n6, q_n7, q_n10, q_n14, q_n15, q_n20, q_n60, q_n1288] at c_1; omega) (by have n_t := nI_toInt (n := t) (by omega); have m_t := q_nT (n := t) (by omega); have n_u := nI_toInt (n := u) (by omega); have m_u := q_nT (n := u) (by omega); simp only [Int32.lt_iff_toInt_lt, Int32.le_iff_toInt_le, q_n0, q_n1, q_n2, q_n3, q_n4, q_n5, q_n6, q_n7, q_n10, q_n14, q_n15, q_n20, q_n60, q_n1288] at c_1; omega) hI_905 hJ_906
def x_fe_tick_L0 : Nat → q_S → Int32 → Nat → Int32 × q_S
  | 0, S, _, _ => (0, S)
  | n + 1, S, a, t =>
    if a ≤ nI t then
      (q_i (S 0 0 3), S)
    else
      x_fe_tick_L0 n (x_fe_tick_L2 7 (x_fe_tick_L1 7 (q_st S 0 0 3 (.int ((q_i (S 0 0 3)) + 1))) a t 0) a t 0) a (t + 1)
set_option maxRecDepth 100000 in
set_option maxHeartbeats 4000000 in
theorem xL_fe_tick_L0 (l : Launch) (G : q_G) (a : Int32)  {p : Program} {e : Env} {s : State} {m : MethodId} {below : List Frame} {meth : Method} {c : Code} (hC : q_C xX G p m c xb_fe_tick 4 s ([.ref (q_a xX G 0 0), .int a] : List Value).toArray (q_ws (q_gw lw_tbl) xy_fe_tick xb_fe_tick 4 (some .int)) xR_fe) (hr : meth.sig.returnType = (some .int)) (hlocks : meth.locks = false) : ∀ (n : Nat) (S : q_S) (t : Nat) (H : Heap) (locs : List Loc) (ls : Array Slot), t + n = 21 → t ≤ 20 → a.toInt ≤ 20 → xI S → xJ S → q_w xX G s S H → va_S (q_A xX G) s.heap H locs → lv_has ls 4 [(0, .ref (q_a xX G 0 0)), (1, .int a), (2, .int (nI t))] → W p l e (headSpec (q_ws (q_gw lw_tbl) xy_fe_tick xb_fe_tick 4 (some .int)) (q_rm 6)).room s m ([.ref (q_a xX G 0 0), .int a] : List Value).toArray below meth c H locs 0 0 (MQ below (va_Qi (fun (r' : Int32) (u : q_S) => r' = (x_fe_tick_L0 n S a t).1 ∧ u = (x_fe_tick_L0 n S a t).2) (q_P xX G) (q_A xX G)) ([.ref (q_a xX G 0 0), .int a] : List Value).toArray s 0 0 (q_A xX G)) (F0 m 15 ls []) := by
  have hx := hC.1.1
  have hb := hC.1.2.1
  intro n
  induction n with
  | zero =>
    intro S t H locs ls ht hw ha hI hJ hW hS hl
    exfalso
    omega
  | succ n ih =>
    intro S t H locs ls ht hw ha hI hJ hW hS hl
    refine lv_iload_n hx hb xd_fe_tick_15 rfl (lv_at hl 2 rfl) ?_
    refine lv_iload_n hx hb xd_fe_tick_16 rfl (lv_at hl 1 rfl) ?_
    refine lv_icmp_ge (tgt := 133) hx hb xd_fe_tick_17 (by decide) (fun c_1 => ?_) (fun c_1 => ?_)
    · -- taken
      refine lv_aload_n hx hb xd_fe_tick_133 rfl (lv_at hl 0 rfl) ?_
      refine xg_fe_116 hC hW 0 Nat.one_pos (rfl) xd_fe_tick_134 ?_
      have hf : x_fe_tick_L0 (n + 1) S a t = (q_i (S 0 0 3), S) := by rw [x_fe_tick_L0, if_pos c_1]
      rw [hf]
      exact q_iret hC hr hlocks hW hS rfl rfl xd_fe_tick_137
    · -- not taken
      refine lv_aload_n hx hb xd_fe_tick_20 rfl (lv_at hl 0 rfl) ?_
      refine lv_dup hx hb xd_fe_tick_21 rfl ?_
      refine xg_fe_116 hC hW 0 Nat.one_pos (rfl) xd_fe_tick_22 ?_
      refine lv_iconst (v := 1) hx hb xd_fe_tick_25 (by decide) ?_
      refine lv_iadd hx hb xd_fe_tick_26 ?_
      refine xg_fe_116p hC hW hS (fun _ h => h) 0 Nat.one_pos xd_fe_tick_27 (fun H locs hW hS => ?_)
      refine lv_iconst (v := 0) hx hb xd_fe_tick_30 (by decide) ?_
      refine lv_istore_n (lv' := [(3, .int 0), (0, .ref (q_a xX G 0 0)), (1, .int a), (2, .int (nI t))]) hx hb xd_fe_tick_31 rfl hl (by decide) rfl (fun ls hl => ?_)
      have hl2 : lv_has ls 4 [(0, .ref (q_a xX G 0 0)), (1, .int a), (2, .int (nI t)), (3, .int (nI 0))] := by rw [(show nI 0 = 0 from rfl)]; exact lv_sub hl [1, 2, 3, 0] rfl
      have hI_2 : xI (q_st S 0 0 3 (.int ((q_i (S 0 0 3)) + 1))) := (q_Is hI rfl)
      have hJ_3 : xJ (q_st S 0 0 3 (.int ((q_i (S 0 0 3)) + 1))) := xJ_keep hJ (fun x y z hx => (q_kj (show x ≠ 0 by omega)))
      refine xL_fe_tick_L1 l G a  hC 7 (q_st S 0 0 3 (.int ((q_i (S 0 0 3)) + 1))) t 0 _ _ ls (by have n_t := nI_toInt (n := t) (by omega); have m_t := q_nT (n := t) (by omega); simp only [Int32.lt_iff_toInt_lt, Int32.le_iff_toInt_le, q_n0, q_n1, q_n2, q_n3, q_n4, q_n5, q_n6, q_n7, q_n10, q_n14, q_n15, q_n20, q_n60, q_n1288] at c_1; omega) (by have n_t := nI_toInt (n := t) (by omega); have m_t := q_nT (n := t) (by omega); simp only [Int32.lt_iff_toInt_lt, Int32.le_iff_toInt_le, q_n0, q_n1, q_n2, q_n3, q_n4, q_n5, q_n6, q_n7, q_n10, q_n14, q_n15, q_n20, q_n60, q_n1288] at c_1; omega) (by have n_t := nI_toInt (n := t) (by omega); have m_t := q_nT (n := t) (by omega); simp only [Int32.lt_iff_toInt_lt, Int32.le_iff_toInt_le, q_n0, q_n1, q_n2, q_n3, q_n4, q_n5, q_n6, q_n7, q_n10, q_n14, q_n15, q_n20, q_n60, q_n1288] at c_1; omega) hI_2 hJ_3 hW hS hl2 (fun H locs ls hW hS hl => ?_)
      refine lv_iconst (v := 0) hx hb xd_fe_tick_73 (by decide) ?_
      refine lv_istore_n (lv' := [(3, .int 0), (0, .ref (q_a xX G 0 0)), (1, .int a), (2, .int (nI t))]) hx hb xd_fe_tick_74 rfl hl (by decide) rfl (fun ls hl => ?_)
      have hl2 : lv_has ls 4 [(0, .ref (q_a xX G 0 0)), (1, .int a), (2, .int (nI t)), (3, .int (nI 0))] := by rw [(show nI 0 = 0 from rfl)]; exact lv_sub hl [1, 2, 3, 0] rfl
      have hI_4 : xI (x_fe_tick_L1 7 (q_st S 0 0 3 (.int ((q_i (S 0 0 3)) + 1))) a t 0) := (xI_fe_tick_L1 a  7 (q_st S 0 0 3 (.int ((q_i (S 0 0 3)) + 1))) t 0 (by have n_t := nI_toInt (n := t) (by omega); have m_t := q_nT (n := t) (by omega); simp only [Int32.lt_iff_toInt_lt, Int32.le_iff_toInt_le, q_n0, q_n1, q_n2, q_n3, q_n4, q_n5, q_n6, q_n7, q_n10, q_n14, q_n15, q_n20, q_n60, q_n1288] at c_1; omega) (by have n_t := nI_toInt (n := t) (by omega); have m_t := q_nT (n := t) (by omega); simp only [Int32.lt_iff_toInt_lt, Int32.le_iff_toInt_le, q_n0, q_n1, q_n2, q_n3, q_n4, q_n5, q_n6, q_n7, q_n10, q_n14, q_n15, q_n20, q_n60, q_n1288] at c_1; omega) (by have n_t := nI_toInt (n := t) (by omega); have m_t := q_nT (n := t) (by omega); simp only [Int32.lt_iff_toInt_lt, Int32.le_iff_toInt_le, q_n0, q_n1, q_n2, q_n3, q_n4, q_n5, q_n6, q_n7, q_n10, q_n14, q_n15, q_n20, q_n60, q_n1288] at c_1; omega) hI_2 hJ_3)
      have hJ_5 : xJ (x_fe_tick_L1 7 (q_st S 0 0 3 (.int ((q_i (S 0 0 3)) + 1))) a t 0) := xJ_keep hJ (fun x y z hx => ((xK_fe_tick_L1 7 (q_st S 0 0 3 (.int ((q_i (S 0 0 3)) + 1))) a t 0 x y z (show x ≠ 0 by omega) (show x ≠ 3 by omega) (show x ≠ 4 by omega) (show x ≠ 9 by omega) (show x ≠ 10 by omega) (show x ≠ 11 by omega) (show x ≠ 12 by omega) (show x ≠ 13 by omega) (show x ≠ 14 by omega) (show x ≠ 15 by omega) (show x ≠ 16 by omega) (show x ≠ 17 by omega) (show x ≠ 18 by omega) (show x ≠ 19 by omega) (show x ≠ 20 by omega) (show x ≠ 21 by omega))).trans ((q_kj (show x ≠ 0 by omega))))
      refine xL_fe_tick_L2 l G a  hC 7 (x_fe_tick_L1 7 (q_st S 0 0 3 (.int ((q_i (S 0 0 3)) + 1))) a t 0) t 0 _ _ ls (by have n_t := nI_toInt (n := t) (by omega); have m_t := q_nT (n := t) (by omega); simp only [Int32.lt_iff_toInt_lt, Int32.le_iff_toInt_le, q_n0, q_n1, q_n2, q_n3, q_n4, q_n5, q_n6, q_n7, q_n10, q_n14, q_n15, q_n20, q_n60, q_n1288] at c_1; omega) (by have n_t := nI_toInt (n := t) (by omega); have m_t := q_nT (n := t) (by omega); simp only [Int32.lt_iff_toInt_lt, Int32.le_iff_toInt_le, q_n0, q_n1, q_n2, q_n3, q_n4, q_n5, q_n6, q_n7, q_n10, q_n14, q_n15, q_n20, q_n60, q_n1288] at c_1; omega) (by have n_t := nI_toInt (n := t) (by omega); have m_t := q_nT (n := t) (by omega); simp only [Int32.lt_iff_toInt_lt, Int32.le_iff_toInt_le, q_n0, q_n1, q_n2, q_n3, q_n4, q_n5, q_n6, q_n7, q_n10, q_n14, q_n15, q_n20, q_n60, q_n1288] at c_1; omega) hI_4 hJ_5 hW hS hl2 (fun H locs ls hW hS hl => ?_)
      refine lv_iinc (v := nI t + 1) (lv' := [(2, .int (nI t + 1)), (0, .ref (q_a xX G 0 0)), (1, .int a)]) hx hb xd_fe_tick_127 hl (k := 2) rfl rfl (by decide) rfl (fun ls hl => ?_)
      refine lv_goto (tgt := 15) hx hb xd_fe_tick_130 (by decide) ?_
      have hf : x_fe_tick_L0 (n + 1) S a t = x_fe_tick_L0 n (x_fe_tick_L2 7 (x_fe_tick_L1 7 (q_st S 0 0 3 (.int ((q_i (S 0 0 3)) + 1))) a t 0) a t 0) a (t + 1) := by rw [x_fe_tick_L0, if_neg c_1]
      rw [hf]
      have hl2 : lv_has ls 4 [(0, .ref (q_a xX G 0 0)), (1, .int a), (2, .int (nI (t + 1)))] := by rw [← nI_1 t]; exact lv_sub hl [1, 2, 0] rfl
      have hI_6 : xI (x_fe_tick_L2 7 (x_fe_tick_L1 7 (q_st S 0 0 3 (.int ((q_i (S 0 0 3)) + 1))) a t 0) a t 0) := (xI_fe_tick_L2 a  7 (x_fe_tick_L1 7 (q_st S 0 0 3 (.int ((q_i (S 0 0 3)) + 1))) a t 0) t 0 (by have n_t := nI_toInt (n := t) (by omega); have m_t := q_nT (n := t) (by omega); simp only [Int32.lt_iff_toInt_lt, Int32.le_iff_toInt_le, q_n0, q_n1, q_n2, q_n3, q_n4, q_n5, q_n6, q_n7, q_n10, q_n14, q_n15, q_n20, q_n60, q_n1288] at c_1; omega) (by have n_t := nI_toInt (n := t) (by omega); have m_t := q_nT (n := t) (by omega); simp only [Int32.lt_iff_toInt_lt, Int32.le_iff_toInt_le, q_n0, q_n1, q_n2, q_n3, q_n4, q_n5, q_n6, q_n7, q_n10, q_n14, q_n15, q_n20, q_n60, q_n1288] at c_1; omega) (by have n_t := nI_toInt (n := t) (by omega); have m_t := q_nT (n := t) (by omega); simp only [Int32.lt_iff_toInt_lt, Int32.le_iff_toInt_le, q_n0, q_n1, q_n2, q_n3, q_n4, q_n5, q_n6, q_n7, q_n10, q_n14, q_n15, q_n20, q_n60, q_n1288] at c_1; omega) hI_4 hJ_5)
      have hJ_7 : xJ (x_fe_tick_L2 7 (x_fe_tick_L1 7 (q_st S 0 0 3 (.int ((q_i (S 0 0 3)) + 1))) a t 0) a t 0) := xJ_keep hJ (fun x y z hx => ((xK_fe_tick_L2 7 (x_fe_tick_L1 7 (q_st S 0 0 3 (.int ((q_i (S 0 0 3)) + 1))) a t 0) a t 0 x y z (show x ≠ 0 by omega) (show x ≠ 3 by omega) (show x ≠ 4 by omega) (show x ≠ 9 by omega) (show x ≠ 10 by omega) (show x ≠ 11 by omega) (show x ≠ 12 by omega) (show x ≠ 13 by omega) (show x ≠ 14 by omega) (show x ≠ 15 by omega) (show x ≠ 16 by omega) (show x ≠ 17 by omega) (show x ≠ 18 by omega) (show x ≠ 19 by omega) (show x ≠ 20 by omega) (show x ≠ 21 by omega))).trans (((xK_fe_tick_L1 7 (q_st S 0 0 3 (.int ((q_i (S 0 0 3)) + 1))) a t 0 x y z (show x ≠ 0 by omega) (show x ≠ 3 by omega) (show x ≠ 4 by omega) (show x ≠ 9 by omega) (show x ≠ 10 by omega) (show x ≠ 11 by omega) (show x ≠ 12 by omega) (show x ≠ 13 by omega) (show x ≠ 14 by omega) (show x ≠ 15 by omega) (show x ≠ 16 by omega) (show x ≠ 17 by omega) (show x ≠ 18 by omega) (show x ≠ 19 by omega) (show x ≠ 20 by omega) (show x ≠ 21 by omega))).trans ((q_kj (show x ≠ 0 by omega)))))
      exact ih (x_fe_tick_L2 7 (x_fe_tick_L1 7 (q_st S 0 0 3 (.int ((q_i (S 0 0 3)) + 1))) a t 0) a t 0) (t + 1) _ _ ls (by have n_t := nI_toInt (n := t) (by omega); have m_t := q_nT (n := t) (by omega); simp only [Int32.lt_iff_toInt_lt, Int32.le_iff_toInt_le, q_n0, q_n1, q_n2, q_n3, q_n4, q_n5, q_n6, q_n7, q_n10, q_n14, q_n15, q_n20, q_n60, q_n1288] at c_1; omega) (by have n_t := nI_toInt (n := t) (by omega); have m_t := q_nT (n := t) (by omega); simp only [Int32.lt_iff_toInt_lt, Int32.le_iff_toInt_le, q_n0, q_n1, q_n2, q_n3, q_n4, q_n5, q_n6, q_n7, q_n10, q_n14, q_n15, q_n20, q_n60, q_n1288] at c_1; omega) (by have n_t := nI_toInt (n := t) (by omega); have m_t := q_nT (n := t) (by omega); simp only [Int32.lt_iff_toInt_lt, Int32.le_iff_toInt_le, q_n0, q_n1, q_n2, q_n3, q_n4, q_n5, q_n6, q_n7, q_n10, q_n14, q_n15, q_n20, q_n60, q_n1288] at c_1; omega) hI_6 hJ_7 hW hS hl2
set_option maxRecDepth 100000 in
set_option maxHeartbeats 4000000 in
theorem xK_fe_tick_L0 : ∀ (n : Nat) (S : q_S) (a : Int32) (t : Nat) (x y z : Nat) (h0 : x ≠ 0) (h3 : x ≠ 3) (h4 : x ≠ 4) (h9 : x ≠ 9) (h10 : x ≠ 10) (h11 : x ≠ 11) (h12 : x ≠ 12) (h13 : x ≠ 13) (h14 : x ≠ 14) (h15 : x ≠ 15) (h16 : x ≠ 16) (h17 : x ≠ 17) (h18 : x ≠ 18) (h19 : x ≠ 19) (h20 : x ≠ 20) (h21 : x ≠ 21), (x_fe_tick_L0 n S a t).2 x y z = S x y z := by
  intro n
  induction n with
  | zero => intro S a t x y z h0 h3 h4 h9 h10 h11 h12 h13 h14 h15 h16 h17 h18 h19 h20 h21; rfl
  | succ n ih =>
    intro S a t x y z h0 h3 h4 h9 h10 h11 h12 h13 h14 h15 h16 h17 h18 h19 h20 h21
    by_cases c_1 : a ≤ nI t
    · -- yes
      have hf : x_fe_tick_L0 (n + 1) S a t = (q_i (S 0 0 3), S) := by rw [x_fe_tick_L0, if_pos c_1]
      rw [hf]
    · -- no
      have hf : x_fe_tick_L0 (n + 1) S a t = x_fe_tick_L0 n (x_fe_tick_L2 7 (x_fe_tick_L1 7 (q_st S 0 0 3 (.int ((q_i (S 0 0 3)) + 1))) a t 0) a t 0) a (t + 1) := by rw [x_fe_tick_L0, if_neg c_1]
      rw [hf]
      exact (ih (x_fe_tick_L2 7 (x_fe_tick_L1 7 (q_st S 0 0 3 (.int ((q_i (S 0 0 3)) + 1))) a t 0) a t 0) a (t + 1) x y z h0 h3 h4 h9 h10 h11 h12 h13 h14 h15 h16 h17 h18 h19 h20 h21).trans (((xK_fe_tick_L2 7 (x_fe_tick_L1 7 (q_st S 0 0 3 (.int ((q_i (S 0 0 3)) + 1))) a t 0) a t 0 x y z h0 h3 h4 h9 h10 h11 h12 h13 h14 h15 h16 h17 h18 h19 h20 h21)).trans (((xK_fe_tick_L1 7 (q_st S 0 0 3 (.int ((q_i (S 0 0 3)) + 1))) a t 0 x y z h0 h3 h4 h9 h10 h11 h12 h13 h14 h15 h16 h17 h18 h19 h20 h21)).trans ((q_kj h0))))
set_option maxRecDepth 100000 in
set_option maxHeartbeats 4000000 in
theorem xI_fe_tick_L0 (a : Int32)  : ∀ (n : Nat) (S : q_S) (t : Nat), t + n = 21 → t ≤ 20 → a.toInt ≤ 20 → xI S → xJ S → xI ((x_fe_tick_L0 n S a t).2) := by
  intro n
  induction n with
  | zero =>
    intro S t ht hw ha hI hJ
    exfalso
    omega
  | succ n ih =>
    intro S t ht hw ha hI hJ
    by_cases c_1 : a ≤ nI t
    · -- yes
      have hf : x_fe_tick_L0 (n + 1) S a t = (q_i (S 0 0 3), S) := by rw [x_fe_tick_L0, if_pos c_1]
      rw [hf]
      exact hI
    · -- no
      have hI_2 : xI (q_st S 0 0 3 (.int ((q_i (S 0 0 3)) + 1))) := (q_Is hI rfl)
      have hJ_3 : xJ (q_st S 0 0 3 (.int ((q_i (S 0 0 3)) + 1))) := xJ_keep hJ (fun x y z hx => (q_kj (show x ≠ 0 by omega)))
      have hI_4 : xI (x_fe_tick_L1 7 (q_st S 0 0 3 (.int ((q_i (S 0 0 3)) + 1))) a t 0) := (xI_fe_tick_L1 a  7 (q_st S 0 0 3 (.int ((q_i (S 0 0 3)) + 1))) t 0 (by have n_t := nI_toInt (n := t) (by omega); have m_t := q_nT (n := t) (by omega); simp only [Int32.lt_iff_toInt_lt, Int32.le_iff_toInt_le, q_n0, q_n1, q_n2, q_n3, q_n4, q_n5, q_n6, q_n7, q_n10, q_n14, q_n15, q_n20, q_n60, q_n1288] at c_1; omega) (by have n_t := nI_toInt (n := t) (by omega); have m_t := q_nT (n := t) (by omega); simp only [Int32.lt_iff_toInt_lt, Int32.le_iff_toInt_le, q_n0, q_n1, q_n2, q_n3, q_n4, q_n5, q_n6, q_n7, q_n10, q_n14, q_n15, q_n20, q_n60, q_n1288] at c_1; omega) (by have n_t := nI_toInt (n := t) (by omega); have m_t := q_nT (n := t) (by omega); simp only [Int32.lt_iff_toInt_lt, Int32.le_iff_toInt_le, q_n0, q_n1, q_n2, q_n3, q_n4, q_n5, q_n6, q_n7, q_n10, q_n14, q_n15, q_n20, q_n60, q_n1288] at c_1; omega) hI_2 hJ_3)
      have hJ_5 : xJ (x_fe_tick_L1 7 (q_st S 0 0 3 (.int ((q_i (S 0 0 3)) + 1))) a t 0) := xJ_keep hJ (fun x y z hx => ((xK_fe_tick_L1 7 (q_st S 0 0 3 (.int ((q_i (S 0 0 3)) + 1))) a t 0 x y z (show x ≠ 0 by omega) (show x ≠ 3 by omega) (show x ≠ 4 by omega) (show x ≠ 9 by omega) (show x ≠ 10 by omega) (show x ≠ 11 by omega) (show x ≠ 12 by omega) (show x ≠ 13 by omega) (show x ≠ 14 by omega) (show x ≠ 15 by omega) (show x ≠ 16 by omega) (show x ≠ 17 by omega) (show x ≠ 18 by omega) (show x ≠ 19 by omega) (show x ≠ 20 by omega) (show x ≠ 21 by omega))).trans ((q_kj (show x ≠ 0 by omega))))
      have hI_6 : xI (x_fe_tick_L2 7 (x_fe_tick_L1 7 (q_st S 0 0 3 (.int ((q_i (S 0 0 3)) + 1))) a t 0) a t 0) := (xI_fe_tick_L2 a  7 (x_fe_tick_L1 7 (q_st S 0 0 3 (.int ((q_i (S 0 0 3)) + 1))) a t 0) t 0 (by have n_t := nI_toInt (n := t) (by omega); have m_t := q_nT (n := t) (by omega); simp only [Int32.lt_iff_toInt_lt, Int32.le_iff_toInt_le, q_n0, q_n1, q_n2, q_n3, q_n4, q_n5, q_n6, q_n7, q_n10, q_n14, q_n15, q_n20, q_n60, q_n1288] at c_1; omega) (by have n_t := nI_toInt (n := t) (by omega); have m_t := q_nT (n := t) (by omega); simp only [Int32.lt_iff_toInt_lt, Int32.le_iff_toInt_le, q_n0, q_n1, q_n2, q_n3, q_n4, q_n5, q_n6, q_n7, q_n10, q_n14, q_n15, q_n20, q_n60, q_n1288] at c_1; omega) (by have n_t := nI_toInt (n := t) (by omega); have m_t := q_nT (n := t) (by omega); simp only [Int32.lt_iff_toInt_lt, Int32.le_iff_toInt_le, q_n0, q_n1, q_n2, q_n3, q_n4, q_n5, q_n6, q_n7, q_n10, q_n14, q_n15, q_n20, q_n60, q_n1288] at c_1; omega) hI_4 hJ_5)
      have hJ_7 : xJ (x_fe_tick_L2 7 (x_fe_tick_L1 7 (q_st S 0 0 3 (.int ((q_i (S 0 0 3)) + 1))) a t 0) a t 0) := xJ_keep hJ (fun x y z hx => ((xK_fe_tick_L2 7 (x_fe_tick_L1 7 (q_st S 0 0 3 (.int ((q_i (S 0 0 3)) + 1))) a t 0) a t 0 x y z (show x ≠ 0 by omega) (show x ≠ 3 by omega) (show x ≠ 4 by omega) (show x ≠ 9 by omega) (show x ≠ 10 by omega) (show x ≠ 11 by omega) (show x ≠ 12 by omega) (show x ≠ 13 by omega) (show x ≠ 14 by omega) (show x ≠ 15 by omega) (show x ≠ 16 by omega) (show x ≠ 17 by omega) (show x ≠ 18 by omega) (show x ≠ 19 by omega) (show x ≠ 20 by omega) (show x ≠ 21 by omega))).trans (((xK_fe_tick_L1 7 (q_st S 0 0 3 (.int ((q_i (S 0 0 3)) + 1))) a t 0 x y z (show x ≠ 0 by omega) (show x ≠ 3 by omega) (show x ≠ 4 by omega) (show x ≠ 9 by omega) (show x ≠ 10 by omega) (show x ≠ 11 by omega) (show x ≠ 12 by omega) (show x ≠ 13 by omega) (show x ≠ 14 by omega) (show x ≠ 15 by omega) (show x ≠ 16 by omega) (show x ≠ 17 by omega) (show x ≠ 18 by omega) (show x ≠ 19 by omega) (show x ≠ 20 by omega) (show x ≠ 21 by omega))).trans ((q_kj (show x ≠ 0 by omega)))))
      have hf : x_fe_tick_L0 (n + 1) S a t = x_fe_tick_L0 n (x_fe_tick_L2 7 (x_fe_tick_L1 7 (q_st S 0 0 3 (.int ((q_i (S 0 0 3)) + 1))) a t 0) a t 0) a (t + 1) := by rw [x_fe_tick_L0, if_neg c_1]
      rw [hf]
      have hI_904 : xI (x_fe_tick_L2 7 (x_fe_tick_L1 7 (q_st S 0 0 3 (.int ((q_i (S 0 0 3)) + 1))) a t 0) a t 0) := (xI_fe_tick_L2 a  7 (x_fe_tick_L1 7 (q_st S 0 0 3 (.int ((q_i (S 0 0 3)) + 1))) a t 0) t 0 (by have n_t := nI_toInt (n := t) (by omega); have m_t := q_nT (n := t) (by omega); simp only [Int32.lt_iff_toInt_lt, Int32.le_iff_toInt_le, q_n0, q_n1, q_n2, q_n3, q_n4, q_n5, q_n6, q_n7, q_n10, q_n14, q_n15, q_n20, q_n60, q_n1288] at c_1; omega) (by have n_t := nI_toInt (n := t) (by omega); have m_t := q_nT (n := t) (by omega); simp only [Int32.lt_iff_toInt_lt, Int32.le_iff_toInt_le, q_n0, q_n1, q_n2, q_n3, q_n4, q_n5, q_n6, q_n7, q_n10, q_n14, q_n15, q_n20, q_n60, q_n1288] at c_1; omega) (by have n_t := nI_toInt (n := t) (by omega); have m_t := q_nT (n := t) (by omega); simp only [Int32.lt_iff_toInt_lt, Int32.le_iff_toInt_le, q_n0, q_n1, q_n2, q_n3, q_n4, q_n5, q_n6, q_n7, q_n10, q_n14, q_n15, q_n20, q_n60, q_n1288] at c_1; omega) hI_4 hJ_5)
      have hJ_905 : xJ (x_fe_tick_L2 7 (x_fe_tick_L1 7 (q_st S 0 0 3 (.int ((q_i (S 0 0 3)) + 1))) a t 0) a t 0) := xJ_keep hJ (fun x y z hx => ((xK_fe_tick_L2 7 (x_fe_tick_L1 7 (q_st S 0 0 3 (.int ((q_i (S 0 0 3)) + 1))) a t 0) a t 0 x y z (show x ≠ 0 by omega) (show x ≠ 3 by omega) (show x ≠ 4 by omega) (show x ≠ 9 by omega) (show x ≠ 10 by omega) (show x ≠ 11 by omega) (show x ≠ 12 by omega) (show x ≠ 13 by omega) (show x ≠ 14 by omega) (show x ≠ 15 by omega) (show x ≠ 16 by omega) (show x ≠ 17 by omega) (show x ≠ 18 by omega) (show x ≠ 19 by omega) (show x ≠ 20 by omega) (show x ≠ 21 by omega))).trans (((xK_fe_tick_L1 7 (q_st S 0 0 3 (.int ((q_i (S 0 0 3)) + 1))) a t 0 x y z (show x ≠ 0 by omega) (show x ≠ 3 by omega) (show x ≠ 4 by omega) (show x ≠ 9 by omega) (show x ≠ 10 by omega) (show x ≠ 11 by omega) (show x ≠ 12 by omega) (show x ≠ 13 by omega) (show x ≠ 14 by omega) (show x ≠ 15 by omega) (show x ≠ 16 by omega) (show x ≠ 17 by omega) (show x ≠ 18 by omega) (show x ≠ 19 by omega) (show x ≠ 20 by omega) (show x ≠ 21 by omega))).trans ((q_kj (show x ≠ 0 by omega)))))
      exact ih (x_fe_tick_L2 7 (x_fe_tick_L1 7 (q_st S 0 0 3 (.int ((q_i (S 0 0 3)) + 1))) a t 0) a t 0) (t + 1) (by have n_t := nI_toInt (n := t) (by omega); have m_t := q_nT (n := t) (by omega); simp only [Int32.lt_iff_toInt_lt, Int32.le_iff_toInt_le, q_n0, q_n1, q_n2, q_n3, q_n4, q_n5, q_n6, q_n7, q_n10, q_n14, q_n15, q_n20, q_n60, q_n1288] at c_1; omega) (by have n_t := nI_toInt (n := t) (by omega); have m_t := q_nT (n := t) (by omega); simp only [Int32.lt_iff_toInt_lt, Int32.le_iff_toInt_le, q_n0, q_n1, q_n2, q_n3, q_n4, q_n5, q_n6, q_n7, q_n10, q_n14, q_n15, q_n20, q_n60, q_n1288] at c_1; omega) (by have n_t := nI_toInt (n := t) (by omega); have m_t := q_nT (n := t) (by omega); simp only [Int32.lt_iff_toInt_lt, Int32.le_iff_toInt_le, q_n0, q_n1, q_n2, q_n3, q_n4, q_n5, q_n6, q_n7, q_n10, q_n14, q_n15, q_n20, q_n60, q_n1288] at c_1; omega) hI_904 hJ_905
def x_fe_tick (S : q_S) (a : Int32) : Int32 × q_S :=
  if a < 1 then
    ((-1), S)
  else
    if a ≤ 20 then
      x_fe_tick_L0 21 S a 0
    else
      ((-1), S)
set_option maxRecDepth 100000 in
set_option maxHeartbeats 4000000 in
theorem xC_fe_tick (l : Launch) (G : q_G) (S : q_S) (a : Int32) (hI : xI S) (hJ : xJ S) : q_Mi xX G l xy_fe_tick (q_ws (q_gw lw_tbl) xy_fe_tick xb_fe_tick 4 (some .int)) (q_rm 6) [.ref (q_a xX G 0 0), .int a] S (x_fe_tick S a).1 (x_fe_tick S a).2 := by
  refine q_met (cc := xb_fe_tick) (maxL := 4) (ret := (some .int)) xOk (by decide) rfl (Nat.le_of_ble_eq_true rfl) ?_
  intro p e s m below meth c ls hC hr hlocks hW hS hl
  have hx := hC.1.1
  have hb := hC.1.2.1
  have hl : lv_has ls 4 [(0, .ref (q_a xX G 0 0)), (1, .int a)] := hl
  refine lv_iload_n hx hb xd_fe_tick_0 rfl (lv_at hl 1 rfl) ?_
  refine lv_iconst (v := 1) hx hb xd_fe_tick_1 (by decide) ?_
  refine lv_icmp_lt (tgt := 11) hx hb xd_fe_tick_2 (by decide) (fun c_1 => ?_) (fun c_1 => ?_)
  · -- taken
    refine lv_iconst (v := (-1)) hx hb xd_fe_tick_11 (by decide) ?_
    have hf : x_fe_tick S a = ((-1), S) := by unfold x_fe_tick; rw [if_pos c_1]
    rw [hf]
    exact q_iret hC hr hlocks hW hS rfl rfl xd_fe_tick_12
  · -- not taken
    refine lv_iload_n hx hb xd_fe_tick_5 rfl (lv_at hl 1 rfl) ?_
    refine lv_bipush (v := 20) hx hb xd_fe_tick_6 (by decide) ?_
    refine lv_icmp_le (tgt := 13) hx hb xd_fe_tick_8 (by decide) (fun c_2 => ?_) (fun c_2 => ?_)
    · -- taken
      refine lv_iconst (v := 0) hx hb xd_fe_tick_13 (by decide) ?_
      refine lv_istore_n (lv' := [(2, .int 0), (0, .ref (q_a xX G 0 0)), (1, .int a)]) hx hb xd_fe_tick_14 rfl hl (by decide) rfl (fun ls hl => ?_)
      have hf : x_fe_tick S a = x_fe_tick_L0 21 S a 0 := by unfold x_fe_tick; rw [if_neg c_1, if_pos c_2]
      rw [hf]
      have hl2 : lv_has ls 4 [(0, .ref (q_a xX G 0 0)), (1, .int a), (2, .int (nI 0))] := by rw [(show nI 0 = 0 from rfl)]; exact lv_sub hl [1, 2, 0] rfl
      exact xL_fe_tick_L0 l G a  hC hr hlocks 21 S 0 _ _ ls (by simp only [Int32.lt_iff_toInt_lt, Int32.le_iff_toInt_le, q_n0, q_n1, q_n2, q_n3, q_n4, q_n5, q_n6, q_n7, q_n10, q_n14, q_n15, q_n20, q_n60, q_n1288] at c_1 c_2; omega) (by simp only [Int32.lt_iff_toInt_lt, Int32.le_iff_toInt_le, q_n0, q_n1, q_n2, q_n3, q_n4, q_n5, q_n6, q_n7, q_n10, q_n14, q_n15, q_n20, q_n60, q_n1288] at c_1 c_2; omega) (by simp only [Int32.lt_iff_toInt_lt, Int32.le_iff_toInt_le, q_n0, q_n1, q_n2, q_n3, q_n4, q_n5, q_n6, q_n7, q_n10, q_n14, q_n15, q_n20, q_n60, q_n1288] at c_1 c_2; omega) hI hJ hW hS hl2
    · -- not taken
      refine lv_iconst (v := (-1)) hx hb xd_fe_tick_11 (by decide) ?_
      have hf : x_fe_tick S a = ((-1), S) := by unfold x_fe_tick; rw [if_neg c_1, if_neg c_2]
      rw [hf]
      exact q_iret hC hr hlocks hW hS rfl rfl xd_fe_tick_12
set_option maxRecDepth 100000 in
set_option maxHeartbeats 4000000 in
theorem xI_fe_tick (S : q_S) (a : Int32) (hI : xI S) (hJ : xJ S) : xI ((x_fe_tick S a).2) := by
  by_cases c_1 : a < 1
  · -- yes
    have hf : x_fe_tick S a = ((-1), S) := by unfold x_fe_tick; rw [if_pos c_1]
    rw [hf]
    exact hI
  · -- no
    by_cases c_2 : a ≤ 20
    · -- yes
      have hf : x_fe_tick S a = x_fe_tick_L0 21 S a 0 := by unfold x_fe_tick; rw [if_neg c_1, if_pos c_2]
      rw [hf]
      exact xI_fe_tick_L0 a  21 S 0 (by simp only [Int32.lt_iff_toInt_lt, Int32.le_iff_toInt_le, q_n0, q_n1, q_n2, q_n3, q_n4, q_n5, q_n6, q_n7, q_n10, q_n14, q_n15, q_n20, q_n60, q_n1288] at c_1 c_2; omega) (by simp only [Int32.lt_iff_toInt_lt, Int32.le_iff_toInt_le, q_n0, q_n1, q_n2, q_n3, q_n4, q_n5, q_n6, q_n7, q_n10, q_n14, q_n15, q_n20, q_n60, q_n1288] at c_1 c_2; omega) (by simp only [Int32.lt_iff_toInt_lt, Int32.le_iff_toInt_le, q_n0, q_n1, q_n2, q_n3, q_n4, q_n5, q_n6, q_n7, q_n10, q_n14, q_n15, q_n20, q_n60, q_n1288] at c_1 c_2; omega) hI hJ
    · -- no
      have hf : x_fe_tick S a = ((-1), S) := by unfold x_fe_tick; rw [if_neg c_1, if_neg c_2]
      rw [hf]
      exact hI
set_option maxRecDepth 100000 in
set_option maxHeartbeats 4000000 in
theorem xK_fe_tick (S : q_S) (a : Int32) (x y z : Nat) (h0 : x ≠ 0) (h3 : x ≠ 3) (h4 : x ≠ 4) (h9 : x ≠ 9) (h10 : x ≠ 10) (h11 : x ≠ 11) (h12 : x ≠ 12) (h13 : x ≠ 13) (h14 : x ≠ 14) (h15 : x ≠ 15) (h16 : x ≠ 16) (h17 : x ≠ 17) (h18 : x ≠ 18) (h19 : x ≠ 19) (h20 : x ≠ 20) (h21 : x ≠ 21) : (x_fe_tick S a).2 x y z = S x y z := by
  by_cases c_1 : a < 1
  · -- yes
    have hf : x_fe_tick S a = ((-1), S) := by unfold x_fe_tick; rw [if_pos c_1]
    rw [hf]
  · -- no
    by_cases c_2 : a ≤ 20
    · -- yes
      have hf : x_fe_tick S a = x_fe_tick_L0 21 S a 0 := by unfold x_fe_tick; rw [if_neg c_1, if_pos c_2]
      rw [hf]
      exact (xK_fe_tick_L0 21 S a 0 x y z h0 h3 h4 h9 h10 h11 h12 h13 h14 h15 h16 h17 h18 h19 h20 h21).trans (rfl)
    · -- no
      have hf : x_fe_tick S a = ((-1), S) := by unfold x_fe_tick; rw [if_neg c_1, if_neg c_2]
      rw [hf]
