def x_fe_take_L0 : Nat → q_S → Nat → Int32 × q_S
  | 0, S, _ => (0, S)
  | n + 1, S, t =>
    if q_i (S 3 0 1) ≤ nI t then
      ((-2), S)
    else
      if q_i (S 0 0 3) < q_i (S 21 ((q_i (S 4 0 ((nI t).toNatClampNeg))).toNatClampNeg) 4) then
        x_fe_take_L0 n S (t + 1)
      else
        (q_i (S 4 0 ((nI t).toNatClampNeg)), x_ta_goOut (x_tl_drop S (q_i (S 4 0 ((nI t).toNatClampNeg)))) ((q_i (S 4 0 ((nI t).toNatClampNeg))).toNatClampNeg) (q_i (S 0 0 3)))
set_option maxRecDepth 100000 in
set_option maxHeartbeats 4000000 in
theorem xL_fe_take_L0 (l : Launch) (G : q_G)  {p : Program} {e : Env} {s : State} {m : MethodId} {below : List Frame} {meth : Method} {c : Code} (hC : q_C xX G p m c xb_fe_take 4 s ([.ref (q_a xX G 0 0)] : List Value).toArray (q_ws (q_gw lw_tbl) xy_fe_take xb_fe_take 4 (some .int)) xR_fe) (hr : meth.sig.returnType = (some .int)) (hlocks : meth.locks = false) : ∀ (n : Nat) (S : q_S) (t : Nat) (H : Heap) (locs : List Loc) (ls : Array Slot), t + n = 7 → t ≤ 6 → xI S → q_w xX G s S H → va_S (q_A xX G) s.heap H locs → lv_has ls 4 [(0, .ref (q_a xX G 0 0)), (1, .int (nI t))] → W p l e (headSpec (q_ws (q_gw lw_tbl) xy_fe_take xb_fe_take 4 (some .int)) (q_rm 1)).room s m ([.ref (q_a xX G 0 0)] : List Value).toArray below meth c H locs 0 0 (MQ below (va_Qi (fun (r' : Int32) (u : q_S) => r' = (x_fe_take_L0 n S t).1 ∧ u = (x_fe_take_L0 n S t).2) (q_P xX G) (q_A xX G)) ([.ref (q_a xX G 0 0)] : List Value).toArray s 0 0 (q_A xX G)) (F0 m 2 ls []) := by
  have hx := hC.1.1
  have hb := hC.1.2.1
  intro n
  induction n with
  | zero =>
    intro S t H locs ls ht hu hI hW hS hl
    exfalso
    omega
  | succ n ih =>
    intro S t H locs ls ht hu hI hW hS hl
    refine lv_iload_n hx hb xd_fe_take_2 rfl (lv_at hl 1 rfl) ?_
    refine lv_aload_n hx hb xd_fe_take_3 rfl (lv_at hl 0 rfl) ?_
    refine xg_fe_24 hC hW 0 Nat.one_pos xd_fe_take_4 ?_
    refine xg_fe_103 hC hW 0 Nat.one_pos (rfl) xd_fe_take_7 ?_
    refine lv_icmp_ge (tgt := 68) hx hb xd_fe_take_10 (by decide) (fun c_1 => ?_) (fun c_1 => ?_)
    · -- taken
      refine lv_bipush (v := (-2)) hx hb xd_fe_take_68 (by decide) ?_
      have hf : x_fe_take_L0 (n + 1) S t = ((-2), S) := by rw [x_fe_take_L0, if_pos c_1]
      rw [hf]
      exact q_iret hC hr hlocks hW hS rfl rfl xd_fe_take_70
    · -- not taken
      refine lv_aload_n hx hb xd_fe_take_13 rfl (lv_at hl 0 rfl) ?_
      refine xg_fe_24 hC hW 0 Nat.one_pos xd_fe_take_14 ?_
      refine xg_fe_104 hC hW 0 Nat.one_pos xd_fe_take_17 ?_
      refine lv_iload_n hx hb xd_fe_take_20 rfl (lv_at hl 1 rfl) ?_
      have h_2 : vp_in (nI t) 6 := by have b1 : 0 ≤ (q_i (S 3 0 1)).toInt ∧ (q_i (S 3 0 1)).toInt ≤ 6 := hI 3 0 1; have n_t := nI_toInt (n := t) (by omega); have m_t := q_nT (n := t) (by omega); simp only [vp_in_iff, Int32.lt_iff_toInt_lt, Int32.le_iff_toInt_le, q_n0, q_n1, q_n2, q_n3, q_n4, q_n5, q_n6, q_n7, q_n10, q_n14, q_n15, q_n20, q_n60, q_n1288] at c_1 ⊢; omega
      refine xal_4 hC hW 0 Nat.one_pos h_2 (rfl) xd_fe_take_21 ?_
      refine lv_istore_n (lv' := [(2, .int (q_i (S 4 0 ((nI t).toNatClampNeg)))), (0, .ref (q_a xX G 0 0)), (1, .int (nI t))]) hx hb xd_fe_take_22 rfl hl (by decide) rfl (fun ls hl => ?_)
      refine lv_aload_n hx hb xd_fe_take_23 rfl (lv_at hl 1 rfl) ?_
      refine xg_fe_17 hC hW 0 Nat.one_pos xd_fe_take_24 ?_
      refine lv_iload_n hx hb xd_fe_take_27 rfl (lv_at hl 0 rfl) ?_
      have h_3 : vp_in (q_i (S 4 0 ((nI t).toNatClampNeg))) 6 := by have b1 : 0 ≤ (q_i (S 4 0 ((nI t).toNatClampNeg))).toInt ∧ (q_i (S 4 0 ((nI t).toNatClampNeg))).toInt ≤ 5 := hI 4 0 ((nI t).toNatClampNeg); have b2 : 0 ≤ (q_i (S 3 0 1)).toInt ∧ (q_i (S 3 0 1)).toInt ≤ 6 := hI 3 0 1; have n_t := nI_toInt (n := t) (by omega); have m_t := q_nT (n := t) (by omega); simp only [vp_in_iff, Int32.lt_iff_toInt_lt, Int32.le_iff_toInt_le, q_n0, q_n1, q_n2, q_n3, q_n4, q_n5, q_n6, q_n7, q_n10, q_n14, q_n15, q_n20, q_n60, q_n1288] at c_1 ⊢; omega
      refine xal_2 hC hW 0 Nat.one_pos h_3 xd_fe_take_28 ?_
      refine xg_fe_107 hC hW ((q_i (S 4 0 ((nI t).toNatClampNeg))).toNatClampNeg) (q_lt h_3) xd_fe_take_29 ?_
      refine lv_astore_n (lv' := [(3, .ref (q_a xX G 21 ((q_i (S 4 0 ((nI t).toNatClampNeg))).toNatClampNeg))), (2, .int (q_i (S 4 0 ((nI t).toNatClampNeg)))), (0, .ref (q_a xX G 0 0)), (1, .int (nI t))]) hx hb xd_fe_take_32 rfl hl (by decide) rfl (fun ls hl => ?_)
      refine lv_aload_n hx hb xd_fe_take_33 rfl (lv_at hl 0 rfl) ?_
      refine xg_fe_111 hC hW ((q_i (S 4 0 ((nI t).toNatClampNeg))).toNatClampNeg) (q_lt h_3) (rfl) xd_fe_take_34 ?_
      refine W.eq (g2 := F0 m 37 ls [.int (q_i (S 21 ((q_i (S 4 0 ((nI t).toNatClampNeg))).toNatClampNeg) 4))]) rfl ?_
      refine lv_aload_n hx hb xd_fe_take_37 rfl (lv_at hl 2 rfl) ?_
      refine xg_fe_116 hC hW 0 Nat.one_pos (rfl) xd_fe_take_38 ?_
      refine lv_icmp_gt (tgt := 62) hx hb xd_fe_take_41 (by decide) (fun c_4 => ?_) (fun c_4 => ?_)
      · -- taken
        refine lv_iinc (v := nI t + 1) (lv' := [(1, .int (nI t + 1)), (3, .ref (q_a xX G 21 ((q_i (S 4 0 ((nI t).toNatClampNeg))).toNatClampNeg))), (2, .int (q_i (S 4 0 ((nI t).toNatClampNeg)))), (0, .ref (q_a xX G 0 0))]) hx hb xd_fe_take_62 hl (k := 3) rfl rfl (by decide) rfl (fun ls hl => ?_)
        refine lv_goto (tgt := 2) hx hb xd_fe_take_65 (by decide) ?_
        have hf : x_fe_take_L0 (n + 1) S t = x_fe_take_L0 n S (t + 1) := by rw [x_fe_take_L0, if_neg c_1, if_pos c_4]
        rw [hf]
        have hl2 : lv_has ls 4 [(0, .ref (q_a xX G 0 0)), (1, .int (nI (t + 1)))] := by rw [← nI_1 t]; exact lv_sub hl [3, 0] rfl
        exact ih S (t + 1) _ _ ls (by have b1 : 0 ≤ (q_i (S 4 0 ((nI t).toNatClampNeg))).toInt ∧ (q_i (S 4 0 ((nI t).toNatClampNeg))).toInt ≤ 5 := hI 4 0 ((nI t).toNatClampNeg); have b2 : 0 ≤ (q_i (S 3 0 1)).toInt ∧ (q_i (S 3 0 1)).toInt ≤ 6 := hI 3 0 1; have n_t := nI_toInt (n := t) (by omega); have m_t := q_nT (n := t) (by omega); simp only [Int32.lt_iff_toInt_lt, Int32.le_iff_toInt_le, q_n0, q_n1, q_n2, q_n3, q_n4, q_n5, q_n6, q_n7, q_n10, q_n14, q_n15, q_n20, q_n60, q_n1288] at c_1 c_4; omega) (by have b1 : 0 ≤ (q_i (S 4 0 ((nI t).toNatClampNeg))).toInt ∧ (q_i (S 4 0 ((nI t).toNatClampNeg))).toInt ≤ 5 := hI 4 0 ((nI t).toNatClampNeg); have b2 : 0 ≤ (q_i (S 3 0 1)).toInt ∧ (q_i (S 3 0 1)).toInt ≤ 6 := hI 3 0 1; have n_t := nI_toInt (n := t) (by omega); have m_t := q_nT (n := t) (by omega); simp only [Int32.lt_iff_toInt_lt, Int32.le_iff_toInt_le, q_n0, q_n1, q_n2, q_n3, q_n4, q_n5, q_n6, q_n7, q_n10, q_n14, q_n15, q_n20, q_n60, q_n1288] at c_1 c_4; omega) hI hW hS hl2
      · -- not taken
        refine lv_aload_n hx hb xd_fe_take_44 rfl (lv_at hl 2 rfl) ?_
        refine xg_fe_24 hC hW 0 Nat.one_pos xd_fe_take_45 ?_
        refine lv_iload_n hx hb xd_fe_take_48 rfl (lv_at hl 1 rfl) ?_
        refine q_callv hC hS (fun _ h => h) (q_runV (rest := []) hC hW (xC_tl_drop l G S (q_i (S 4 0 ((nI t).toNatClampNeg))) hI) (xc_fe_119 (q_rm 0) hC.1.2.2.2.2 ⟨Nat.le_of_ble_eq_true rfl, Nat.le_of_ble_eq_true rfl⟩ rfl rfl) Nat.one_pos rfl rfl rfl hl.1 rfl (Nat.le_of_ble_eq_true rfl) xd_fe_take_49 ⟨Nat.zero_le _, Nat.zero_le _⟩) (fun H locs hW hS => ?_)
        refine lv_aload_n hx hb xd_fe_take_52 rfl (lv_at hl 0 rfl) ?_
        refine lv_aload_n hx hb xd_fe_take_53 rfl (lv_at hl 2 rfl) ?_
        refine xg_fe_116 hC hW 0 Nat.one_pos (q_kc (xK_tl_drop S (q_i (S 4 0 ((nI t).toNatClampNeg))) _ _ _ (by decide) (by decide)) (rfl)) xd_fe_take_54 ?_
        have hI_5 : xI (x_tl_drop S (q_i (S 4 0 ((nI t).toNatClampNeg)))) := (xI_tl_drop S (q_i (S 4 0 ((nI t).toNatClampNeg))) hI)
        refine q_callv hC hS (fun _ h => h) (q_runV (rest := []) hC hW (xC_ta_goOut l G (x_tl_drop S (q_i (S 4 0 ((nI t).toNatClampNeg)))) ((q_i (S 4 0 ((nI t).toNatClampNeg))).toNatClampNeg) (q_i (S 0 0 3)) (q_lt h_3) hI_5) (xc_fe_122 (q_rm 0) hC.1.2.2.2.2 ⟨Nat.le_of_ble_eq_true rfl, Nat.le_of_ble_eq_true rfl⟩ rfl rfl) (q_lt h_3) rfl rfl rfl hl.1 rfl (Nat.le_of_ble_eq_true rfl) xd_fe_take_57 ⟨Nat.zero_le _, Nat.zero_le _⟩) (fun H locs hW hS => ?_)
        refine lv_iload_n hx hb xd_fe_take_60 rfl (lv_at hl 1 rfl) ?_
        have hf : x_fe_take_L0 (n + 1) S t = (q_i (S 4 0 ((nI t).toNatClampNeg)), x_ta_goOut (x_tl_drop S (q_i (S 4 0 ((nI t).toNatClampNeg)))) ((q_i (S 4 0 ((nI t).toNatClampNeg))).toNatClampNeg) (q_i (S 0 0 3))) := by rw [x_fe_take_L0, if_neg c_1, if_neg c_4]
        rw [hf]
        exact q_iret hC hr hlocks hW hS rfl rfl xd_fe_take_61
set_option maxRecDepth 100000 in
set_option maxHeartbeats 4000000 in
theorem xK_fe_take_L0 : ∀ (n : Nat) (S : q_S) (t : Nat) (x y z : Nat) (h3 : x ≠ 3) (h4 : x ≠ 4) (h21 : x ≠ 21), (x_fe_take_L0 n S t).2 x y z = S x y z := by
  intro n
  induction n with
  | zero => intro S t x y z h3 h4 h21; rfl
  | succ n ih =>
    intro S t x y z h3 h4 h21
    by_cases c_1 : q_i (S 3 0 1) ≤ nI t
    · -- yes
      have hf : x_fe_take_L0 (n + 1) S t = ((-2), S) := by rw [x_fe_take_L0, if_pos c_1]
      rw [hf]
    · -- no
      by_cases c_4 : q_i (S 0 0 3) < q_i (S 21 ((q_i (S 4 0 ((nI t).toNatClampNeg))).toNatClampNeg) 4)
      · -- yes
        have hf : x_fe_take_L0 (n + 1) S t = x_fe_take_L0 n S (t + 1) := by rw [x_fe_take_L0, if_neg c_1, if_pos c_4]
        rw [hf]
        exact (ih S (t + 1) x y z h3 h4 h21).trans (rfl)
      · -- no
        have hf : x_fe_take_L0 (n + 1) S t = (q_i (S 4 0 ((nI t).toNatClampNeg)), x_ta_goOut (x_tl_drop S (q_i (S 4 0 ((nI t).toNatClampNeg)))) ((q_i (S 4 0 ((nI t).toNatClampNeg))).toNatClampNeg) (q_i (S 0 0 3))) := by rw [x_fe_take_L0, if_neg c_1, if_neg c_4]
        rw [hf]
        exact ((xK_ta_goOut (x_tl_drop S (q_i (S 4 0 ((nI t).toNatClampNeg)))) ((q_i (S 4 0 ((nI t).toNatClampNeg))).toNatClampNeg) (q_i (S 0 0 3)) x y z h21)).trans (((xK_tl_drop S (q_i (S 4 0 ((nI t).toNatClampNeg))) x y z h3 h4)))
set_option maxRecDepth 100000 in
set_option maxHeartbeats 4000000 in
theorem xI_fe_take_L0  : ∀ (n : Nat) (S : q_S) (t : Nat), t + n = 7 → t ≤ 6 → xI S → xI ((x_fe_take_L0 n S t).2) := by
  intro n
  induction n with
  | zero =>
    intro S t ht hu hI
    exfalso
    omega
  | succ n ih =>
    intro S t ht hu hI
    by_cases c_1 : q_i (S 3 0 1) ≤ nI t
    · -- yes
      have hf : x_fe_take_L0 (n + 1) S t = ((-2), S) := by rw [x_fe_take_L0, if_pos c_1]
      rw [hf]
      exact hI
    · -- no
      by_cases c_4 : q_i (S 0 0 3) < q_i (S 21 ((q_i (S 4 0 ((nI t).toNatClampNeg))).toNatClampNeg) 4)
      · -- yes
        have h_2 : vp_in (nI t) 6 := by have b1 : 0 ≤ (q_i (S 3 0 1)).toInt ∧ (q_i (S 3 0 1)).toInt ≤ 6 := hI 3 0 1; have n_t := nI_toInt (n := t) (by omega); have m_t := q_nT (n := t) (by omega); simp only [vp_in_iff, Int32.lt_iff_toInt_lt, Int32.le_iff_toInt_le, q_n0, q_n1, q_n2, q_n3, q_n4, q_n5, q_n6, q_n7, q_n10, q_n14, q_n15, q_n20, q_n60, q_n1288] at c_1 ⊢; omega
        have h_3 : vp_in (q_i (S 4 0 ((nI t).toNatClampNeg))) 6 := by have b1 : 0 ≤ (q_i (S 4 0 ((nI t).toNatClampNeg))).toInt ∧ (q_i (S 4 0 ((nI t).toNatClampNeg))).toInt ≤ 5 := hI 4 0 ((nI t).toNatClampNeg); have b2 : 0 ≤ (q_i (S 3 0 1)).toInt ∧ (q_i (S 3 0 1)).toInt ≤ 6 := hI 3 0 1; have n_t := nI_toInt (n := t) (by omega); have m_t := q_nT (n := t) (by omega); simp only [vp_in_iff, Int32.lt_iff_toInt_lt, Int32.le_iff_toInt_le, q_n0, q_n1, q_n2, q_n3, q_n4, q_n5, q_n6, q_n7, q_n10, q_n14, q_n15, q_n20, q_n60, q_n1288] at c_1 ⊢; omega
        have hf : x_fe_take_L0 (n + 1) S t = x_fe_take_L0 n S (t + 1) := by rw [x_fe_take_L0, if_neg c_1, if_pos c_4]
        rw [hf]
        exact ih S (t + 1) (by have b1 : 0 ≤ (q_i (S 4 0 ((nI t).toNatClampNeg))).toInt ∧ (q_i (S 4 0 ((nI t).toNatClampNeg))).toInt ≤ 5 := hI 4 0 ((nI t).toNatClampNeg); have b2 : 0 ≤ (q_i (S 3 0 1)).toInt ∧ (q_i (S 3 0 1)).toInt ≤ 6 := hI 3 0 1; have n_t := nI_toInt (n := t) (by omega); have m_t := q_nT (n := t) (by omega); simp only [Int32.lt_iff_toInt_lt, Int32.le_iff_toInt_le, q_n0, q_n1, q_n2, q_n3, q_n4, q_n5, q_n6, q_n7, q_n10, q_n14, q_n15, q_n20, q_n60, q_n1288] at c_1 c_4; omega) (by have b1 : 0 ≤ (q_i (S 4 0 ((nI t).toNatClampNeg))).toInt ∧ (q_i (S 4 0 ((nI t).toNatClampNeg))).toInt ≤ 5 := hI 4 0 ((nI t).toNatClampNeg); have b2 : 0 ≤ (q_i (S 3 0 1)).toInt ∧ (q_i (S 3 0 1)).toInt ≤ 6 := hI 3 0 1; have n_t := nI_toInt (n := t) (by omega); have m_t := q_nT (n := t) (by omega); simp only [Int32.lt_iff_toInt_lt, Int32.le_iff_toInt_le, q_n0, q_n1, q_n2, q_n3, q_n4, q_n5, q_n6, q_n7, q_n10, q_n14, q_n15, q_n20, q_n60, q_n1288] at c_1 c_4; omega) hI
      · -- no
        have h_2 : vp_in (nI t) 6 := by have b1 : 0 ≤ (q_i (S 3 0 1)).toInt ∧ (q_i (S 3 0 1)).toInt ≤ 6 := hI 3 0 1; have n_t := nI_toInt (n := t) (by omega); have m_t := q_nT (n := t) (by omega); simp only [vp_in_iff, Int32.lt_iff_toInt_lt, Int32.le_iff_toInt_le, q_n0, q_n1, q_n2, q_n3, q_n4, q_n5, q_n6, q_n7, q_n10, q_n14, q_n15, q_n20, q_n60, q_n1288] at c_1 ⊢; omega
        have h_3 : vp_in (q_i (S 4 0 ((nI t).toNatClampNeg))) 6 := by have b1 : 0 ≤ (q_i (S 4 0 ((nI t).toNatClampNeg))).toInt ∧ (q_i (S 4 0 ((nI t).toNatClampNeg))).toInt ≤ 5 := hI 4 0 ((nI t).toNatClampNeg); have b2 : 0 ≤ (q_i (S 3 0 1)).toInt ∧ (q_i (S 3 0 1)).toInt ≤ 6 := hI 3 0 1; have n_t := nI_toInt (n := t) (by omega); have m_t := q_nT (n := t) (by omega); simp only [vp_in_iff, Int32.lt_iff_toInt_lt, Int32.le_iff_toInt_le, q_n0, q_n1, q_n2, q_n3, q_n4, q_n5, q_n6, q_n7, q_n10, q_n14, q_n15, q_n20, q_n60, q_n1288] at c_1 ⊢; omega
        have hI_5 : xI (x_tl_drop S (q_i (S 4 0 ((nI t).toNatClampNeg)))) := (xI_tl_drop S (q_i (S 4 0 ((nI t).toNatClampNeg))) hI)
        have hf : x_fe_take_L0 (n + 1) S t = (q_i (S 4 0 ((nI t).toNatClampNeg)), x_ta_goOut (x_tl_drop S (q_i (S 4 0 ((nI t).toNatClampNeg)))) ((q_i (S 4 0 ((nI t).toNatClampNeg))).toNatClampNeg) (q_i (S 0 0 3))) := by rw [x_fe_take_L0, if_neg c_1, if_neg c_4]
        rw [hf]
        exact (xI_ta_goOut (x_tl_drop S (q_i (S 4 0 ((nI t).toNatClampNeg)))) ((q_i (S 4 0 ((nI t).toNatClampNeg))).toNatClampNeg) (q_i (S 0 0 3)) (q_lt h_3) hI_5)
def x_fe_take (S : q_S) : Int32 × q_S :=
  x_fe_take_L0 7 S 0
set_option maxRecDepth 100000 in
set_option maxHeartbeats 4000000 in
theorem xC_fe_take (l : Launch) (G : q_G) (S : q_S) (hI : xI S) : q_Mi xX G l xy_fe_take (q_ws (q_gw lw_tbl) xy_fe_take xb_fe_take 4 (some .int)) (q_rm 1) [.ref (q_a xX G 0 0)] S (x_fe_take S).1 (x_fe_take S).2 := by
  refine q_met (cc := xb_fe_take) (maxL := 4) (ret := (some .int)) xOk (by decide) rfl (Nat.le_of_ble_eq_true rfl) ?_
  intro p e s m below meth c ls hC hr hlocks hW hS hl
  have hx := hC.1.1
  have hb := hC.1.2.1
  have hl : lv_has ls 4 [(0, .ref (q_a xX G 0 0))] := hl
  refine lv_iconst (v := 0) hx hb xd_fe_take_0 (by decide) ?_
  refine lv_istore_n (lv' := [(1, .int 0), (0, .ref (q_a xX G 0 0))]) hx hb xd_fe_take_1 rfl hl (by decide) rfl (fun ls hl => ?_)
  have hf : x_fe_take S = x_fe_take_L0 7 S 0 := by unfold x_fe_take; rfl
  rw [hf]
  have hl2 : lv_has ls 4 [(0, .ref (q_a xX G 0 0)), (1, .int (nI 0))] := by rw [(show nI 0 = 0 from rfl)]; exact lv_sub hl [1, 0] rfl
  exact xL_fe_take_L0 l G   hC hr hlocks 7 S 0 _ _ ls (by omega) (by omega) hI hW hS hl2
set_option maxRecDepth 100000 in
set_option maxHeartbeats 4000000 in
theorem xI_fe_take (S : q_S) (hI : xI S) : xI ((x_fe_take S).2) := by
  have hf : x_fe_take S = x_fe_take_L0 7 S 0 := by unfold x_fe_take; rfl
  rw [hf]
  exact xI_fe_take_L0   7 S 0 (by omega) (by omega) hI
set_option maxRecDepth 100000 in
set_option maxHeartbeats 4000000 in
theorem xK_fe_take (S : q_S) (x y z : Nat) (h3 : x ≠ 3) (h4 : x ≠ 4) (h21 : x ≠ 21) : (x_fe_take S).2 x y z = S x y z := by
  have hf : x_fe_take S = x_fe_take_L0 7 S 0 := by unfold x_fe_take; rfl
  rw [hf]
  exact (xK_fe_take_L0 7 S 0 x y z h3 h4 h21).trans (rfl)
