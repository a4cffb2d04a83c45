def m_fm_take_L0 : Nat → q_S → Nat → Int32 × q_S
  | 0, S, _ => (0, S)
  | n + 1, S, t =>
    if q_i (S 0 0 33) ≤ nI t then
      ((-2), S)
    else
      if q_i (S 31 0 ((q_i (S 32 0 t)).toNatClampNeg)) ≤ q_i (S 0 0 34) then
        (q_i (S 32 0 t), q_st (q_st (q_st (m_fm_leaveLine S (q_i (S 32 0 t))) 7 0 ((q_i (S 32 0 t)).toNatClampNeg) (.int 1)) 29 0 ((q_i (S 32 0 t)).toNatClampNeg) (.int ((q_i (S 29 0 ((q_i (S 32 0 t)).toNatClampNeg))) + 1))) 30 0 ((q_i (S 32 0 t)).toNatClampNeg) (.int (q_i ((m_fm_leaveLine S (q_i (S 32 0 t))) 0 0 34))))
      else
        m_fm_take_L0 n S (t + 1)
set_option maxRecDepth 100000 in
set_option maxHeartbeats 4000000 in
theorem mL_fm_take_L0 (l : Launch) (G : q_G)  {p : Program} {e : Env} {s : State} {m : MethodId} {below : List Frame} {meth : Method} {c : Code} (hC : q_C mX G p m c mb_fm_take 3 s ([.ref (q_a mX G 0 0)] : List Value).toArray (q_ws (q_gw lw_tbl) my_fm_take mb_fm_take 3 (some .int)) mR_fm) (hr : meth.sig.returnType = (some .int)) (hlocks : meth.locks = false) : ∀ (n : Nat) (S : q_S) (t : Nat) (H : Heap) (locs : List Loc) (ls : Array Slot), t + n = 7 → t ≤ 6 → mI S → q_w mX G s S H → va_S (q_A mX G) s.heap H locs → lv_has ls 3 [(0, .ref (q_a mX G 0 0)), (1, .int (nI t))] → W p l e (headSpec (q_ws (q_gw lw_tbl) my_fm_take mb_fm_take 3 (some .int)) (q_rm 1)).room s m ([.ref (q_a mX G 0 0)] : List Value).toArray below meth c H locs 0 0 (MQ below (va_Qi (fun (r' : Int32) (u : q_S) => r' = (m_fm_take_L0 n S t).1 ∧ u = (m_fm_take_L0 n S t).2) (q_P mX G) (q_A mX G)) ([.ref (q_a mX G 0 0)] : List Value).toArray s 0 0 (q_A mX G)) (F0 m 2 ls []) := by
  have hx := hC.1.1
  have hb := hC.1.2.1
  intro n
  induction n with
  | zero =>
    intro S t H locs ls ht hu hI hW hS hl
    exfalso
    omega
  | succ n ih =>
    intro S t H locs ls ht hu hI hW hS hl
    refine lv_iload_n hx hb md_fm_take_2 rfl (lv_at hl 1 rfl) ?_
    refine lv_aload_n hx hb md_fm_take_3 rfl (lv_at hl 0 rfl) ?_
    refine mg_fm_126 hC hW 0 Nat.one_pos (rfl) md_fm_take_4 ?_
    refine lv_icmp_ge (tgt := 73) hx hb md_fm_take_7 (by decide) (fun c_1 => ?_) (fun c_1 => ?_)
    · -- taken
      refine lv_bipush (v := (-2)) hx hb md_fm_take_73 (by decide) ?_
      have hf : m_fm_take_L0 (n + 1) S t = ((-2), S) := by rw [m_fm_take_L0, if_pos c_1]
      rw [hf]
      exact q_iret hC hr hlocks hW hS rfl rfl md_fm_take_75
    · -- not taken
      refine lv_aload_n hx hb md_fm_take_10 rfl (lv_at hl 0 rfl) ?_
      refine mg_fm_105 hC hW 0 Nat.one_pos md_fm_take_11 ?_
      refine lv_iload_n hx hb md_fm_take_14 rfl (lv_at hl 1 rfl) ?_
      have h_2 : vp_in (nI t) 6 := by simp only [Int32.lt_iff_toInt_lt, Int32.le_iff_toInt_le, q_n0, q_n1, q_n2, q_n3, q_n4, q_n5, q_n6, q_n7, q_n8, q_n9, q_n10, q_n11, q_n12, q_n13, q_n14, q_n15, q_n20, q_n60, q_n1288] at c_1; have l1 := nI_toInt (n := t) (by omega); have l2 : 0 ≤ (q_i (S 0 0 33)).toInt ∧ (q_i (S 0 0 33)).toInt ≤ 6 := hI 0 0 33; rw [vp_in_iff]; omega
      have s_3 : (nI t).toNatClampNeg = t := by simp only [Int32.lt_iff_toInt_lt, Int32.le_iff_toInt_le, q_n0, q_n1, q_n2, q_n3, q_n4, q_n5, q_n6, q_n7, q_n8, q_n9, q_n10, q_n11, q_n12, q_n13, q_n14, q_n15, q_n20, q_n60, q_n1288] at c_1; have l1 := nI_toInt (n := t) (by omega); have l2 : 0 ≤ (q_i (S 0 0 33)).toInt ∧ (q_i (S 0 0 33)).toInt ≤ 6 := hI 0 0 33; apply q_tn; omega
      refine male_32 hC hW h_2 s_3 (rfl) md_fm_take_15 ?_
      refine lv_istore_n (lv' := [(2, .int (q_i (S 32 0 t))), (0, .ref (q_a mX G 0 0)), (1, .int (nI t))]) hx hb md_fm_take_16 rfl hl (by decide) rfl (fun ls hl => ?_)
      refine lv_aload_n hx hb md_fm_take_17 rfl (lv_at hl 1 rfl) ?_
      refine mg_fm_136 hC hW 0 Nat.one_pos (rfl) md_fm_take_18 ?_
      refine lv_aload_n hx hb md_fm_take_21 rfl (lv_at hl 1 rfl) ?_
      refine mg_fm_102 hC hW 0 Nat.one_pos md_fm_take_22 ?_
      refine lv_iload_n hx hb md_fm_take_25 rfl (lv_at hl 0 rfl) ?_
      have h_4 : vp_in (q_i (S 32 0 t)) 6 := by simp only [Int32.lt_iff_toInt_lt, Int32.le_iff_toInt_le, q_n0, q_n1, q_n2, q_n3, q_n4, q_n5, q_n6, q_n7, q_n8, q_n9, q_n10, q_n11, q_n12, q_n13, q_n14, q_n15, q_n20, q_n60, q_n1288] at c_1; have l1 : 0 ≤ (q_i (S 32 0 t)).toInt ∧ (q_i (S 32 0 t)).toInt ≤ 5 := hI 32 0 t; have l2 : 0 ≤ (q_i (S 0 0 33)).toInt ∧ (q_i (S 0 0 33)).toInt ≤ 6 := hI 0 0 33; have l3 := nI_toInt (n := t) (by omega); rw [vp_in_iff]; omega
      refine male_31 hC hW h_4 rfl (rfl) md_fm_take_26 ?_
      refine lv_icmp_ge (tgt := 33) hx hb md_fm_take_27 (by decide) (fun c_5 => ?_) (fun c_5 => ?_)
      · -- taken
        refine lv_aload_n hx hb md_fm_take_33 rfl (lv_at hl 1 rfl) ?_
        refine lv_iload_n hx hb md_fm_take_34 rfl (lv_at hl 0 rfl) ?_
        refine q_callv hC hS (fun _ h => h) (q_runV (rest := []) hC hW (mC_fm_leaveLine l G S (q_i (S 32 0 t)) hI) (mc_fm_130 (q_rm 0) hC.1.2.2.2.2 ⟨Nat.le_of_ble_eq_true rfl, Nat.le_of_ble_eq_true rfl⟩ rfl rfl) Nat.one_pos rfl rfl rfl hl.1 rfl (Nat.le_of_ble_eq_true rfl) md_fm_take_35 ⟨Nat.zero_le _, Nat.zero_le _⟩) (fun H locs hW hS => ?_)
        refine lv_aload_n hx hb md_fm_take_38 rfl (lv_at hl 1 rfl) ?_
        refine mg_fm_29 hC hW 0 Nat.one_pos md_fm_take_39 ?_
        refine lv_iload_n hx hb md_fm_take_42 rfl (lv_at hl 0 rfl) ?_
        refine lv_iconst (v := 1) hx hb md_fm_take_43 (by decide) ?_
        have h_6 : vp_in (q_i (S 32 0 t)) 6 := by simp only [Int32.lt_iff_toInt_lt, Int32.le_iff_toInt_le, q_n0, q_n1, q_n2, q_n3, q_n4, q_n5, q_n6, q_n7, q_n8, q_n9, q_n10, q_n11, q_n12, q_n13, q_n14, q_n15, q_n20, q_n60, q_n1288] at c_1 c_5; have l1 : 0 ≤ (q_i (S 32 0 t)).toInt ∧ (q_i (S 32 0 t)).toInt ≤ 5 := hI 32 0 t; have l2 : 0 ≤ (q_i (S 0 0 33)).toInt ∧ (q_i (S 0 0 33)).toInt ≤ 6 := hI 0 0 33; have l3 := nI_toInt (n := t) (by omega); rw [vp_in_iff]; omega
        refine mase_7 hC hW hS (fun _ h => h) h_6 rfl (by decide) md_fm_take_44 (fun H locs hW hS => ?_)
        refine lv_aload_n hx hb md_fm_take_45 rfl (lv_at hl 1 rfl) ?_
        refine mg_fm_96 hC hW 0 Nat.one_pos md_fm_take_46 ?_
        refine lv_iload_n hx hb md_fm_take_49 rfl (lv_at hl 0 rfl) ?_
        refine lv_dup2_11 hx hb md_fm_take_50 rfl rfl ?_
        have h_7 : vp_in (q_i (S 32 0 t)) 6 := by simp only [Int32.lt_iff_toInt_lt, Int32.le_iff_toInt_le, q_n0, q_n1, q_n2, q_n3, q_n4, q_n5, q_n6, q_n7, q_n8, q_n9, q_n10, q_n11, q_n12, q_n13, q_n14, q_n15, q_n20, q_n60, q_n1288] at c_1 c_5; have l1 : 0 ≤ (q_i (S 32 0 t)).toInt ∧ (q_i (S 32 0 t)).toInt ≤ 5 := hI 32 0 t; have l2 : 0 ≤ (q_i (S 0 0 33)).toInt ∧ (q_i (S 0 0 33)).toInt ≤ 6 := hI 0 0 33; have l3 := nI_toInt (n := t) (by omega); rw [vp_in_iff]; omega
        refine male_29 hC hW h_7 rfl (q_sj (by decide) (q_kc (mK_fm_leaveLine S (q_i (S 32 0 t)) _ _ _ (by decide) (by decide)) (rfl))) md_fm_take_51 ?_
        refine lv_iconst (v := 1) hx hb md_fm_take_52 (by decide) ?_
        refine W.eq (g2 := F0 m 53 ls [.int 1, .int (q_i (S 29 0 ((q_i (S 32 0 t)).toNatClampNeg))), .int (q_i (S 32 0 t)), .ref (q_a mX G 29 0)]) rfl ?_
        refine lv_iadd hx hb md_fm_take_53 ?_
        have h_8 : vp_in (q_i (S 32 0 t)) 6 := by simp only [Int32.lt_iff_toInt_lt, Int32.le_iff_toInt_le, q_n0, q_n1, q_n2, q_n3, q_n4, q_n5, q_n6, q_n7, q_n8, q_n9, q_n10, q_n11, q_n12, q_n13, q_n14, q_n15, q_n20, q_n60, q_n1288] at c_1 c_5; have l1 : 0 ≤ (q_i (S 32 0 t)).toInt ∧ (q_i (S 32 0 t)).toInt ≤ 5 := hI 32 0 t; have l2 : 0 ≤ (q_i (S 0 0 33)).toInt ∧ (q_i (S 0 0 33)).toInt ≤ 6 := hI 0 0 33; have l3 := nI_toInt (n := t) (by omega); rw [vp_in_iff]; omega
        refine mase_29 hC hW hS (fun _ h => h) h_8 rfl md_fm_take_54 (fun H locs hW hS => ?_)
        refine lv_aload_n hx hb md_fm_take_55 rfl (lv_at hl 1 rfl) ?_
        refine mg_fm_99 hC hW 0 Nat.one_pos md_fm_take_56 ?_
        refine lv_iload_n hx hb md_fm_take_59 rfl (lv_at hl 0 rfl) ?_
        refine lv_aload_n hx hb md_fm_take_60 rfl (lv_at hl 1 rfl) ?_
        refine mg_fm_136 hC hW 0 Nat.one_pos (q_sj (by decide) (q_sj (by decide) (rfl))) md_fm_take_61 ?_
        have h_9 : vp_in (q_i (S 32 0 t)) 6 := by simp only [Int32.lt_iff_toInt_lt, Int32.le_iff_toInt_le, q_n0, q_n1, q_n2, q_n3, q_n4, q_n5, q_n6, q_n7, q_n8, q_n9, q_n10, q_n11, q_n12, q_n13, q_n14, q_n15, q_n20, q_n60, q_n1288] at c_1 c_5; have l1 : 0 ≤ (q_i (S 32 0 t)).toInt ∧ (q_i (S 32 0 t)).toInt ≤ 5 := hI 32 0 t; have l2 : 0 ≤ (q_i (S 0 0 33)).toInt ∧ (q_i (S 0 0 33)).toInt ≤ 6 := hI 0 0 33; have l3 := nI_toInt (n := t) (by omega); rw [vp_in_iff]; omega
        refine mase_30 hC hW hS (fun _ h => h) h_9 rfl md_fm_take_64 (fun H locs hW hS => ?_)
        refine lv_iload_n hx hb md_fm_take_65 rfl (lv_at hl 0 rfl) ?_
        have hf : m_fm_take_L0 (n + 1) S t = (q_i (S 32 0 t), q_st (q_st (q_st (m_fm_leaveLine S (q_i (S 32 0 t))) 7 0 ((q_i (S 32 0 t)).toNatClampNeg) (.int 1)) 29 0 ((q_i (S 32 0 t)).toNatClampNeg) (.int ((q_i (S 29 0 ((q_i (S 32 0 t)).toNatClampNeg))) + 1))) 30 0 ((q_i (S 32 0 t)).toNatClampNeg) (.int (q_i ((m_fm_leaveLine S (q_i (S 32 0 t))) 0 0 34)))) := by rw [m_fm_take_L0, if_neg c_1, if_pos c_5]
        rw [hf]
        exact q_iret hC hr hlocks hW hS rfl rfl md_fm_take_66
      · -- not taken
        refine lv_goto (tgt := 67) hx hb md_fm_take_30 (by decide) ?_
        refine lv_iinc (v := nI t + 1) (lv' := [(1, .int (nI t + 1)), (2, .int (q_i (S 32 0 t))), (0, .ref (q_a mX G 0 0))]) hx hb md_fm_take_67 hl (k := 2) rfl rfl (by decide) rfl (fun ls hl => ?_)
        refine lv_goto (tgt := 2) hx hb md_fm_take_70 (by decide) ?_
        have hf : m_fm_take_L0 (n + 1) S t = m_fm_take_L0 n S (t + 1) := by rw [m_fm_take_L0, if_neg c_1, if_neg c_5]
        rw [hf]
        have hl2 : lv_has ls 3 [(0, .ref (q_a mX G 0 0)), (1, .int (nI (t + 1)))] := by rw [← nI_1 t]; exact lv_sub hl [2, 0] rfl
        exact ih S (t + 1) _ _ ls (by have b1 : 0 ≤ (q_i (S 32 0 t)).toInt ∧ (q_i (S 32 0 t)).toInt ≤ 5 := hI 32 0 t; have b2 : 0 ≤ (q_i (S 0 0 33)).toInt ∧ (q_i (S 0 0 33)).toInt ≤ 6 := hI 0 0 33; have n_t := nI_toInt (n := t) (by omega); have m_t := q_nT (n := t) (by omega); simp only [Int32.lt_iff_toInt_lt, Int32.le_iff_toInt_le, q_n0, q_n1, q_n2, q_n3, q_n4, q_n5, q_n6, q_n7, q_n8, q_n9, q_n10, q_n11, q_n12, q_n13, q_n14, q_n15, q_n20, q_n60, q_n1288] at c_1 c_5; omega) (by have b1 : 0 ≤ (q_i (S 32 0 t)).toInt ∧ (q_i (S 32 0 t)).toInt ≤ 5 := hI 32 0 t; have b2 : 0 ≤ (q_i (S 0 0 33)).toInt ∧ (q_i (S 0 0 33)).toInt ≤ 6 := hI 0 0 33; have n_t := nI_toInt (n := t) (by omega); have m_t := q_nT (n := t) (by omega); simp only [Int32.lt_iff_toInt_lt, Int32.le_iff_toInt_le, q_n0, q_n1, q_n2, q_n3, q_n4, q_n5, q_n6, q_n7, q_n8, q_n9, q_n10, q_n11, q_n12, q_n13, q_n14, q_n15, q_n20, q_n60, q_n1288] at c_1 c_5; omega) hI hW hS hl2
set_option maxRecDepth 100000 in
set_option maxHeartbeats 4000000 in
theorem mK_fm_take_L0 : ∀ (n : Nat) (S : q_S) (t : Nat) (x y z : Nat) (h0 : x ≠ 0) (h7 : x ≠ 7) (h29 : x ≠ 29) (h30 : x ≠ 30) (h32 : x ≠ 32), (m_fm_take_L0 n S t).2 x y z = S x y z := by
  intro n
  induction n with
  | zero => intro S t x y z h0 h7 h29 h30 h32; rfl
  | succ n ih =>
    intro S t x y z h0 h7 h29 h30 h32
    by_cases c_1 : q_i (S 0 0 33) ≤ nI t
    · -- yes
      have hf : m_fm_take_L0 (n + 1) S t = ((-2), S) := by rw [m_fm_take_L0, if_pos c_1]
      rw [hf]
    · -- no
      by_cases c_5 : q_i (S 31 0 ((q_i (S 32 0 t)).toNatClampNeg)) ≤ q_i (S 0 0 34)
      · -- yes
        have hf : m_fm_take_L0 (n + 1) S t = (q_i (S 32 0 t), q_st (q_st (q_st (m_fm_leaveLine S (q_i (S 32 0 t))) 7 0 ((q_i (S 32 0 t)).toNatClampNeg) (.int 1)) 29 0 ((q_i (S 32 0 t)).toNatClampNeg) (.int ((q_i (S 29 0 ((q_i (S 32 0 t)).toNatClampNeg))) + 1))) 30 0 ((q_i (S 32 0 t)).toNatClampNeg) (.int (q_i ((m_fm_leaveLine S (q_i (S 32 0 t))) 0 0 34)))) := by rw [m_fm_take_L0, if_neg c_1, if_pos c_5]
        rw [hf]
        exact (q_kj h30).trans ((q_kj h29).trans ((q_kj h7).trans (((mK_fm_leaveLine S (q_i (S 32 0 t)) x y z h0 h32)))))
      · -- no
        have hf : m_fm_take_L0 (n + 1) S t = m_fm_take_L0 n S (t + 1) := by rw [m_fm_take_L0, if_neg c_1, if_neg c_5]
        rw [hf]
        exact (ih S (t + 1) x y z h0 h7 h29 h30 h32).trans (rfl)
set_option maxRecDepth 100000 in
set_option maxHeartbeats 4000000 in
theorem mI_fm_take_L0  : ∀ (n : Nat) (S : q_S) (t : Nat), t + n = 7 → t ≤ 6 → mI S → mI ((m_fm_take_L0 n S t).2) := by
  intro n
  induction n with
  | zero =>
    intro S t ht hu hI
    exfalso
    omega
  | succ n ih =>
    intro S t ht hu hI
    by_cases c_1 : q_i (S 0 0 33) ≤ nI t
    · -- yes
      have hf : m_fm_take_L0 (n + 1) S t = ((-2), S) := by rw [m_fm_take_L0, if_pos c_1]
      rw [hf]
      exact hI
    · -- no
      by_cases c_5 : q_i (S 31 0 ((q_i (S 32 0 t)).toNatClampNeg)) ≤ q_i (S 0 0 34)
      · -- yes
        have h_2 : vp_in (nI t) 6 := by simp only [Int32.lt_iff_toInt_lt, Int32.le_iff_toInt_le, q_n0, q_n1, q_n2, q_n3, q_n4, q_n5, q_n6, q_n7, q_n8, q_n9, q_n10, q_n11, q_n12, q_n13, q_n14, q_n15, q_n20, q_n60, q_n1288] at c_1; have l1 := nI_toInt (n := t) (by omega); have l2 : 0 ≤ (q_i (S 0 0 33)).toInt ∧ (q_i (S 0 0 33)).toInt ≤ 6 := hI 0 0 33; rw [vp_in_iff]; omega
        have s_3 : (nI t).toNatClampNeg = t := by simp only [Int32.lt_iff_toInt_lt, Int32.le_iff_toInt_le, q_n0, q_n1, q_n2, q_n3, q_n4, q_n5, q_n6, q_n7, q_n8, q_n9, q_n10, q_n11, q_n12, q_n13, q_n14, q_n15, q_n20, q_n60, q_n1288] at c_1; have l1 := nI_toInt (n := t) (by omega); have l2 : 0 ≤ (q_i (S 0 0 33)).toInt ∧ (q_i (S 0 0 33)).toInt ≤ 6 := hI 0 0 33; apply q_tn; omega
        have h_4 : vp_in (q_i (S 32 0 t)) 6 := by simp only [Int32.lt_iff_toInt_lt, Int32.le_iff_toInt_le, q_n0, q_n1, q_n2, q_n3, q_n4, q_n5, q_n6, q_n7, q_n8, q_n9, q_n10, q_n11, q_n12, q_n13, q_n14, q_n15, q_n20, q_n60, q_n1288] at c_1; have l1 : 0 ≤ (q_i (S 32 0 t)).toInt ∧ (q_i (S 32 0 t)).toInt ≤ 5 := hI 32 0 t; have l2 : 0 ≤ (q_i (S 0 0 33)).toInt ∧ (q_i (S 0 0 33)).toInt ≤ 6 := hI 0 0 33; have l3 := nI_toInt (n := t) (by omega); rw [vp_in_iff]; omega
        have h_6 : vp_in (q_i (S 32 0 t)) 6 := by simp only [Int32.lt_iff_toInt_lt, Int32.le_iff_toInt_le, q_n0, q_n1, q_n2, q_n3, q_n4, q_n5, q_n6, q_n7, q_n8, q_n9, q_n10, q_n11, q_n12, q_n13, q_n14, q_n15, q_n20, q_n60, q_n1288] at c_1 c_5; have l1 : 0 ≤ (q_i (S 32 0 t)).toInt ∧ (q_i (S 32 0 t)).toInt ≤ 5 := hI 32 0 t; have l2 : 0 ≤ (q_i (S 0 0 33)).toInt ∧ (q_i (S 0 0 33)).toInt ≤ 6 := hI 0 0 33; have l3 := nI_toInt (n := t) (by omega); rw [vp_in_iff]; omega
        have h_7 : vp_in (q_i (S 32 0 t)) 6 := by simp only [Int32.lt_iff_toInt_lt, Int32.le_iff_toInt_le, q_n0, q_n1, q_n2, q_n3, q_n4, q_n5, q_n6, q_n7, q_n8, q_n9, q_n10, q_n11, q_n12, q_n13, q_n14, q_n15, q_n20, q_n60, q_n1288] at c_1 c_5; have l1 : 0 ≤ (q_i (S 32 0 t)).toInt ∧ (q_i (S 32 0 t)).toInt ≤ 5 := hI 32 0 t; have l2 : 0 ≤ (q_i (S 0 0 33)).toInt ∧ (q_i (S 0 0 33)).toInt ≤ 6 := hI 0 0 33; have l3 := nI_toInt (n := t) (by omega); rw [vp_in_iff]; omega
        have h_8 : vp_in (q_i (S 32 0 t)) 6 := by simp only [Int32.lt_iff_toInt_lt, Int32.le_iff_toInt_le, q_n0, q_n1, q_n2, q_n3, q_n4, q_n5, q_n6, q_n7, q_n8, q_n9, q_n10, q_n11, q_n12, q_n13, q_n14, q_n15, q_n20, q_n60, q_n1288] at c_1 c_5; have l1 : 0 ≤ (q_i (S 32 0 t)).toInt ∧ (q_i (S 32 0 t)).toInt ≤ 5 := hI 32 0 t; have l2 : 0 ≤ (q_i (S 0 0 33)).toInt ∧ (q_i (S 0 0 33)).toInt ≤ 6 := hI 0 0 33; have l3 := nI_toInt (n := t) (by omega); rw [vp_in_iff]; omega
        have h_9 : vp_in (q_i (S 32 0 t)) 6 := by simp only [Int32.lt_iff_toInt_lt, Int32.le_iff_toInt_le, q_n0, q_n1, q_n2, q_n3, q_n4, q_n5, q_n6, q_n7, q_n8, q_n9, q_n10, q_n11, q_n12, q_n13, q_n14, q_n15, q_n20, q_n60, q_n1288] at c_1 c_5; have l1 : 0 ≤ (q_i (S 32 0 t)).toInt ∧ (q_i (S 32 0 t)).toInt ≤ 5 := hI 32 0 t; have l2 : 0 ≤ (q_i (S 0 0 33)).toInt ∧ (q_i (S 0 0 33)).toInt ≤ 6 := hI 0 0 33; have l3 := nI_toInt (n := t) (by omega); rw [vp_in_iff]; omega
        have hf : m_fm_take_L0 (n + 1) S t = (q_i (S 32 0 t), q_st (q_st (q_st (m_fm_leaveLine S (q_i (S 32 0 t))) 7 0 ((q_i (S 32 0 t)).toNatClampNeg) (.int 1)) 29 0 ((q_i (S 32 0 t)).toNatClampNeg) (.int ((q_i (S 29 0 ((q_i (S 32 0 t)).toNatClampNeg))) + 1))) 30 0 ((q_i (S 32 0 t)).toNatClampNeg) (.int (q_i ((m_fm_leaveLine S (q_i (S 32 0 t))) 0 0 34)))) := by rw [m_fm_take_L0, if_neg c_1, if_pos c_5]
        rw [hf]
        exact (mIs (mIs (mIs (mI_fm_leaveLine S (q_i (S 32 0 t)) hI) rfl) rfl) rfl)
      · -- no
        have h_2 : vp_in (nI t) 6 := by simp only [Int32.lt_iff_toInt_lt, Int32.le_iff_toInt_le, q_n0, q_n1, q_n2, q_n3, q_n4, q_n5, q_n6, q_n7, q_n8, q_n9, q_n10, q_n11, q_n12, q_n13, q_n14, q_n15, q_n20, q_n60, q_n1288] at c_1; have l1 := nI_toInt (n := t) (by omega); have l2 : 0 ≤ (q_i (S 0 0 33)).toInt ∧ (q_i (S 0 0 33)).toInt ≤ 6 := hI 0 0 33; rw [vp_in_iff]; omega
        have s_3 : (nI t).toNatClampNeg = t := by simp only [Int32.lt_iff_toInt_lt, Int32.le_iff_toInt_le, q_n0, q_n1, q_n2, q_n3, q_n4, q_n5, q_n6, q_n7, q_n8, q_n9, q_n10, q_n11, q_n12, q_n13, q_n14, q_n15, q_n20, q_n60, q_n1288] at c_1; have l1 := nI_toInt (n := t) (by omega); have l2 : 0 ≤ (q_i (S 0 0 33)).toInt ∧ (q_i (S 0 0 33)).toInt ≤ 6 := hI 0 0 33; apply q_tn; omega
        have h_4 : vp_in (q_i (S 32 0 t)) 6 := by simp only [Int32.lt_iff_toInt_lt, Int32.le_iff_toInt_le, q_n0, q_n1, q_n2, q_n3, q_n4, q_n5, q_n6, q_n7, q_n8, q_n9, q_n10, q_n11, q_n12, q_n13, q_n14, q_n15, q_n20, q_n60, q_n1288] at c_1; have l1 : 0 ≤ (q_i (S 32 0 t)).toInt ∧ (q_i (S 32 0 t)).toInt ≤ 5 := hI 32 0 t; have l2 : 0 ≤ (q_i (S 0 0 33)).toInt ∧ (q_i (S 0 0 33)).toInt ≤ 6 := hI 0 0 33; have l3 := nI_toInt (n := t) (by omega); rw [vp_in_iff]; omega
        have hf : m_fm_take_L0 (n + 1) S t = m_fm_take_L0 n S (t + 1) := by rw [m_fm_take_L0, if_neg c_1, if_neg c_5]
        rw [hf]
        exact ih S (t + 1) (by have b1 : 0 ≤ (q_i (S 32 0 t)).toInt ∧ (q_i (S 32 0 t)).toInt ≤ 5 := hI 32 0 t; have b2 : 0 ≤ (q_i (S 0 0 33)).toInt ∧ (q_i (S 0 0 33)).toInt ≤ 6 := hI 0 0 33; have n_t := nI_toInt (n := t) (by omega); have m_t := q_nT (n := t) (by omega); simp only [Int32.lt_iff_toInt_lt, Int32.le_iff_toInt_le, q_n0, q_n1, q_n2, q_n3, q_n4, q_n5, q_n6, q_n7, q_n8, q_n9, q_n10, q_n11, q_n12, q_n13, q_n14, q_n15, q_n20, q_n60, q_n1288] at c_1 c_5; omega) (by have b1 : 0 ≤ (q_i (S 32 0 t)).toInt ∧ (q_i (S 32 0 t)).toInt ≤ 5 := hI 32 0 t; have b2 : 0 ≤ (q_i (S 0 0 33)).toInt ∧ (q_i (S 0 0 33)).toInt ≤ 6 := hI 0 0 33; have n_t := nI_toInt (n := t) (by omega); have m_t := q_nT (n := t) (by omega); simp only [Int32.lt_iff_toInt_lt, Int32.le_iff_toInt_le, q_n0, q_n1, q_n2, q_n3, q_n4, q_n5, q_n6, q_n7, q_n8, q_n9, q_n10, q_n11, q_n12, q_n13, q_n14, q_n15, q_n20, q_n60, q_n1288] at c_1 c_5; omega) hI
def m_fm_take (S : q_S) : Int32 × q_S :=
  m_fm_take_L0 7 S 0
set_option maxRecDepth 100000 in
set_option maxHeartbeats 4000000 in
theorem mC_fm_take (l : Launch) (G : q_G) (S : q_S) (hI : mI S) : q_Mi mX G l my_fm_take (q_ws (q_gw lw_tbl) my_fm_take mb_fm_take 3 (some .int)) (q_rm 1) [.ref (q_a mX G 0 0)] S (m_fm_take S).1 (m_fm_take S).2 := by
  refine q_met (cc := mb_fm_take) (maxL := 3) (ret := (some .int)) mOk (by decide) rfl (Nat.le_of_ble_eq_true rfl) ?_
  intro p e s m below meth c ls hC hr hlocks hW hS hl
  have hx := hC.1.1
  have hb := hC.1.2.1
  have hl : lv_has ls 3 [(0, .ref (q_a mX G 0 0))] := hl
  refine lv_iconst (v := 0) hx hb md_fm_take_0 (by decide) ?_
  refine lv_istore_n (lv' := [(1, .int 0), (0, .ref (q_a mX G 0 0))]) hx hb md_fm_take_1 rfl hl (by decide) rfl (fun ls hl => ?_)
  have hf : m_fm_take S = m_fm_take_L0 7 S 0 := by unfold m_fm_take; rfl
  rw [hf]
  have hl2 : lv_has ls 3 [(0, .ref (q_a mX G 0 0)), (1, .int (nI 0))] := by rw [(show nI 0 = 0 from rfl)]; exact lv_sub hl [1, 0] rfl
  exact mL_fm_take_L0 l G   hC hr hlocks 7 S 0 _ _ ls (by omega) (by omega) hI hW hS hl2
set_option maxRecDepth 100000 in
set_option maxHeartbeats 4000000 in
theorem mI_fm_take (S : q_S) (hI : mI S) : mI ((m_fm_take S).2) := by
  have hf : m_fm_take S = m_fm_take_L0 7 S 0 := by unfold m_fm_take; rfl
  rw [hf]
  exact mI_fm_take_L0   7 S 0 (by omega) (by omega) hI
set_option maxRecDepth 100000 in
set_option maxHeartbeats 4000000 in
theorem mK_fm_take (S : q_S) (x y z : Nat) (h0 : x ≠ 0) (h7 : x ≠ 7) (h29 : x ≠ 29) (h30 : x ≠ 30) (h32 : x ≠ 32) : (m_fm_take S).2 x y z = S x y z := by
  have hf : m_fm_take S = m_fm_take_L0 7 S 0 := by unfold m_fm_take; rfl
  rw [hf]
  exact (mK_fm_take_L0 7 S 0 x y z h0 h7 h29 h30 h32).trans (rfl)
def m_fm_flows_L0 : Nat → q_S → Int32 → Int32 → Nat → Int32
  | 0, S, _, _, _ => 0
  | n + 1, S, a, v, t =>
    if 6 ≤ nI t then
      v
    else
      if q_i (S 5 0 t) = 0 then
        m_fm_flows_L0 n S a v (t + 1)
      else
        if a = 0 then
          m_fm_flows_L0 n S a (v + 1) (t + 1)
        else
          if 5 ≤ q_i (S 10 0 t) then
            m_fm_flows_L0 n S a v (t + 1)
          else
            m_fm_flows_L0 n S a (v + 1) (t + 1)
set_option maxRecDepth 100000 in
set_option maxHeartbeats 4000000 in
theorem mL_fm_flows_L0 (l : Launch) (G : q_G) (a : Int32)  {p : Program} {e : Env} {s : State} {m : MethodId} {below : List Frame} {meth : Method} {c : Code} (hC : q_C mX G p m c mb_fm_flows 4 s ([.ref (q_a mX G 0 0), .int a] : List Value).toArray (q_ws (q_gw lw_tbl) my_fm_flows mb_fm_flows 4 (some .int)) mR_fm) (hr : meth.sig.returnType = (some .int)) (hlocks : meth.locks = false) : ∀ (n : Nat) (S : q_S) (v : Int32) (t : Nat) (H : Heap) (locs : List Loc) (ls : Array Slot), t + n = 7 → t ≤ 6 → q_w mX G s S H → va_S (q_A mX G) s.heap H locs → lv_has ls 4 [(0, .ref (q_a mX G 0 0)), (1, .int a), (2, .int v), (3, .int (nI t))] → W p l e (headSpec (q_ws (q_gw lw_tbl) my_fm_flows mb_fm_flows 4 (some .int)) (q_rm 0)).room s m ([.ref (q_a mX G 0 0), .int a] : List Value).toArray below meth c H locs 0 0 (MQ below (va_Qi (fun (r' : Int32) (u : q_S) => r' = m_fm_flows_L0 n S a v t ∧ u = S) (q_P mX G) (q_A mX G)) ([.ref (q_a mX G 0 0), .int a] : List Value).toArray s 0 0 (q_A mX G)) (F0 m 4 ls []) := by
  have hx := hC.1.1
  have hb := hC.1.2.1
  intro n
  induction n with
  | zero =>
    intro S v t H locs ls ht hu hW hS hl
    exfalso
    omega
  | succ n ih =>
    intro S v t H locs ls ht hu hW hS hl
    refine lv_iload_n hx hb md_fm_flows_4 rfl (lv_at hl 3 rfl) ?_
    refine lv_bipush (v := 6) hx hb md_fm_flows_5 (by decide) ?_
    refine lv_icmp_ge (tgt := 42) hx hb md_fm_flows_7 (by decide) (fun c_1 => ?_) (fun c_1 => ?_)
    · -- taken
      refine lv_iload_n hx hb md_fm_flows_42 rfl (lv_at hl 2 rfl) ?_
      have hf : m_fm_flows_L0 (n + 1) S a v t = v := by rw [m_fm_flows_L0, if_pos c_1]
      rw [hf]
      exact q_iret hC hr hlocks hW hS rfl rfl md_fm_flows_43
    · -- not taken
      refine lv_aload_n hx hb md_fm_flows_10 rfl (lv_at hl 0 rfl) ?_
      refine mg_fm_22 hC hW 0 Nat.one_pos md_fm_flows_11 ?_
      refine lv_iload_n hx hb md_fm_flows_14 rfl (lv_at hl 3 rfl) ?_
      have h_2 : vp_in (nI t) 6 := by simp only [Int32.lt_iff_toInt_lt, Int32.le_iff_toInt_le, q_n0, q_n1, q_n2, q_n3, q_n4, q_n5, q_n6, q_n7, q_n8, q_n9, q_n10, q_n11, q_n12, q_n13, q_n14, q_n15, q_n20, q_n60, q_n1288] at c_1; have l1 := nI_toInt (n := t) (by omega); have l2 : (6 : Int32).toInt = 6 := rfl; rw [vp_in_iff]; omega
      have s_3 : (nI t).toNatClampNeg = t := by simp only [Int32.lt_iff_toInt_lt, Int32.le_iff_toInt_le, q_n0, q_n1, q_n2, q_n3, q_n4, q_n5, q_n6, q_n7, q_n8, q_n9, q_n10, q_n11, q_n12, q_n13, q_n14, q_n15, q_n20, q_n60, q_n1288] at c_1; have l1 := nI_toInt (n := t) (by omega); have l2 : (6 : Int32).toInt = 6 := rfl; apply q_tn; omega
      refine male_5 hC hW h_2 s_3 (rfl) md_fm_flows_15 ?_
      refine lv_if_eq (tgt := 36) hx hb md_fm_flows_16 (by decide) (fun c_4 => ?_) (fun c_4 => ?_)
      · -- taken
        refine lv_iinc (v := nI t + 1) (lv' := [(3, .int (nI t + 1)), (0, .ref (q_a mX G 0 0)), (1, .int a), (2, .int v)]) hx hb md_fm_flows_36 hl (k := 3) rfl rfl (by decide) rfl (fun ls hl => ?_)
        refine lv_goto (tgt := 4) hx hb md_fm_flows_39 (by decide) ?_
        have hf : m_fm_flows_L0 (n + 1) S a v t = m_fm_flows_L0 n S a v (t + 1) := by rw [m_fm_flows_L0, if_neg c_1, if_pos c_4]
        rw [hf]
        have hl2 : lv_has ls 4 [(0, .ref (q_a mX G 0 0)), (1, .int a), (2, .int v), (3, .int (nI (t + 1)))] := by rw [← nI_1 t]; exact lv_sub hl [1, 2, 3, 0] rfl
        exact ih S v (t + 1) _ _ ls (by have n_t := nI_toInt (n := t) (by omega); have m_t := q_nT (n := t) (by omega); simp only [Int32.lt_iff_toInt_lt, Int32.le_iff_toInt_le, q_n0, q_n1, q_n2, q_n3, q_n4, q_n5, q_n6, q_n7, q_n8, q_n9, q_n10, q_n11, q_n12, q_n13, q_n14, q_n15, q_n20, q_n60, q_n1288] at c_1; omega) (by have n_t := nI_toInt (n := t) (by omega); have m_t := q_nT (n := t) (by omega); simp only [Int32.lt_iff_toInt_lt, Int32.le_iff_toInt_le, q_n0, q_n1, q_n2, q_n3, q_n4, q_n5, q_n6, q_n7, q_n8, q_n9, q_n10, q_n11, q_n12, q_n13, q_n14, q_n15, q_n20, q_n60, q_n1288] at c_1; omega) hW hS hl2
      · -- not taken
        refine lv_iload_n hx hb md_fm_flows_19 rfl (lv_at hl 1 rfl) ?_
        refine lv_if_eq (tgt := 33) hx hb md_fm_flows_20 (by decide) (fun c_5 => ?_) (fun c_5 => ?_)
        · -- taken
          refine lv_iinc (v := v + 1) (lv' := [(2, .int (v + 1)), (0, .ref (q_a mX G 0 0)), (1, .int a), (3, .int (nI t))]) hx hb md_fm_flows_33 hl (k := 2) rfl rfl (by decide) rfl (fun ls hl => ?_)
          refine lv_iinc (v := nI t + 1) (lv' := [(3, .int (nI t + 1)), (2, .int (v + 1)), (0, .ref (q_a mX G 0 0)), (1, .int a)]) hx hb md_fm_flows_36 hl (k := 3) rfl rfl (by decide) rfl (fun ls hl => ?_)
          refine lv_goto (tgt := 4) hx hb md_fm_flows_39 (by decide) ?_
          have hf : m_fm_flows_L0 (n + 1) S a v t = m_fm_flows_L0 n S a (v + 1) (t + 1) := by rw [m_fm_flows_L0, if_neg c_1, if_neg c_4, if_pos c_5]
          rw [hf]
          have hl2 : lv_has ls 4 [(0, .ref (q_a mX G 0 0)), (1, .int a), (2, .int (v + 1)), (3, .int (nI (t + 1)))] := by rw [← nI_1 t]; exact lv_sub hl [2, 3, 1, 0] rfl
          exact ih S (v + 1) (t + 1) _ _ ls (by have n_t := nI_toInt (n := t) (by omega); have m_t := q_nT (n := t) (by omega); simp only [Int32.lt_iff_toInt_lt, Int32.le_iff_toInt_le, q_n0, q_n1, q_n2, q_n3, q_n4, q_n5, q_n6, q_n7, q_n8, q_n9, q_n10, q_n11, q_n12, q_n13, q_n14, q_n15, q_n20, q_n60, q_n1288] at c_1; omega) (by have n_t := nI_toInt (n := t) (by omega); have m_t := q_nT (n := t) (by omega); simp only [Int32.lt_iff_toInt_lt, Int32.le_iff_toInt_le, q_n0, q_n1, q_n2, q_n3, q_n4, q_n5, q_n6, q_n7, q_n8, q_n9, q_n10, q_n11, q_n12, q_n13, q_n14, q_n15, q_n20, q_n60, q_n1288] at c_1; omega) hW hS hl2
        · -- not taken
          refine lv_aload_n hx hb md_fm_flows_23 rfl (lv_at hl 0 rfl) ?_
          refine mg_fm_38 hC hW 0 Nat.one_pos md_fm_flows_24 ?_
          refine lv_iload_n hx hb md_fm_flows_27 rfl (lv_at hl 3 rfl) ?_
          have h_6 : vp_in (nI t) 6 := by have e_c_4 := lv_neT c_4 (a := 0) (by decide); have e_c_5 := lv_neT c_5 (a := 0) (by decide); simp only [Int32.lt_iff_toInt_lt, Int32.le_iff_toInt_le, q_n0, q_n1, q_n2, q_n3, q_n4, q_n5, q_n6, q_n7, q_n8, q_n9, q_n10, q_n11, q_n12, q_n13, q_n14, q_n15, q_n20, q_n60, q_n1288] at c_1; have l1 := nI_toInt (n := t) (by omega); have l2 : (6 : Int32).toInt = 6 := rfl; rw [vp_in_iff]; omega
          have s_7 : (nI t).toNatClampNeg = t := by have e_c_4 := lv_neT c_4 (a := 0) (by decide); have e_c_5 := lv_neT c_5 (a := 0) (by decide); simp only [Int32.lt_iff_toInt_lt, Int32.le_iff_toInt_le, q_n0, q_n1, q_n2, q_n3, q_n4, q_n5, q_n6, q_n7, q_n8, q_n9, q_n10, q_n11, q_n12, q_n13, q_n14, q_n15, q_n20, q_n60, q_n1288] at c_1; have l1 := nI_toInt (n := t) (by omega); have l2 : (6 : Int32).toInt = 6 := rfl; apply q_tn; omega
          refine male_10 hC hW h_6 s_7 (rfl) md_fm_flows_28 ?_
          refine lv_iconst (v := 5) hx hb md_fm_flows_29 (by decide) ?_
          refine lv_icmp_ge (tgt := 36) hx hb md_fm_flows_30 (by decide) (fun c_8 => ?_) (fun c_8 => ?_)
          · -- taken
            refine lv_iinc (v := nI t + 1) (lv' := [(3, .int (nI t + 1)), (0, .ref (q_a mX G 0 0)), (1, .int a), (2, .int v)]) hx hb md_fm_flows_36 hl (k := 3) rfl rfl (by decide) rfl (fun ls hl => ?_)
            refine lv_goto (tgt := 4) hx hb md_fm_flows_39 (by decide) ?_
            have hf : m_fm_flows_L0 (n + 1) S a v t = m_fm_flows_L0 n S a v (t + 1) := by rw [m_fm_flows_L0, if_neg c_1, if_neg c_4, if_neg c_5, if_pos c_8]
            rw [hf]
            have hl2 : lv_has ls 4 [(0, .ref (q_a mX G 0 0)), (1, .int a), (2, .int v), (3, .int (nI (t + 1)))] := by rw [← nI_1 t]; exact lv_sub hl [1, 2, 3, 0] rfl
            exact ih S v (t + 1) _ _ ls (by have n_t := nI_toInt (n := t) (by omega); have m_t := q_nT (n := t) (by omega); simp only [Int32.lt_iff_toInt_lt, Int32.le_iff_toInt_le, q_n0, q_n1, q_n2, q_n3, q_n4, q_n5, q_n6, q_n7, q_n8, q_n9, q_n10, q_n11, q_n12, q_n13, q_n14, q_n15, q_n20, q_n60, q_n1288] at c_1 c_8; omega) (by have n_t := nI_toInt (n := t) (by omega); have m_t := q_nT (n := t) (by omega); simp only [Int32.lt_iff_toInt_lt, Int32.le_iff_toInt_le, q_n0, q_n1, q_n2, q_n3, q_n4, q_n5, q_n6, q_n7, q_n8, q_n9, q_n10, q_n11, q_n12, q_n13, q_n14, q_n15, q_n20, q_n60, q_n1288] at c_1 c_8; omega) hW hS hl2
          · -- not taken
            refine lv_iinc (v := v + 1) (lv' := [(2, .int (v + 1)), (0, .ref (q_a mX G 0 0)), (1, .int a), (3, .int (nI t))]) hx hb md_fm_flows_33 hl (k := 2) rfl rfl (by decide) rfl (fun ls hl => ?_)
            refine lv_iinc (v := nI t + 1) (lv' := [(3, .int (nI t + 1)), (2, .int (v + 1)), (0, .ref (q_a mX G 0 0)), (1, .int a)]) hx hb md_fm_flows_36 hl (k := 3) rfl rfl (by decide) rfl (fun ls hl => ?_)
            refine lv_goto (tgt := 4) hx hb md_fm_flows_39 (by decide) ?_
            have hf : m_fm_flows_L0 (n + 1) S a v t = m_fm_flows_L0 n S a (v + 1) (t + 1) := by rw [m_fm_flows_L0, if_neg c_1, if_neg c_4, if_neg c_5, if_neg c_8]
            rw [hf]
            have hl2 : lv_has ls 4 [(0, .ref (q_a mX G 0 0)), (1, .int a), (2, .int (v + 1)), (3, .int (nI (t + 1)))] := by rw [← nI_1 t]; exact lv_sub hl [2, 3, 1, 0] rfl
            exact ih S (v + 1) (t + 1) _ _ ls (by have n_t := nI_toInt (n := t) (by omega); have m_t := q_nT (n := t) (by omega); simp only [Int32.lt_iff_toInt_lt, Int32.le_iff_toInt_le, q_n0, q_n1, q_n2, q_n3, q_n4, q_n5, q_n6, q_n7, q_n8, q_n9, q_n10, q_n11, q_n12, q_n13, q_n14, q_n15, q_n20, q_n60, q_n1288] at c_1 c_8; omega) (by have n_t := nI_toInt (n := t) (by omega); have m_t := q_nT (n := t) (by omega); simp only [Int32.lt_iff_toInt_lt, Int32.le_iff_toInt_le, q_n0, q_n1, q_n2, q_n3, q_n4, q_n5, q_n6, q_n7, q_n8, q_n9, q_n10, q_n11, q_n12, q_n13, q_n14, q_n15, q_n20, q_n60, q_n1288] at c_1 c_8; omega) hW hS hl2
def m_fm_flows (S : q_S) (a : Int32) : Int32 :=
  m_fm_flows_L0 7 S a 0 0
set_option maxRecDepth 100000 in
set_option maxHeartbeats 4000000 in
theorem mC_fm_flows (l : Launch) (G : q_G) (S : q_S) (a : Int32)  : q_Mi mX G l my_fm_flows (q_ws (q_gw lw_tbl) my_fm_flows mb_fm_flows 4 (some .int)) (q_rm 0) [.ref (q_a mX G 0 0), .int a] S (m_fm_flows S a) S := by
  refine q_met (cc := mb_fm_flows) (maxL := 4) (ret := (some .int)) mOk (by decide) rfl (Nat.le_of_ble_eq_true rfl) ?_
  intro p e s m below meth c ls hC hr hlocks hW hS hl
  have hx := hC.1.1
  have hb := hC.1.2.1
  have hl : lv_has ls 4 [(0, .ref (q_a mX G 0 0)), (1, .int a)] := hl
  refine lv_iconst (v := 0) hx hb md_fm_flows_0 (by decide) ?_
  refine lv_istore_n (lv' := [(2, .int 0), (0, .ref (q_a mX G 0 0)), (1, .int a)]) hx hb md_fm_flows_1 rfl hl (by decide) rfl (fun ls hl => ?_)
  refine lv_iconst (v := 0) hx hb md_fm_flows_2 (by decide) ?_
  refine lv_istore_n (lv' := [(3, .int 0), (2, .int 0), (0, .ref (q_a mX G 0 0)), (1, .int a)]) hx hb md_fm_flows_3 rfl hl (by decide) rfl (fun ls hl => ?_)
  have hf : m_fm_flows S a = m_fm_flows_L0 7 S a 0 0 := by unfold m_fm_flows; rfl
  rw [hf]
  have hl2 : lv_has ls 4 [(0, .ref (q_a mX G 0 0)), (1, .int a), (2, .int 0), (3, .int (nI 0))] := by rw [(show nI 0 = 0 from rfl)]; exact lv_sub hl [2, 3, 1, 0] rfl
  exact mL_fm_flows_L0 l G a  hC hr hlocks 7 S 0 0 _ _ ls (by omega) (by omega) hW hS hl2
def m_fm_entry (S : q_S) (a b d : Int32) : Int32 :=
  if m_fm_in S a 0 5 = 0 then
    (-1)
  else
    if m_fm_in S d 0 2 = 0 then
      (-1)
    else
      if q_i (S 5 0 a.toNatClampNeg) = 0 then
        (-2)
      else
        if m_fm_in S b 0 ((q_i (S 15 0 a.toNatClampNeg)) - 1) = 0 then
          (-2)
        else
          if d = 0 then
            q_i (S 17 0 (20 * a.toNatClampNeg + b.toNatClampNeg))
          else
            if d = 1 then
              q_i (S 18 0 (20 * a.toNatClampNeg + b.toNatClampNeg))
            else
              q_i (S 19 0 (20 * a.toNatClampNeg + b.toNatClampNeg))
set_option maxRecDepth 100000 in
set_option maxHeartbeats 4000000 in
theorem mC_fm_entry (l : Launch) (G : q_G) (S : q_S) (a b d : Int32) (hI : mI S) : q_Mi mX G l my_fm_entry (q_ws (q_gw lw_tbl) my_fm_entry mb_fm_entry 5 (some .int)) (q_rm 1) [.ref (q_a mX G 0 0), .int a, .int b, .int d] S (m_fm_entry S a b d) S := by
  refine q_met (cc := mb_fm_entry) (maxL := 5) (ret := (some .int)) mOk (by decide) rfl (Nat.le_of_ble_eq_true rfl) ?_
  intro p e s m below meth c ls hC hr hlocks hW hS hl
  have hx := hC.1.1
  have hb := hC.1.2.1
  have hl : lv_has ls 5 [(0, .ref (q_a mX G 0 0)), (1, .int a), (2, .int b), (3, .int d)] := hl
  refine lv_iload_n hx hb md_fm_entry_0 rfl (lv_at hl 1 rfl) ?_
  refine lv_iconst (v := 0) hx hb md_fm_entry_1 (by decide) ?_
  refine lv_iconst (v := 5) hx hb md_fm_entry_2 (by decide) ?_
  refine q_calli hC hS (fun _ h => h) (q_runS (rest := []) hC hW (mC_fm_in l G S a 0 5) (mc_fm_111 (q_rm 0) hC.1.2.2.2.2 ⟨Nat.le_of_ble_eq_true rfl, Nat.le_of_ble_eq_true rfl⟩ rfl rfl) rfl hl.1 rfl (Nat.le_of_ble_eq_true rfl) md_fm_entry_3 ⟨Nat.zero_le _, Nat.zero_le _⟩) (fun H locs hW hS => ?_)
  refine lv_if_eq (tgt := 18) hx hb md_fm_entry_6 (by decide) (fun c_1 => ?_) (fun c_1 => ?_)
  · -- taken
    refine lv_iconst (v := (-1)) hx hb md_fm_entry_18 (by decide) ?_
    have hf : m_fm_entry S a b d = (-1) := by unfold m_fm_entry; rw [if_pos c_1]
    rw [hf]
    exact q_iret hC hr hlocks hW hS rfl rfl md_fm_entry_19
  · -- not taken
    refine lv_iload_n hx hb md_fm_entry_9 rfl (lv_at hl 3 rfl) ?_
    refine lv_iconst (v := 0) hx hb md_fm_entry_10 (by decide) ?_
    refine lv_iconst (v := 2) hx hb md_fm_entry_11 (by decide) ?_
    refine q_calli hC hS (fun _ h => h) (q_runS (rest := []) hC hW (mC_fm_in l G S d 0 2) (mc_fm_111 (q_rm 0) hC.1.2.2.2.2 ⟨Nat.le_of_ble_eq_true rfl, Nat.le_of_ble_eq_true rfl⟩ rfl rfl) rfl hl.1 rfl (Nat.le_of_ble_eq_true rfl) md_fm_entry_12 ⟨Nat.zero_le _, Nat.zero_le _⟩) (fun H locs hW hS => ?_)
    refine lv_if_ne (tgt := 20) hx hb md_fm_entry_15 (by decide) (fun c_2 => ?_) (fun c_2 => ?_)
    · -- taken
      refine lv_aload_n hx hb md_fm_entry_20 rfl (lv_at hl 0 rfl) ?_
      refine mg_fm_22 hC hW 0 Nat.one_pos md_fm_entry_21 ?_
      refine lv_iload_n hx hb md_fm_entry_24 rfl (lv_at hl 1 rfl) ?_
      have h_3 : vp_in a 6 := by obtain ⟨f_c_1_0, f_c_1_1⟩ := mF_in c_1; obtain ⟨f_c_2_0, f_c_2_1⟩ := mF_in c_2; simp only [Int32.lt_iff_toInt_lt, Int32.le_iff_toInt_le, q_n0, q_n1, q_n2, q_n3, q_n4, q_n5, q_n6, q_n7, q_n8, q_n9, q_n10, q_n11, q_n12, q_n13, q_n14, q_n15, q_n20, q_n60, q_n1288] at f_c_1_0 f_c_1_1 f_c_2_0 f_c_2_1; have l1 : 0 ≤ (q_i (S 15 0 a.toNatClampNeg)).toInt ∧ (q_i (S 15 0 a.toNatClampNeg)).toInt ≤ 20 := hI 15 0 a.toNatClampNeg; have l2 : (1 : Int32).toInt = 1 := rfl; have l3 := q_subI (x := q_i (S 15 0 a.toNatClampNeg)) (y := 1) (by omega); have l4 : (0 : Int32).toInt = 0 := rfl; have l5 : (5 : Int32).toInt = 5 := rfl; have l6 : (2 : Int32).toInt = 2 := rfl; rw [vp_in_iff]; omega
      refine male_5 hC hW h_3 rfl (rfl) md_fm_entry_25 ?_
      refine lv_if_eq (tgt := 45) hx hb md_fm_entry_26 (by decide) (fun c_4 => ?_) (fun c_4 => ?_)
      · -- taken
        refine lv_bipush (v := (-2)) hx hb md_fm_entry_45 (by decide) ?_
        have hf : m_fm_entry S a b d = (-2) := by unfold m_fm_entry; rw [if_neg c_1, if_neg c_2, if_pos c_4]
        rw [hf]
        exact q_iret hC hr hlocks hW hS rfl rfl md_fm_entry_47
      · -- not taken
        refine lv_iload_n hx hb md_fm_entry_29 rfl (lv_at hl 2 rfl) ?_
        refine lv_iconst (v := 0) hx hb md_fm_entry_30 (by decide) ?_
        refine lv_aload_n hx hb md_fm_entry_31 rfl (lv_at hl 0 rfl) ?_
        refine mg_fm_53 hC hW 0 Nat.one_pos md_fm_entry_32 ?_
        refine lv_iload_n hx hb md_fm_entry_35 rfl (lv_at hl 1 rfl) ?_
        have h_5 : vp_in a 6 := by obtain ⟨f_c_1_0, f_c_1_1⟩ := mF_in c_1; obtain ⟨f_c_2_0, f_c_2_1⟩ := mF_in c_2; have e_c_4 := lv_neT c_4 (a := 0) (by decide); simp only [Int32.lt_iff_toInt_lt, Int32.le_iff_toInt_le, q_n0, q_n1, q_n2, q_n3, q_n4, q_n5, q_n6, q_n7, q_n8, q_n9, q_n10, q_n11, q_n12, q_n13, q_n14, q_n15, q_n20, q_n60, q_n1288] at f_c_1_0 f_c_1_1 f_c_2_0 f_c_2_1; have l1 : 0 ≤ (q_i (S 15 0 a.toNatClampNeg)).toInt ∧ (q_i (S 15 0 a.toNatClampNeg)).toInt ≤ 20 := hI 15 0 a.toNatClampNeg; have l2 : (1 : Int32).toInt = 1 := rfl; have l3 := q_subI (x := q_i (S 15 0 a.toNatClampNeg)) (y := 1) (by omega); have l4 : (0 : Int32).toInt = 0 := rfl; have l5 : (5 : Int32).toInt = 5 := rfl; have l6 : (2 : Int32).toInt = 2 := rfl; rw [vp_in_iff]; omega
        refine male_15 hC hW h_5 rfl (rfl) md_fm_entry_36 ?_
        refine lv_iconst (v := 1) hx hb md_fm_entry_37 (by decide) ?_
        refine lv_isub hx hb md_fm_entry_38 ?_
        refine q_calli hC hS (fun _ h => h) (q_runS (rest := []) hC hW (mC_fm_in l G S b 0 ((q_i (S 15 0 a.toNatClampNeg)) - 1)) (mc_fm_111 (q_rm 0) hC.1.2.2.2.2 ⟨Nat.le_of_ble_eq_true rfl, Nat.le_of_ble_eq_true rfl⟩ rfl rfl) rfl hl.1 rfl (Nat.le_of_ble_eq_true rfl) md_fm_entry_39 ⟨Nat.zero_le _, Nat.zero_le _⟩) (fun H locs hW hS => ?_)
        refine lv_if_ne (tgt := 48) hx hb md_fm_entry_42 (by decide) (fun c_6 => ?_) (fun c_6 => ?_)
        · -- taken
          refine lv_bipush (v := 20) hx hb md_fm_entry_48 (by decide) ?_
          refine lv_iload_n hx hb md_fm_entry_50 rfl (lv_at hl 1 rfl) ?_
          refine lv_imul hx hb md_fm_entry_51 ?_
          refine lv_iload_n hx hb md_fm_entry_52 rfl (lv_at hl 2 rfl) ?_
          refine lv_iadd hx hb md_fm_entry_53 ?_
          refine lv_istore (lv' := [(4, .int ((20 * a) + b)), (0, .ref (q_a mX G 0 0)), (1, .int a), (2, .int b), (3, .int d)]) hx hb md_fm_entry_54 hl (by decide) rfl (fun ls hl => ?_)
          refine lv_iload_n hx hb md_fm_entry_56 rfl (lv_at hl 4 rfl) ?_
          refine lv_if_ne (tgt := 70) hx hb md_fm_entry_57 (by decide) (fun c_7 => ?_) (fun c_7 => ?_)
          · -- taken
            refine lv_iload_n hx hb md_fm_entry_70 rfl (lv_at hl 4 rfl) ?_
            refine lv_iconst (v := 1) hx hb md_fm_entry_71 (by decide) ?_
            refine lv_icmp_ne (tgt := 85) hx hb md_fm_entry_72 (by decide) (fun c_8 => ?_) (fun c_8 => ?_)
            · -- taken
              refine lv_aload_n hx hb md_fm_entry_85 rfl (lv_at hl 1 rfl) ?_
              refine mg_fm_65 hC hW 0 Nat.one_pos md_fm_entry_86 ?_
              refine lv_iload hx hb md_fm_entry_89 (lv_at hl 0 rfl) ?_
              have h_9 : vp_in ((20 * a) + b) 120 := by obtain ⟨f_c_1_0, f_c_1_1⟩ := mF_in c_1; obtain ⟨f_c_2_0, f_c_2_1⟩ := mF_in c_2; have e_c_4 := lv_neT c_4 (a := 0) (by decide); obtain ⟨f_c_6_0, f_c_6_1⟩ := mF_in c_6; have e_c_7 := lv_neT c_7 (a := 0) (by decide); have e_c_8 := lv_neT c_8 (a := 1) (by decide); simp only [Int32.lt_iff_toInt_lt, Int32.le_iff_toInt_le, q_n0, q_n1, q_n2, q_n3, q_n4, q_n5, q_n6, q_n7, q_n8, q_n9, q_n10, q_n11, q_n12, q_n13, q_n14, q_n15, q_n20, q_n60, q_n1288] at f_c_1_0 f_c_1_1 f_c_2_0 f_c_2_1 f_c_6_0 f_c_6_1; have l1 : 0 ≤ (q_i (S 15 0 a.toNatClampNeg)).toInt ∧ (q_i (S 15 0 a.toNatClampNeg)).toInt ≤ 20 := hI 15 0 a.toNatClampNeg; have l2 : (1 : Int32).toInt = 1 := rfl; have l3 := q_subI (x := q_i (S 15 0 a.toNatClampNeg)) (y := 1) (by omega); have l4 : (20 : Int32).toInt = 20 := rfl; have l5 := q_mulI (c := 20) (x := a) (k := 20) rfl (by omega); have l6 := q_addI (x := 20 * a) (y := b) (by omega); have l7 : (0 : Int32).toInt = 0 := rfl; have l8 : (5 : Int32).toInt = 5 := rfl; have l9 : (2 : Int32).toInt = 2 := rfl; rw [vp_in_iff]; omega
              have s_10 : ((20 * a) + b).toNatClampNeg = 20 * a.toNatClampNeg + b.toNatClampNeg := by obtain ⟨f_c_1_0, f_c_1_1⟩ := mF_in c_1; obtain ⟨f_c_2_0, f_c_2_1⟩ := mF_in c_2; have e_c_4 := lv_neT c_4 (a := 0) (by decide); obtain ⟨f_c_6_0, f_c_6_1⟩ := mF_in c_6; have e_c_7 := lv_neT c_7 (a := 0) (by decide); have e_c_8 := lv_neT c_8 (a := 1) (by decide); simp only [Int32.lt_iff_toInt_lt, Int32.le_iff_toInt_le, q_n0, q_n1, q_n2, q_n3, q_n4, q_n5, q_n6, q_n7, q_n8, q_n9, q_n10, q_n11, q_n12, q_n13, q_n14, q_n15, q_n20, q_n60, q_n1288] at f_c_1_0 f_c_1_1 f_c_2_0 f_c_2_1 f_c_6_0 f_c_6_1; have l1 : 0 ≤ (q_i (S 15 0 a.toNatClampNeg)).toInt ∧ (q_i (S 15 0 a.toNatClampNeg)).toInt ≤ 20 := hI 15 0 a.toNatClampNeg; have l2 : (1 : Int32).toInt = 1 := rfl; have l3 := q_subI (x := q_i (S 15 0 a.toNatClampNeg)) (y := 1) (by omega); have l4 : (20 : Int32).toInt = 20 := rfl; have l5 := q_mulI (c := 20) (x := a) (k := 20) rfl (by omega); have l6 := q_addI (x := 20 * a) (y := b) (by omega); have l7 : (0 : Int32).toInt = 0 := rfl; have l8 : (5 : Int32).toInt = 5 := rfl; have l9 : (2 : Int32).toInt = 2 := rfl; have c0 := q_clI (x := a) (by omega); have c1 := q_clI (x := b) (by omega); apply q_tn; omega
              refine male_19 hC hW h_9 s_10 (rfl) md_fm_entry_91 ?_
              have hf : m_fm_entry S a b d = q_i (S 19 0 (20 * a.toNatClampNeg + b.toNatClampNeg)) := by unfold m_fm_entry; rw [if_neg c_1, if_neg c_2, if_neg c_4, if_neg c_6, if_neg c_7, if_neg c_8]
              rw [hf]
              exact q_iret hC hr hlocks hW hS rfl rfl md_fm_entry_92
            · -- not taken
              refine lv_aload_n hx hb md_fm_entry_75 rfl (lv_at hl 1 rfl) ?_
              refine mg_fm_62 hC hW 0 Nat.one_pos md_fm_entry_76 ?_
              refine lv_iload hx hb md_fm_entry_79 (lv_at hl 0 rfl) ?_
              have h_11 : vp_in ((20 * a) + b) 120 := by obtain ⟨f_c_1_0, f_c_1_1⟩ := mF_in c_1; obtain ⟨f_c_2_0, f_c_2_1⟩ := mF_in c_2; have e_c_4 := lv_neT c_4 (a := 0) (by decide); obtain ⟨f_c_6_0, f_c_6_1⟩ := mF_in c_6; have e_c_7 := lv_neT c_7 (a := 0) (by decide); have e_c_8 : (d).toInt = 1 := (by rw [c_8]; rfl); simp only [Int32.lt_iff_toInt_lt, Int32.le_iff_toInt_le, q_n0, q_n1, q_n2, q_n3, q_n4, q_n5, q_n6, q_n7, q_n8, q_n9, q_n10, q_n11, q_n12, q_n13, q_n14, q_n15, q_n20, q_n60, q_n1288] at f_c_1_0 f_c_1_1 f_c_2_0 f_c_2_1 f_c_6_0 f_c_6_1; have l1 : 0 ≤ (q_i (S 15 0 a.toNatClampNeg)).toInt ∧ (q_i (S 15 0 a.toNatClampNeg)).toInt ≤ 20 := hI 15 0 a.toNatClampNeg; have l2 : (1 : Int32).toInt = 1 := rfl; have l3 := q_subI (x := q_i (S 15 0 a.toNatClampNeg)) (y := 1) (by omega); have l4 : (20 : Int32).toInt = 20 := rfl; have l5 := q_mulI (c := 20) (x := a) (k := 20) rfl (by omega); have l6 := q_addI (x := 20 * a) (y := b) (by omega); have l7 : (0 : Int32).toInt = 0 := rfl; have l8 : (5 : Int32).toInt = 5 := rfl; have l9 : (2 : Int32).toInt = 2 := rfl; rw [vp_in_iff]; omega
              have s_12 : ((20 * a) + b).toNatClampNeg = 20 * a.toNatClampNeg + b.toNatClampNeg := by obtain ⟨f_c_1_0, f_c_1_1⟩ := mF_in c_1; obtain ⟨f_c_2_0, f_c_2_1⟩ := mF_in c_2; have e_c_4 := lv_neT c_4 (a := 0) (by decide); obtain ⟨f_c_6_0, f_c_6_1⟩ := mF_in c_6; have e_c_7 := lv_neT c_7 (a := 0) (by decide); have e_c_8 : (d).toInt = 1 := (by rw [c_8]; rfl); simp only [Int32.lt_iff_toInt_lt, Int32.le_iff_toInt_le, q_n0, q_n1, q_n2, q_n3, q_n4, q_n5, q_n6, q_n7, q_n8, q_n9, q_n10, q_n11, q_n12, q_n13, q_n14, q_n15, q_n20, q_n60, q_n1288] at f_c_1_0 f_c_1_1 f_c_2_0 f_c_2_1 f_c_6_0 f_c_6_1; have l1 : 0 ≤ (q_i (S 15 0 a.toNatClampNeg)).toInt ∧ (q_i (S 15 0 a.toNatClampNeg)).toInt ≤ 20 := hI 15 0 a.toNatClampNeg; have l2 : (1 : Int32).toInt = 1 := rfl; have l3 := q_subI (x := q_i (S 15 0 a.toNatClampNeg)) (y := 1) (by omega); have l4 : (20 : Int32).toInt = 20 := rfl; have l5 := q_mulI (c := 20) (x := a) (k := 20) rfl (by omega); have l6 := q_addI (x := 20 * a) (y := b) (by omega); have l7 : (0 : Int32).toInt = 0 := rfl; have l8 : (5 : Int32).toInt = 5 := rfl; have l9 : (2 : Int32).toInt = 2 := rfl; have c0 := q_clI (x := a) (by omega); have c1 := q_clI (x := b) (by omega); apply q_tn; omega
              refine male_18 hC hW h_11 s_12 (rfl) md_fm_entry_81 ?_
              refine lv_goto (tgt := 92) hx hb md_fm_entry_82 (by decide) ?_
              have hf : m_fm_entry S a b d = q_i (S 18 0 (20 * a.toNatClampNeg + b.toNatClampNeg)) := by unfold m_fm_entry; rw [if_neg c_1, if_neg c_2, if_neg c_4, if_neg c_6, if_neg c_7, if_pos c_8]
              rw [hf]
              exact q_iret hC hr hlocks hW hS rfl rfl md_fm_entry_92
          · -- not taken
            refine lv_aload_n hx hb md_fm_entry_60 rfl (lv_at hl 1 rfl) ?_
            refine mg_fm_59 hC hW 0 Nat.one_pos md_fm_entry_61 ?_
            refine lv_iload hx hb md_fm_entry_64 (lv_at hl 0 rfl) ?_
            have h_13 : vp_in ((20 * a) + b) 120 := by obtain ⟨f_c_1_0, f_c_1_1⟩ := mF_in c_1; obtain ⟨f_c_2_0, f_c_2_1⟩ := mF_in c_2; have e_c_4 := lv_neT c_4 (a := 0) (by decide); obtain ⟨f_c_6_0, f_c_6_1⟩ := mF_in c_6; have e_c_7 : (d).toInt = 0 := (by rw [c_7]; rfl); simp only [Int32.lt_iff_toInt_lt, Int32.le_iff_toInt_le, q_n0, q_n1, q_n2, q_n3, q_n4, q_n5, q_n6, q_n7, q_n8, q_n9, q_n10, q_n11, q_n12, q_n13, q_n14, q_n15, q_n20, q_n60, q_n1288] at f_c_1_0 f_c_1_1 f_c_2_0 f_c_2_1 f_c_6_0 f_c_6_1; have l1 : 0 ≤ (q_i (S 15 0 a.toNatClampNeg)).toInt ∧ (q_i (S 15 0 a.toNatClampNeg)).toInt ≤ 20 := hI 15 0 a.toNatClampNeg; have l2 : (1 : Int32).toInt = 1 := rfl; have l3 := q_subI (x := q_i (S 15 0 a.toNatClampNeg)) (y := 1) (by omega); have l4 : (20 : Int32).toInt = 20 := rfl; have l5 := q_mulI (c := 20) (x := a) (k := 20) rfl (by omega); have l6 := q_addI (x := 20 * a) (y := b) (by omega); have l7 : (0 : Int32).toInt = 0 := rfl; have l8 : (5 : Int32).toInt = 5 := rfl; have l9 : (2 : Int32).toInt = 2 := rfl; rw [vp_in_iff]; omega
            have s_14 : ((20 * a) + b).toNatClampNeg = 20 * a.toNatClampNeg + b.toNatClampNeg := by obtain ⟨f_c_1_0, f_c_1_1⟩ := mF_in c_1; obtain ⟨f_c_2_0, f_c_2_1⟩ := mF_in c_2; have e_c_4 := lv_neT c_4 (a := 0) (by decide); obtain ⟨f_c_6_0, f_c_6_1⟩ := mF_in c_6; have e_c_7 : (d).toInt = 0 := (by rw [c_7]; rfl); simp only [Int32.lt_iff_toInt_lt, Int32.le_iff_toInt_le, q_n0, q_n1, q_n2, q_n3, q_n4, q_n5, q_n6, q_n7, q_n8, q_n9, q_n10, q_n11, q_n12, q_n13, q_n14, q_n15, q_n20, q_n60, q_n1288] at f_c_1_0 f_c_1_1 f_c_2_0 f_c_2_1 f_c_6_0 f_c_6_1; have l1 : 0 ≤ (q_i (S 15 0 a.toNatClampNeg)).toInt ∧ (q_i (S 15 0 a.toNatClampNeg)).toInt ≤ 20 := hI 15 0 a.toNatClampNeg; have l2 : (1 : Int32).toInt = 1 := rfl; have l3 := q_subI (x := q_i (S 15 0 a.toNatClampNeg)) (y := 1) (by omega); have l4 : (20 : Int32).toInt = 20 := rfl; have l5 := q_mulI (c := 20) (x := a) (k := 20) rfl (by omega); have l6 := q_addI (x := 20 * a) (y := b) (by omega); have l7 : (0 : Int32).toInt = 0 := rfl; have l8 : (5 : Int32).toInt = 5 := rfl; have l9 : (2 : Int32).toInt = 2 := rfl; have c0 := q_clI (x := a) (by omega); have c1 := q_clI (x := b) (by omega); apply q_tn; omega
            refine male_17 hC hW h_13 s_14 (rfl) md_fm_entry_66 ?_
            refine lv_goto (tgt := 92) hx hb md_fm_entry_67 (by decide) ?_
            have hf : m_fm_entry S a b d = q_i (S 17 0 (20 * a.toNatClampNeg + b.toNatClampNeg)) := by unfold m_fm_entry; rw [if_neg c_1, if_neg c_2, if_neg c_4, if_neg c_6, if_pos c_7]
            rw [hf]
            exact q_iret hC hr hlocks hW hS rfl rfl md_fm_entry_92
        · -- not taken
          refine lv_bipush (v := (-2)) hx hb md_fm_entry_45 (by decide) ?_
          have hf : m_fm_entry S a b d = (-2) := by unfold m_fm_entry; rw [if_neg c_1, if_neg c_2, if_neg c_4, if_pos c_6]
          rw [hf]
          exact q_iret hC hr hlocks hW hS rfl rfl md_fm_entry_47
    · -- not taken
      refine lv_iconst (v := (-1)) hx hb md_fm_entry_18 (by decide) ?_
      have hf : m_fm_entry S a b d = (-1) := by unfold m_fm_entry; rw [if_neg c_1, if_pos c_2]
      rw [hf]
      exact q_iret hC hr hlocks hW hS rfl rfl md_fm_entry_19
def m_fm_line (S : q_S) (a : Int32) : Int32 :=
  if a = (-1) then
    q_i (S 0 0 33)
  else
    if m_fm_in S a 0 ((q_i (S 0 0 33)) - 1) = 0 then
      (-2)
    else
      q_i (S 32 0 a.toNatClampNeg)
set_option maxRecDepth 100000 in
set_option maxHeartbeats 4000000 in
theorem mC_fm_line (l : Launch) (G : q_G) (S : q_S) (a : Int32) (hI : mI S) : q_Mi mX G l my_fm_line (q_ws (q_gw lw_tbl) my_fm_line mb_fm_line 2 (some .int)) (q_rm 1) [.ref (q_a mX G 0 0), .int a] S (m_fm_line S a) S := by
  refine q_met (cc := mb_fm_line) (maxL := 2) (ret := (some .int)) mOk (by decide) rfl (Nat.le_of_ble_eq_true rfl) ?_
  intro p e s m below meth c ls hC hr hlocks hW hS hl
  have hx := hC.1.1
  have hb := hC.1.2.1
  have hl : lv_has ls 2 [(0, .ref (q_a mX G 0 0)), (1, .int a)] := hl
  refine lv_iload_n hx hb md_fm_line_0 rfl (lv_at hl 1 rfl) ?_
  refine lv_iconst (v := (-1)) hx hb md_fm_line_1 (by decide) ?_
  refine lv_icmp_ne (tgt := 12) hx hb md_fm_line_2 (by decide) (fun c_1 => ?_) (fun c_1 => ?_)
  · -- taken
    refine lv_iload_n hx hb md_fm_line_12 rfl (lv_at hl 1 rfl) ?_
    refine lv_iconst (v := 0) hx hb md_fm_line_13 (by decide) ?_
    refine lv_aload_n hx hb md_fm_line_14 rfl (lv_at hl 0 rfl) ?_
    refine mg_fm_126 hC hW 0 Nat.one_pos (rfl) md_fm_line_15 ?_
    refine lv_iconst (v := 1) hx hb md_fm_line_18 (by decide) ?_
    refine lv_isub hx hb md_fm_line_19 ?_
    refine q_calli hC hS (fun _ h => h) (q_runS (rest := []) hC hW (mC_fm_in l G S a 0 ((q_i (S 0 0 33)) - 1)) (mc_fm_111 (q_rm 0) hC.1.2.2.2.2 ⟨Nat.le_of_ble_eq_true rfl, Nat.le_of_ble_eq_true rfl⟩ rfl rfl) rfl hl.1 rfl (Nat.le_of_ble_eq_true rfl) md_fm_line_20 ⟨Nat.zero_le _, Nat.zero_le _⟩) (fun H locs hW hS => ?_)
    refine lv_if_eq (tgt := 35) hx hb md_fm_line_23 (by decide) (fun c_2 => ?_) (fun c_2 => ?_)
    · -- taken
      refine lv_bipush (v := (-2)) hx hb md_fm_line_35 (by decide) ?_
      have hf : m_fm_line S a = (-2) := by unfold m_fm_line; rw [if_neg c_1, if_pos c_2]
      rw [hf]
      exact q_iret hC hr hlocks hW hS rfl rfl md_fm_line_37
    · -- not taken
      refine lv_aload_n hx hb md_fm_line_26 rfl (lv_at hl 0 rfl) ?_
      refine mg_fm_105 hC hW 0 Nat.one_pos md_fm_line_27 ?_
      refine lv_iload_n hx hb md_fm_line_30 rfl (lv_at hl 1 rfl) ?_
      have h_3 : vp_in a 6 := by have e_c_1 := lv_neT c_1 (a := -1) (by decide); obtain ⟨f_c_2_0, f_c_2_1⟩ := mF_in c_2; simp only [Int32.lt_iff_toInt_lt, Int32.le_iff_toInt_le, q_n0, q_n1, q_n2, q_n3, q_n4, q_n5, q_n6, q_n7, q_n8, q_n9, q_n10, q_n11, q_n12, q_n13, q_n14, q_n15, q_n20, q_n60, q_n1288] at f_c_2_0 f_c_2_1; have l1 : (0 : Int32).toInt = 0 := rfl; have l2 : 0 ≤ (q_i (S 0 0 33)).toInt ∧ (q_i (S 0 0 33)).toInt ≤ 6 := hI 0 0 33; have l3 : (1 : Int32).toInt = 1 := rfl; have l4 := q_subI (x := q_i (S 0 0 33)) (y := 1) (by omega); rw [vp_in_iff]; omega
      refine male_32 hC hW h_3 rfl (rfl) md_fm_line_31 ?_
      refine lv_goto (tgt := 37) hx hb md_fm_line_32 (by decide) ?_
      have hf : m_fm_line S a = q_i (S 32 0 a.toNatClampNeg) := by unfold m_fm_line; rw [if_neg c_1, if_neg c_2]
      rw [hf]
      exact q_iret hC hr hlocks hW hS rfl rfl md_fm_line_37
  · -- not taken
    refine lv_aload_n hx hb md_fm_line_5 rfl (lv_at hl 0 rfl) ?_
    refine mg_fm_126 hC hW 0 Nat.one_pos (rfl) md_fm_line_6 ?_
    refine lv_goto (tgt := 37) hx hb md_fm_line_9 (by decide) ?_
    have hf : m_fm_line S a = q_i (S 0 0 33) := by unfold m_fm_line; rw [if_pos c_1]
    rw [hf]
    exact q_iret hC hr hlocks hW hS rfl rfl md_fm_line_37
def m_fm_count (S : q_S) (a : Int32) : Int32 :=
  if m_fm_in S a 10 12 = 0 then
    if m_fm_in S a 0 9 = 0 then
      (-1)
    else
      if a = 0 then
        q_i (S 0 0 34)
      else
        if 3 ≤ a then
          q_i (S 33 0 a.toNatClampNeg)
        else
          if a = 2 then
            m_fm_flows S 1
          else
            m_fm_flows S 0
  else
    q_i (S 4 0 ((a - 10).toNatClampNeg))
set_option maxRecDepth 100000 in
set_option maxHeartbeats 4000000 in
theorem mC_fm_count (l : Launch) (G : q_G) (S : q_S) (a : Int32) (hI : mI S) : q_Mi mX G l my_fm_count (q_ws (q_gw lw_tbl) my_fm_count mb_fm_count 2 (some .int)) (q_rm 1) [.ref (q_a mX G 0 0), .int a] S (m_fm_count S a) S := by
  refine q_met (cc := mb_fm_count) (maxL := 2) (ret := (some .int)) mOk (by decide) rfl (Nat.le_of_ble_eq_true rfl) ?_
  intro p e s m below meth c ls hC hr hlocks hW hS hl
  have hx := hC.1.1
  have hb := hC.1.2.1
  have hl : lv_has ls 2 [(0, .ref (q_a mX G 0 0)), (1, .int a)] := hl
  refine lv_iload_n hx hb md_fm_count_0 rfl (lv_at hl 1 rfl) ?_
  refine lv_bipush (v := 10) hx hb md_fm_count_1 (by decide) ?_
  refine lv_bipush (v := 12) hx hb md_fm_count_3 (by decide) ?_
  refine q_calli hC hS (fun _ h => h) (q_runS (rest := []) hC hW (mC_fm_in l G S a 10 12) (mc_fm_111 (q_rm 0) hC.1.2.2.2.2 ⟨Nat.le_of_ble_eq_true rfl, Nat.le_of_ble_eq_true rfl⟩ rfl rfl) rfl hl.1 rfl (Nat.le_of_ble_eq_true rfl) md_fm_count_5 ⟨Nat.zero_le _, Nat.zero_le _⟩) (fun H locs hW hS => ?_)
  refine lv_if_eq (tgt := 21) hx hb md_fm_count_8 (by decide) (fun c_1 => ?_) (fun c_1 => ?_)
  · -- taken
    refine lv_iload_n hx hb md_fm_count_21 rfl (lv_at hl 1 rfl) ?_
    refine lv_iconst (v := 0) hx hb md_fm_count_22 (by decide) ?_
    refine lv_bipush (v := 9) hx hb md_fm_count_23 (by decide) ?_
    refine q_calli hC hS (fun _ h => h) (q_runS (rest := []) hC hW (mC_fm_in l G S a 0 9) (mc_fm_111 (q_rm 0) hC.1.2.2.2.2 ⟨Nat.le_of_ble_eq_true rfl, Nat.le_of_ble_eq_true rfl⟩ rfl rfl) rfl hl.1 rfl (Nat.le_of_ble_eq_true rfl) md_fm_count_25 ⟨Nat.zero_le _, Nat.zero_le _⟩) (fun H locs hW hS => ?_)
    refine lv_if_ne (tgt := 33) hx hb md_fm_count_28 (by decide) (fun c_2 => ?_) (fun c_2 => ?_)
    · -- taken
      refine lv_iload_n hx hb md_fm_count_33 rfl (lv_at hl 1 rfl) ?_
      refine lv_if_ne (tgt := 44) hx hb md_fm_count_34 (by decide) (fun c_3 => ?_) (fun c_3 => ?_)
      · -- taken
        refine lv_iload_n hx hb md_fm_count_44 rfl (lv_at hl 1 rfl) ?_
        refine lv_iconst (v := 3) hx hb md_fm_count_45 (by decide) ?_
        refine lv_icmp_ge (tgt := 66) hx hb md_fm_count_46 (by decide) (fun c_4 => ?_) (fun c_4 => ?_)
        · -- taken
          refine lv_aload_n hx hb md_fm_count_66 rfl (lv_at hl 0 rfl) ?_
          refine mg_fm_108 hC hW 0 Nat.one_pos md_fm_count_67 ?_
          refine lv_iload_n hx hb md_fm_count_70 rfl (lv_at hl 1 rfl) ?_
          have h_5 : vp_in a 10 := by have e_c_1 : (m_fm_in S a 10 12).toInt = 0 := (by rw [c_1]; rfl); obtain ⟨f_c_2_0, f_c_2_1⟩ := mF_in c_2; have e_c_3 := lv_neT c_3 (a := 0) (by decide); simp only [Int32.lt_iff_toInt_lt, Int32.le_iff_toInt_le, q_n0, q_n1, q_n2, q_n3, q_n4, q_n5, q_n6, q_n7, q_n8, q_n9, q_n10, q_n11, q_n12, q_n13, q_n14, q_n15, q_n20, q_n60, q_n1288] at f_c_2_0 f_c_2_1 c_4; have l1 : (0 : Int32).toInt = 0 := rfl; have l2 : (9 : Int32).toInt = 9 := rfl; have l3 : (3 : Int32).toInt = 3 := rfl; rw [vp_in_iff]; omega
          refine male_33 hC hW h_5 rfl (rfl) md_fm_count_71 ?_
          have hf : m_fm_count S a = q_i (S 33 0 a.toNatClampNeg) := by unfold m_fm_count; rw [if_pos c_1, if_neg c_2, if_neg c_3, if_pos c_4]
          rw [hf]
          exact q_iret hC hr hlocks hW hS rfl rfl md_fm_count_72
        · -- not taken
          refine lv_aload_n hx hb md_fm_count_49 rfl (lv_at hl 0 rfl) ?_
          refine lv_iload_n hx hb md_fm_count_50 rfl (lv_at hl 1 rfl) ?_
          refine lv_iconst (v := 2) hx hb md_fm_count_51 (by decide) ?_
          refine lv_icmp_ne (tgt := 59) hx hb md_fm_count_52 (by decide) (fun c_6 => ?_) (fun c_6 => ?_)
          · -- taken
            refine lv_iconst (v := 0) hx hb md_fm_count_59 (by decide) ?_
            refine q_calli hC hS (fun _ h => h) (q_runV (rest := []) hC hW (mC_fm_flows l G S 0) (mc_fm_204 (q_rm 0) hC.1.2.2.2.2 ⟨Nat.le_of_ble_eq_true rfl, Nat.le_of_ble_eq_true rfl⟩ rfl rfl) Nat.one_pos rfl rfl rfl hl.1 rfl (Nat.le_of_ble_eq_true rfl) md_fm_count_60 ⟨Nat.zero_le _, Nat.zero_le _⟩) (fun H locs hW hS => ?_)
            refine lv_goto (tgt := 72) hx hb md_fm_count_63 (by decide) ?_
            have hf : m_fm_count S a = m_fm_flows S 0 := by unfold m_fm_count; rw [if_pos c_1, if_neg c_2, if_neg c_3, if_neg c_4, if_neg c_6]
            rw [hf]
            exact q_iret hC hr hlocks hW hS rfl rfl md_fm_count_72
          · -- not taken
            refine lv_iconst (v := 1) hx hb md_fm_count_55 (by decide) ?_
            refine lv_goto (tgt := 60) hx hb md_fm_count_56 (by decide) ?_
            refine q_calli hC hS (fun _ h => h) (q_runV (rest := []) hC hW (mC_fm_flows l G S 1) (mc_fm_204 (q_rm 0) hC.1.2.2.2.2 ⟨Nat.le_of_ble_eq_true rfl, Nat.le_of_ble_eq_true rfl⟩ rfl rfl) Nat.one_pos rfl rfl rfl hl.1 rfl (Nat.le_of_ble_eq_true rfl) md_fm_count_60 ⟨Nat.zero_le _, Nat.zero_le _⟩) (fun H locs hW hS => ?_)
            refine lv_goto (tgt := 72) hx hb md_fm_count_63 (by decide) ?_
            have hf : m_fm_count S a = m_fm_flows S 1 := by unfold m_fm_count; rw [if_pos c_1, if_neg c_2, if_neg c_3, if_neg c_4, if_pos c_6]
            rw [hf]
            exact q_iret hC hr hlocks hW hS rfl rfl md_fm_count_72
      · -- not taken
        refine lv_aload_n hx hb md_fm_count_37 rfl (lv_at hl 0 rfl) ?_
        refine mg_fm_136 hC hW 0 Nat.one_pos (rfl) md_fm_count_38 ?_
        refine lv_goto (tgt := 72) hx hb md_fm_count_41 (by decide) ?_
        have hf : m_fm_count S a = q_i (S 0 0 34) := by unfold m_fm_count; rw [if_pos c_1, if_neg c_2, if_pos c_3]
        rw [hf]
        exact q_iret hC hr hlocks hW hS rfl rfl md_fm_count_72
    · -- not taken
      refine lv_iconst (v := (-1)) hx hb md_fm_count_31 (by decide) ?_
      have hf : m_fm_count S a = (-1) := by unfold m_fm_count; rw [if_pos c_1, if_pos c_2]
      rw [hf]
      exact q_iret hC hr hlocks hW hS rfl rfl md_fm_count_32
  · -- not taken
    refine lv_aload_n hx hb md_fm_count_11 rfl (lv_at hl 0 rfl) ?_
    refine mg_fm_19 hC hW 0 Nat.one_pos md_fm_count_12 ?_
    refine lv_iload_n hx hb md_fm_count_15 rfl (lv_at hl 1 rfl) ?_
    refine lv_bipush (v := 10) hx hb md_fm_count_16 (by decide) ?_
    refine lv_isub hx hb md_fm_count_18 ?_
    have h_7 : vp_in (a - 10) 3 := by obtain ⟨f_c_1_0, f_c_1_1⟩ := mF_in c_1; simp only [Int32.lt_iff_toInt_lt, Int32.le_iff_toInt_le, q_n0, q_n1, q_n2, q_n3, q_n4, q_n5, q_n6, q_n7, q_n8, q_n9, q_n10, q_n11, q_n12, q_n13, q_n14, q_n15, q_n20, q_n60, q_n1288] at f_c_1_0 f_c_1_1; have l1 : (10 : Int32).toInt = 10 := rfl; have l2 := q_subI (x := a) (y := 10) (by omega); have l3 : (12 : Int32).toInt = 12 := rfl; rw [vp_in_iff]; omega
    refine male_4 hC hW h_7 rfl (rfl) md_fm_count_19 ?_
    have hf : m_fm_count S a = q_i (S 4 0 ((a - 10).toNatClampNeg)) := by unfold m_fm_count; rw [if_neg c_1]
    rw [hf]
    exact q_iret hC hr hlocks hW hS rfl rfl md_fm_count_20
def m_fm_flow (S : q_S) (a b : Int32) : Int32 :=
  if m_fm_in S a 0 5 = 0 then
    (-1)
  else
    if m_fm_in S b 0 13 = 0 then
      (-1)
    else
      if q_i (S 5 0 a.toNatClampNeg) = 0 then
        0
      else
        if q_i (S 6 0 a.toNatClampNeg) = 0 then
          if m_fm_hasEnded S a.toNatClampNeg = 0 then
            if b = 0 then
              q_i (S 10 0 a.toNatClampNeg)
            else
              if b = 1 then
                q_i (S 9 0 a.toNatClampNeg)
              else
                if b = 2 then
                  q_i (S 15 0 a.toNatClampNeg)
                else
                  if b = 3 then
                    q_i (S 11 0 a.toNatClampNeg)
                  else
                    if b = 4 then
                      q_i (S 20 0 a.toNatClampNeg)
                    else
                      if b = 5 then
                        if q_i (S 10 0 a.toNatClampNeg) = 5 then
                          q_i (S 13 0 a.toNatClampNeg)
                        else
                          0
                      else
                        if b = 6 then
                          q_i (S 23 0 a.toNatClampNeg)
                        else
                          if b = 7 then
                            if q_i (S 6 0 a.toNatClampNeg) = 0 then
                              0
                            else
                              1
                          else
                            if b = 8 then
                              q_i (S 29 0 a.toNatClampNeg)
                            else
                              if b = 9 then
                                if q_i (S 7 0 a.toNatClampNeg) = 0 then
                                  0
                                else
                                  1
                              else
                                if q_i (S 6 0 a.toNatClampNeg) = 0 then
                                  q_i (S 14 0 (4 * a.toNatClampNeg + b.toNatClampNeg - 10))
                                else
                                  0
          else
            if b = 0 then
              q_i (S 10 0 a.toNatClampNeg)
            else
              if b = 1 then
                q_i (S 9 0 a.toNatClampNeg)
              else
                if b = 2 then
                  q_i (S 15 0 a.toNatClampNeg)
                else
                  if b = 3 then
                    (-2)
                  else
                    if b = 4 then
                      (-2)
                    else
                      if b = 5 then
                        if q_i (S 10 0 a.toNatClampNeg) = 5 then
                          q_i (S 13 0 a.toNatClampNeg)
                        else
                          0
                      else
                        if b = 6 then
                          q_i (S 23 0 a.toNatClampNeg)
                        else
                          if b = 7 then
                            if q_i (S 6 0 a.toNatClampNeg) = 0 then
                              0
                            else
                              1
                          else
                            if b = 8 then
                              q_i (S 29 0 a.toNatClampNeg)
                            else
                              if b = 9 then
                                if q_i (S 7 0 a.toNatClampNeg) = 0 then
                                  0
                                else
                                  1
                              else
                                if q_i (S 6 0 a.toNatClampNeg) = 0 then
                                  q_i (S 14 0 (4 * a.toNatClampNeg + b.toNatClampNeg - 10))
                                else
                                  0
        else
          if b = 0 then
            q_i (S 10 0 a.toNatClampNeg)
          else
            if b = 1 then
              q_i (S 9 0 a.toNatClampNeg)
            else
              if b = 2 then
                q_i (S 15 0 a.toNatClampNeg)
              else
                if b = 3 then
                  (-2)
                else
                  if b = 4 then
                    (-2)
                  else
                    if b = 5 then
                      if q_i (S 10 0 a.toNatClampNeg) = 5 then
                        q_i (S 13 0 a.toNatClampNeg)
                      else
                        0
                    else
                      if b = 6 then
                        q_i (S 23 0 a.toNatClampNeg)
                      else
                        if b = 7 then
                          if q_i (S 6 0 a.toNatClampNeg) = 0 then
                            0
                          else
                            1
                        else
                          if b = 8 then
                            q_i (S 29 0 a.toNatClampNeg)
                          else
                            if b = 9 then
                              if q_i (S 7 0 a.toNatClampNeg) = 0 then
                                0
                              else
                                1
                            else
                              if q_i (S 6 0 a.toNatClampNeg) = 0 then
                                q_i (S 14 0 (4 * a.toNatClampNeg + b.toNatClampNeg - 10))
                              else
                                0
set_option maxRecDepth 100000 in
set_option maxHeartbeats 4000000 in
theorem mC_fm_flow (l : Launch) (G : q_G) (S : q_S) (a b : Int32) (hI : mI S) : q_Mi mX G l my_fm_flow (q_ws (q_gw lw_tbl) my_fm_flow mb_fm_flow 4 (some .int)) (q_rm 1) [.ref (q_a mX G 0 0), .int a, .int b] S (m_fm_flow S a b) S := by
  refine q_met (cc := mb_fm_flow) (maxL := 4) (ret := (some .int)) mOk (by decide) rfl (Nat.le_of_ble_eq_true rfl) ?_
  intro p e s m below meth c ls hC hr hlocks hW hS hl
  have hx := hC.1.1
  have hb := hC.1.2.1
  have hl : lv_has ls 4 [(0, .ref (q_a mX G 0 0)), (1, .int a), (2, .int b)] := hl
  refine lv_iload_n hx hb md_fm_flow_0 rfl (lv_at hl 1 rfl) ?_
  refine lv_iconst (v := 0) hx hb md_fm_flow_1 (by decide) ?_
  refine lv_iconst (v := 5) hx hb md_fm_flow_2 (by decide) ?_
  refine q_calli hC hS (fun _ h => h) (q_runS (rest := []) hC hW (mC_fm_in l G S a 0 5) (mc_fm_111 (q_rm 0) hC.1.2.2.2.2 ⟨Nat.le_of_ble_eq_true rfl, Nat.le_of_ble_eq_true rfl⟩ rfl rfl) rfl hl.1 rfl (Nat.le_of_ble_eq_true rfl) md_fm_flow_3 ⟨Nat.zero_le _, Nat.zero_le _⟩) (fun H locs hW hS => ?_)
  refine lv_if_eq (tgt := 19) hx hb md_fm_flow_6 (by decide) (fun c_1 => ?_) (fun c_1 => ?_)
  · -- taken
    refine lv_iconst (v := (-1)) hx hb md_fm_flow_19 (by decide) ?_
    have hf : m_fm_flow S a b = (-1) := by unfold m_fm_flow; rw [if_pos c_1]
    rw [hf]
    exact q_iret hC hr hlocks hW hS rfl rfl md_fm_flow_20
  · -- not taken
    refine lv_iload_n hx hb md_fm_flow_9 rfl (lv_at hl 2 rfl) ?_
    refine lv_iconst (v := 0) hx hb md_fm_flow_10 (by decide) ?_
    refine lv_bipush (v := 13) hx hb md_fm_flow_11 (by decide) ?_
    refine q_calli hC hS (fun _ h => h) (q_runS (rest := []) hC hW (mC_fm_in l G S b 0 13) (mc_fm_111 (q_rm 0) hC.1.2.2.2.2 ⟨Nat.le_of_ble_eq_true rfl, Nat.le_of_ble_eq_true rfl⟩ rfl rfl) rfl hl.1 rfl (Nat.le_of_ble_eq_true rfl) md_fm_flow_13 ⟨Nat.zero_le _, Nat.zero_le _⟩) (fun H locs hW hS => ?_)
    refine lv_if_ne (tgt := 21) hx hb md_fm_flow_16 (by decide) (fun c_2 => ?_) (fun c_2 => ?_)
    · -- taken
      refine lv_aload_n hx hb md_fm_flow_21 rfl (lv_at hl 0 rfl) ?_
      refine mg_fm_22 hC hW 0 Nat.one_pos md_fm_flow_22 ?_
      refine lv_iload_n hx hb md_fm_flow_25 rfl (lv_at hl 1 rfl) ?_
      have h_3 : vp_in a 6 := by obtain ⟨f_c_1_0, f_c_1_1⟩ := mF_in c_1; obtain ⟨f_c_2_0, f_c_2_1⟩ := mF_in c_2; simp only [Int32.lt_iff_toInt_lt, Int32.le_iff_toInt_le, q_n0, q_n1, q_n2, q_n3, q_n4, q_n5, q_n6, q_n7, q_n8, q_n9, q_n10, q_n11, q_n12, q_n13, q_n14, q_n15, q_n20, q_n60, q_n1288] at f_c_1_0 f_c_1_1 f_c_2_0 f_c_2_1; have l1 : (0 : Int32).toInt = 0 := rfl; have l2 : (5 : Int32).toInt = 5 := rfl; have l3 : (13 : Int32).toInt = 13 := rfl; rw [vp_in_iff]; omega
      refine male_5 hC hW h_3 rfl (rfl) md_fm_flow_26 ?_
      refine lv_if_ne (tgt := 32) hx hb md_fm_flow_27 (by decide) (fun c_4 => ?_) (fun c_4 => ?_)
      · -- taken
        refine lv_aload_n hx hb md_fm_flow_32 rfl (lv_at hl 0 rfl) ?_
        refine mg_fm_26 hC hW 0 Nat.one_pos md_fm_flow_33 ?_
        refine lv_iload_n hx hb md_fm_flow_36 rfl (lv_at hl 1 rfl) ?_
        have h_5 : vp_in a 6 := by obtain ⟨f_c_1_0, f_c_1_1⟩ := mF_in c_1; obtain ⟨f_c_2_0, f_c_2_1⟩ := mF_in c_2; have e_c_4 := lv_neT c_4 (a := 0) (by decide); simp only [Int32.lt_iff_toInt_lt, Int32.le_iff_toInt_le, q_n0, q_n1, q_n2, q_n3, q_n4, q_n5, q_n6, q_n7, q_n8, q_n9, q_n10, q_n11, q_n12, q_n13, q_n14, q_n15, q_n20, q_n60, q_n1288] at f_c_1_0 f_c_1_1 f_c_2_0 f_c_2_1; have l1 : (0 : Int32).toInt = 0 := rfl; have l2 : (5 : Int32).toInt = 5 := rfl; have l3 : (13 : Int32).toInt = 13 := rfl; rw [vp_in_iff]; omega
        refine male_6 hC hW h_5 rfl (rfl) md_fm_flow_37 ?_
        refine lv_if_ne (tgt := 49) hx hb md_fm_flow_38 (by decide) (fun c_6 => ?_) (fun c_6 => ?_)
        · -- taken
          refine lv_iconst (v := 1) hx hb md_fm_flow_49 (by decide) ?_
          refine lv_goto (tgt := 54) hx hb md_fm_flow_50 (by decide) ?_
          refine lv_istore_n (lv' := [(3, .int 1), (0, .ref (q_a mX G 0 0)), (1, .int a), (2, .int b)]) hx hb md_fm_flow_54 rfl hl (by decide) rfl (fun ls hl => ?_)
          refine lv_iload_n hx hb md_fm_flow_55 rfl (lv_at hl 3 rfl) ?_
          by_cases c_7 : b = 0
          · -- case 0
            refine lv_tableIn (off := 56) (tgt := 112) hx hb md_fm_flow_56 (by rw [c_7]; decide) (by rw [c_7]; decide) (by rw [c_7]; decide) (by decide) ?_
            refine lv_aload_n hx hb md_fm_flow_112 rfl (lv_at hl 1 rfl) ?_
            refine mg_fm_38 hC hW 0 Nat.one_pos md_fm_flow_113 ?_
            refine lv_iload_n hx hb md_fm_flow_116 rfl (lv_at hl 2 rfl) ?_
            have h_8 : vp_in a 6 := by obtain ⟨f_c_1_0, f_c_1_1⟩ := mF_in c_1; obtain ⟨f_c_2_0, f_c_2_1⟩ := mF_in c_2; have e_c_4 := lv_neT c_4 (a := 0) (by decide); have e_c_6 := lv_neT c_6 (a := 0) (by decide); have e_c_7 : (b).toInt = 0 := (by rw [c_7]; rfl); simp only [Int32.lt_iff_toInt_lt, Int32.le_iff_toInt_le, q_n0, q_n1, q_n2, q_n3, q_n4, q_n5, q_n6, q_n7, q_n8, q_n9, q_n10, q_n11, q_n12, q_n13, q_n14, q_n15, q_n20, q_n60, q_n1288] at f_c_1_0 f_c_1_1 f_c_2_0 f_c_2_1; have l1 : (0 : Int32).toInt = 0 := rfl; have l2 : (5 : Int32).toInt = 5 := rfl; have l3 : (13 : Int32).toInt = 13 := rfl; rw [vp_in_iff]; omega
            refine male_10 hC hW h_8 rfl (rfl) md_fm_flow_117 ?_
            have hf : m_fm_flow S a b = q_i (S 10 0 a.toNatClampNeg) := by unfold m_fm_flow; rw [if_neg c_1, if_neg c_2, if_neg c_4, if_neg c_6, if_pos c_7]
            rw [hf]
            exact q_iret hC hr hlocks hW hS rfl rfl md_fm_flow_118
          · -- others
            by_cases c_9 : b = 1
            · -- case 1
              refine lv_tableIn (off := 63) (tgt := 119) hx hb md_fm_flow_56 (by rw [c_9]; decide) (by rw [c_9]; decide) (by rw [c_9]; decide) (by decide) ?_
              refine lv_aload_n hx hb md_fm_flow_119 rfl (lv_at hl 1 rfl) ?_
              refine mg_fm_35 hC hW 0 Nat.one_pos md_fm_flow_120 ?_
              refine lv_iload_n hx hb md_fm_flow_123 rfl (lv_at hl 2 rfl) ?_
              have h_10 : vp_in a 6 := by obtain ⟨f_c_1_0, f_c_1_1⟩ := mF_in c_1; obtain ⟨f_c_2_0, f_c_2_1⟩ := mF_in c_2; have e_c_4 := lv_neT c_4 (a := 0) (by decide); have e_c_6 := lv_neT c_6 (a := 0) (by decide); have e_c_7 := lv_neT c_7 (a := 0) (by decide); have e_c_9 : (b).toInt = 1 := (by rw [c_9]; rfl); simp only [Int32.lt_iff_toInt_lt, Int32.le_iff_toInt_le, q_n0, q_n1, q_n2, q_n3, q_n4, q_n5, q_n6, q_n7, q_n8, q_n9, q_n10, q_n11, q_n12, q_n13, q_n14, q_n15, q_n20, q_n60, q_n1288] at f_c_1_0 f_c_1_1 f_c_2_0 f_c_2_1; have l1 : (0 : Int32).toInt = 0 := rfl; have l2 : (5 : Int32).toInt = 5 := rfl; have l3 : (13 : Int32).toInt = 13 := rfl; rw [vp_in_iff]; omega
              refine male_9 hC hW h_10 rfl (rfl) md_fm_flow_124 ?_
              have hf : m_fm_flow S a b = q_i (S 9 0 a.toNatClampNeg) := by unfold m_fm_flow; rw [if_neg c_1, if_neg c_2, if_neg c_4, if_neg c_6, if_neg c_7, if_pos c_9]
              rw [hf]
              exact q_iret hC hr hlocks hW hS rfl rfl md_fm_flow_125
            · -- others
              by_cases c_11 : b = 2
              · -- case 2
                refine lv_tableIn (off := 70) (tgt := 126) hx hb md_fm_flow_56 (by rw [c_11]; decide) (by rw [c_11]; decide) (by rw [c_11]; decide) (by decide) ?_
                refine lv_aload_n hx hb md_fm_flow_126 rfl (lv_at hl 1 rfl) ?_
                refine mg_fm_53 hC hW 0 Nat.one_pos md_fm_flow_127 ?_
                refine lv_iload_n hx hb md_fm_flow_130 rfl (lv_at hl 2 rfl) ?_
                have h_12 : vp_in a 6 := by obtain ⟨f_c_1_0, f_c_1_1⟩ := mF_in c_1; obtain ⟨f_c_2_0, f_c_2_1⟩ := mF_in c_2; have e_c_4 := lv_neT c_4 (a := 0) (by decide); have e_c_6 := lv_neT c_6 (a := 0) (by decide); have e_c_7 := lv_neT c_7 (a := 0) (by decide); have e_c_9 := lv_neT c_9 (a := 1) (by decide); have e_c_11 : (b).toInt = 2 := (by rw [c_11]; rfl); simp only [Int32.lt_iff_toInt_lt, Int32.le_iff_toInt_le, q_n0, q_n1, q_n2, q_n3, q_n4, q_n5, q_n6, q_n7, q_n8, q_n9, q_n10, q_n11, q_n12, q_n13, q_n14, q_n15, q_n20, q_n60, q_n1288] at f_c_1_0 f_c_1_1 f_c_2_0 f_c_2_1; have l1 : (0 : Int32).toInt = 0 := rfl; have l2 : (5 : Int32).toInt = 5 := rfl; have l3 : (13 : Int32).toInt = 13 := rfl; rw [vp_in_iff]; omega
                refine male_15 hC hW h_12 rfl (rfl) md_fm_flow_131 ?_
                have hf : m_fm_flow S a b = q_i (S 15 0 a.toNatClampNeg) := by unfold m_fm_flow; rw [if_neg c_1, if_neg c_2, if_neg c_4, if_neg c_6, if_neg c_7, if_neg c_9, if_pos c_11]
                rw [hf]
                exact q_iret hC hr hlocks hW hS rfl rfl md_fm_flow_132
              · -- others
                by_cases c_13 : b = 3
                · -- case 3
                  refine lv_tableIn (off := 77) (tgt := 133) hx hb md_fm_flow_56 (by rw [c_13]; decide) (by rw [c_13]; decide) (by rw [c_13]; decide) (by decide) ?_
                  refine lv_iload_n hx hb md_fm_flow_133 rfl (lv_at hl 0 rfl) ?_
                  refine lv_if_eq (tgt := 142) hx hb md_fm_flow_134 (by decide) (fun c_14 => absurd c_14 (by decide)) (fun _ => ?_)
                  refine lv_bipush (v := (-2)) hx hb md_fm_flow_137 (by decide) ?_
                  refine lv_goto (tgt := 148) hx hb md_fm_flow_139 (by decide) ?_
                  have hf : m_fm_flow S a b = (-2) := by unfold m_fm_flow; rw [if_neg c_1, if_neg c_2, if_neg c_4, if_neg c_6, if_neg c_7, if_neg c_9, if_neg c_11, if_pos c_13]
                  rw [hf]
                  exact q_iret hC hr hlocks hW hS rfl rfl md_fm_flow_148
                · -- others
                  by_cases c_15 : b = 4
                  · -- case 4
                    refine lv_tableIn (off := 93) (tgt := 149) hx hb md_fm_flow_56 (by rw [c_15]; decide) (by rw [c_15]; decide) (by rw [c_15]; decide) (by decide) ?_
                    refine lv_iload_n hx hb md_fm_flow_149 rfl (lv_at hl 0 rfl) ?_
                    refine lv_if_eq (tgt := 158) hx hb md_fm_flow_150 (by decide) (fun c_16 => absurd c_16 (by decide)) (fun _ => ?_)
                    refine lv_bipush (v := (-2)) hx hb md_fm_flow_153 (by decide) ?_
                    refine lv_goto (tgt := 164) hx hb md_fm_flow_155 (by decide) ?_
                    have hf : m_fm_flow S a b = (-2) := by unfold m_fm_flow; rw [if_neg c_1, if_neg c_2, if_neg c_4, if_neg c_6, if_neg c_7, if_neg c_9, if_neg c_11, if_neg c_13, if_pos c_15]
                    rw [hf]
                    exact q_iret hC hr hlocks hW hS rfl rfl md_fm_flow_164
                  · -- others
                    by_cases c_17 : b = 5
                    · -- case 5
                      refine lv_tableIn (off := 109) (tgt := 165) hx hb md_fm_flow_56 (by rw [c_17]; decide) (by rw [c_17]; decide) (by rw [c_17]; decide) (by decide) ?_
                      refine lv_aload_n hx hb md_fm_flow_165 rfl (lv_at hl 1 rfl) ?_
                      refine mg_fm_38 hC hW 0 Nat.one_pos md_fm_flow_166 ?_
                      refine lv_iload_n hx hb md_fm_flow_169 rfl (lv_at hl 2 rfl) ?_
                      have h_18 : vp_in a 6 := by obtain ⟨f_c_1_0, f_c_1_1⟩ := mF_in c_1; obtain ⟨f_c_2_0, f_c_2_1⟩ := mF_in c_2; have e_c_4 := lv_neT c_4 (a := 0) (by decide); have e_c_6 := lv_neT c_6 (a := 0) (by decide); have e_c_7 := lv_neT c_7 (a := 0) (by decide); have e_c_9 := lv_neT c_9 (a := 1) (by decide); have e_c_11 := lv_neT c_11 (a := 2) (by decide); have e_c_13 := lv_neT c_13 (a := 3) (by decide); have e_c_15 := lv_neT c_15 (a := 4) (by decide); have e_c_17 : (b).toInt = 5 := (by rw [c_17]; rfl); simp only [Int32.lt_iff_toInt_lt, Int32.le_iff_toInt_le, q_n0, q_n1, q_n2, q_n3, q_n4, q_n5, q_n6, q_n7, q_n8, q_n9, q_n10, q_n11, q_n12, q_n13, q_n14, q_n15, q_n20, q_n60, q_n1288] at f_c_1_0 f_c_1_1 f_c_2_0 f_c_2_1; have l1 : (0 : Int32).toInt = 0 := rfl; have l2 : (5 : Int32).toInt = 5 := rfl; have l3 : (13 : Int32).toInt = 13 := rfl; rw [vp_in_iff]; omega
                      refine male_10 hC hW h_18 rfl (rfl) md_fm_flow_170 ?_
                      refine lv_iconst (v := 5) hx hb md_fm_flow_171 (by decide) ?_
                      refine lv_icmp_ne (tgt := 184) hx hb md_fm_flow_172 (by decide) (fun c_19 => ?_) (fun c_19 => ?_)
                      · -- taken
                        refine lv_iconst (v := 0) hx hb md_fm_flow_184 (by decide) ?_
                        have hf : m_fm_flow S a b = 0 := by unfold m_fm_flow; rw [if_neg c_1, if_neg c_2, if_neg c_4, if_neg c_6, if_neg c_7, if_neg c_9, if_neg c_11, if_neg c_13, if_neg c_15, if_pos c_17, if_neg c_19]
                        rw [hf]
                        exact q_iret hC hr hlocks hW hS rfl rfl md_fm_flow_185
                      · -- not taken
                        refine lv_aload_n hx hb md_fm_flow_175 rfl (lv_at hl 1 rfl) ?_
                        refine mg_fm_47 hC hW 0 Nat.one_pos md_fm_flow_176 ?_
                        refine lv_iload_n hx hb md_fm_flow_179 rfl (lv_at hl 2 rfl) ?_
                        have h_20 : vp_in a 6 := by obtain ⟨f_c_1_0, f_c_1_1⟩ := mF_in c_1; obtain ⟨f_c_2_0, f_c_2_1⟩ := mF_in c_2; have e_c_4 := lv_neT c_4 (a := 0) (by decide); have e_c_6 := lv_neT c_6 (a := 0) (by decide); have e_c_7 := lv_neT c_7 (a := 0) (by decide); have e_c_9 := lv_neT c_9 (a := 1) (by decide); have e_c_11 := lv_neT c_11 (a := 2) (by decide); have e_c_13 := lv_neT c_13 (a := 3) (by decide); have e_c_15 := lv_neT c_15 (a := 4) (by decide); have e_c_17 : (b).toInt = 5 := (by rw [c_17]; rfl); have e_c_19 : (q_i (S 10 0 a.toNatClampNeg)).toInt = 5 := (by rw [c_19]; rfl); simp only [Int32.lt_iff_toInt_lt, Int32.le_iff_toInt_le, q_n0, q_n1, q_n2, q_n3, q_n4, q_n5, q_n6, q_n7, q_n8, q_n9, q_n10, q_n11, q_n12, q_n13, q_n14, q_n15, q_n20, q_n60, q_n1288] at f_c_1_0 f_c_1_1 f_c_2_0 f_c_2_1; have l1 : (0 : Int32).toInt = 0 := rfl; have l2 : (5 : Int32).toInt = 5 := rfl; have l3 : (13 : Int32).toInt = 13 := rfl; rw [vp_in_iff]; omega
                        refine male_13 hC hW h_20 rfl (rfl) md_fm_flow_180 ?_
                        refine lv_goto (tgt := 185) hx hb md_fm_flow_181 (by decide) ?_
                        have hf : m_fm_flow S a b = q_i (S 13 0 a.toNatClampNeg) := by unfold m_fm_flow; rw [if_neg c_1, if_neg c_2, if_neg c_4, if_neg c_6, if_neg c_7, if_neg c_9, if_neg c_11, if_neg c_13, if_neg c_15, if_pos c_17, if_pos c_19]
                        rw [hf]
                        exact q_iret hC hr hlocks hW hS rfl rfl md_fm_flow_185
                    · -- others
                      by_cases c_21 : b = 6
                      · -- case 6
                        refine lv_tableIn (off := 130) (tgt := 186) hx hb md_fm_flow_56 (by rw [c_21]; decide) (by rw [c_21]; decide) (by rw [c_21]; decide) (by decide) ?_
                        refine lv_aload_n hx hb md_fm_flow_186 rfl (lv_at hl 1 rfl) ?_
                        refine mg_fm_77 hC hW 0 Nat.one_pos md_fm_flow_187 ?_
                        refine lv_iload_n hx hb md_fm_flow_190 rfl (lv_at hl 2 rfl) ?_
                        have h_22 : vp_in a 6 := by obtain ⟨f_c_1_0, f_c_1_1⟩ := mF_in c_1; obtain ⟨f_c_2_0, f_c_2_1⟩ := mF_in c_2; have e_c_4 := lv_neT c_4 (a := 0) (by decide); have e_c_6 := lv_neT c_6 (a := 0) (by decide); have e_c_7 := lv_neT c_7 (a := 0) (by decide); have e_c_9 := lv_neT c_9 (a := 1) (by decide); have e_c_11 := lv_neT c_11 (a := 2) (by decide); have e_c_13 := lv_neT c_13 (a := 3) (by decide); have e_c_15 := lv_neT c_15 (a := 4) (by decide); have e_c_17 := lv_neT c_17 (a := 5) (by decide); have e_c_21 : (b).toInt = 6 := (by rw [c_21]; rfl); simp only [Int32.lt_iff_toInt_lt, Int32.le_iff_toInt_le, q_n0, q_n1, q_n2, q_n3, q_n4, q_n5, q_n6, q_n7, q_n8, q_n9, q_n10, q_n11, q_n12, q_n13, q_n14, q_n15, q_n20, q_n60, q_n1288] at f_c_1_0 f_c_1_1 f_c_2_0 f_c_2_1; have l1 : (0 : Int32).toInt = 0 := rfl; have l2 : (5 : Int32).toInt = 5 := rfl; have l3 : (13 : Int32).toInt = 13 := rfl; rw [vp_in_iff]; omega
                        refine male_23 hC hW h_22 rfl (rfl) md_fm_flow_191 ?_
                        have hf : m_fm_flow S a b = q_i (S 23 0 a.toNatClampNeg) := by unfold m_fm_flow; rw [if_neg c_1, if_neg c_2, if_neg c_4, if_neg c_6, if_neg c_7, if_neg c_9, if_neg c_11, if_neg c_13, if_neg c_15, if_neg c_17, if_pos c_21]
                        rw [hf]
                        exact q_iret hC hr hlocks hW hS rfl rfl md_fm_flow_192
                      · -- others
                        by_cases c_23 : b = 7
                        · -- case 7
                          refine lv_tableIn (off := 137) (tgt := 193) hx hb md_fm_flow_56 (by rw [c_23]; decide) (by rw [c_23]; decide) (by rw [c_23]; decide) (by decide) ?_
                          refine lv_aload_n hx hb md_fm_flow_193 rfl (lv_at hl 1 rfl) ?_
                          refine mg_fm_26 hC hW 0 Nat.one_pos md_fm_flow_194 ?_
                          refine lv_iload_n hx hb md_fm_flow_197 rfl (lv_at hl 2 rfl) ?_
                          have h_24 : vp_in a 6 := by obtain ⟨f_c_1_0, f_c_1_1⟩ := mF_in c_1; obtain ⟨f_c_2_0, f_c_2_1⟩ := mF_in c_2; have e_c_4 := lv_neT c_4 (a := 0) (by decide); have e_c_6 := lv_neT c_6 (a := 0) (by decide); have e_c_7 := lv_neT c_7 (a := 0) (by decide); have e_c_9 := lv_neT c_9 (a := 1) (by decide); have e_c_11 := lv_neT c_11 (a := 2) (by decide); have e_c_13 := lv_neT c_13 (a := 3) (by decide); have e_c_15 := lv_neT c_15 (a := 4) (by decide); have e_c_17 := lv_neT c_17 (a := 5) (by decide); have e_c_21 := lv_neT c_21 (a := 6) (by decide); have e_c_23 : (b).toInt = 7 := (by rw [c_23]; rfl); simp only [Int32.lt_iff_toInt_lt, Int32.le_iff_toInt_le, q_n0, q_n1, q_n2, q_n3, q_n4, q_n5, q_n6, q_n7, q_n8, q_n9, q_n10, q_n11, q_n12, q_n13, q_n14, q_n15, q_n20, q_n60, q_n1288] at f_c_1_0 f_c_1_1 f_c_2_0 f_c_2_1; have l1 : (0 : Int32).toInt = 0 := rfl; have l2 : (5 : Int32).toInt = 5 := rfl; have l3 : (13 : Int32).toInt = 13 := rfl; rw [vp_in_iff]; omega
                          refine male_6 hC hW h_24 rfl (rfl) md_fm_flow_198 ?_
                          refine lv_if_eq (tgt := 206) hx hb md_fm_flow_199 (by decide) (fun c_25 => ?_) (fun c_25 => ?_)
                          · -- taken
                            refine lv_iconst (v := 0) hx hb md_fm_flow_206 (by decide) ?_
                            have hf : m_fm_flow S a b = 0 := by unfold m_fm_flow; rw [if_neg c_1, if_neg c_2, if_neg c_4, if_neg c_6, if_neg c_7, if_neg c_9, if_neg c_11, if_neg c_13, if_neg c_15, if_neg c_17, if_neg c_21, if_pos c_23, if_pos c_25]
                            rw [hf]
                            exact q_iret hC hr hlocks hW hS rfl rfl md_fm_flow_207
                          · -- not taken
                            refine lv_iconst (v := 1) hx hb md_fm_flow_202 (by decide) ?_
                            refine lv_goto (tgt := 207) hx hb md_fm_flow_203 (by decide) ?_
                            have hf : m_fm_flow S a b = 1 := by unfold m_fm_flow; rw [if_neg c_1, if_neg c_2, if_neg c_4, if_neg c_6, if_neg c_7, if_neg c_9, if_neg c_11, if_neg c_13, if_neg c_15, if_neg c_17, if_neg c_21, if_pos c_23, if_neg c_25]
                            rw [hf]
                            exact q_iret hC hr hlocks hW hS rfl rfl md_fm_flow_207
                        · -- others
                          by_cases c_26 : b = 8
                          · -- case 8
                            refine lv_tableIn (off := 152) (tgt := 208) hx hb md_fm_flow_56 (by rw [c_26]; decide) (by rw [c_26]; decide) (by rw [c_26]; decide) (by decide) ?_
                            refine lv_aload_n hx hb md_fm_flow_208 rfl (lv_at hl 1 rfl) ?_
                            refine mg_fm_96 hC hW 0 Nat.one_pos md_fm_flow_209 ?_
                            refine lv_iload_n hx hb md_fm_flow_212 rfl (lv_at hl 2 rfl) ?_
                            have h_27 : vp_in a 6 := by obtain ⟨f_c_1_0, f_c_1_1⟩ := mF_in c_1; obtain ⟨f_c_2_0, f_c_2_1⟩ := mF_in c_2; have e_c_4 := lv_neT c_4 (a := 0) (by decide); have e_c_6 := lv_neT c_6 (a := 0) (by decide); have e_c_7 := lv_neT c_7 (a := 0) (by decide); have e_c_9 := lv_neT c_9 (a := 1) (by decide); have e_c_11 := lv_neT c_11 (a := 2) (by decide); have e_c_13 := lv_neT c_13 (a := 3) (by decide); have e_c_15 := lv_neT c_15 (a := 4) (by decide); have e_c_17 := lv_neT c_17 (a := 5) (by decide); have e_c_21 := lv_neT c_21 (a := 6) (by decide); have e_c_23 := lv_neT c_23 (a := 7) (by decide); have e_c_26 : (b).toInt = 8 := (by rw [c_26]; rfl); simp only [Int32.lt_iff_toInt_lt, Int32.le_iff_toInt_le, q_n0, q_n1, q_n2, q_n3, q_n4, q_n5, q_n6, q_n7, q_n8, q_n9, q_n10, q_n11, q_n12, q_n13, q_n14, q_n15, q_n20, q_n60, q_n1288] at f_c_1_0 f_c_1_1 f_c_2_0 f_c_2_1; have l1 : (0 : Int32).toInt = 0 := rfl; have l2 : (5 : Int32).toInt = 5 := rfl; have l3 : (13 : Int32).toInt = 13 := rfl; rw [vp_in_iff]; omega
                            refine male_29 hC hW h_27 rfl (rfl) md_fm_flow_213 ?_
                            have hf : m_fm_flow S a b = q_i (S 29 0 a.toNatClampNeg) := by unfold m_fm_flow; rw [if_neg c_1, if_neg c_2, if_neg c_4, if_neg c_6, if_neg c_7, if_neg c_9, if_neg c_11, if_neg c_13, if_neg c_15, if_neg c_17, if_neg c_21, if_neg c_23, if_pos c_26]
                            rw [hf]
                            exact q_iret hC hr hlocks hW hS rfl rfl md_fm_flow_214
                          · -- others
                            by_cases c_28 : b = 9
                            · -- case 9
                              refine lv_tableIn (off := 159) (tgt := 215) hx hb md_fm_flow_56 (by rw [c_28]; decide) (by rw [c_28]; decide) (by rw [c_28]; decide) (by decide) ?_
                              refine lv_aload_n hx hb md_fm_flow_215 rfl (lv_at hl 1 rfl) ?_
                              refine mg_fm_29 hC hW 0 Nat.one_pos md_fm_flow_216 ?_
                              refine lv_iload_n hx hb md_fm_flow_219 rfl (lv_at hl 2 rfl) ?_
                              have h_29 : vp_in a 6 := by obtain ⟨f_c_1_0, f_c_1_1⟩ := mF_in c_1; obtain ⟨f_c_2_0, f_c_2_1⟩ := mF_in c_2; have e_c_4 := lv_neT c_4 (a := 0) (by decide); have e_c_6 := lv_neT c_6 (a := 0) (by decide); have e_c_7 := lv_neT c_7 (a := 0) (by decide); have e_c_9 := lv_neT c_9 (a := 1) (by decide); have e_c_11 := lv_neT c_11 (a := 2) (by decide); have e_c_13 := lv_neT c_13 (a := 3) (by decide); have e_c_15 := lv_neT c_15 (a := 4) (by decide); have e_c_17 := lv_neT c_17 (a := 5) (by decide); have e_c_21 := lv_neT c_21 (a := 6) (by decide); have e_c_23 := lv_neT c_23 (a := 7) (by decide); have e_c_26 := lv_neT c_26 (a := 8) (by decide); have e_c_28 : (b).toInt = 9 := (by rw [c_28]; rfl); simp only [Int32.lt_iff_toInt_lt, Int32.le_iff_toInt_le, q_n0, q_n1, q_n2, q_n3, q_n4, q_n5, q_n6, q_n7, q_n8, q_n9, q_n10, q_n11, q_n12, q_n13, q_n14, q_n15, q_n20, q_n60, q_n1288] at f_c_1_0 f_c_1_1 f_c_2_0 f_c_2_1; have l1 : (0 : Int32).toInt = 0 := rfl; have l2 : (5 : Int32).toInt = 5 := rfl; have l3 : (13 : Int32).toInt = 13 := rfl; rw [vp_in_iff]; omega
                              refine male_7 hC hW h_29 rfl (rfl) md_fm_flow_220 ?_
                              refine lv_if_eq (tgt := 228) hx hb md_fm_flow_221 (by decide) (fun c_30 => ?_) (fun c_30 => ?_)
                              · -- taken
                                refine lv_iconst (v := 0) hx hb md_fm_flow_228 (by decide) ?_
                                have hf : m_fm_flow S a b = 0 := by unfold m_fm_flow; rw [if_neg c_1, if_neg c_2, if_neg c_4, if_neg c_6, if_neg c_7, if_neg c_9, if_neg c_11, if_neg c_13, if_neg c_15, if_neg c_17, if_neg c_21, if_neg c_23, if_neg c_26, if_pos c_28, if_pos c_30]
                                rw [hf]
                                exact q_iret hC hr hlocks hW hS rfl rfl md_fm_flow_229
                              · -- not taken
                                refine lv_iconst (v := 1) hx hb md_fm_flow_224 (by decide) ?_
                                refine lv_goto (tgt := 229) hx hb md_fm_flow_225 (by decide) ?_
                                have hf : m_fm_flow S a b = 1 := by unfold m_fm_flow; rw [if_neg c_1, if_neg c_2, if_neg c_4, if_neg c_6, if_neg c_7, if_neg c_9, if_neg c_11, if_neg c_13, if_neg c_15, if_neg c_17, if_neg c_21, if_neg c_23, if_neg c_26, if_pos c_28, if_neg c_30]
                                rw [hf]
                                exact q_iret hC hr hlocks hW hS rfl rfl md_fm_flow_229
                            · -- others
                              refine lv_tableOut (tgt := 230) hx hb md_fm_flow_56 (by have n0 := lv_neT c_7 (a := 0) (by decide); have n1 := lv_neT c_9 (a := 1) (by decide); have n2 := lv_neT c_11 (a := 2) (by decide); have n3 := lv_neT c_13 (a := 3) (by decide); have n4 := lv_neT c_15 (a := 4) (by decide); have n5 := lv_neT c_17 (a := 5) (by decide); have n6 := lv_neT c_21 (a := 6) (by decide); have n7 := lv_neT c_23 (a := 7) (by decide); have n8 := lv_neT c_26 (a := 8) (by decide); have n9 := lv_neT c_28 (a := 9) (by decide); omega) (by decide) ?_
                              refine lv_aload_n hx hb md_fm_flow_230 rfl (lv_at hl 1 rfl) ?_
                              refine mg_fm_26 hC hW 0 Nat.one_pos md_fm_flow_231 ?_
                              refine lv_iload_n hx hb md_fm_flow_234 rfl (lv_at hl 2 rfl) ?_
                              have h_31 : vp_in a 6 := by obtain ⟨f_c_1_0, f_c_1_1⟩ := mF_in c_1; obtain ⟨f_c_2_0, f_c_2_1⟩ := mF_in c_2; have e_c_4 := lv_neT c_4 (a := 0) (by decide); have e_c_6 := lv_neT c_6 (a := 0) (by decide); have e_c_7 := lv_neT c_7 (a := 0) (by decide); have e_c_9 := lv_neT c_9 (a := 1) (by decide); have e_c_11 := lv_neT c_11 (a := 2) (by decide); have e_c_13 := lv_neT c_13 (a := 3) (by decide); have e_c_15 := lv_neT c_15 (a := 4) (by decide); have e_c_17 := lv_neT c_17 (a := 5) (by decide); have e_c_21 := lv_neT c_21 (a := 6) (by decide); have e_c_23 := lv_neT c_23 (a := 7) (by decide); have e_c_26 := lv_neT c_26 (a := 8) (by decide); have e_c_28 := lv_neT c_28 (a := 9) (by decide); simp only [Int32.lt_iff_toInt_lt, Int32.le_iff_toInt_le, q_n0, q_n1, q_n2, q_n3, q_n4, q_n5, q_n6, q_n7, q_n8, q_n9, q_n10, q_n11, q_n12, q_n13, q_n14, q_n15, q_n20, q_n60, q_n1288] at f_c_1_0 f_c_1_1 f_c_2_0 f_c_2_1; have l1 : (0 : Int32).toInt = 0 := rfl; have l2 : (5 : Int32).toInt = 5 := rfl; have l3 : (13 : Int32).toInt = 13 := rfl; rw [vp_in_iff]; omega
                              refine male_6 hC hW h_31 rfl (rfl) md_fm_flow_235 ?_
                              refine lv_if_eq (tgt := 243) hx hb md_fm_flow_236 (by decide) (fun c_32 => ?_) (fun c_32 => ?_)
                              · -- taken
                                refine lv_aload_n hx hb md_fm_flow_243 rfl (lv_at hl 1 rfl) ?_
                                refine mg_fm_50 hC hW 0 Nat.one_pos md_fm_flow_244 ?_
                                refine lv_iconst (v := 4) hx hb md_fm_flow_247 (by decide) ?_
                                refine lv_iload_n hx hb md_fm_flow_248 rfl (lv_at hl 2 rfl) ?_
                                refine lv_imul hx hb md_fm_flow_249 ?_
                                refine lv_iload_n hx hb md_fm_flow_250 rfl (lv_at hl 3 rfl) ?_
                                refine lv_iadd hx hb md_fm_flow_251 ?_
                                refine lv_bipush (v := 10) hx hb md_fm_flow_252 (by decide) ?_
                                refine lv_isub hx hb md_fm_flow_254 ?_
                                have h_33 : vp_in (((4 * a) + b) - 10) 24 := by obtain ⟨f_c_1_0, f_c_1_1⟩ := mF_in c_1; obtain ⟨f_c_2_0, f_c_2_1⟩ := mF_in c_2; have e_c_4 := lv_neT c_4 (a := 0) (by decide); have e_c_6 := lv_neT c_6 (a := 0) (by decide); have e_c_7 := lv_neT c_7 (a := 0) (by decide); have e_c_9 := lv_neT c_9 (a := 1) (by decide); have e_c_11 := lv_neT c_11 (a := 2) (by decide); have e_c_13 := lv_neT c_13 (a := 3) (by decide); have e_c_15 := lv_neT c_15 (a := 4) (by decide); have e_c_17 := lv_neT c_17 (a := 5) (by decide); have e_c_21 := lv_neT c_21 (a := 6) (by decide); have e_c_23 := lv_neT c_23 (a := 7) (by decide); have e_c_26 := lv_neT c_26 (a := 8) (by decide); have e_c_28 := lv_neT c_28 (a := 9) (by decide); have e_c_32 : (q_i (S 6 0 a.toNatClampNeg)).toInt = 0 := (by rw [c_32]; rfl); simp only [Int32.lt_iff_toInt_lt, Int32.le_iff_toInt_le, q_n0, q_n1, q_n2, q_n3, q_n4, q_n5, q_n6, q_n7, q_n8, q_n9, q_n10, q_n11, q_n12, q_n13, q_n14, q_n15, q_n20, q_n60, q_n1288] at f_c_1_0 f_c_1_1 f_c_2_0 f_c_2_1; have l1 : (4 : Int32).toInt = 4 := rfl; have l2 := q_mulI (c := 4) (x := a) (k := 4) rfl (by omega); have l3 := q_addI (x := 4 * a) (y := b) (by omega); have l4 : (10 : Int32).toInt = 10 := rfl; have l5 := q_subI (x := (4 * a) + b) (y := 10) (by omega); have l6 : (0 : Int32).toInt = 0 := rfl; have l7 : (5 : Int32).toInt = 5 := rfl; have l8 : (13 : Int32).toInt = 13 := rfl; rw [vp_in_iff]; omega
                                have s_34 : (((4 * a) + b) - 10).toNatClampNeg = 4 * a.toNatClampNeg + b.toNatClampNeg - 10 := by obtain ⟨f_c_1_0, f_c_1_1⟩ := mF_in c_1; obtain ⟨f_c_2_0, f_c_2_1⟩ := mF_in c_2; have e_c_4 := lv_neT c_4 (a := 0) (by decide); have e_c_6 := lv_neT c_6 (a := 0) (by decide); have e_c_7 := lv_neT c_7 (a := 0) (by decide); have e_c_9 := lv_neT c_9 (a := 1) (by decide); have e_c_11 := lv_neT c_11 (a := 2) (by decide); have e_c_13 := lv_neT c_13 (a := 3) (by decide); have e_c_15 := lv_neT c_15 (a := 4) (by decide); have e_c_17 := lv_neT c_17 (a := 5) (by decide); have e_c_21 := lv_neT c_21 (a := 6) (by decide); have e_c_23 := lv_neT c_23 (a := 7) (by decide); have e_c_26 := lv_neT c_26 (a := 8) (by decide); have e_c_28 := lv_neT c_28 (a := 9) (by decide); have e_c_32 : (q_i (S 6 0 a.toNatClampNeg)).toInt = 0 := (by rw [c_32]; rfl); simp only [Int32.lt_iff_toInt_lt, Int32.le_iff_toInt_le, q_n0, q_n1, q_n2, q_n3, q_n4, q_n5, q_n6, q_n7, q_n8, q_n9, q_n10, q_n11, q_n12, q_n13, q_n14, q_n15, q_n20, q_n60, q_n1288] at f_c_1_0 f_c_1_1 f_c_2_0 f_c_2_1; have l1 : (4 : Int32).toInt = 4 := rfl; have l2 := q_mulI (c := 4) (x := a) (k := 4) rfl (by omega); have l3 := q_addI (x := 4 * a) (y := b) (by omega); have l4 : (10 : Int32).toInt = 10 := rfl; have l5 := q_subI (x := (4 * a) + b) (y := 10) (by omega); have l6 : (0 : Int32).toInt = 0 := rfl; have l7 : (5 : Int32).toInt = 5 := rfl; have l8 : (13 : Int32).toInt = 13 := rfl; have c0 := q_clI (x := a) (by omega); have c1 := q_clI (x := b) (by omega); apply q_tn; omega
                                refine male_14 hC hW h_33 s_34 (rfl) md_fm_flow_255 ?_
                                have hf : m_fm_flow S a b = q_i (S 14 0 (4 * a.toNatClampNeg + b.toNatClampNeg - 10)) := by unfold m_fm_flow; rw [if_neg c_1, if_neg c_2, if_neg c_4, if_neg c_6, if_neg c_7, if_neg c_9, if_neg c_11, if_neg c_13, if_neg c_15, if_neg c_17, if_neg c_21, if_neg c_23, if_neg c_26, if_neg c_28, if_pos c_32]
                                rw [hf]
                                exact q_iret hC hr hlocks hW hS rfl rfl md_fm_flow_256
                              · -- not taken
                                refine lv_iconst (v := 0) hx hb md_fm_flow_239 (by decide) ?_
                                refine lv_goto (tgt := 256) hx hb md_fm_flow_240 (by decide) ?_
                                have hf : m_fm_flow S a b = 0 := by unfold m_fm_flow; rw [if_neg c_1, if_neg c_2, if_neg c_4, if_neg c_6, if_neg c_7, if_neg c_9, if_neg c_11, if_neg c_13, if_neg c_15, if_neg c_17, if_neg c_21, if_neg c_23, if_neg c_26, if_neg c_28, if_neg c_32]
                                rw [hf]
                                exact q_iret hC hr hlocks hW hS rfl rfl md_fm_flow_256
        · -- not taken
          refine lv_aload_n hx hb md_fm_flow_41 rfl (lv_at hl 0 rfl) ?_
          refine lv_iload_n hx hb md_fm_flow_42 rfl (lv_at hl 1 rfl) ?_
          have g_36 : ¬ a < 0 := by obtain ⟨f_c_1_0, f_c_1_1⟩ := mF_in c_1; obtain ⟨f_c_2_0, f_c_2_1⟩ := mF_in c_2; have e_c_4 := lv_neT c_4 (a := 0) (by decide); have e_c_6 : (q_i (S 6 0 a.toNatClampNeg)).toInt = 0 := (by rw [c_6]; rfl); simp only [Int32.lt_iff_toInt_lt, Int32.le_iff_toInt_le, q_n0, q_n1, q_n2, q_n3, q_n4, q_n5, q_n6, q_n7, q_n8, q_n9, q_n10, q_n11, q_n12, q_n13, q_n14, q_n15, q_n20, q_n60, q_n1288] at f_c_1_0 f_c_1_1 f_c_2_0 f_c_2_1; have l1 : (0 : Int32).toInt = 0 := rfl; have l2 : (5 : Int32).toInt = 5 := rfl; have l3 : (13 : Int32).toInt = 13 := rfl; rw [Int32.lt_iff_toInt_lt]; show ¬ _ < (0 : Int); omega
          have h_35 : a.toNatClampNeg < 6 := by obtain ⟨f_c_1_0, f_c_1_1⟩ := mF_in c_1; obtain ⟨f_c_2_0, f_c_2_1⟩ := mF_in c_2; have e_c_4 := lv_neT c_4 (a := 0) (by decide); have e_c_6 : (q_i (S 6 0 a.toNatClampNeg)).toInt = 0 := (by rw [c_6]; rfl); simp only [Int32.lt_iff_toInt_lt, Int32.le_iff_toInt_le, q_n0, q_n1, q_n2, q_n3, q_n4, q_n5, q_n6, q_n7, q_n8, q_n9, q_n10, q_n11, q_n12, q_n13, q_n14, q_n15, q_n20, q_n60, q_n1288] at f_c_1_0 f_c_1_1 f_c_2_0 f_c_2_1; have l1 : (0 : Int32).toInt = 0 := rfl; have l2 : (5 : Int32).toInt = 5 := rfl; have l3 : (13 : Int32).toInt = 13 := rfl; have cc := q_cl g_36; omega
          refine q_calli hC hS (fun _ h => h) (q_runV (rest := []) hC hW (mC_fm_hasEnded l G S a.toNatClampNeg h_35) (mc_fm_191 (q_rm 0) hC.1.2.2.2.2 ⟨Nat.le_of_ble_eq_true rfl, Nat.le_of_ble_eq_true rfl⟩ rfl rfl) Nat.one_pos rfl rfl rfl hl.1 (by rw [q_nn g_36]; rfl) (Nat.le_of_ble_eq_true rfl) md_fm_flow_43 ⟨Nat.zero_le _, Nat.zero_le _⟩) (fun H locs hW hS => ?_)
          refine lv_if_eq (tgt := 53) hx hb md_fm_flow_46 (by decide) (fun c_37 => ?_) (fun c_37 => ?_)
          · -- taken
            refine lv_iconst (v := 0) hx hb md_fm_flow_53 (by decide) ?_
            refine lv_istore_n (lv' := [(3, .int 0), (0, .ref (q_a mX G 0 0)), (1, .int a), (2, .int b)]) hx hb md_fm_flow_54 rfl hl (by decide) rfl (fun ls hl => ?_)
            refine lv_iload_n hx hb md_fm_flow_55 rfl (lv_at hl 3 rfl) ?_
            by_cases c_38 : b = 0
            · -- case 0
              refine lv_tableIn (off := 56) (tgt := 112) hx hb md_fm_flow_56 (by rw [c_38]; decide) (by rw [c_38]; decide) (by rw [c_38]; decide) (by decide) ?_
              refine lv_aload_n hx hb md_fm_flow_112 rfl (lv_at hl 1 rfl) ?_
              refine mg_fm_38 hC hW 0 Nat.one_pos md_fm_flow_113 ?_
              refine lv_iload_n hx hb md_fm_flow_116 rfl (lv_at hl 2 rfl) ?_
              have h_39 : vp_in a 6 := by obtain ⟨f_c_1_0, f_c_1_1⟩ := mF_in c_1; obtain ⟨f_c_2_0, f_c_2_1⟩ := mF_in c_2; have e_c_4 := lv_neT c_4 (a := 0) (by decide); have e_c_6 : (q_i (S 6 0 a.toNatClampNeg)).toInt = 0 := (by rw [c_6]; rfl); have e_c_37 : (m_fm_hasEnded S a.toNatClampNeg).toInt = 0 := (by rw [c_37]; rfl); have e_c_38 : (b).toInt = 0 := (by rw [c_38]; rfl); simp only [Int32.lt_iff_toInt_lt, Int32.le_iff_toInt_le, q_n0, q_n1, q_n2, q_n3, q_n4, q_n5, q_n6, q_n7, q_n8, q_n9, q_n10, q_n11, q_n12, q_n13, q_n14, q_n15, q_n20, q_n60, q_n1288] at f_c_1_0 f_c_1_1 f_c_2_0 f_c_2_1; have l1 : (0 : Int32).toInt = 0 := rfl; have l2 : (5 : Int32).toInt = 5 := rfl; have l3 : (13 : Int32).toInt = 13 := rfl; rw [vp_in_iff]; omega
              refine male_10 hC hW h_39 rfl (rfl) md_fm_flow_117 ?_
              have hf : m_fm_flow S a b = q_i (S 10 0 a.toNatClampNeg) := by unfold m_fm_flow; rw [if_neg c_1, if_neg c_2, if_neg c_4, if_pos c_6, if_pos c_37, if_pos c_38]
              rw [hf]
              exact q_iret hC hr hlocks hW hS rfl rfl md_fm_flow_118
            · -- others
              by_cases c_40 : b = 1
              · -- case 1
                refine lv_tableIn (off := 63) (tgt := 119) hx hb md_fm_flow_56 (by rw [c_40]; decide) (by rw [c_40]; decide) (by rw [c_40]; decide) (by decide) ?_
                refine lv_aload_n hx hb md_fm_flow_119 rfl (lv_at hl 1 rfl) ?_
                refine mg_fm_35 hC hW 0 Nat.one_pos md_fm_flow_120 ?_
                refine lv_iload_n hx hb md_fm_flow_123 rfl (lv_at hl 2 rfl) ?_
                have h_41 : vp_in a 6 := by obtain ⟨f_c_1_0, f_c_1_1⟩ := mF_in c_1; obtain ⟨f_c_2_0, f_c_2_1⟩ := mF_in c_2; have e_c_4 := lv_neT c_4 (a := 0) (by decide); have e_c_6 : (q_i (S 6 0 a.toNatClampNeg)).toInt = 0 := (by rw [c_6]; rfl); have e_c_37 : (m_fm_hasEnded S a.toNatClampNeg).toInt = 0 := (by rw [c_37]; rfl); have e_c_38 := lv_neT c_38 (a := 0) (by decide); have e_c_40 : (b).toInt = 1 := (by rw [c_40]; rfl); simp only [Int32.lt_iff_toInt_lt, Int32.le_iff_toInt_le, q_n0, q_n1, q_n2, q_n3, q_n4, q_n5, q_n6, q_n7, q_n8, q_n9, q_n10, q_n11, q_n12, q_n13, q_n14, q_n15, q_n20, q_n60, q_n1288] at f_c_1_0 f_c_1_1 f_c_2_0 f_c_2_1; have l1 : (0 : Int32).toInt = 0 := rfl; have l2 : (5 : Int32).toInt = 5 := rfl; have l3 : (13 : Int32).toInt = 13 := rfl; rw [vp_in_iff]; omega
                refine male_9 hC hW h_41 rfl (rfl) md_fm_flow_124 ?_
                have hf : m_fm_flow S a b = q_i (S 9 0 a.toNatClampNeg) := by unfold m_fm_flow; rw [if_neg c_1, if_neg c_2, if_neg c_4, if_pos c_6, if_pos c_37, if_neg c_38, if_pos c_40]
                rw [hf]
                exact q_iret hC hr hlocks hW hS rfl rfl md_fm_flow_125
              · -- others
                by_cases c_42 : b = 2
                · -- case 2
                  refine lv_tableIn (off := 70) (tgt := 126) hx hb md_fm_flow_56 (by rw [c_42]; decide) (by rw [c_42]; decide) (by rw [c_42]; decide) (by decide) ?_
                  refine lv_aload_n hx hb md_fm_flow_126 rfl (lv_at hl 1 rfl) ?_
                  refine mg_fm_53 hC hW 0 Nat.one_pos md_fm_flow_127 ?_
                  refine lv_iload_n hx hb md_fm_flow_130 rfl (lv_at hl 2 rfl) ?_
                  have h_43 : vp_in a 6 := by obtain ⟨f_c_1_0, f_c_1_1⟩ := mF_in c_1; obtain ⟨f_c_2_0, f_c_2_1⟩ := mF_in c_2; have e_c_4 := lv_neT c_4 (a := 0) (by decide); have e_c_6 : (q_i (S 6 0 a.toNatClampNeg)).toInt = 0 := (by rw [c_6]; rfl); have e_c_37 : (m_fm_hasEnded S a.toNatClampNeg).toInt = 0 := (by rw [c_37]; rfl); have e_c_38 := lv_neT c_38 (a := 0) (by decide); have e_c_40 := lv_neT c_40 (a := 1) (by decide); have e_c_42 : (b).toInt = 2 := (by rw [c_42]; rfl); simp only [Int32.lt_iff_toInt_lt, Int32.le_iff_toInt_le, q_n0, q_n1, q_n2, q_n3, q_n4, q_n5, q_n6, q_n7, q_n8, q_n9, q_n10, q_n11, q_n12, q_n13, q_n14, q_n15, q_n20, q_n60, q_n1288] at f_c_1_0 f_c_1_1 f_c_2_0 f_c_2_1; have l1 : (0 : Int32).toInt = 0 := rfl; have l2 : (5 : Int32).toInt = 5 := rfl; have l3 : (13 : Int32).toInt = 13 := rfl; rw [vp_in_iff]; omega
                  refine male_15 hC hW h_43 rfl (rfl) md_fm_flow_131 ?_
                  have hf : m_fm_flow S a b = q_i (S 15 0 a.toNatClampNeg) := by unfold m_fm_flow; rw [if_neg c_1, if_neg c_2, if_neg c_4, if_pos c_6, if_pos c_37, if_neg c_38, if_neg c_40, if_pos c_42]
                  rw [hf]
                  exact q_iret hC hr hlocks hW hS rfl rfl md_fm_flow_132
                · -- others
                  by_cases c_44 : b = 3
                  · -- case 3
                    refine lv_tableIn (off := 77) (tgt := 133) hx hb md_fm_flow_56 (by rw [c_44]; decide) (by rw [c_44]; decide) (by rw [c_44]; decide) (by decide) ?_
                    refine lv_iload_n hx hb md_fm_flow_133 rfl (lv_at hl 0 rfl) ?_
                    refine lv_if_eq (tgt := 142) hx hb md_fm_flow_134 (by decide) (fun _ => ?_) (fun c_45 => absurd c_45 (by decide))
                    refine lv_aload_n hx hb md_fm_flow_142 rfl (lv_at hl 1 rfl) ?_
                    refine mg_fm_41 hC hW 0 Nat.one_pos md_fm_flow_143 ?_
                    refine lv_iload_n hx hb md_fm_flow_146 rfl (lv_at hl 2 rfl) ?_
                    have h_46 : vp_in a 6 := by obtain ⟨f_c_1_0, f_c_1_1⟩ := mF_in c_1; obtain ⟨f_c_2_0, f_c_2_1⟩ := mF_in c_2; have e_c_4 := lv_neT c_4 (a := 0) (by decide); have e_c_6 : (q_i (S 6 0 a.toNatClampNeg)).toInt = 0 := (by rw [c_6]; rfl); have e_c_37 : (m_fm_hasEnded S a.toNatClampNeg).toInt = 0 := (by rw [c_37]; rfl); have e_c_38 := lv_neT c_38 (a := 0) (by decide); have e_c_40 := lv_neT c_40 (a := 1) (by decide); have e_c_42 := lv_neT c_42 (a := 2) (by decide); have e_c_44 : (b).toInt = 3 := (by rw [c_44]; rfl); simp only [Int32.lt_iff_toInt_lt, Int32.le_iff_toInt_le, q_n0, q_n1, q_n2, q_n3, q_n4, q_n5, q_n6, q_n7, q_n8, q_n9, q_n10, q_n11, q_n12, q_n13, q_n14, q_n15, q_n20, q_n60, q_n1288] at f_c_1_0 f_c_1_1 f_c_2_0 f_c_2_1; have l1 : (0 : Int32).toInt = 0 := rfl; have l2 : (5 : Int32).toInt = 5 := rfl; have l3 : (13 : Int32).toInt = 13 := rfl; rw [vp_in_iff]; omega
                    refine male_11 hC hW h_46 rfl (rfl) md_fm_flow_147 ?_
                    have hf : m_fm_flow S a b = q_i (S 11 0 a.toNatClampNeg) := by unfold m_fm_flow; rw [if_neg c_1, if_neg c_2, if_neg c_4, if_pos c_6, if_pos c_37, if_neg c_38, if_neg c_40, if_neg c_42, if_pos c_44]
                    rw [hf]
                    exact q_iret hC hr hlocks hW hS rfl rfl md_fm_flow_148
                  · -- others
                    by_cases c_47 : b = 4
                    · -- case 4
                      refine lv_tableIn (off := 93) (tgt := 149) hx hb md_fm_flow_56 (by rw [c_47]; decide) (by rw [c_47]; decide) (by rw [c_47]; decide) (by decide) ?_
                      refine lv_iload_n hx hb md_fm_flow_149 rfl (lv_at hl 0 rfl) ?_
                      refine lv_if_eq (tgt := 158) hx hb md_fm_flow_150 (by decide) (fun _ => ?_) (fun c_48 => absurd c_48 (by decide))
                      refine lv_aload_n hx hb md_fm_flow_158 rfl (lv_at hl 1 rfl) ?_
                      refine mg_fm_68 hC hW 0 Nat.one_pos md_fm_flow_159 ?_
                      refine lv_iload_n hx hb md_fm_flow_162 rfl (lv_at hl 2 rfl) ?_
                      have h_49 : vp_in a 6 := by obtain ⟨f_c_1_0, f_c_1_1⟩ := mF_in c_1; obtain ⟨f_c_2_0, f_c_2_1⟩ := mF_in c_2; have e_c_4 := lv_neT c_4 (a := 0) (by decide); have e_c_6 : (q_i (S 6 0 a.toNatClampNeg)).toInt = 0 := (by rw [c_6]; rfl); have e_c_37 : (m_fm_hasEnded S a.toNatClampNeg).toInt = 0 := (by rw [c_37]; rfl); have e_c_38 := lv_neT c_38 (a := 0) (by decide); have e_c_40 := lv_neT c_40 (a := 1) (by decide); have e_c_42 := lv_neT c_42 (a := 2) (by decide); have e_c_44 := lv_neT c_44 (a := 3) (by decide); have e_c_47 : (b).toInt = 4 := (by rw [c_47]; rfl); simp only [Int32.lt_iff_toInt_lt, Int32.le_iff_toInt_le, q_n0, q_n1, q_n2, q_n3, q_n4, q_n5, q_n6, q_n7, q_n8, q_n9, q_n10, q_n11, q_n12, q_n13, q_n14, q_n15, q_n20, q_n60, q_n1288] at f_c_1_0 f_c_1_1 f_c_2_0 f_c_2_1; have l1 : (0 : Int32).toInt = 0 := rfl; have l2 : (5 : Int32).toInt = 5 := rfl; have l3 : (13 : Int32).toInt = 13 := rfl; rw [vp_in_iff]; omega
                      refine male_20 hC hW h_49 rfl (rfl) md_fm_flow_163 ?_
                      have hf : m_fm_flow S a b = q_i (S 20 0 a.toNatClampNeg) := by unfold m_fm_flow; rw [if_neg c_1, if_neg c_2, if_neg c_4, if_pos c_6, if_pos c_37, if_neg c_38, if_neg c_40, if_neg c_42, if_neg c_44, if_pos c_47]
                      rw [hf]
                      exact q_iret hC hr hlocks hW hS rfl rfl md_fm_flow_164
                    · -- others
                      by_cases c_50 : b = 5
                      · -- case 5
                        refine lv_tableIn (off := 109) (tgt := 165) hx hb md_fm_flow_56 (by rw [c_50]; decide) (by rw [c_50]; decide) (by rw [c_50]; decide) (by decide) ?_
                        refine lv_aload_n hx hb md_fm_flow_165 rfl (lv_at hl 1 rfl) ?_
                        refine mg_fm_38 hC hW 0 Nat.one_pos md_fm_flow_166 ?_
                        refine lv_iload_n hx hb md_fm_flow_169 rfl (lv_at hl 2 rfl) ?_
                        have h_51 : vp_in a 6 := by obtain ⟨f_c_1_0, f_c_1_1⟩ := mF_in c_1; obtain ⟨f_c_2_0, f_c_2_1⟩ := mF_in c_2; have e_c_4 := lv_neT c_4 (a := 0) (by decide); have e_c_6 : (q_i (S 6 0 a.toNatClampNeg)).toInt = 0 := (by rw [c_6]; rfl); have e_c_37 : (m_fm_hasEnded S a.toNatClampNeg).toInt = 0 := (by rw [c_37]; rfl); have e_c_38 := lv_neT c_38 (a := 0) (by decide); have e_c_40 := lv_neT c_40 (a := 1) (by decide); have e_c_42 := lv_neT c_42 (a := 2) (by decide); have e_c_44 := lv_neT c_44 (a := 3) (by decide); have e_c_47 := lv_neT c_47 (a := 4) (by decide); have e_c_50 : (b).toInt = 5 := (by rw [c_50]; rfl); simp only [Int32.lt_iff_toInt_lt, Int32.le_iff_toInt_le, q_n0, q_n1, q_n2, q_n3, q_n4, q_n5, q_n6, q_n7, q_n8, q_n9, q_n10, q_n11, q_n12, q_n13, q_n14, q_n15, q_n20, q_n60, q_n1288] at f_c_1_0 f_c_1_1 f_c_2_0 f_c_2_1; have l1 : (0 : Int32).toInt = 0 := rfl; have l2 : (5 : Int32).toInt = 5 := rfl; have l3 : (13 : Int32).toInt = 13 := rfl; rw [vp_in_iff]; omega
                        refine male_10 hC hW h_51 rfl (rfl) md_fm_flow_170 ?_
                        refine lv_iconst (v := 5) hx hb md_fm_flow_171 (by decide) ?_
                        refine lv_icmp_ne (tgt := 184) hx hb md_fm_flow_172 (by decide) (fun c_52 => ?_) (fun c_52 => ?_)
                        · -- taken
                          refine lv_iconst (v := 0) hx hb md_fm_flow_184 (by decide) ?_
                          have hf : m_fm_flow S a b = 0 := by unfold m_fm_flow; rw [if_neg c_1, if_neg c_2, if_neg c_4, if_pos c_6, if_pos c_37, if_neg c_38, if_neg c_40, if_neg c_42, if_neg c_44, if_neg c_47, if_pos c_50, if_neg c_52]
                          rw [hf]
                          exact q_iret hC hr hlocks hW hS rfl rfl md_fm_flow_185
                        · -- not taken
                          refine lv_aload_n hx hb md_fm_flow_175 rfl (lv_at hl 1 rfl) ?_
                          refine mg_fm_47 hC hW 0 Nat.one_pos md_fm_flow_176 ?_
                          refine lv_iload_n hx hb md_fm_flow_179 rfl (lv_at hl 2 rfl) ?_
                          have h_53 : vp_in a 6 := by obtain ⟨f_c_1_0, f_c_1_1⟩ := mF_in c_1; obtain ⟨f_c_2_0, f_c_2_1⟩ := mF_in c_2; have e_c_4 := lv_neT c_4 (a := 0) (by decide); have e_c_6 : (q_i (S 6 0 a.toNatClampNeg)).toInt = 0 := (by rw [c_6]; rfl); have e_c_37 : (m_fm_hasEnded S a.toNatClampNeg).toInt = 0 := (by rw [c_37]; rfl); have e_c_38 := lv_neT c_38 (a := 0) (by decide); have e_c_40 := lv_neT c_40 (a := 1) (by decide); have e_c_42 := lv_neT c_42 (a := 2) (by decide); have e_c_44 := lv_neT c_44 (a := 3) (by decide); have e_c_47 := lv_neT c_47 (a := 4) (by decide); have e_c_50 : (b).toInt = 5 := (by rw [c_50]; rfl); have e_c_52 : (q_i (S 10 0 a.toNatClampNeg)).toInt = 5 := (by rw [c_52]; rfl); simp only [Int32.lt_iff_toInt_lt, Int32.le_iff_toInt_le, q_n0, q_n1, q_n2, q_n3, q_n4, q_n5, q_n6, q_n7, q_n8, q_n9, q_n10, q_n11, q_n12, q_n13, q_n14, q_n15, q_n20, q_n60, q_n1288] at f_c_1_0 f_c_1_1 f_c_2_0 f_c_2_1; have l1 : (0 : Int32).toInt = 0 := rfl; have l2 : (5 : Int32).toInt = 5 := rfl; have l3 : (13 : Int32).toInt = 13 := rfl; rw [vp_in_iff]; omega
                          refine male_13 hC hW h_53 rfl (rfl) md_fm_flow_180 ?_
                          refine lv_goto (tgt := 185) hx hb md_fm_flow_181 (by decide) ?_
                          have hf : m_fm_flow S a b = q_i (S 13 0 a.toNatClampNeg) := by unfold m_fm_flow; rw [if_neg c_1, if_neg c_2, if_neg c_4, if_pos c_6, if_pos c_37, if_neg c_38, if_neg c_40, if_neg c_42, if_neg c_44, if_neg c_47, if_pos c_50, if_pos c_52]
                          rw [hf]
                          exact q_iret hC hr hlocks hW hS rfl rfl md_fm_flow_185
                      · -- others
                        by_cases c_54 : b = 6
                        · -- case 6
                          refine lv_tableIn (off := 130) (tgt := 186) hx hb md_fm_flow_56 (by rw [c_54]; decide) (by rw [c_54]; decide) (by rw [c_54]; decide) (by decide) ?_
                          refine lv_aload_n hx hb md_fm_flow_186 rfl (lv_at hl 1 rfl) ?_
                          refine mg_fm_77 hC hW 0 Nat.one_pos md_fm_flow_187 ?_
                          refine lv_iload_n hx hb md_fm_flow_190 rfl (lv_at hl 2 rfl) ?_
                          have h_55 : vp_in a 6 := by obtain ⟨f_c_1_0, f_c_1_1⟩ := mF_in c_1; obtain ⟨f_c_2_0, f_c_2_1⟩ := mF_in c_2; have e_c_4 := lv_neT c_4 (a := 0) (by decide); have e_c_6 : (q_i (S 6 0 a.toNatClampNeg)).toInt = 0 := (by rw [c_6]; rfl); have e_c_37 : (m_fm_hasEnded S a.toNatClampNeg).toInt = 0 := (by rw [c_37]; rfl); have e_c_38 := lv_neT c_38 (a := 0) (by decide); have e_c_40 := lv_neT c_40 (a := 1) (by decide); have e_c_42 := lv_neT c_42 (a := 2) (by decide); have e_c_44 := lv_neT c_44 (a := 3) (by decide); have e_c_47 := lv_neT c_47 (a := 4) (by decide); have e_c_50 := lv_neT c_50 (a := 5) (by decide); have e_c_54 : (b).toInt = 6 := (by rw [c_54]; rfl); simp only [Int32.lt_iff_toInt_lt, Int32.le_iff_toInt_le, q_n0, q_n1, q_n2, q_n3, q_n4, q_n5, q_n6, q_n7, q_n8, q_n9, q_n10, q_n11, q_n12, q_n13, q_n14, q_n15, q_n20, q_n60, q_n1288] at f_c_1_0 f_c_1_1 f_c_2_0 f_c_2_1; have l1 : (0 : Int32).toInt = 0 := rfl; have l2 : (5 : Int32).toInt = 5 := rfl; have l3 : (13 : Int32).toInt = 13 := rfl; rw [vp_in_iff]; omega
                          refine male_23 hC hW h_55 rfl (rfl) md_fm_flow_191 ?_
                          have hf : m_fm_flow S a b = q_i (S 23 0 a.toNatClampNeg) := by unfold m_fm_flow; rw [if_neg c_1, if_neg c_2, if_neg c_4, if_pos c_6, if_pos c_37, if_neg c_38, if_neg c_40, if_neg c_42, if_neg c_44, if_neg c_47, if_neg c_50, if_pos c_54]
                          rw [hf]
                          exact q_iret hC hr hlocks hW hS rfl rfl md_fm_flow_192
                        · -- others
                          by_cases c_56 : b = 7
                          · -- case 7
                            refine lv_tableIn (off := 137) (tgt := 193) hx hb md_fm_flow_56 (by rw [c_56]; decide) (by rw [c_56]; decide) (by rw [c_56]; decide) (by decide) ?_
                            refine lv_aload_n hx hb md_fm_flow_193 rfl (lv_at hl 1 rfl) ?_
                            refine mg_fm_26 hC hW 0 Nat.one_pos md_fm_flow_194 ?_
                            refine lv_iload_n hx hb md_fm_flow_197 rfl (lv_at hl 2 rfl) ?_
                            have h_57 : vp_in a 6 := by obtain ⟨f_c_1_0, f_c_1_1⟩ := mF_in c_1; obtain ⟨f_c_2_0, f_c_2_1⟩ := mF_in c_2; have e_c_4 := lv_neT c_4 (a := 0) (by decide); have e_c_6 : (q_i (S 6 0 a.toNatClampNeg)).toInt = 0 := (by rw [c_6]; rfl); have e_c_37 : (m_fm_hasEnded S a.toNatClampNeg).toInt = 0 := (by rw [c_37]; rfl); have e_c_38 := lv_neT c_38 (a := 0) (by decide); have e_c_40 := lv_neT c_40 (a := 1) (by decide); have e_c_42 := lv_neT c_42 (a := 2) (by decide); have e_c_44 := lv_neT c_44 (a := 3) (by decide); have e_c_47 := lv_neT c_47 (a := 4) (by decide); have e_c_50 := lv_neT c_50 (a := 5) (by decide); have e_c_54 := lv_neT c_54 (a := 6) (by decide); have e_c_56 : (b).toInt = 7 := (by rw [c_56]; rfl); simp only [Int32.lt_iff_toInt_lt, Int32.le_iff_toInt_le, q_n0, q_n1, q_n2, q_n3, q_n4, q_n5, q_n6, q_n7, q_n8, q_n9, q_n10, q_n11, q_n12, q_n13, q_n14, q_n15, q_n20, q_n60, q_n1288] at f_c_1_0 f_c_1_1 f_c_2_0 f_c_2_1; have l1 : (0 : Int32).toInt = 0 := rfl; have l2 : (5 : Int32).toInt = 5 := rfl; have l3 : (13 : Int32).toInt = 13 := rfl; rw [vp_in_iff]; omega
                            refine male_6 hC hW h_57 rfl (rfl) md_fm_flow_198 ?_
                            refine lv_if_eq (tgt := 206) hx hb md_fm_flow_199 (by decide) (fun c_58 => ?_) (fun c_58 => ?_)
                            · -- taken
                              refine lv_iconst (v := 0) hx hb md_fm_flow_206 (by decide) ?_
                              have hf : m_fm_flow S a b = 0 := by unfold m_fm_flow; rw [if_neg c_1, if_neg c_2, if_neg c_4, if_pos c_6, if_pos c_37, if_neg c_38, if_neg c_40, if_neg c_42, if_neg c_44, if_neg c_47, if_neg c_50, if_neg c_54, if_pos c_56, if_pos c_58]
                              rw [hf]
                              exact q_iret hC hr hlocks hW hS rfl rfl md_fm_flow_207
                            · -- not taken
                              refine lv_iconst (v := 1) hx hb md_fm_flow_202 (by decide) ?_
                              refine lv_goto (tgt := 207) hx hb md_fm_flow_203 (by decide) ?_
                              have hf : m_fm_flow S a b = 1 := by unfold m_fm_flow; rw [if_neg c_1, if_neg c_2, if_neg c_4, if_pos c_6, if_pos c_37, if_neg c_38, if_neg c_40, if_neg c_42, if_neg c_44, if_neg c_47, if_neg c_50, if_neg c_54, if_pos c_56, if_neg c_58]
                              rw [hf]
                              exact q_iret hC hr hlocks hW hS rfl rfl md_fm_flow_207
                          · -- others
                            by_cases c_59 : b = 8
                            · -- case 8
                              refine lv_tableIn (off := 152) (tgt := 208) hx hb md_fm_flow_56 (by rw [c_59]; decide) (by rw [c_59]; decide) (by rw [c_59]; decide) (by decide) ?_
                              refine lv_aload_n hx hb md_fm_flow_208 rfl (lv_at hl 1 rfl) ?_
                              refine mg_fm_96 hC hW 0 Nat.one_pos md_fm_flow_209 ?_
                              refine lv_iload_n hx hb md_fm_flow_212 rfl (lv_at hl 2 rfl) ?_
                              have h_60 : vp_in a 6 := by obtain ⟨f_c_1_0, f_c_1_1⟩ := mF_in c_1; obtain ⟨f_c_2_0, f_c_2_1⟩ := mF_in c_2; have e_c_4 := lv_neT c_4 (a := 0) (by decide); have e_c_6 : (q_i (S 6 0 a.toNatClampNeg)).toInt = 0 := (by rw [c_6]; rfl); have e_c_37 : (m_fm_hasEnded S a.toNatClampNeg).toInt = 0 := (by rw [c_37]; rfl); have e_c_38 := lv_neT c_38 (a := 0) (by decide); have e_c_40 := lv_neT c_40 (a := 1) (by decide); have e_c_42 := lv_neT c_42 (a := 2) (by decide); have e_c_44 := lv_neT c_44 (a := 3) (by decide); have e_c_47 := lv_neT c_47 (a := 4) (by decide); have e_c_50 := lv_neT c_50 (a := 5) (by decide); have e_c_54 := lv_neT c_54 (a := 6) (by decide); have e_c_56 := lv_neT c_56 (a := 7) (by decide); have e_c_59 : (b).toInt = 8 := (by rw [c_59]; rfl); simp only [Int32.lt_iff_toInt_lt, Int32.le_iff_toInt_le, q_n0, q_n1, q_n2, q_n3, q_n4, q_n5, q_n6, q_n7, q_n8, q_n9, q_n10, q_n11, q_n12, q_n13, q_n14, q_n15, q_n20, q_n60, q_n1288] at f_c_1_0 f_c_1_1 f_c_2_0 f_c_2_1; have l1 : (0 : Int32).toInt = 0 := rfl; have l2 : (5 : Int32).toInt = 5 := rfl; have l3 : (13 : Int32).toInt = 13 := rfl; rw [vp_in_iff]; omega
                              refine male_29 hC hW h_60 rfl (rfl) md_fm_flow_213 ?_
                              have hf : m_fm_flow S a b = q_i (S 29 0 a.toNatClampNeg) := by unfold m_fm_flow; rw [if_neg c_1, if_neg c_2, if_neg c_4, if_pos c_6, if_pos c_37, if_neg c_38, if_neg c_40, if_neg c_42, if_neg c_44, if_neg c_47, if_neg c_50, if_neg c_54, if_neg c_56, if_pos c_59]
                              rw [hf]
                              exact q_iret hC hr hlocks hW hS rfl rfl md_fm_flow_214
                            · -- others
                              by_cases c_61 : b = 9
                              · -- case 9
                                refine lv_tableIn (off := 159) (tgt := 215) hx hb md_fm_flow_56 (by rw [c_61]; decide) (by rw [c_61]; decide) (by rw [c_61]; decide) (by decide) ?_
                                refine lv_aload_n hx hb md_fm_flow_215 rfl (lv_at hl 1 rfl) ?_
                                refine mg_fm_29 hC hW 0 Nat.one_pos md_fm_flow_216 ?_
                                refine lv_iload_n hx hb md_fm_flow_219 rfl (lv_at hl 2 rfl) ?_
                                have h_62 : vp_in a 6 := by obtain ⟨f_c_1_0, f_c_1_1⟩ := mF_in c_1; obtain ⟨f_c_2_0, f_c_2_1⟩ := mF_in c_2; have e_c_4 := lv_neT c_4 (a := 0) (by decide); have e_c_6 : (q_i (S 6 0 a.toNatClampNeg)).toInt = 0 := (by rw [c_6]; rfl); have e_c_37 : (m_fm_hasEnded S a.toNatClampNeg).toInt = 0 := (by rw [c_37]; rfl); have e_c_38 := lv_neT c_38 (a := 0) (by decide); have e_c_40 := lv_neT c_40 (a := 1) (by decide); have e_c_42 := lv_neT c_42 (a := 2) (by decide); have e_c_44 := lv_neT c_44 (a := 3) (by decide); have e_c_47 := lv_neT c_47 (a := 4) (by decide); have e_c_50 := lv_neT c_50 (a := 5) (by decide); have e_c_54 := lv_neT c_54 (a := 6) (by decide); have e_c_56 := lv_neT c_56 (a := 7) (by decide); have e_c_59 := lv_neT c_59 (a := 8) (by decide); have e_c_61 : (b).toInt = 9 := (by rw [c_61]; rfl); simp only [Int32.lt_iff_toInt_lt, Int32.le_iff_toInt_le, q_n0, q_n1, q_n2, q_n3, q_n4, q_n5, q_n6, q_n7, q_n8, q_n9, q_n10, q_n11, q_n12, q_n13, q_n14, q_n15, q_n20, q_n60, q_n1288] at f_c_1_0 f_c_1_1 f_c_2_0 f_c_2_1; have l1 : (0 : Int32).toInt = 0 := rfl; have l2 : (5 : Int32).toInt = 5 := rfl; have l3 : (13 : Int32).toInt = 13 := rfl; rw [vp_in_iff]; omega
                                refine male_7 hC hW h_62 rfl (rfl) md_fm_flow_220 ?_
                                refine lv_if_eq (tgt := 228) hx hb md_fm_flow_221 (by decide) (fun c_63 => ?_) (fun c_63 => ?_)
                                · -- taken
                                  refine lv_iconst (v := 0) hx hb md_fm_flow_228 (by decide) ?_
                                  have hf : m_fm_flow S a b = 0 := by unfold m_fm_flow; rw [if_neg c_1, if_neg c_2, if_neg c_4, if_pos c_6, if_pos c_37, if_neg c_38, if_neg c_40, if_neg c_42, if_neg c_44, if_neg c_47, if_neg c_50, if_neg c_54, if_neg c_56, if_neg c_59, if_pos c_61, if_pos c_63]
                                  rw [hf]
                                  exact q_iret hC hr hlocks hW hS rfl rfl md_fm_flow_229
                                · -- not taken
                                  refine lv_iconst (v := 1) hx hb md_fm_flow_224 (by decide) ?_
                                  refine lv_goto (tgt := 229) hx hb md_fm_flow_225 (by decide) ?_
                                  have hf : m_fm_flow S a b = 1 := by unfold m_fm_flow; rw [if_neg c_1, if_neg c_2, if_neg c_4, if_pos c_6, if_pos c_37, if_neg c_38, if_neg c_40, if_neg c_42, if_neg c_44, if_neg c_47, if_neg c_50, if_neg c_54, if_neg c_56, if_neg c_59, if_pos c_61, if_neg c_63]
                                  rw [hf]
                                  exact q_iret hC hr hlocks hW hS rfl rfl md_fm_flow_229
                              · -- others
                                refine lv_tableOut (tgt := 230) hx hb md_fm_flow_56 (by have n0 := lv_neT c_38 (a := 0) (by decide); have n1 := lv_neT c_40 (a := 1) (by decide); have n2 := lv_neT c_42 (a := 2) (by decide); have n3 := lv_neT c_44 (a := 3) (by decide); have n4 := lv_neT c_47 (a := 4) (by decide); have n5 := lv_neT c_50 (a := 5) (by decide); have n6 := lv_neT c_54 (a := 6) (by decide); have n7 := lv_neT c_56 (a := 7) (by decide); have n8 := lv_neT c_59 (a := 8) (by decide); have n9 := lv_neT c_61 (a := 9) (by decide); omega) (by decide) ?_
                                refine lv_aload_n hx hb md_fm_flow_230 rfl (lv_at hl 1 rfl) ?_
                                refine mg_fm_26 hC hW 0 Nat.one_pos md_fm_flow_231 ?_
                                refine lv_iload_n hx hb md_fm_flow_234 rfl (lv_at hl 2 rfl) ?_
                                have h_64 : vp_in a 6 := by obtain ⟨f_c_1_0, f_c_1_1⟩ := mF_in c_1; obtain ⟨f_c_2_0, f_c_2_1⟩ := mF_in c_2; have e_c_4 := lv_neT c_4 (a := 0) (by decide); have e_c_6 : (q_i (S 6 0 a.toNatClampNeg)).toInt = 0 := (by rw [c_6]; rfl); have e_c_37 : (m_fm_hasEnded S a.toNatClampNeg).toInt = 0 := (by rw [c_37]; rfl); have e_c_38 := lv_neT c_38 (a := 0) (by decide); have e_c_40 := lv_neT c_40 (a := 1) (by decide); have e_c_42 := lv_neT c_42 (a := 2) (by decide); have e_c_44 := lv_neT c_44 (a := 3) (by decide); have e_c_47 := lv_neT c_47 (a := 4) (by decide); have e_c_50 := lv_neT c_50 (a := 5) (by decide); have e_c_54 := lv_neT c_54 (a := 6) (by decide); have e_c_56 := lv_neT c_56 (a := 7) (by decide); have e_c_59 := lv_neT c_59 (a := 8) (by decide); have e_c_61 := lv_neT c_61 (a := 9) (by decide); simp only [Int32.lt_iff_toInt_lt, Int32.le_iff_toInt_le, q_n0, q_n1, q_n2, q_n3, q_n4, q_n5, q_n6, q_n7, q_n8, q_n9, q_n10, q_n11, q_n12, q_n13, q_n14, q_n15, q_n20, q_n60, q_n1288] at f_c_1_0 f_c_1_1 f_c_2_0 f_c_2_1; have l1 : (0 : Int32).toInt = 0 := rfl; have l2 : (5 : Int32).toInt = 5 := rfl; have l3 : (13 : Int32).toInt = 13 := rfl; rw [vp_in_iff]; omega
                                refine male_6 hC hW h_64 rfl (rfl) md_fm_flow_235 ?_
                                refine lv_if_eq (tgt := 243) hx hb md_fm_flow_236 (by decide) (fun c_65 => ?_) (fun c_65 => ?_)
                                · -- taken
                                  refine lv_aload_n hx hb md_fm_flow_243 rfl (lv_at hl 1 rfl) ?_
                                  refine mg_fm_50 hC hW 0 Nat.one_pos md_fm_flow_244 ?_
                                  refine lv_iconst (v := 4) hx hb md_fm_flow_247 (by decide) ?_
                                  refine lv_iload_n hx hb md_fm_flow_248 rfl (lv_at hl 2 rfl) ?_
                                  refine lv_imul hx hb md_fm_flow_249 ?_
                                  refine lv_iload_n hx hb md_fm_flow_250 rfl (lv_at hl 3 rfl) ?_
                                  refine lv_iadd hx hb md_fm_flow_251 ?_
                                  refine lv_bipush (v := 10) hx hb md_fm_flow_252 (by decide) ?_
                                  refine lv_isub hx hb md_fm_flow_254 ?_
                                  have h_66 : vp_in (((4 * a) + b) - 10) 24 := by obtain ⟨f_c_1_0, f_c_1_1⟩ := mF_in c_1; obtain ⟨f_c_2_0, f_c_2_1⟩ := mF_in c_2; have e_c_4 := lv_neT c_4 (a := 0) (by decide); have e_c_6 : (q_i (S 6 0 a.toNatClampNeg)).toInt = 0 := (by rw [c_6]; rfl); have e_c_37 : (m_fm_hasEnded S a.toNatClampNeg).toInt = 0 := (by rw [c_37]; rfl); have e_c_38 := lv_neT c_38 (a := 0) (by decide); have e_c_40 := lv_neT c_40 (a := 1) (by decide); have e_c_42 := lv_neT c_42 (a := 2) (by decide); have e_c_44 := lv_neT c_44 (a := 3) (by decide); have e_c_47 := lv_neT c_47 (a := 4) (by decide); have e_c_50 := lv_neT c_50 (a := 5) (by decide); have e_c_54 := lv_neT c_54 (a := 6) (by decide); have e_c_56 := lv_neT c_56 (a := 7) (by decide); have e_c_59 := lv_neT c_59 (a := 8) (by decide); have e_c_61 := lv_neT c_61 (a := 9) (by decide); have e_c_65 : (q_i (S 6 0 a.toNatClampNeg)).toInt = 0 := (by rw [c_65]; rfl); simp only [Int32.lt_iff_toInt_lt, Int32.le_iff_toInt_le, q_n0, q_n1, q_n2, q_n3, q_n4, q_n5, q_n6, q_n7, q_n8, q_n9, q_n10, q_n11, q_n12, q_n13, q_n14, q_n15, q_n20, q_n60, q_n1288] at f_c_1_0 f_c_1_1 f_c_2_0 f_c_2_1; have l1 : (4 : Int32).toInt = 4 := rfl; have l2 := q_mulI (c := 4) (x := a) (k := 4) rfl (by omega); have l3 := q_addI (x := 4 * a) (y := b) (by omega); have l4 : (10 : Int32).toInt = 10 := rfl; have l5 := q_subI (x := (4 * a) + b) (y := 10) (by omega); have l6 : (0 : Int32).toInt = 0 := rfl; have l7 : (5 : Int32).toInt = 5 := rfl; have l8 : (13 : Int32).toInt = 13 := rfl; rw [vp_in_iff]; omega
                                  have s_67 : (((4 * a) + b) - 10).toNatClampNeg = 4 * a.toNatClampNeg + b.toNatClampNeg - 10 := by obtain ⟨f_c_1_0, f_c_1_1⟩ := mF_in c_1; obtain ⟨f_c_2_0, f_c_2_1⟩ := mF_in c_2; have e_c_4 := lv_neT c_4 (a := 0) (by decide); have e_c_6 : (q_i (S 6 0 a.toNatClampNeg)).toInt = 0 := (by rw [c_6]; rfl); have e_c_37 : (m_fm_hasEnded S a.toNatClampNeg).toInt = 0 := (by rw [c_37]; rfl); have e_c_38 := lv_neT c_38 (a := 0) (by decide); have e_c_40 := lv_neT c_40 (a := 1) (by decide); have e_c_42 := lv_neT c_42 (a := 2) (by decide); have e_c_44 := lv_neT c_44 (a := 3) (by decide); have e_c_47 := lv_neT c_47 (a := 4) (by decide); have e_c_50 := lv_neT c_50 (a := 5) (by decide); have e_c_54 := lv_neT c_54 (a := 6) (by decide); have e_c_56 := lv_neT c_56 (a := 7) (by decide); have e_c_59 := lv_neT c_59 (a := 8) (by decide); have e_c_61 := lv_neT c_61 (a := 9) (by decide); have e_c_65 : (q_i (S 6 0 a.toNatClampNeg)).toInt = 0 := (by rw [c_65]; rfl); simp only [Int32.lt_iff_toInt_lt, Int32.le_iff_toInt_le, q_n0, q_n1, q_n2, q_n3, q_n4, q_n5, q_n6, q_n7, q_n8, q_n9, q_n10, q_n11, q_n12, q_n13, q_n14, q_n15, q_n20, q_n60, q_n1288] at f_c_1_0 f_c_1_1 f_c_2_0 f_c_2_1; have l1 : (4 : Int32).toInt = 4 := rfl; have l2 := q_mulI (c := 4) (x := a) (k := 4) rfl (by omega); have l3 := q_addI (x := 4 * a) (y := b) (by omega); have l4 : (10 : Int32).toInt = 10 := rfl; have l5 := q_subI (x := (4 * a) + b) (y := 10) (by omega); have l6 : (0 : Int32).toInt = 0 := rfl; have l7 : (5 : Int32).toInt = 5 := rfl; have l8 : (13 : Int32).toInt = 13 := rfl; have c0 := q_clI (x := a) (by omega); have c1 := q_clI (x := b) (by omega); apply q_tn; omega
                                  refine male_14 hC hW h_66 s_67 (rfl) md_fm_flow_255 ?_
                                  have hf : m_fm_flow S a b = q_i (S 14 0 (4 * a.toNatClampNeg + b.toNatClampNeg - 10)) := by unfold m_fm_flow; rw [if_neg c_1, if_neg c_2, if_neg c_4, if_pos c_6, if_pos c_37, if_neg c_38, if_neg c_40, if_neg c_42, if_neg c_44, if_neg c_47, if_neg c_50, if_neg c_54, if_neg c_56, if_neg c_59, if_neg c_61, if_pos c_65]
                                  rw [hf]
                                  exact q_iret hC hr hlocks hW hS rfl rfl md_fm_flow_256
                                · -- not taken
                                  refine lv_iconst (v := 0) hx hb md_fm_flow_239 (by decide) ?_
                                  refine lv_goto (tgt := 256) hx hb md_fm_flow_240 (by decide) ?_
                                  have hf : m_fm_flow S a b = 0 := by unfold m_fm_flow; rw [if_neg c_1, if_neg c_2, if_neg c_4, if_pos c_6, if_pos c_37, if_neg c_38, if_neg c_40, if_neg c_42, if_neg c_44, if_neg c_47, if_neg c_50, if_neg c_54, if_neg c_56, if_neg c_59, if_neg c_61, if_neg c_65]
                                  rw [hf]
                                  exact q_iret hC hr hlocks hW hS rfl rfl md_fm_flow_256
          · -- not taken
            refine lv_iconst (v := 1) hx hb md_fm_flow_49 (by decide) ?_
            refine lv_goto (tgt := 54) hx hb md_fm_flow_50 (by decide) ?_
            refine lv_istore_n (lv' := [(3, .int 1), (0, .ref (q_a mX G 0 0)), (1, .int a), (2, .int b)]) hx hb md_fm_flow_54 rfl hl (by decide) rfl (fun ls hl => ?_)
            refine lv_iload_n hx hb md_fm_flow_55 rfl (lv_at hl 3 rfl) ?_
            by_cases c_68 : b = 0
            · -- case 0
              refine lv_tableIn (off := 56) (tgt := 112) hx hb md_fm_flow_56 (by rw [c_68]; decide) (by rw [c_68]; decide) (by rw [c_68]; decide) (by decide) ?_
              refine lv_aload_n hx hb md_fm_flow_112 rfl (lv_at hl 1 rfl) ?_
              refine mg_fm_38 hC hW 0 Nat.one_pos md_fm_flow_113 ?_
              refine lv_iload_n hx hb md_fm_flow_116 rfl (lv_at hl 2 rfl) ?_
              have h_69 : vp_in a 6 := by obtain ⟨f_c_1_0, f_c_1_1⟩ := mF_in c_1; obtain ⟨f_c_2_0, f_c_2_1⟩ := mF_in c_2; have e_c_4 := lv_neT c_4 (a := 0) (by decide); have e_c_6 : (q_i (S 6 0 a.toNatClampNeg)).toInt = 0 := (by rw [c_6]; rfl); have e_c_37 := lv_neT c_37 (a := 0) (by decide); have e_c_68 : (b).toInt = 0 := (by rw [c_68]; rfl); simp only [Int32.lt_iff_toInt_lt, Int32.le_iff_toInt_le, q_n0, q_n1, q_n2, q_n3, q_n4, q_n5, q_n6, q_n7, q_n8, q_n9, q_n10, q_n11, q_n12, q_n13, q_n14, q_n15, q_n20, q_n60, q_n1288] at f_c_1_0 f_c_1_1 f_c_2_0 f_c_2_1; have l1 : (0 : Int32).toInt = 0 := rfl; have l2 : (5 : Int32).toInt = 5 := rfl; have l3 : (13 : Int32).toInt = 13 := rfl; rw [vp_in_iff]; omega
              refine male_10 hC hW h_69 rfl (rfl) md_fm_flow_117 ?_
              have hf : m_fm_flow S a b = q_i (S 10 0 a.toNatClampNeg) := by unfold m_fm_flow; rw [if_neg c_1, if_neg c_2, if_neg c_4, if_pos c_6, if_neg c_37, if_pos c_68]
              rw [hf]
              exact q_iret hC hr hlocks hW hS rfl rfl md_fm_flow_118
            · -- others
              by_cases c_70 : b = 1
              · -- case 1
                refine lv_tableIn (off := 63) (tgt := 119) hx hb md_fm_flow_56 (by rw [c_70]; decide) (by rw [c_70]; decide) (by rw [c_70]; decide) (by decide) ?_
                refine lv_aload_n hx hb md_fm_flow_119 rfl (lv_at hl 1 rfl) ?_
                refine mg_fm_35 hC hW 0 Nat.one_pos md_fm_flow_120 ?_
                refine lv_iload_n hx hb md_fm_flow_123 rfl (lv_at hl 2 rfl) ?_
                have h_71 : vp_in a 6 := by obtain ⟨f_c_1_0, f_c_1_1⟩ := mF_in c_1; obtain ⟨f_c_2_0, f_c_2_1⟩ := mF_in c_2; have e_c_4 := lv_neT c_4 (a := 0) (by decide); have e_c_6 : (q_i (S 6 0 a.toNatClampNeg)).toInt = 0 := (by rw [c_6]; rfl); have e_c_37 := lv_neT c_37 (a := 0) (by decide); have e_c_68 := lv_neT c_68 (a := 0) (by decide); have e_c_70 : (b).toInt = 1 := (by rw [c_70]; rfl); simp only [Int32.lt_iff_toInt_lt, Int32.le_iff_toInt_le, q_n0, q_n1, q_n2, q_n3, q_n4, q_n5, q_n6, q_n7, q_n8, q_n9, q_n10, q_n11, q_n12, q_n13, q_n14, q_n15, q_n20, q_n60, q_n1288] at f_c_1_0 f_c_1_1 f_c_2_0 f_c_2_1; have l1 : (0 : Int32).toInt = 0 := rfl; have l2 : (5 : Int32).toInt = 5 := rfl; have l3 : (13 : Int32).toInt = 13 := rfl; rw [vp_in_iff]; omega
                refine male_9 hC hW h_71 rfl (rfl) md_fm_flow_124 ?_
                have hf : m_fm_flow S a b = q_i (S 9 0 a.toNatClampNeg) := by unfold m_fm_flow; rw [if_neg c_1, if_neg c_2, if_neg c_4, if_pos c_6, if_neg c_37, if_neg c_68, if_pos c_70]
                rw [hf]
                exact q_iret hC hr hlocks hW hS rfl rfl md_fm_flow_125
              · -- others
                by_cases c_72 : b = 2
                · -- case 2
                  refine lv_tableIn (off := 70) (tgt := 126) hx hb md_fm_flow_56 (by rw [c_72]; decide) (by rw [c_72]; decide) (by rw [c_72]; decide) (by decide) ?_
                  refine lv_aload_n hx hb md_fm_flow_126 rfl (lv_at hl 1 rfl) ?_
                  refine mg_fm_53 hC hW 0 Nat.one_pos md_fm_flow_127 ?_
                  refine lv_iload_n hx hb md_fm_flow_130 rfl (lv_at hl 2 rfl) ?_
                  have h_73 : vp_in a 6 := by obtain ⟨f_c_1_0, f_c_1_1⟩ := mF_in c_1; obtain ⟨f_c_2_0, f_c_2_1⟩ := mF_in c_2; have e_c_4 := lv_neT c_4 (a := 0) (by decide); have e_c_6 : (q_i (S 6 0 a.toNatClampNeg)).toInt = 0 := (by rw [c_6]; rfl); have e_c_37 := lv_neT c_37 (a := 0) (by decide); have e_c_68 := lv_neT c_68 (a := 0) (by decide); have e_c_70 := lv_neT c_70 (a := 1) (by decide); have e_c_72 : (b).toInt = 2 := (by rw [c_72]; rfl); simp only [Int32.lt_iff_toInt_lt, Int32.le_iff_toInt_le, q_n0, q_n1, q_n2, q_n3, q_n4, q_n5, q_n6, q_n7, q_n8, q_n9, q_n10, q_n11, q_n12, q_n13, q_n14, q_n15, q_n20, q_n60, q_n1288] at f_c_1_0 f_c_1_1 f_c_2_0 f_c_2_1; have l1 : (0 : Int32).toInt = 0 := rfl; have l2 : (5 : Int32).toInt = 5 := rfl; have l3 : (13 : Int32).toInt = 13 := rfl; rw [vp_in_iff]; omega
                  refine male_15 hC hW h_73 rfl (rfl) md_fm_flow_131 ?_
                  have hf : m_fm_flow S a b = q_i (S 15 0 a.toNatClampNeg) := by unfold m_fm_flow; rw [if_neg c_1, if_neg c_2, if_neg c_4, if_pos c_6, if_neg c_37, if_neg c_68, if_neg c_70, if_pos c_72]
                  rw [hf]
                  exact q_iret hC hr hlocks hW hS rfl rfl md_fm_flow_132
                · -- others
                  by_cases c_74 : b = 3
                  · -- case 3
                    refine lv_tableIn (off := 77) (tgt := 133) hx hb md_fm_flow_56 (by rw [c_74]; decide) (by rw [c_74]; decide) (by rw [c_74]; decide) (by decide) ?_
                    refine lv_iload_n hx hb md_fm_flow_133 rfl (lv_at hl 0 rfl) ?_
                    refine lv_if_eq (tgt := 142) hx hb md_fm_flow_134 (by decide) (fun c_75 => absurd c_75 (by decide)) (fun _ => ?_)
                    refine lv_bipush (v := (-2)) hx hb md_fm_flow_137 (by decide) ?_
                    refine lv_goto (tgt := 148) hx hb md_fm_flow_139 (by decide) ?_
                    have hf : m_fm_flow S a b = (-2) := by unfold m_fm_flow; rw [if_neg c_1, if_neg c_2, if_neg c_4, if_pos c_6, if_neg c_37, if_neg c_68, if_neg c_70, if_neg c_72, if_pos c_74]
                    rw [hf]
                    exact q_iret hC hr hlocks hW hS rfl rfl md_fm_flow_148
                  · -- others
                    by_cases c_76 : b = 4
                    · -- case 4
                      refine lv_tableIn (off := 93) (tgt := 149) hx hb md_fm_flow_56 (by rw [c_76]; decide) (by rw [c_76]; decide) (by rw [c_76]; decide) (by decide) ?_
                      refine lv_iload_n hx hb md_fm_flow_149 rfl (lv_at hl 0 rfl) ?_
                      refine lv_if_eq (tgt := 158) hx hb md_fm_flow_150 (by decide) (fun c_77 => absurd c_77 (by decide)) (fun _ => ?_)
                      refine lv_bipush (v := (-2)) hx hb md_fm_flow_153 (by decide) ?_
                      refine lv_goto (tgt := 164) hx hb md_fm_flow_155 (by decide) ?_
                      have hf : m_fm_flow S a b = (-2) := by unfold m_fm_flow; rw [if_neg c_1, if_neg c_2, if_neg c_4, if_pos c_6, if_neg c_37, if_neg c_68, if_neg c_70, if_neg c_72, if_neg c_74, if_pos c_76]
                      rw [hf]
                      exact q_iret hC hr hlocks hW hS rfl rfl md_fm_flow_164
                    · -- others
                      by_cases c_78 : b = 5
                      · -- case 5
                        refine lv_tableIn (off := 109) (tgt := 165) hx hb md_fm_flow_56 (by rw [c_78]; decide) (by rw [c_78]; decide) (by rw [c_78]; decide) (by decide) ?_
                        refine lv_aload_n hx hb md_fm_flow_165 rfl (lv_at hl 1 rfl) ?_
                        refine mg_fm_38 hC hW 0 Nat.one_pos md_fm_flow_166 ?_
                        refine lv_iload_n hx hb md_fm_flow_169 rfl (lv_at hl 2 rfl) ?_
                        have h_79 : vp_in a 6 := by obtain ⟨f_c_1_0, f_c_1_1⟩ := mF_in c_1; obtain ⟨f_c_2_0, f_c_2_1⟩ := mF_in c_2; have e_c_4 := lv_neT c_4 (a := 0) (by decide); have e_c_6 : (q_i (S 6 0 a.toNatClampNeg)).toInt = 0 := (by rw [c_6]; rfl); have e_c_37 := lv_neT c_37 (a := 0) (by decide); have e_c_68 := lv_neT c_68 (a := 0) (by decide); have e_c_70 := lv_neT c_70 (a := 1) (by decide); have e_c_72 := lv_neT c_72 (a := 2) (by decide); have e_c_74 := lv_neT c_74 (a := 3) (by decide); have e_c_76 := lv_neT c_76 (a := 4) (by decide); have e_c_78 : (b).toInt = 5 := (by rw [c_78]; rfl); simp only [Int32.lt_iff_toInt_lt, Int32.le_iff_toInt_le, q_n0, q_n1, q_n2, q_n3, q_n4, q_n5, q_n6, q_n7, q_n8, q_n9, q_n10, q_n11, q_n12, q_n13, q_n14, q_n15, q_n20, q_n60, q_n1288] at f_c_1_0 f_c_1_1 f_c_2_0 f_c_2_1; have l1 : (0 : Int32).toInt = 0 := rfl; have l2 : (5 : Int32).toInt = 5 := rfl; have l3 : (13 : Int32).toInt = 13 := rfl; rw [vp_in_iff]; omega
                        refine male_10 hC hW h_79 rfl (rfl) md_fm_flow_170 ?_
                        refine lv_iconst (v := 5) hx hb md_fm_flow_171 (by decide) ?_
                        refine lv_icmp_ne (tgt := 184) hx hb md_fm_flow_172 (by decide) (fun c_80 => ?_) (fun c_80 => ?_)
                        · -- taken
                          refine lv_iconst (v := 0) hx hb md_fm_flow_184 (by decide) ?_
                          have hf : m_fm_flow S a b = 0 := by unfold m_fm_flow; rw [if_neg c_1, if_neg c_2, if_neg c_4, if_pos c_6, if_neg c_37, if_neg c_68, if_neg c_70, if_neg c_72, if_neg c_74, if_neg c_76, if_pos c_78, if_neg c_80]
                          rw [hf]
                          exact q_iret hC hr hlocks hW hS rfl rfl md_fm_flow_185
                        · -- not taken
                          refine lv_aload_n hx hb md_fm_flow_175 rfl (lv_at hl 1 rfl) ?_
                          refine mg_fm_47 hC hW 0 Nat.one_pos md_fm_flow_176 ?_
                          refine lv_iload_n hx hb md_fm_flow_179 rfl (lv_at hl 2 rfl) ?_
                          have h_81 : vp_in a 6 := by obtain ⟨f_c_1_0, f_c_1_1⟩ := mF_in c_1; obtain ⟨f_c_2_0, f_c_2_1⟩ := mF_in c_2; have e_c_4 := lv_neT c_4 (a := 0) (by decide); have e_c_6 : (q_i (S 6 0 a.toNatClampNeg)).toInt = 0 := (by rw [c_6]; rfl); have e_c_37 := lv_neT c_37 (a := 0) (by decide); have e_c_68 := lv_neT c_68 (a := 0) (by decide); have e_c_70 := lv_neT c_70 (a := 1) (by decide); have e_c_72 := lv_neT c_72 (a := 2) (by decide); have e_c_74 := lv_neT c_74 (a := 3) (by decide); have e_c_76 := lv_neT c_76 (a := 4) (by decide); have e_c_78 : (b).toInt = 5 := (by rw [c_78]; rfl); have e_c_80 : (q_i (S 10 0 a.toNatClampNeg)).toInt = 5 := (by rw [c_80]; rfl); simp only [Int32.lt_iff_toInt_lt, Int32.le_iff_toInt_le, q_n0, q_n1, q_n2, q_n3, q_n4, q_n5, q_n6, q_n7, q_n8, q_n9, q_n10, q_n11, q_n12, q_n13, q_n14, q_n15, q_n20, q_n60, q_n1288] at f_c_1_0 f_c_1_1 f_c_2_0 f_c_2_1; have l1 : (0 : Int32).toInt = 0 := rfl; have l2 : (5 : Int32).toInt = 5 := rfl; have l3 : (13 : Int32).toInt = 13 := rfl; rw [vp_in_iff]; omega
                          refine male_13 hC hW h_81 rfl (rfl) md_fm_flow_180 ?_
                          refine lv_goto (tgt := 185) hx hb md_fm_flow_181 (by decide) ?_
                          have hf : m_fm_flow S a b = q_i (S 13 0 a.toNatClampNeg) := by unfold m_fm_flow; rw [if_neg c_1, if_neg c_2, if_neg c_4, if_pos c_6, if_neg c_37, if_neg c_68, if_neg c_70, if_neg c_72, if_neg c_74, if_neg c_76, if_pos c_78, if_pos c_80]
                          rw [hf]
                          exact q_iret hC hr hlocks hW hS rfl rfl md_fm_flow_185
                      · -- others
                        by_cases c_82 : b = 6
                        · -- case 6
                          refine lv_tableIn (off := 130) (tgt := 186) hx hb md_fm_flow_56 (by rw [c_82]; decide) (by rw [c_82]; decide) (by rw [c_82]; decide) (by decide) ?_
                          refine lv_aload_n hx hb md_fm_flow_186 rfl (lv_at hl 1 rfl) ?_
                          refine mg_fm_77 hC hW 0 Nat.one_pos md_fm_flow_187 ?_
                          refine lv_iload_n hx hb md_fm_flow_190 rfl (lv_at hl 2 rfl) ?_
                          have h_83 : vp_in a 6 := by obtain ⟨f_c_1_0, f_c_1_1⟩ := mF_in c_1; obtain ⟨f_c_2_0, f_c_2_1⟩ := mF_in c_2; have e_c_4 := lv_neT c_4 (a := 0) (by decide); have e_c_6 : (q_i (S 6 0 a.toNatClampNeg)).toInt = 0 := (by rw [c_6]; rfl); have e_c_37 := lv_neT c_37 (a := 0) (by decide); have e_c_68 := lv_neT c_68 (a := 0) (by decide); have e_c_70 := lv_neT c_70 (a := 1) (by decide); have e_c_72 := lv_neT c_72 (a := 2) (by decide); have e_c_74 := lv_neT c_74 (a := 3) (by decide); have e_c_76 := lv_neT c_76 (a := 4) (by decide); have e_c_78 := lv_neT c_78 (a := 5) (by decide); have e_c_82 : (b).toInt = 6 := (by rw [c_82]; rfl); simp only [Int32.lt_iff_toInt_lt, Int32.le_iff_toInt_le, q_n0, q_n1, q_n2, q_n3, q_n4, q_n5, q_n6, q_n7, q_n8, q_n9, q_n10, q_n11, q_n12, q_n13, q_n14, q_n15, q_n20, q_n60, q_n1288] at f_c_1_0 f_c_1_1 f_c_2_0 f_c_2_1; have l1 : (0 : Int32).toInt = 0 := rfl; have l2 : (5 : Int32).toInt = 5 := rfl; have l3 : (13 : Int32).toInt = 13 := rfl; rw [vp_in_iff]; omega
                          refine male_23 hC hW h_83 rfl (rfl) md_fm_flow_191 ?_
                          have hf : m_fm_flow S a b = q_i (S 23 0 a.toNatClampNeg) := by unfold m_fm_flow; rw [if_neg c_1, if_neg c_2, if_neg c_4, if_pos c_6, if_neg c_37, if_neg c_68, if_neg c_70, if_neg c_72, if_neg c_74, if_neg c_76, if_neg c_78, if_pos c_82]
                          rw [hf]
                          exact q_iret hC hr hlocks hW hS rfl rfl md_fm_flow_192
                        · -- others
                          by_cases c_84 : b = 7
                          · -- case 7
                            refine lv_tableIn (off := 137) (tgt := 193) hx hb md_fm_flow_56 (by rw [c_84]; decide) (by rw [c_84]; decide) (by rw [c_84]; decide) (by decide) ?_
                            refine lv_aload_n hx hb md_fm_flow_193 rfl (lv_at hl 1 rfl) ?_
                            refine mg_fm_26 hC hW 0 Nat.one_pos md_fm_flow_194 ?_
                            refine lv_iload_n hx hb md_fm_flow_197 rfl (lv_at hl 2 rfl) ?_
                            have h_85 : vp_in a 6 := by obtain ⟨f_c_1_0, f_c_1_1⟩ := mF_in c_1; obtain ⟨f_c_2_0, f_c_2_1⟩ := mF_in c_2; have e_c_4 := lv_neT c_4 (a := 0) (by decide); have e_c_6 : (q_i (S 6 0 a.toNatClampNeg)).toInt = 0 := (by rw [c_6]; rfl); have e_c_37 := lv_neT c_37 (a := 0) (by decide); have e_c_68 := lv_neT c_68 (a := 0) (by decide); have e_c_70 := lv_neT c_70 (a := 1) (by decide); have e_c_72 := lv_neT c_72 (a := 2) (by decide); have e_c_74 := lv_neT c_74 (a := 3) (by decide); have e_c_76 := lv_neT c_76 (a := 4) (by decide); have e_c_78 := lv_neT c_78 (a := 5) (by decide); have e_c_82 := lv_neT c_82 (a := 6) (by decide); have e_c_84 : (b).toInt = 7 := (by rw [c_84]; rfl); simp only [Int32.lt_iff_toInt_lt, Int32.le_iff_toInt_le, q_n0, q_n1, q_n2, q_n3, q_n4, q_n5, q_n6, q_n7, q_n8, q_n9, q_n10, q_n11, q_n12, q_n13, q_n14, q_n15, q_n20, q_n60, q_n1288] at f_c_1_0 f_c_1_1 f_c_2_0 f_c_2_1; have l1 : (0 : Int32).toInt = 0 := rfl; have l2 : (5 : Int32).toInt = 5 := rfl; have l3 : (13 : Int32).toInt = 13 := rfl; rw [vp_in_iff]; omega
                            refine male_6 hC hW h_85 rfl (rfl) md_fm_flow_198 ?_
                            refine lv_if_eq (tgt := 206) hx hb md_fm_flow_199 (by decide) (fun c_86 => ?_) (fun c_86 => ?_)
                            · -- taken
                              refine lv_iconst (v := 0) hx hb md_fm_flow_206 (by decide) ?_
                              have hf : m_fm_flow S a b = 0 := by unfold m_fm_flow; rw [if_neg c_1, if_neg c_2, if_neg c_4, if_pos c_6, if_neg c_37, if_neg c_68, if_neg c_70, if_neg c_72, if_neg c_74, if_neg c_76, if_neg c_78, if_neg c_82, if_pos c_84, if_pos c_86]
                              rw [hf]
                              exact q_iret hC hr hlocks hW hS rfl rfl md_fm_flow_207
                            · -- not taken
                              refine lv_iconst (v := 1) hx hb md_fm_flow_202 (by decide) ?_
                              refine lv_goto (tgt := 207) hx hb md_fm_flow_203 (by decide) ?_
                              have hf : m_fm_flow S a b = 1 := by unfold m_fm_flow; rw [if_neg c_1, if_neg c_2, if_neg c_4, if_pos c_6, if_neg c_37, if_neg c_68, if_neg c_70, if_neg c_72, if_neg c_74, if_neg c_76, if_neg c_78, if_neg c_82, if_pos c_84, if_neg c_86]
                              rw [hf]
                              exact q_iret hC hr hlocks hW hS rfl rfl md_fm_flow_207
                          · -- others
                            by_cases c_87 : b = 8
                            · -- case 8
                              refine lv_tableIn (off := 152) (tgt := 208) hx hb md_fm_flow_56 (by rw [c_87]; decide) (by rw [c_87]; decide) (by rw [c_87]; decide) (by decide) ?_
                              refine lv_aload_n hx hb md_fm_flow_208 rfl (lv_at hl 1 rfl) ?_
                              refine mg_fm_96 hC hW 0 Nat.one_pos md_fm_flow_209 ?_
                              refine lv_iload_n hx hb md_fm_flow_212 rfl (lv_at hl 2 rfl) ?_
                              have h_88 : vp_in a 6 := by obtain ⟨f_c_1_0, f_c_1_1⟩ := mF_in c_1; obtain ⟨f_c_2_0, f_c_2_1⟩ := mF_in c_2; have e_c_4 := lv_neT c_4 (a := 0) (by decide); have e_c_6 : (q_i (S 6 0 a.toNatClampNeg)).toInt = 0 := (by rw [c_6]; rfl); have e_c_37 := lv_neT c_37 (a := 0) (by decide); have e_c_68 := lv_neT c_68 (a := 0) (by decide); have e_c_70 := lv_neT c_70 (a := 1) (by decide); have e_c_72 := lv_neT c_72 (a := 2) (by decide); have e_c_74 := lv_neT c_74 (a := 3) (by decide); have e_c_76 := lv_neT c_76 (a := 4) (by decide); have e_c_78 := lv_neT c_78 (a := 5) (by decide); have e_c_82 := lv_neT c_82 (a := 6) (by decide); have e_c_84 := lv_neT c_84 (a := 7) (by decide); have e_c_87 : (b).toInt = 8 := (by rw [c_87]; rfl); simp only [Int32.lt_iff_toInt_lt, Int32.le_iff_toInt_le, q_n0, q_n1, q_n2, q_n3, q_n4, q_n5, q_n6, q_n7, q_n8, q_n9, q_n10, q_n11, q_n12, q_n13, q_n14, q_n15, q_n20, q_n60, q_n1288] at f_c_1_0 f_c_1_1 f_c_2_0 f_c_2_1; have l1 : (0 : Int32).toInt = 0 := rfl; have l2 : (5 : Int32).toInt = 5 := rfl; have l3 : (13 : Int32).toInt = 13 := rfl; rw [vp_in_iff]; omega
                              refine male_29 hC hW h_88 rfl (rfl) md_fm_flow_213 ?_
                              have hf : m_fm_flow S a b = q_i (S 29 0 a.toNatClampNeg) := by unfold m_fm_flow; rw [if_neg c_1, if_neg c_2, if_neg c_4, if_pos c_6, if_neg c_37, if_neg c_68, if_neg c_70, if_neg c_72, if_neg c_74, if_neg c_76, if_neg c_78, if_neg c_82, if_neg c_84, if_pos c_87]
                              rw [hf]
                              exact q_iret hC hr hlocks hW hS rfl rfl md_fm_flow_214
                            · -- others
                              by_cases c_89 : b = 9
                              · -- case 9
                                refine lv_tableIn (off := 159) (tgt := 215) hx hb md_fm_flow_56 (by rw [c_89]; decide) (by rw [c_89]; decide) (by rw [c_89]; decide) (by decide) ?_
                                refine lv_aload_n hx hb md_fm_flow_215 rfl (lv_at hl 1 rfl) ?_
                                refine mg_fm_29 hC hW 0 Nat.one_pos md_fm_flow_216 ?_
                                refine lv_iload_n hx hb md_fm_flow_219 rfl (lv_at hl 2 rfl) ?_
                                have h_90 : vp_in a 6 := by obtain ⟨f_c_1_0, f_c_1_1⟩ := mF_in c_1; obtain ⟨f_c_2_0, f_c_2_1⟩ := mF_in c_2; have e_c_4 := lv_neT c_4 (a := 0) (by decide); have e_c_6 : (q_i (S 6 0 a.toNatClampNeg)).toInt = 0 := (by rw [c_6]; rfl); have e_c_37 := lv_neT c_37 (a := 0) (by decide); have e_c_68 := lv_neT c_68 (a := 0) (by decide); have e_c_70 := lv_neT c_70 (a := 1) (by decide); have e_c_72 := lv_neT c_72 (a := 2) (by decide); have e_c_74 := lv_neT c_74 (a := 3) (by decide); have e_c_76 := lv_neT c_76 (a := 4) (by decide); have e_c_78 := lv_neT c_78 (a := 5) (by decide); have e_c_82 := lv_neT c_82 (a := 6) (by decide); have e_c_84 := lv_neT c_84 (a := 7) (by decide); have e_c_87 := lv_neT c_87 (a := 8) (by decide); have e_c_89 : (b).toInt = 9 := (by rw [c_89]; rfl); simp only [Int32.lt_iff_toInt_lt, Int32.le_iff_toInt_le, q_n0, q_n1, q_n2, q_n3, q_n4, q_n5, q_n6, q_n7, q_n8, q_n9, q_n10, q_n11, q_n12, q_n13, q_n14, q_n15, q_n20, q_n60, q_n1288] at f_c_1_0 f_c_1_1 f_c_2_0 f_c_2_1; have l1 : (0 : Int32).toInt = 0 := rfl; have l2 : (5 : Int32).toInt = 5 := rfl; have l3 : (13 : Int32).toInt = 13 := rfl; rw [vp_in_iff]; omega
                                refine male_7 hC hW h_90 rfl (rfl) md_fm_flow_220 ?_
                                refine lv_if_eq (tgt := 228) hx hb md_fm_flow_221 (by decide) (fun c_91 => ?_) (fun c_91 => ?_)
                                · -- taken
                                  refine lv_iconst (v := 0) hx hb md_fm_flow_228 (by decide) ?_
                                  have hf : m_fm_flow S a b = 0 := by unfold m_fm_flow; rw [if_neg c_1, if_neg c_2, if_neg c_4, if_pos c_6, if_neg c_37, if_neg c_68, if_neg c_70, if_neg c_72, if_neg c_74, if_neg c_76, if_neg c_78, if_neg c_82, if_neg c_84, if_neg c_87, if_pos c_89, if_pos c_91]
                                  rw [hf]
                                  exact q_iret hC hr hlocks hW hS rfl rfl md_fm_flow_229
                                · -- not taken
                                  refine lv_iconst (v := 1) hx hb md_fm_flow_224 (by decide) ?_
                                  refine lv_goto (tgt := 229) hx hb md_fm_flow_225 (by decide) ?_
                                  have hf : m_fm_flow S a b = 1 := by unfold m_fm_flow; rw [if_neg c_1, if_neg c_2, if_neg c_4, if_pos c_6, if_neg c_37, if_neg c_68, if_neg c_70, if_neg c_72, if_neg c_74, if_neg c_76, if_neg c_78, if_neg c_82, if_neg c_84, if_neg c_87, if_pos c_89, if_neg c_91]
                                  rw [hf]
                                  exact q_iret hC hr hlocks hW hS rfl rfl md_fm_flow_229
                              · -- others
                                refine lv_tableOut (tgt := 230) hx hb md_fm_flow_56 (by have n0 := lv_neT c_68 (a := 0) (by decide); have n1 := lv_neT c_70 (a := 1) (by decide); have n2 := lv_neT c_72 (a := 2) (by decide); have n3 := lv_neT c_74 (a := 3) (by decide); have n4 := lv_neT c_76 (a := 4) (by decide); have n5 := lv_neT c_78 (a := 5) (by decide); have n6 := lv_neT c_82 (a := 6) (by decide); have n7 := lv_neT c_84 (a := 7) (by decide); have n8 := lv_neT c_87 (a := 8) (by decide); have n9 := lv_neT c_89 (a := 9) (by decide); omega) (by decide) ?_
                                refine lv_aload_n hx hb md_fm_flow_230 rfl (lv_at hl 1 rfl) ?_
                                refine mg_fm_26 hC hW 0 Nat.one_pos md_fm_flow_231 ?_
                                refine lv_iload_n hx hb md_fm_flow_234 rfl (lv_at hl 2 rfl) ?_
                                have h_92 : vp_in a 6 := by obtain ⟨f_c_1_0, f_c_1_1⟩ := mF_in c_1; obtain ⟨f_c_2_0, f_c_2_1⟩ := mF_in c_2; have e_c_4 := lv_neT c_4 (a := 0) (by decide); have e_c_6 : (q_i (S 6 0 a.toNatClampNeg)).toInt = 0 := (by rw [c_6]; rfl); have e_c_37 := lv_neT c_37 (a := 0) (by decide); have e_c_68 := lv_neT c_68 (a := 0) (by decide); have e_c_70 := lv_neT c_70 (a := 1) (by decide); have e_c_72 := lv_neT c_72 (a := 2) (by decide); have e_c_74 := lv_neT c_74 (a := 3) (by decide); have e_c_76 := lv_neT c_76 (a := 4) (by decide); have e_c_78 := lv_neT c_78 (a := 5) (by decide); have e_c_82 := lv_neT c_82 (a := 6) (by decide); have e_c_84 := lv_neT c_84 (a := 7) (by decide); have e_c_87 := lv_neT c_87 (a := 8) (by decide); have e_c_89 := lv_neT c_89 (a := 9) (by decide); simp only [Int32.lt_iff_toInt_lt, Int32.le_iff_toInt_le, q_n0, q_n1, q_n2, q_n3, q_n4, q_n5, q_n6, q_n7, q_n8, q_n9, q_n10, q_n11, q_n12, q_n13, q_n14, q_n15, q_n20, q_n60, q_n1288] at f_c_1_0 f_c_1_1 f_c_2_0 f_c_2_1; have l1 : (0 : Int32).toInt = 0 := rfl; have l2 : (5 : Int32).toInt = 5 := rfl; have l3 : (13 : Int32).toInt = 13 := rfl; rw [vp_in_iff]; omega
                                refine male_6 hC hW h_92 rfl (rfl) md_fm_flow_235 ?_
                                refine lv_if_eq (tgt := 243) hx hb md_fm_flow_236 (by decide) (fun c_93 => ?_) (fun c_93 => ?_)
                                · -- taken
                                  refine lv_aload_n hx hb md_fm_flow_243 rfl (lv_at hl 1 rfl) ?_
                                  refine mg_fm_50 hC hW 0 Nat.one_pos md_fm_flow_244 ?_
                                  refine lv_iconst (v := 4) hx hb md_fm_flow_247 (by decide) ?_
                                  refine lv_iload_n hx hb md_fm_flow_248 rfl (lv_at hl 2 rfl) ?_
                                  refine lv_imul hx hb md_fm_flow_249 ?_
                                  refine lv_iload_n hx hb md_fm_flow_250 rfl (lv_at hl 3 rfl) ?_
                                  refine lv_iadd hx hb md_fm_flow_251 ?_
                                  refine lv_bipush (v := 10) hx hb md_fm_flow_252 (by decide) ?_
                                  refine lv_isub hx hb md_fm_flow_254 ?_
                                  have h_94 : vp_in (((4 * a) + b) - 10) 24 := by obtain ⟨f_c_1_0, f_c_1_1⟩ := mF_in c_1; obtain ⟨f_c_2_0, f_c_2_1⟩ := mF_in c_2; have e_c_4 := lv_neT c_4 (a := 0) (by decide); have e_c_6 : (q_i (S 6 0 a.toNatClampNeg)).toInt = 0 := (by rw [c_6]; rfl); have e_c_37 := lv_neT c_37 (a := 0) (by decide); have e_c_68 := lv_neT c_68 (a := 0) (by decide); have e_c_70 := lv_neT c_70 (a := 1) (by decide); have e_c_72 := lv_neT c_72 (a := 2) (by decide); have e_c_74 := lv_neT c_74 (a := 3) (by decide); have e_c_76 := lv_neT c_76 (a := 4) (by decide); have e_c_78 := lv_neT c_78 (a := 5) (by decide); have e_c_82 := lv_neT c_82 (a := 6) (by decide); have e_c_84 := lv_neT c_84 (a := 7) (by decide); have e_c_87 := lv_neT c_87 (a := 8) (by decide); have e_c_89 := lv_neT c_89 (a := 9) (by decide); have e_c_93 : (q_i (S 6 0 a.toNatClampNeg)).toInt = 0 := (by rw [c_93]; rfl); simp only [Int32.lt_iff_toInt_lt, Int32.le_iff_toInt_le, q_n0, q_n1, q_n2, q_n3, q_n4, q_n5, q_n6, q_n7, q_n8, q_n9, q_n10, q_n11, q_n12, q_n13, q_n14, q_n15, q_n20, q_n60, q_n1288] at f_c_1_0 f_c_1_1 f_c_2_0 f_c_2_1; have l1 : (4 : Int32).toInt = 4 := rfl; have l2 := q_mulI (c := 4) (x := a) (k := 4) rfl (by omega); have l3 := q_addI (x := 4 * a) (y := b) (by omega); have l4 : (10 : Int32).toInt = 10 := rfl; have l5 := q_subI (x := (4 * a) + b) (y := 10) (by omega); have l6 : (0 : Int32).toInt = 0 := rfl; have l7 : (5 : Int32).toInt = 5 := rfl; have l8 : (13 : Int32).toInt = 13 := rfl; rw [vp_in_iff]; omega
                                  have s_95 : (((4 * a) + b) - 10).toNatClampNeg = 4 * a.toNatClampNeg + b.toNatClampNeg - 10 := by obtain ⟨f_c_1_0, f_c_1_1⟩ := mF_in c_1; obtain ⟨f_c_2_0, f_c_2_1⟩ := mF_in c_2; have e_c_4 := lv_neT c_4 (a := 0) (by decide); have e_c_6 : (q_i (S 6 0 a.toNatClampNeg)).toInt = 0 := (by rw [c_6]; rfl); have e_c_37 := lv_neT c_37 (a := 0) (by decide); have e_c_68 := lv_neT c_68 (a := 0) (by decide); have e_c_70 := lv_neT c_70 (a := 1) (by decide); have e_c_72 := lv_neT c_72 (a := 2) (by decide); have e_c_74 := lv_neT c_74 (a := 3) (by decide); have e_c_76 := lv_neT c_76 (a := 4) (by decide); have e_c_78 := lv_neT c_78 (a := 5) (by decide); have e_c_82 := lv_neT c_82 (a := 6) (by decide); have e_c_84 := lv_neT c_84 (a := 7) (by decide); have e_c_87 := lv_neT c_87 (a := 8) (by decide); have e_c_89 := lv_neT c_89 (a := 9) (by decide); have e_c_93 : (q_i (S 6 0 a.toNatClampNeg)).toInt = 0 := (by rw [c_93]; rfl); simp only [Int32.lt_iff_toInt_lt, Int32.le_iff_toInt_le, q_n0, q_n1, q_n2, q_n3, q_n4, q_n5, q_n6, q_n7, q_n8, q_n9, q_n10, q_n11, q_n12, q_n13, q_n14, q_n15, q_n20, q_n60, q_n1288] at f_c_1_0 f_c_1_1 f_c_2_0 f_c_2_1; have l1 : (4 : Int32).toInt = 4 := rfl; have l2 := q_mulI (c := 4) (x := a) (k := 4) rfl (by omega); have l3 := q_addI (x := 4 * a) (y := b) (by omega); have l4 : (10 : Int32).toInt = 10 := rfl; have l5 := q_subI (x := (4 * a) + b) (y := 10) (by omega); have l6 : (0 : Int32).toInt = 0 := rfl; have l7 : (5 : Int32).toInt = 5 := rfl; have l8 : (13 : Int32).toInt = 13 := rfl; have c0 := q_clI (x := a) (by omega); have c1 := q_clI (x := b) (by omega); apply q_tn; omega
                                  refine male_14 hC hW h_94 s_95 (rfl) md_fm_flow_255 ?_
                                  have hf : m_fm_flow S a b = q_i (S 14 0 (4 * a.toNatClampNeg + b.toNatClampNeg - 10)) := by unfold m_fm_flow; rw [if_neg c_1, if_neg c_2, if_neg c_4, if_pos c_6, if_neg c_37, if_neg c_68, if_neg c_70, if_neg c_72, if_neg c_74, if_neg c_76, if_neg c_78, if_neg c_82, if_neg c_84, if_neg c_87, if_neg c_89, if_pos c_93]
                                  rw [hf]
                                  exact q_iret hC hr hlocks hW hS rfl rfl md_fm_flow_256
                                · -- not taken
                                  refine lv_iconst (v := 0) hx hb md_fm_flow_239 (by decide) ?_
                                  refine lv_goto (tgt := 256) hx hb md_fm_flow_240 (by decide) ?_
                                  have hf : m_fm_flow S a b = 0 := by unfold m_fm_flow; rw [if_neg c_1, if_neg c_2, if_neg c_4, if_pos c_6, if_neg c_37, if_neg c_68, if_neg c_70, if_neg c_72, if_neg c_74, if_neg c_76, if_neg c_78, if_neg c_82, if_neg c_84, if_neg c_87, if_neg c_89, if_neg c_93]
                                  rw [hf]
                                  exact q_iret hC hr hlocks hW hS rfl rfl md_fm_flow_256
      · -- not taken
        refine lv_iconst (v := 0) hx hb md_fm_flow_30 (by decide) ?_
        have hf : m_fm_flow S a b = 0 := by unfold m_fm_flow; rw [if_neg c_1, if_neg c_2, if_pos c_4]
        rw [hf]
        exact q_iret hC hr hlocks hW hS rfl rfl md_fm_flow_31
    · -- not taken
      refine lv_iconst (v := (-1)) hx hb md_fm_flow_19 (by decide) ?_
      have hf : m_fm_flow S a b = (-1) := by unfold m_fm_flow; rw [if_neg c_1, if_pos c_2]
      rw [hf]
      exact q_iret hC hr hlocks hW hS rfl rfl md_fm_flow_20
