def m_fm_start_L0 : Nat → q_S → Int32 → Int32 → Nat → Int32 × q_S
  | 0, S, _, _, _ => (0, S)
  | n + 1, S, a, b, t =>
    if 6 ≤ nI t then
      if nI t = 6 then
        ((-3), S)
      else
        (nI t, m_fm_begin (q_st (q_st (q_st (q_st (q_st (q_st (q_st (q_st (q_st S 5 0 t (.int 1)) 6 0 t (.int 0)) 9 0 t (.int a)) 13 0 t (.int 0)) 23 0 t (.int 0)) 15 0 t (.int 1)) 17 0 (20 * t) (.int 1)) 18 0 (20 * t) (.int a)) 19 0 (20 * t) (.int b)) t)
    else
      if q_i (S 5 0 t) = 0 then
        if nI t = 6 then
          ((-3), S)
        else
          (nI t, m_fm_begin (q_st (q_st (q_st (q_st (q_st (q_st (q_st (q_st (q_st S 5 0 t (.int 1)) 6 0 t (.int 0)) 9 0 t (.int a)) 13 0 t (.int 0)) 23 0 t (.int 0)) 15 0 t (.int 1)) 17 0 (20 * t) (.int 1)) 18 0 (20 * t) (.int a)) 19 0 (20 * t) (.int b)) t)
      else
        m_fm_start_L0 n S a b (t + 1)
set_option maxRecDepth 100000 in
set_option maxHeartbeats 4000000 in
theorem mL_fm_start_L0 (l : Launch) (G : q_G) (a b : Int32)  {p : Program} {e : Env} {s : State} {m : MethodId} {below : List Frame} {meth : Method} {c : Code} (hC : q_C mX G p m c mb_fm_start 4 s ([.ref (q_a mX G 0 0), .int a, .int b] : List Value).toArray (q_ws (q_gw lw_tbl) my_fm_start mb_fm_start 4 (some .int)) mR_fm) (hr : meth.sig.returnType = (some .int)) (hlocks : meth.locks = false) : ∀ (n : Nat) (S : q_S) (t : Nat) (H : Heap) (locs : List Loc) (ls : Array Slot), t + n = 7 → t ≤ 6 → 0 ≤ a.toInt ∧ a.toInt ≤ 2 → mI S → mJ S → mQ S → q_w mX G s S H → va_S (q_A mX G) s.heap H locs → lv_has ls 4 [(0, .ref (q_a mX G 0 0)), (1, .int a), (2, .int b), (3, .int (nI t))] → W p l e (headSpec (q_ws (q_gw lw_tbl) my_fm_start mb_fm_start 4 (some .int)) (q_rm 10)).room s m ([.ref (q_a mX G 0 0), .int a, .int b] : List Value).toArray below meth c H locs 0 0 (MQ below (va_Qi (fun (r' : Int32) (u : q_S) => r' = (m_fm_start_L0 n S a b t).1 ∧ u = (m_fm_start_L0 n S a b t).2) (q_P mX G) (q_A mX G)) ([.ref (q_a mX G 0 0), .int a, .int b] : List Value).toArray s 0 0 (q_A mX G)) (F0 m 13 ls []) := by
  have hx := hC.1.1
  have hb := hC.1.2.1
  intro n
  induction n with
  | zero =>
    intro S t H locs ls ht hu ha hI hJ hQ hW hS hl
    exfalso
    omega
  | succ n ih =>
    intro S t H locs ls ht hu ha hI hJ hQ hW hS hl
    refine lv_iload_n hx hb md_fm_start_13 rfl (lv_at hl 3 rfl) ?_
    refine lv_bipush (v := 6) hx hb md_fm_start_14 (by decide) ?_
    refine lv_icmp_ge (tgt := 34) hx hb md_fm_start_16 (by decide) (fun c_1 => ?_) (fun c_1 => ?_)
    · -- taken
      refine lv_iload_n hx hb md_fm_start_34 rfl (lv_at hl 3 rfl) ?_
      refine lv_bipush (v := 6) hx hb md_fm_start_35 (by decide) ?_
      refine lv_icmp_ne (tgt := 43) hx hb md_fm_start_37 (by decide) (fun c_2 => ?_) (fun c_2 => ?_)
      · -- taken
        refine lv_aload_n hx hb md_fm_start_43 rfl (lv_at hl 0 rfl) ?_
        refine mg_fm_22 hC hW 0 Nat.one_pos md_fm_start_44 ?_
        refine lv_iload_n hx hb md_fm_start_47 rfl (lv_at hl 3 rfl) ?_
        refine lv_iconst (v := 1) hx hb md_fm_start_48 (by decide) ?_
        have h_3 : vp_in (nI t) 6 := by have e_c_2 := lv_neT c_2 (a := 6) (by decide); simp only [Int32.lt_iff_toInt_lt, Int32.le_iff_toInt_le, q_n0, q_n1, q_n2, q_n3, q_n4, q_n5, q_n6, q_n7, q_n8, q_n9, q_n10, q_n11, q_n12, q_n13, q_n14, q_n15, q_n20, q_n60, q_n1288] at c_1; have l1 := nI_toInt (n := t) (by omega); have l2 : (6 : Int32).toInt = 6 := rfl; rw [vp_in_iff]; omega
        have s_4 : (nI t).toNatClampNeg = t := by have e_c_2 := lv_neT c_2 (a := 6) (by decide); simp only [Int32.lt_iff_toInt_lt, Int32.le_iff_toInt_le, q_n0, q_n1, q_n2, q_n3, q_n4, q_n5, q_n6, q_n7, q_n8, q_n9, q_n10, q_n11, q_n12, q_n13, q_n14, q_n15, q_n20, q_n60, q_n1288] at c_1; have l1 := nI_toInt (n := t) (by omega); have l2 : (6 : Int32).toInt = 6 := rfl; apply q_tn; omega
        refine mase_5 hC hW hS (fun _ h => h) h_3 s_4 (by decide) md_fm_start_49 (fun H locs hW hS => ?_)
        refine lv_aload_n hx hb md_fm_start_50 rfl (lv_at hl 0 rfl) ?_
        refine mg_fm_26 hC hW 0 Nat.one_pos md_fm_start_51 ?_
        refine lv_iload_n hx hb md_fm_start_54 rfl (lv_at hl 3 rfl) ?_
        refine lv_iconst (v := 0) hx hb md_fm_start_55 (by decide) ?_
        have h_5 : vp_in (nI t) 6 := by have e_c_2 := lv_neT c_2 (a := 6) (by decide); simp only [Int32.lt_iff_toInt_lt, Int32.le_iff_toInt_le, q_n0, q_n1, q_n2, q_n3, q_n4, q_n5, q_n6, q_n7, q_n8, q_n9, q_n10, q_n11, q_n12, q_n13, q_n14, q_n15, q_n20, q_n60, q_n1288] at c_1; have l1 := nI_toInt (n := t) (by omega); have l2 : (6 : Int32).toInt = 6 := rfl; rw [vp_in_iff]; omega
        have s_6 : (nI t).toNatClampNeg = t := by have e_c_2 := lv_neT c_2 (a := 6) (by decide); simp only [Int32.lt_iff_toInt_lt, Int32.le_iff_toInt_le, q_n0, q_n1, q_n2, q_n3, q_n4, q_n5, q_n6, q_n7, q_n8, q_n9, q_n10, q_n11, q_n12, q_n13, q_n14, q_n15, q_n20, q_n60, q_n1288] at c_1; have l1 := nI_toInt (n := t) (by omega); have l2 : (6 : Int32).toInt = 6 := rfl; apply q_tn; omega
        refine mase_6 hC hW hS (fun _ h => h) h_5 s_6 (by decide) md_fm_start_56 (fun H locs hW hS => ?_)
        refine lv_aload_n hx hb md_fm_start_57 rfl (lv_at hl 0 rfl) ?_
        refine mg_fm_35 hC hW 0 Nat.one_pos md_fm_start_58 ?_
        refine lv_iload_n hx hb md_fm_start_61 rfl (lv_at hl 3 rfl) ?_
        refine lv_iload_n hx hb md_fm_start_62 rfl (lv_at hl 1 rfl) ?_
        refine W.eq (g2 := F0 m 63 ls [.int a, .int (nI t), .ref (q_a mX G 9 0)]) rfl ?_
        have h_7 : vp_in (nI t) 6 := by have e_c_2 := lv_neT c_2 (a := 6) (by decide); simp only [Int32.lt_iff_toInt_lt, Int32.le_iff_toInt_le, q_n0, q_n1, q_n2, q_n3, q_n4, q_n5, q_n6, q_n7, q_n8, q_n9, q_n10, q_n11, q_n12, q_n13, q_n14, q_n15, q_n20, q_n60, q_n1288] at c_1; have l1 := nI_toInt (n := t) (by omega); have l2 : (6 : Int32).toInt = 6 := rfl; rw [vp_in_iff]; omega
        have s_8 : (nI t).toNatClampNeg = t := by have e_c_2 := lv_neT c_2 (a := 6) (by decide); simp only [Int32.lt_iff_toInt_lt, Int32.le_iff_toInt_le, q_n0, q_n1, q_n2, q_n3, q_n4, q_n5, q_n6, q_n7, q_n8, q_n9, q_n10, q_n11, q_n12, q_n13, q_n14, q_n15, q_n20, q_n60, q_n1288] at c_1; have l1 := nI_toInt (n := t) (by omega); have l2 : (6 : Int32).toInt = 6 := rfl; apply q_tn; omega
        refine mase_9 hC hW hS (fun _ h => h) h_7 s_8 md_fm_start_63 (fun H locs hW hS => ?_)
        refine lv_aload_n hx hb md_fm_start_64 rfl (lv_at hl 0 rfl) ?_
        refine mg_fm_47 hC hW 0 Nat.one_pos md_fm_start_65 ?_
        refine lv_iload_n hx hb md_fm_start_68 rfl (lv_at hl 3 rfl) ?_
        refine lv_iconst (v := 0) hx hb md_fm_start_69 (by decide) ?_
        have h_9 : vp_in (nI t) 6 := by have e_c_2 := lv_neT c_2 (a := 6) (by decide); simp only [Int32.lt_iff_toInt_lt, Int32.le_iff_toInt_le, q_n0, q_n1, q_n2, q_n3, q_n4, q_n5, q_n6, q_n7, q_n8, q_n9, q_n10, q_n11, q_n12, q_n13, q_n14, q_n15, q_n20, q_n60, q_n1288] at c_1; have l1 := nI_toInt (n := t) (by omega); have l2 : (6 : Int32).toInt = 6 := rfl; rw [vp_in_iff]; omega
        have s_10 : (nI t).toNatClampNeg = t := by have e_c_2 := lv_neT c_2 (a := 6) (by decide); simp only [Int32.lt_iff_toInt_lt, Int32.le_iff_toInt_le, q_n0, q_n1, q_n2, q_n3, q_n4, q_n5, q_n6, q_n7, q_n8, q_n9, q_n10, q_n11, q_n12, q_n13, q_n14, q_n15, q_n20, q_n60, q_n1288] at c_1; have l1 := nI_toInt (n := t) (by omega); have l2 : (6 : Int32).toInt = 6 := rfl; apply q_tn; omega
        refine mase_13 hC hW hS (fun _ h => h) h_9 s_10 md_fm_start_70 (fun H locs hW hS => ?_)
        refine lv_aload_n hx hb md_fm_start_71 rfl (lv_at hl 0 rfl) ?_
        refine mg_fm_77 hC hW 0 Nat.one_pos md_fm_start_72 ?_
        refine lv_iload_n hx hb md_fm_start_75 rfl (lv_at hl 3 rfl) ?_
        refine lv_iconst (v := 0) hx hb md_fm_start_76 (by decide) ?_
        have h_11 : vp_in (nI t) 6 := by have e_c_2 := lv_neT c_2 (a := 6) (by decide); simp only [Int32.lt_iff_toInt_lt, Int32.le_iff_toInt_le, q_n0, q_n1, q_n2, q_n3, q_n4, q_n5, q_n6, q_n7, q_n8, q_n9, q_n10, q_n11, q_n12, q_n13, q_n14, q_n15, q_n20, q_n60, q_n1288] at c_1; have l1 := nI_toInt (n := t) (by omega); have l2 : (6 : Int32).toInt = 6 := rfl; rw [vp_in_iff]; omega
        have s_12 : (nI t).toNatClampNeg = t := by have e_c_2 := lv_neT c_2 (a := 6) (by decide); simp only [Int32.lt_iff_toInt_lt, Int32.le_iff_toInt_le, q_n0, q_n1, q_n2, q_n3, q_n4, q_n5, q_n6, q_n7, q_n8, q_n9, q_n10, q_n11, q_n12, q_n13, q_n14, q_n15, q_n20, q_n60, q_n1288] at c_1; have l1 := nI_toInt (n := t) (by omega); have l2 : (6 : Int32).toInt = 6 := rfl; apply q_tn; omega
        refine mase_23 hC hW hS (fun _ h => h) h_11 s_12 md_fm_start_77 (fun H locs hW hS => ?_)
        refine lv_aload_n hx hb md_fm_start_78 rfl (lv_at hl 0 rfl) ?_
        refine mg_fm_53 hC hW 0 Nat.one_pos md_fm_start_79 ?_
        refine lv_iload_n hx hb md_fm_start_82 rfl (lv_at hl 3 rfl) ?_
        refine W.eq (g2 := F0 m 83 ls [.int (nI t), .ref (q_a mX G 15 0)]) rfl ?_
        refine lv_iconst (v := 1) hx hb md_fm_start_83 (by decide) ?_
        have h_13 : vp_in (nI t) 6 := by have e_c_2 := lv_neT c_2 (a := 6) (by decide); simp only [Int32.lt_iff_toInt_lt, Int32.le_iff_toInt_le, q_n0, q_n1, q_n2, q_n3, q_n4, q_n5, q_n6, q_n7, q_n8, q_n9, q_n10, q_n11, q_n12, q_n13, q_n14, q_n15, q_n20, q_n60, q_n1288] at c_1; have l1 := nI_toInt (n := t) (by omega); have l2 : (6 : Int32).toInt = 6 := rfl; rw [vp_in_iff]; omega
        have s_14 : (nI t).toNatClampNeg = t := by have e_c_2 := lv_neT c_2 (a := 6) (by decide); simp only [Int32.lt_iff_toInt_lt, Int32.le_iff_toInt_le, q_n0, q_n1, q_n2, q_n3, q_n4, q_n5, q_n6, q_n7, q_n8, q_n9, q_n10, q_n11, q_n12, q_n13, q_n14, q_n15, q_n20, q_n60, q_n1288] at c_1; have l1 := nI_toInt (n := t) (by omega); have l2 : (6 : Int32).toInt = 6 := rfl; apply q_tn; omega
        refine mase_15 hC hW hS (fun _ h => h) h_13 s_14 md_fm_start_84 (fun H locs hW hS => ?_)
        refine lv_aload_n hx hb md_fm_start_85 rfl (lv_at hl 0 rfl) ?_
        refine mg_fm_59 hC hW 0 Nat.one_pos md_fm_start_86 ?_
        refine lv_bipush (v := 20) hx hb md_fm_start_89 (by decide) ?_
        refine lv_iload_n hx hb md_fm_start_91 rfl (lv_at hl 3 rfl) ?_
        refine lv_imul hx hb md_fm_start_92 ?_
        refine lv_iconst (v := 1) hx hb md_fm_start_93 (by decide) ?_
        have h_15 : vp_in (20 * (nI t)) 120 := by have e_c_2 := lv_neT c_2 (a := 6) (by decide); simp only [Int32.lt_iff_toInt_lt, Int32.le_iff_toInt_le, q_n0, q_n1, q_n2, q_n3, q_n4, q_n5, q_n6, q_n7, q_n8, q_n9, q_n10, q_n11, q_n12, q_n13, q_n14, q_n15, q_n20, q_n60, q_n1288] at c_1; have l1 : (20 : Int32).toInt = 20 := rfl; have l2 := nI_toInt (n := t) (by omega); have l3 := q_mulI (c := 20) (x := nI t) (k := 20) rfl (by omega); have l4 : (6 : Int32).toInt = 6 := rfl; rw [vp_in_iff]; omega
        have s_16 : (20 * (nI t)).toNatClampNeg = 20 * t := by have e_c_2 := lv_neT c_2 (a := 6) (by decide); simp only [Int32.lt_iff_toInt_lt, Int32.le_iff_toInt_le, q_n0, q_n1, q_n2, q_n3, q_n4, q_n5, q_n6, q_n7, q_n8, q_n9, q_n10, q_n11, q_n12, q_n13, q_n14, q_n15, q_n20, q_n60, q_n1288] at c_1; have l1 : (20 : Int32).toInt = 20 := rfl; have l2 := nI_toInt (n := t) (by omega); have l3 := q_mulI (c := 20) (x := nI t) (k := 20) rfl (by omega); have l4 : (6 : Int32).toInt = 6 := rfl; apply q_tn; omega
        refine mase_17 hC hW hS (fun _ h => h) h_15 s_16 md_fm_start_94 (fun H locs hW hS => ?_)
        refine lv_aload_n hx hb md_fm_start_95 rfl (lv_at hl 0 rfl) ?_
        refine mg_fm_62 hC hW 0 Nat.one_pos md_fm_start_96 ?_
        refine lv_bipush (v := 20) hx hb md_fm_start_99 (by decide) ?_
        refine lv_iload_n hx hb md_fm_start_101 rfl (lv_at hl 3 rfl) ?_
        refine lv_imul hx hb md_fm_start_102 ?_
        refine W.eq (g2 := F0 m 103 ls [.int (20 * (nI t)), .ref (q_a mX G 18 0)]) rfl ?_
        refine lv_iload_n hx hb md_fm_start_103 rfl (lv_at hl 1 rfl) ?_
        have h_17 : vp_in (20 * (nI t)) 120 := by have e_c_2 := lv_neT c_2 (a := 6) (by decide); simp only [Int32.lt_iff_toInt_lt, Int32.le_iff_toInt_le, q_n0, q_n1, q_n2, q_n3, q_n4, q_n5, q_n6, q_n7, q_n8, q_n9, q_n10, q_n11, q_n12, q_n13, q_n14, q_n15, q_n20, q_n60, q_n1288] at c_1; have l1 : (20 : Int32).toInt = 20 := rfl; have l2 := nI_toInt (n := t) (by omega); have l3 := q_mulI (c := 20) (x := nI t) (k := 20) rfl (by omega); have l4 : (6 : Int32).toInt = 6 := rfl; rw [vp_in_iff]; omega
        have s_18 : (20 * (nI t)).toNatClampNeg = 20 * t := by have e_c_2 := lv_neT c_2 (a := 6) (by decide); simp only [Int32.lt_iff_toInt_lt, Int32.le_iff_toInt_le, q_n0, q_n1, q_n2, q_n3, q_n4, q_n5, q_n6, q_n7, q_n8, q_n9, q_n10, q_n11, q_n12, q_n13, q_n14, q_n15, q_n20, q_n60, q_n1288] at c_1; have l1 : (20 : Int32).toInt = 20 := rfl; have l2 := nI_toInt (n := t) (by omega); have l3 := q_mulI (c := 20) (x := nI t) (k := 20) rfl (by omega); have l4 : (6 : Int32).toInt = 6 := rfl; apply q_tn; omega
        refine mase_18 hC hW hS (fun _ h => h) h_17 s_18 md_fm_start_104 (fun H locs hW hS => ?_)
        refine lv_aload_n hx hb md_fm_start_105 rfl (lv_at hl 0 rfl) ?_
        refine mg_fm_65 hC hW 0 Nat.one_pos md_fm_start_106 ?_
        refine lv_bipush (v := 20) hx hb md_fm_start_109 (by decide) ?_
        refine lv_iload_n hx hb md_fm_start_111 rfl (lv_at hl 3 rfl) ?_
        refine lv_imul hx hb md_fm_start_112 ?_
        refine lv_iload_n hx hb md_fm_start_113 rfl (lv_at hl 2 rfl) ?_
        have h_19 : vp_in (20 * (nI t)) 120 := by have e_c_2 := lv_neT c_2 (a := 6) (by decide); simp only [Int32.lt_iff_toInt_lt, Int32.le_iff_toInt_le, q_n0, q_n1, q_n2, q_n3, q_n4, q_n5, q_n6, q_n7, q_n8, q_n9, q_n10, q_n11, q_n12, q_n13, q_n14, q_n15, q_n20, q_n60, q_n1288] at c_1; have l1 : (20 : Int32).toInt = 20 := rfl; have l2 := nI_toInt (n := t) (by omega); have l3 := q_mulI (c := 20) (x := nI t) (k := 20) rfl (by omega); have l4 : (6 : Int32).toInt = 6 := rfl; rw [vp_in_iff]; omega
        have s_20 : (20 * (nI t)).toNatClampNeg = 20 * t := by have e_c_2 := lv_neT c_2 (a := 6) (by decide); simp only [Int32.lt_iff_toInt_lt, Int32.le_iff_toInt_le, q_n0, q_n1, q_n2, q_n3, q_n4, q_n5, q_n6, q_n7, q_n8, q_n9, q_n10, q_n11, q_n12, q_n13, q_n14, q_n15, q_n20, q_n60, q_n1288] at c_1; have l1 : (20 : Int32).toInt = 20 := rfl; have l2 := nI_toInt (n := t) (by omega); have l3 := q_mulI (c := 20) (x := nI t) (k := 20) rfl (by omega); have l4 : (6 : Int32).toInt = 6 := rfl; apply q_tn; omega
        refine mase_19 hC hW hS (fun _ h => h) h_19 s_20 md_fm_start_114 (fun H locs hW hS => ?_)
        refine lv_aload_n hx hb md_fm_start_115 rfl (lv_at hl 0 rfl) ?_
        refine lv_iload_n hx hb md_fm_start_116 rfl (lv_at hl 3 rfl) ?_
        have h_21 : t < 6 := by have e_c_2 := lv_neT c_2 (a := 6) (by decide); simp only [Int32.lt_iff_toInt_lt, Int32.le_iff_toInt_le, q_n0, q_n1, q_n2, q_n3, q_n4, q_n5, q_n6, q_n7, q_n8, q_n9, q_n10, q_n11, q_n12, q_n13, q_n14, q_n15, q_n20, q_n60, q_n1288] at c_1; have l1 := nI_toInt (n := t) (by omega); have l2 : (6 : Int32).toInt = 6 := rfl; omega
        have hI_22 : mI (q_st (q_st (q_st (q_st (q_st (q_st (q_st (q_st (q_st S 5 0 t (.int 1)) 6 0 t (.int 0)) 9 0 t (.int a)) 13 0 t (.int 0)) 23 0 t (.int 0)) 15 0 t (.int 1)) 17 0 (20 * t) (.int 1)) 18 0 (20 * t) (.int a)) 19 0 (20 * t) (.int b)) := (mIs (mIs (mIs (mI_st (mI_st (mIs (mI_st (mIs (mIs hI rfl) rfl) (by have e_c_2 := lv_neT c_2 (a := 6) (by decide); simp only [Int32.lt_iff_toInt_lt, Int32.le_iff_toInt_le, q_n0, q_n1, q_n2, q_n3, q_n4, q_n5, q_n6, q_n7, q_n8, q_n9, q_n10, q_n11, q_n12, q_n13, q_n14, q_n15, q_n20, q_n60, q_n1288] at c_1; have l1 : (6 : Int32).toInt = 6 := rfl; have l2 := nI_toInt (n := t) (by omega); show 0 ≤ (a).toInt ∧ (a).toInt ≤ 2; omega)) rfl) (by show (0 : Int) ≤ (0 : Int32).toInt ∧ (0 : Int32).toInt ≤ 4; decide)) (by show (0 : Int) ≤ (1 : Int32).toInt ∧ (1 : Int32).toInt ≤ 20; decide)) rfl) rfl) rfl)
        have hJ_23 : mJ (q_st (q_st (q_st (q_st (q_st (q_st (q_st (q_st (q_st S 5 0 t (.int 1)) 6 0 t (.int 0)) 9 0 t (.int a)) 13 0 t (.int 0)) 23 0 t (.int 0)) 15 0 t (.int 1)) 17 0 (20 * t) (.int 1)) 18 0 (20 * t) (.int a)) 19 0 (20 * t) (.int b)) := mJ_eq hJ (fun k => ((q_kj (by decide)).trans ((q_kj (by decide)).trans ((q_kj (by decide)).trans ((q_kj (by decide)).trans ((q_kj (by decide)).trans ((q_kj (by decide)).trans ((q_kj (by decide)).trans ((q_kj (by decide)).trans (q_kj (by decide))))))))))) (fun k => ((q_kj (by decide)).trans ((q_kj (by decide)).trans ((q_kj (by decide)).trans ((q_kj (by decide)).trans ((q_kj (by decide)).trans ((q_kj (by decide)).trans ((q_kj (by decide)).trans ((q_kj (by decide)).trans (q_kj (by decide))))))))))) (fun k => ((q_kj (by decide)).trans ((q_kj (by decide)).trans ((q_kj (by decide)).trans ((q_kj (by decide)).trans ((q_kj (by decide)).trans ((q_kj (by decide)).trans ((q_kj (by decide)).trans ((q_kj (by decide)).trans (q_kj (by decide))))))))))) (fun k => ((q_kj (by decide)).trans ((q_kj (by decide)).trans ((q_kj (by decide)).trans ((q_kj (by decide)).trans ((q_kj (by decide)).trans ((q_kj (by decide)).trans ((q_kj (by decide)).trans ((q_kj (by decide)).trans (q_kj (by decide)))))))))))
        have hQ_24 : mQ (q_st (q_st (q_st (q_st (q_st (q_st (q_st (q_st (q_st S 5 0 t (.int 1)) 6 0 t (.int 0)) 9 0 t (.int a)) 13 0 t (.int 0)) 23 0 t (.int 0)) 15 0 t (.int 1)) 17 0 (20 * t) (.int 1)) 18 0 (20 * t) (.int a)) 19 0 (20 * t) (.int b)) := mQ_eq hQ ((q_kj (by decide)).trans ((q_kj (by decide)).trans ((q_kj (by decide)).trans ((q_kj (by decide)).trans ((q_kj (by decide)).trans ((q_kj (by decide)).trans ((q_kj (by decide)).trans ((q_kj (by decide)).trans (q_kj (by decide)))))))))) (fun _ => ((q_kj (by decide)).trans ((q_kj (by decide)).trans ((q_kj (by decide)).trans ((q_kj (by decide)).trans ((q_kj (by decide)).trans ((q_kj (by decide)).trans ((q_kj (by decide)).trans ((q_kj (by decide)).trans (q_kj (by decide))))))))))) (fun _ => ((q_kj (by decide)).trans ((q_kj (by decide)).trans ((q_kj (by decide)).trans ((q_kj (by decide)).trans ((q_kj (by decide)).trans ((q_kj (by decide)).trans ((q_kj (by decide)).trans ((q_kj (by decide)).trans (q_kj (by decide)))))))))))
        refine q_callv hC hS (fun _ h => h) (q_runV (rest := []) hC hW (mC_fm_begin l G (q_st (q_st (q_st (q_st (q_st (q_st (q_st (q_st (q_st S 5 0 t (.int 1)) 6 0 t (.int 0)) 9 0 t (.int a)) 13 0 t (.int 0)) 23 0 t (.int 0)) 15 0 t (.int 1)) 17 0 (20 * t) (.int 1)) 18 0 (20 * t) (.int a)) 19 0 (20 * t) (.int b)) t h_21 hI_22 hJ_23 hQ_24 (by rw [show q_i ((q_st (q_st (q_st (q_st (q_st (q_st (q_st (q_st (q_st S 5 0 t (.int 1)) 6 0 t (.int 0)) 9 0 t (.int a)) 13 0 t (.int 0)) 23 0 t (.int 0)) 15 0 t (.int 1)) 17 0 (20 * t) (.int 1)) 18 0 (20 * t) (.int a)) 19 0 (20 * t) (.int b)) 15 0 t) = 1 from q_sj (by decide) (q_sj (by decide) (q_sj (by decide) (q_ss)))]; decide)) (mc_fm_185 (q_rm 9) hC.1.2.2.2.2 ⟨Nat.le_of_ble_eq_true rfl, Nat.le_of_ble_eq_true rfl⟩ rfl rfl) Nat.one_pos rfl rfl rfl hl.1 rfl (Nat.le_of_ble_eq_true rfl) md_fm_start_117 ⟨Nat.zero_le _, Nat.zero_le _⟩) (fun H locs hW hS => ?_)
        refine lv_iload_n hx hb md_fm_start_120 rfl (lv_at hl 3 rfl) ?_
        have hf : m_fm_start_L0 (n + 1) S a b t = (nI t, m_fm_begin (q_st (q_st (q_st (q_st (q_st (q_st (q_st (q_st (q_st S 5 0 t (.int 1)) 6 0 t (.int 0)) 9 0 t (.int a)) 13 0 t (.int 0)) 23 0 t (.int 0)) 15 0 t (.int 1)) 17 0 (20 * t) (.int 1)) 18 0 (20 * t) (.int a)) 19 0 (20 * t) (.int b)) t) := by rw [m_fm_start_L0, if_pos c_1, if_neg c_2]
        rw [hf]
        exact q_iret hC hr hlocks hW hS rfl rfl md_fm_start_121
      · -- not taken
        refine lv_bipush (v := (-3)) hx hb md_fm_start_40 (by decide) ?_
        have hf : m_fm_start_L0 (n + 1) S a b t = ((-3), S) := by rw [m_fm_start_L0, if_pos c_1, if_pos c_2]
        rw [hf]
        exact q_iret hC hr hlocks hW hS rfl rfl md_fm_start_42
    · -- not taken
      refine lv_aload_n hx hb md_fm_start_19 rfl (lv_at hl 0 rfl) ?_
      refine mg_fm_22 hC hW 0 Nat.one_pos md_fm_start_20 ?_
      refine lv_iload_n hx hb md_fm_start_23 rfl (lv_at hl 3 rfl) ?_
      have h_25 : vp_in (nI t) 6 := by simp only [Int32.lt_iff_toInt_lt, Int32.le_iff_toInt_le, q_n0, q_n1, q_n2, q_n3, q_n4, q_n5, q_n6, q_n7, q_n8, q_n9, q_n10, q_n11, q_n12, q_n13, q_n14, q_n15, q_n20, q_n60, q_n1288] at c_1; have l1 := nI_toInt (n := t) (by omega); have l2 : (6 : Int32).toInt = 6 := rfl; rw [vp_in_iff]; omega
      have s_26 : (nI t).toNatClampNeg = t := by simp only [Int32.lt_iff_toInt_lt, Int32.le_iff_toInt_le, q_n0, q_n1, q_n2, q_n3, q_n4, q_n5, q_n6, q_n7, q_n8, q_n9, q_n10, q_n11, q_n12, q_n13, q_n14, q_n15, q_n20, q_n60, q_n1288] at c_1; have l1 := nI_toInt (n := t) (by omega); have l2 : (6 : Int32).toInt = 6 := rfl; apply q_tn; omega
      refine male_5 hC hW h_25 s_26 (rfl) md_fm_start_24 ?_
      refine lv_if_eq (tgt := 34) hx hb md_fm_start_25 (by decide) (fun c_27 => ?_) (fun c_27 => ?_)
      · -- taken
        refine lv_iload_n hx hb md_fm_start_34 rfl (lv_at hl 3 rfl) ?_
        refine lv_bipush (v := 6) hx hb md_fm_start_35 (by decide) ?_
        refine lv_icmp_ne (tgt := 43) hx hb md_fm_start_37 (by decide) (fun c_28 => ?_) (fun c_28 => ?_)
        · -- taken
          refine lv_aload_n hx hb md_fm_start_43 rfl (lv_at hl 0 rfl) ?_
          refine mg_fm_22 hC hW 0 Nat.one_pos md_fm_start_44 ?_
          refine lv_iload_n hx hb md_fm_start_47 rfl (lv_at hl 3 rfl) ?_
          refine lv_iconst (v := 1) hx hb md_fm_start_48 (by decide) ?_
          have h_29 : vp_in (nI t) 6 := by have e_c_27 : (q_i (S 5 0 t)).toInt = 0 := (by rw [c_27]; rfl); have e_c_28 := lv_neT c_28 (a := 6) (by decide); simp only [Int32.lt_iff_toInt_lt, Int32.le_iff_toInt_le, q_n0, q_n1, q_n2, q_n3, q_n4, q_n5, q_n6, q_n7, q_n8, q_n9, q_n10, q_n11, q_n12, q_n13, q_n14, q_n15, q_n20, q_n60, q_n1288] at c_1; have l1 := nI_toInt (n := t) (by omega); have l2 : (6 : Int32).toInt = 6 := rfl; rw [vp_in_iff]; omega
          have s_30 : (nI t).toNatClampNeg = t := by have e_c_27 : (q_i (S 5 0 t)).toInt = 0 := (by rw [c_27]; rfl); have e_c_28 := lv_neT c_28 (a := 6) (by decide); simp only [Int32.lt_iff_toInt_lt, Int32.le_iff_toInt_le, q_n0, q_n1, q_n2, q_n3, q_n4, q_n5, q_n6, q_n7, q_n8, q_n9, q_n10, q_n11, q_n12, q_n13, q_n14, q_n15, q_n20, q_n60, q_n1288] at c_1; have l1 := nI_toInt (n := t) (by omega); have l2 : (6 : Int32).toInt = 6 := rfl; apply q_tn; omega
          refine mase_5 hC hW hS (fun _ h => h) h_29 s_30 (by decide) md_fm_start_49 (fun H locs hW hS => ?_)
          refine lv_aload_n hx hb md_fm_start_50 rfl (lv_at hl 0 rfl) ?_
          refine mg_fm_26 hC hW 0 Nat.one_pos md_fm_start_51 ?_
          refine lv_iload_n hx hb md_fm_start_54 rfl (lv_at hl 3 rfl) ?_
          refine lv_iconst (v := 0) hx hb md_fm_start_55 (by decide) ?_
          have h_31 : vp_in (nI t) 6 := by have e_c_27 : (q_i (S 5 0 t)).toInt = 0 := (by rw [c_27]; rfl); have e_c_28 := lv_neT c_28 (a := 6) (by decide); simp only [Int32.lt_iff_toInt_lt, Int32.le_iff_toInt_le, q_n0, q_n1, q_n2, q_n3, q_n4, q_n5, q_n6, q_n7, q_n8, q_n9, q_n10, q_n11, q_n12, q_n13, q_n14, q_n15, q_n20, q_n60, q_n1288] at c_1; have l1 := nI_toInt (n := t) (by omega); have l2 : (6 : Int32).toInt = 6 := rfl; rw [vp_in_iff]; omega
          have s_32 : (nI t).toNatClampNeg = t := by have e_c_27 : (q_i (S 5 0 t)).toInt = 0 := (by rw [c_27]; rfl); have e_c_28 := lv_neT c_28 (a := 6) (by decide); simp only [Int32.lt_iff_toInt_lt, Int32.le_iff_toInt_le, q_n0, q_n1, q_n2, q_n3, q_n4, q_n5, q_n6, q_n7, q_n8, q_n9, q_n10, q_n11, q_n12, q_n13, q_n14, q_n15, q_n20, q_n60, q_n1288] at c_1; have l1 := nI_toInt (n := t) (by omega); have l2 : (6 : Int32).toInt = 6 := rfl; apply q_tn; omega
          refine mase_6 hC hW hS (fun _ h => h) h_31 s_32 (by decide) md_fm_start_56 (fun H locs hW hS => ?_)
          refine lv_aload_n hx hb md_fm_start_57 rfl (lv_at hl 0 rfl) ?_
          refine mg_fm_35 hC hW 0 Nat.one_pos md_fm_start_58 ?_
          refine lv_iload_n hx hb md_fm_start_61 rfl (lv_at hl 3 rfl) ?_
          refine lv_iload_n hx hb md_fm_start_62 rfl (lv_at hl 1 rfl) ?_
          refine W.eq (g2 := F0 m 63 ls [.int a, .int (nI t), .ref (q_a mX G 9 0)]) rfl ?_
          have h_33 : vp_in (nI t) 6 := by have e_c_27 : (q_i (S 5 0 t)).toInt = 0 := (by rw [c_27]; rfl); have e_c_28 := lv_neT c_28 (a := 6) (by decide); simp only [Int32.lt_iff_toInt_lt, Int32.le_iff_toInt_le, q_n0, q_n1, q_n2, q_n3, q_n4, q_n5, q_n6, q_n7, q_n8, q_n9, q_n10, q_n11, q_n12, q_n13, q_n14, q_n15, q_n20, q_n60, q_n1288] at c_1; have l1 := nI_toInt (n := t) (by omega); have l2 : (6 : Int32).toInt = 6 := rfl; rw [vp_in_iff]; omega
          have s_34 : (nI t).toNatClampNeg = t := by have e_c_27 : (q_i (S 5 0 t)).toInt = 0 := (by rw [c_27]; rfl); have e_c_28 := lv_neT c_28 (a := 6) (by decide); simp only [Int32.lt_iff_toInt_lt, Int32.le_iff_toInt_le, q_n0, q_n1, q_n2, q_n3, q_n4, q_n5, q_n6, q_n7, q_n8, q_n9, q_n10, q_n11, q_n12, q_n13, q_n14, q_n15, q_n20, q_n60, q_n1288] at c_1; have l1 := nI_toInt (n := t) (by omega); have l2 : (6 : Int32).toInt = 6 := rfl; apply q_tn; omega
          refine mase_9 hC hW hS (fun _ h => h) h_33 s_34 md_fm_start_63 (fun H locs hW hS => ?_)
          refine lv_aload_n hx hb md_fm_start_64 rfl (lv_at hl 0 rfl) ?_
          refine mg_fm_47 hC hW 0 Nat.one_pos md_fm_start_65 ?_
          refine lv_iload_n hx hb md_fm_start_68 rfl (lv_at hl 3 rfl) ?_
          refine lv_iconst (v := 0) hx hb md_fm_start_69 (by decide) ?_
          have h_35 : vp_in (nI t) 6 := by have e_c_27 : (q_i (S 5 0 t)).toInt = 0 := (by rw [c_27]; rfl); have e_c_28 := lv_neT c_28 (a := 6) (by decide); simp only [Int32.lt_iff_toInt_lt, Int32.le_iff_toInt_le, q_n0, q_n1, q_n2, q_n3, q_n4, q_n5, q_n6, q_n7, q_n8, q_n9, q_n10, q_n11, q_n12, q_n13, q_n14, q_n15, q_n20, q_n60, q_n1288] at c_1; have l1 := nI_toInt (n := t) (by omega); have l2 : (6 : Int32).toInt = 6 := rfl; rw [vp_in_iff]; omega
          have s_36 : (nI t).toNatClampNeg = t := by have e_c_27 : (q_i (S 5 0 t)).toInt = 0 := (by rw [c_27]; rfl); have e_c_28 := lv_neT c_28 (a := 6) (by decide); simp only [Int32.lt_iff_toInt_lt, Int32.le_iff_toInt_le, q_n0, q_n1, q_n2, q_n3, q_n4, q_n5, q_n6, q_n7, q_n8, q_n9, q_n10, q_n11, q_n12, q_n13, q_n14, q_n15, q_n20, q_n60, q_n1288] at c_1; have l1 := nI_toInt (n := t) (by omega); have l2 : (6 : Int32).toInt = 6 := rfl; apply q_tn; omega
          refine mase_13 hC hW hS (fun _ h => h) h_35 s_36 md_fm_start_70 (fun H locs hW hS => ?_)
          refine lv_aload_n hx hb md_fm_start_71 rfl (lv_at hl 0 rfl) ?_
          refine mg_fm_77 hC hW 0 Nat.one_pos md_fm_start_72 ?_
          refine lv_iload_n hx hb md_fm_start_75 rfl (lv_at hl 3 rfl) ?_
          refine lv_iconst (v := 0) hx hb md_fm_start_76 (by decide) ?_
          have h_37 : vp_in (nI t) 6 := by have e_c_27 : (q_i (S 5 0 t)).toInt = 0 := (by rw [c_27]; rfl); have e_c_28 := lv_neT c_28 (a := 6) (by decide); simp only [Int32.lt_iff_toInt_lt, Int32.le_iff_toInt_le, q_n0, q_n1, q_n2, q_n3, q_n4, q_n5, q_n6, q_n7, q_n8, q_n9, q_n10, q_n11, q_n12, q_n13, q_n14, q_n15, q_n20, q_n60, q_n1288] at c_1; have l1 := nI_toInt (n := t) (by omega); have l2 : (6 : Int32).toInt = 6 := rfl; rw [vp_in_iff]; omega
          have s_38 : (nI t).toNatClampNeg = t := by have e_c_27 : (q_i (S 5 0 t)).toInt = 0 := (by rw [c_27]; rfl); have e_c_28 := lv_neT c_28 (a := 6) (by decide); simp only [Int32.lt_iff_toInt_lt, Int32.le_iff_toInt_le, q_n0, q_n1, q_n2, q_n3, q_n4, q_n5, q_n6, q_n7, q_n8, q_n9, q_n10, q_n11, q_n12, q_n13, q_n14, q_n15, q_n20, q_n60, q_n1288] at c_1; have l1 := nI_toInt (n := t) (by omega); have l2 : (6 : Int32).toInt = 6 := rfl; apply q_tn; omega
          refine mase_23 hC hW hS (fun _ h => h) h_37 s_38 md_fm_start_77 (fun H locs hW hS => ?_)
          refine lv_aload_n hx hb md_fm_start_78 rfl (lv_at hl 0 rfl) ?_
          refine mg_fm_53 hC hW 0 Nat.one_pos md_fm_start_79 ?_
          refine lv_iload_n hx hb md_fm_start_82 rfl (lv_at hl 3 rfl) ?_
          refine W.eq (g2 := F0 m 83 ls [.int (nI t), .ref (q_a mX G 15 0)]) rfl ?_
          refine lv_iconst (v := 1) hx hb md_fm_start_83 (by decide) ?_
          have h_39 : vp_in (nI t) 6 := by have e_c_27 : (q_i (S 5 0 t)).toInt = 0 := (by rw [c_27]; rfl); have e_c_28 := lv_neT c_28 (a := 6) (by decide); simp only [Int32.lt_iff_toInt_lt, Int32.le_iff_toInt_le, q_n0, q_n1, q_n2, q_n3, q_n4, q_n5, q_n6, q_n7, q_n8, q_n9, q_n10, q_n11, q_n12, q_n13, q_n14, q_n15, q_n20, q_n60, q_n1288] at c_1; have l1 := nI_toInt (n := t) (by omega); have l2 : (6 : Int32).toInt = 6 := rfl; rw [vp_in_iff]; omega
          have s_40 : (nI t).toNatClampNeg = t := by have e_c_27 : (q_i (S 5 0 t)).toInt = 0 := (by rw [c_27]; rfl); have e_c_28 := lv_neT c_28 (a := 6) (by decide); simp only [Int32.lt_iff_toInt_lt, Int32.le_iff_toInt_le, q_n0, q_n1, q_n2, q_n3, q_n4, q_n5, q_n6, q_n7, q_n8, q_n9, q_n10, q_n11, q_n12, q_n13, q_n14, q_n15, q_n20, q_n60, q_n1288] at c_1; have l1 := nI_toInt (n := t) (by omega); have l2 : (6 : Int32).toInt = 6 := rfl; apply q_tn; omega
          refine mase_15 hC hW hS (fun _ h => h) h_39 s_40 md_fm_start_84 (fun H locs hW hS => ?_)
          refine lv_aload_n hx hb md_fm_start_85 rfl (lv_at hl 0 rfl) ?_
          refine mg_fm_59 hC hW 0 Nat.one_pos md_fm_start_86 ?_
          refine lv_bipush (v := 20) hx hb md_fm_start_89 (by decide) ?_
          refine lv_iload_n hx hb md_fm_start_91 rfl (lv_at hl 3 rfl) ?_
          refine lv_imul hx hb md_fm_start_92 ?_
          refine lv_iconst (v := 1) hx hb md_fm_start_93 (by decide) ?_
          have h_41 : vp_in (20 * (nI t)) 120 := by have e_c_27 : (q_i (S 5 0 t)).toInt = 0 := (by rw [c_27]; rfl); have e_c_28 := lv_neT c_28 (a := 6) (by decide); simp only [Int32.lt_iff_toInt_lt, Int32.le_iff_toInt_le, q_n0, q_n1, q_n2, q_n3, q_n4, q_n5, q_n6, q_n7, q_n8, q_n9, q_n10, q_n11, q_n12, q_n13, q_n14, q_n15, q_n20, q_n60, q_n1288] at c_1; have l1 : (20 : Int32).toInt = 20 := rfl; have l2 := nI_toInt (n := t) (by omega); have l3 := q_mulI (c := 20) (x := nI t) (k := 20) rfl (by omega); have l4 : (6 : Int32).toInt = 6 := rfl; rw [vp_in_iff]; omega
          have s_42 : (20 * (nI t)).toNatClampNeg = 20 * t := by have e_c_27 : (q_i (S 5 0 t)).toInt = 0 := (by rw [c_27]; rfl); have e_c_28 := lv_neT c_28 (a := 6) (by decide); simp only [Int32.lt_iff_toInt_lt, Int32.le_iff_toInt_le, q_n0, q_n1, q_n2, q_n3, q_n4, q_n5, q_n6, q_n7, q_n8, q_n9, q_n10, q_n11, q_n12, q_n13, q_n14, q_n15, q_n20, q_n60, q_n1288] at c_1; have l1 : (20 : Int32).toInt = 20 := rfl; have l2 := nI_toInt (n := t) (by omega); have l3 := q_mulI (c := 20) (x := nI t) (k := 20) rfl (by omega); have l4 : (6 : Int32).toInt = 6 := rfl; apply q_tn; omega
          refine mase_17 hC hW hS (fun _ h => h) h_41 s_42 md_fm_start_94 (fun H locs hW hS => ?_)
          refine lv_aload_n hx hb md_fm_start_95 rfl (lv_at hl 0 rfl) ?_
          refine mg_fm_62 hC hW 0 Nat.one_pos md_fm_start_96 ?_
          refine lv_bipush (v := 20) hx hb md_fm_start_99 (by decide) ?_
          refine lv_iload_n hx hb md_fm_start_101 rfl (lv_at hl 3 rfl) ?_
          refine lv_imul hx hb md_fm_start_102 ?_
          refine W.eq (g2 := F0 m 103 ls [.int (20 * (nI t)), .ref (q_a mX G 18 0)]) rfl ?_
          refine lv_iload_n hx hb md_fm_start_103 rfl (lv_at hl 1 rfl) ?_
          have h_43 : vp_in (20 * (nI t)) 120 := by have e_c_27 : (q_i (S 5 0 t)).toInt = 0 := (by rw [c_27]; rfl); have e_c_28 := lv_neT c_28 (a := 6) (by decide); simp only [Int32.lt_iff_toInt_lt, Int32.le_iff_toInt_le, q_n0, q_n1, q_n2, q_n3, q_n4, q_n5, q_n6, q_n7, q_n8, q_n9, q_n10, q_n11, q_n12, q_n13, q_n14, q_n15, q_n20, q_n60, q_n1288] at c_1; have l1 : (20 : Int32).toInt = 20 := rfl; have l2 := nI_toInt (n := t) (by omega); have l3 := q_mulI (c := 20) (x := nI t) (k := 20) rfl (by omega); have l4 : (6 : Int32).toInt = 6 := rfl; rw [vp_in_iff]; omega
          have s_44 : (20 * (nI t)).toNatClampNeg = 20 * t := by have e_c_27 : (q_i (S 5 0 t)).toInt = 0 := (by rw [c_27]; rfl); have e_c_28 := lv_neT c_28 (a := 6) (by decide); simp only [Int32.lt_iff_toInt_lt, Int32.le_iff_toInt_le, q_n0, q_n1, q_n2, q_n3, q_n4, q_n5, q_n6, q_n7, q_n8, q_n9, q_n10, q_n11, q_n12, q_n13, q_n14, q_n15, q_n20, q_n60, q_n1288] at c_1; have l1 : (20 : Int32).toInt = 20 := rfl; have l2 := nI_toInt (n := t) (by omega); have l3 := q_mulI (c := 20) (x := nI t) (k := 20) rfl (by omega); have l4 : (6 : Int32).toInt = 6 := rfl; apply q_tn; omega
          refine mase_18 hC hW hS (fun _ h => h) h_43 s_44 md_fm_start_104 (fun H locs hW hS => ?_)
          refine lv_aload_n hx hb md_fm_start_105 rfl (lv_at hl 0 rfl) ?_
          refine mg_fm_65 hC hW 0 Nat.one_pos md_fm_start_106 ?_
          refine lv_bipush (v := 20) hx hb md_fm_start_109 (by decide) ?_
          refine lv_iload_n hx hb md_fm_start_111 rfl (lv_at hl 3 rfl) ?_
          refine lv_imul hx hb md_fm_start_112 ?_
          refine lv_iload_n hx hb md_fm_start_113 rfl (lv_at hl 2 rfl) ?_
          have h_45 : vp_in (20 * (nI t)) 120 := by have e_c_27 : (q_i (S 5 0 t)).toInt = 0 := (by rw [c_27]; rfl); have e_c_28 := lv_neT c_28 (a := 6) (by decide); simp only [Int32.lt_iff_toInt_lt, Int32.le_iff_toInt_le, q_n0, q_n1, q_n2, q_n3, q_n4, q_n5, q_n6, q_n7, q_n8, q_n9, q_n10, q_n11, q_n12, q_n13, q_n14, q_n15, q_n20, q_n60, q_n1288] at c_1; have l1 : (20 : Int32).toInt = 20 := rfl; have l2 := nI_toInt (n := t) (by omega); have l3 := q_mulI (c := 20) (x := nI t) (k := 20) rfl (by omega); have l4 : (6 : Int32).toInt = 6 := rfl; rw [vp_in_iff]; omega
          have s_46 : (20 * (nI t)).toNatClampNeg = 20 * t := by have e_c_27 : (q_i (S 5 0 t)).toInt = 0 := (by rw [c_27]; rfl); have e_c_28 := lv_neT c_28 (a := 6) (by decide); simp only [Int32.lt_iff_toInt_lt, Int32.le_iff_toInt_le, q_n0, q_n1, q_n2, q_n3, q_n4, q_n5, q_n6, q_n7, q_n8, q_n9, q_n10, q_n11, q_n12, q_n13, q_n14, q_n15, q_n20, q_n60, q_n1288] at c_1; have l1 : (20 : Int32).toInt = 20 := rfl; have l2 := nI_toInt (n := t) (by omega); have l3 := q_mulI (c := 20) (x := nI t) (k := 20) rfl (by omega); have l4 : (6 : Int32).toInt = 6 := rfl; apply q_tn; omega
          refine mase_19 hC hW hS (fun _ h => h) h_45 s_46 md_fm_start_114 (fun H locs hW hS => ?_)
          refine lv_aload_n hx hb md_fm_start_115 rfl (lv_at hl 0 rfl) ?_
          refine lv_iload_n hx hb md_fm_start_116 rfl (lv_at hl 3 rfl) ?_
          have h_47 : t < 6 := by have e_c_27 : (q_i (S 5 0 t)).toInt = 0 := (by rw [c_27]; rfl); have e_c_28 := lv_neT c_28 (a := 6) (by decide); simp only [Int32.lt_iff_toInt_lt, Int32.le_iff_toInt_le, q_n0, q_n1, q_n2, q_n3, q_n4, q_n5, q_n6, q_n7, q_n8, q_n9, q_n10, q_n11, q_n12, q_n13, q_n14, q_n15, q_n20, q_n60, q_n1288] at c_1; have l1 := nI_toInt (n := t) (by omega); have l2 : (6 : Int32).toInt = 6 := rfl; omega
          have hI_48 : mI (q_st (q_st (q_st (q_st (q_st (q_st (q_st (q_st (q_st S 5 0 t (.int 1)) 6 0 t (.int 0)) 9 0 t (.int a)) 13 0 t (.int 0)) 23 0 t (.int 0)) 15 0 t (.int 1)) 17 0 (20 * t) (.int 1)) 18 0 (20 * t) (.int a)) 19 0 (20 * t) (.int b)) := (mIs (mIs (mIs (mI_st (mI_st (mIs (mI_st (mIs (mIs hI rfl) rfl) (by have e_c_27 : (q_i (S 5 0 t)).toInt = 0 := (by rw [c_27]; rfl); have e_c_28 := lv_neT c_28 (a := 6) (by decide); simp only [Int32.lt_iff_toInt_lt, Int32.le_iff_toInt_le, q_n0, q_n1, q_n2, q_n3, q_n4, q_n5, q_n6, q_n7, q_n8, q_n9, q_n10, q_n11, q_n12, q_n13, q_n14, q_n15, q_n20, q_n60, q_n1288] at c_1; have l1 : (6 : Int32).toInt = 6 := rfl; have l2 := nI_toInt (n := t) (by omega); show 0 ≤ (a).toInt ∧ (a).toInt ≤ 2; omega)) rfl) (by show (0 : Int) ≤ (0 : Int32).toInt ∧ (0 : Int32).toInt ≤ 4; decide)) (by show (0 : Int) ≤ (1 : Int32).toInt ∧ (1 : Int32).toInt ≤ 20; decide)) rfl) rfl) rfl)
          have hJ_49 : mJ (q_st (q_st (q_st (q_st (q_st (q_st (q_st (q_st (q_st S 5 0 t (.int 1)) 6 0 t (.int 0)) 9 0 t (.int a)) 13 0 t (.int 0)) 23 0 t (.int 0)) 15 0 t (.int 1)) 17 0 (20 * t) (.int 1)) 18 0 (20 * t) (.int a)) 19 0 (20 * t) (.int b)) := mJ_eq hJ (fun k => ((q_kj (by decide)).trans ((q_kj (by decide)).trans ((q_kj (by decide)).trans ((q_kj (by decide)).trans ((q_kj (by decide)).trans ((q_kj (by decide)).trans ((q_kj (by decide)).trans ((q_kj (by decide)).trans (q_kj (by decide))))))))))) (fun k => ((q_kj (by decide)).trans ((q_kj (by decide)).trans ((q_kj (by decide)).trans ((q_kj (by decide)).trans ((q_kj (by decide)).trans ((q_kj (by decide)).trans ((q_kj (by decide)).trans ((q_kj (by decide)).trans (q_kj (by decide))))))))))) (fun k => ((q_kj (by decide)).trans ((q_kj (by decide)).trans ((q_kj (by decide)).trans ((q_kj (by decide)).trans ((q_kj (by decide)).trans ((q_kj (by decide)).trans ((q_kj (by decide)).trans ((q_kj (by decide)).trans (q_kj (by decide))))))))))) (fun k => ((q_kj (by decide)).trans ((q_kj (by decide)).trans ((q_kj (by decide)).trans ((q_kj (by decide)).trans ((q_kj (by decide)).trans ((q_kj (by decide)).trans ((q_kj (by decide)).trans ((q_kj (by decide)).trans (q_kj (by decide)))))))))))
          have hQ_50 : mQ (q_st (q_st (q_st (q_st (q_st (q_st (q_st (q_st (q_st S 5 0 t (.int 1)) 6 0 t (.int 0)) 9 0 t (.int a)) 13 0 t (.int 0)) 23 0 t (.int 0)) 15 0 t (.int 1)) 17 0 (20 * t) (.int 1)) 18 0 (20 * t) (.int a)) 19 0 (20 * t) (.int b)) := mQ_eq hQ ((q_kj (by decide)).trans ((q_kj (by decide)).trans ((q_kj (by decide)).trans ((q_kj (by decide)).trans ((q_kj (by decide)).trans ((q_kj (by decide)).trans ((q_kj (by decide)).trans ((q_kj (by decide)).trans (q_kj (by decide)))))))))) (fun _ => ((q_kj (by decide)).trans ((q_kj (by decide)).trans ((q_kj (by decide)).trans ((q_kj (by decide)).trans ((q_kj (by decide)).trans ((q_kj (by decide)).trans ((q_kj (by decide)).trans ((q_kj (by decide)).trans (q_kj (by decide))))))))))) (fun _ => ((q_kj (by decide)).trans ((q_kj (by decide)).trans ((q_kj (by decide)).trans ((q_kj (by decide)).trans ((q_kj (by decide)).trans ((q_kj (by decide)).trans ((q_kj (by decide)).trans ((q_kj (by decide)).trans (q_kj (by decide)))))))))))
          refine q_callv hC hS (fun _ h => h) (q_runV (rest := []) hC hW (mC_fm_begin l G (q_st (q_st (q_st (q_st (q_st (q_st (q_st (q_st (q_st S 5 0 t (.int 1)) 6 0 t (.int 0)) 9 0 t (.int a)) 13 0 t (.int 0)) 23 0 t (.int 0)) 15 0 t (.int 1)) 17 0 (20 * t) (.int 1)) 18 0 (20 * t) (.int a)) 19 0 (20 * t) (.int b)) t h_47 hI_48 hJ_49 hQ_50 (by rw [show q_i ((q_st (q_st (q_st (q_st (q_st (q_st (q_st (q_st (q_st S 5 0 t (.int 1)) 6 0 t (.int 0)) 9 0 t (.int a)) 13 0 t (.int 0)) 23 0 t (.int 0)) 15 0 t (.int 1)) 17 0 (20 * t) (.int 1)) 18 0 (20 * t) (.int a)) 19 0 (20 * t) (.int b)) 15 0 t) = 1 from q_sj (by decide) (q_sj (by decide) (q_sj (by decide) (q_ss)))]; decide)) (mc_fm_185 (q_rm 9) hC.1.2.2.2.2 ⟨Nat.le_of_ble_eq_true rfl, Nat.le_of_ble_eq_true rfl⟩ rfl rfl) Nat.one_pos rfl rfl rfl hl.1 rfl (Nat.le_of_ble_eq_true rfl) md_fm_start_117 ⟨Nat.zero_le _, Nat.zero_le _⟩) (fun H locs hW hS => ?_)
          refine lv_iload_n hx hb md_fm_start_120 rfl (lv_at hl 3 rfl) ?_
          have hf : m_fm_start_L0 (n + 1) S a b t = (nI t, m_fm_begin (q_st (q_st (q_st (q_st (q_st (q_st (q_st (q_st (q_st S 5 0 t (.int 1)) 6 0 t (.int 0)) 9 0 t (.int a)) 13 0 t (.int 0)) 23 0 t (.int 0)) 15 0 t (.int 1)) 17 0 (20 * t) (.int 1)) 18 0 (20 * t) (.int a)) 19 0 (20 * t) (.int b)) t) := by rw [m_fm_start_L0, if_neg c_1, if_pos c_27, if_neg c_28]
          rw [hf]
          exact q_iret hC hr hlocks hW hS rfl rfl md_fm_start_121
        · -- not taken
          refine lv_bipush (v := (-3)) hx hb md_fm_start_40 (by decide) ?_
          have hf : m_fm_start_L0 (n + 1) S a b t = ((-3), S) := by rw [m_fm_start_L0, if_neg c_1, if_pos c_27, if_pos c_28]
          rw [hf]
          exact q_iret hC hr hlocks hW hS rfl rfl md_fm_start_42
      · -- not taken
        refine lv_iinc (v := nI t + 1) (lv' := [(3, .int (nI t + 1)), (0, .ref (q_a mX G 0 0)), (1, .int a), (2, .int b)]) hx hb md_fm_start_28 hl (k := 3) rfl rfl (by decide) rfl (fun ls hl => ?_)
        refine lv_goto (tgt := 13) hx hb md_fm_start_31 (by decide) ?_
        have hf : m_fm_start_L0 (n + 1) S a b t = m_fm_start_L0 n S a b (t + 1) := by rw [m_fm_start_L0, if_neg c_1, if_neg c_27]
        rw [hf]
        have hl2 : lv_has ls 4 [(0, .ref (q_a mX G 0 0)), (1, .int a), (2, .int b), (3, .int (nI (t + 1)))] := by rw [← nI_1 t]; exact lv_sub hl [1, 2, 3, 0] rfl
        exact ih S (t + 1) _ _ ls (by have n_t := nI_toInt (n := t) (by omega); have m_t := q_nT (n := t) (by omega); simp only [Int32.lt_iff_toInt_lt, Int32.le_iff_toInt_le, q_n0, q_n1, q_n2, q_n3, q_n4, q_n5, q_n6, q_n7, q_n8, q_n9, q_n10, q_n11, q_n12, q_n13, q_n14, q_n15, q_n20, q_n60, q_n1288] at c_1; omega) (by have n_t := nI_toInt (n := t) (by omega); have m_t := q_nT (n := t) (by omega); simp only [Int32.lt_iff_toInt_lt, Int32.le_iff_toInt_le, q_n0, q_n1, q_n2, q_n3, q_n4, q_n5, q_n6, q_n7, q_n8, q_n9, q_n10, q_n11, q_n12, q_n13, q_n14, q_n15, q_n20, q_n60, q_n1288] at c_1; omega) ha hI hJ hQ hW hS hl2
set_option maxRecDepth 100000 in
set_option maxHeartbeats 4000000 in
theorem mK_fm_start_L0 : ∀ (n : Nat) (S : q_S) (a b : Int32) (t : Nat) (x y z : Nat) (h0 : x ≠ 0) (h5 : x ≠ 5) (h6 : x ≠ 6) (h7 : x ≠ 7) (h8 : x ≠ 8) (h9 : x ≠ 9) (h10 : x ≠ 10) (h11 : x ≠ 11) (h12 : x ≠ 12) (h13 : x ≠ 13) (h14 : x ≠ 14) (h15 : x ≠ 15) (h16 : x ≠ 16) (h17 : x ≠ 17) (h18 : x ≠ 18) (h19 : x ≠ 19) (h20 : x ≠ 20) (h21 : x ≠ 21) (h22 : x ≠ 22) (h23 : x ≠ 23) (h24 : x ≠ 24) (h25 : x ≠ 25) (h26 : x ≠ 26) (h27 : x ≠ 27) (h28 : x ≠ 28) (h29 : x ≠ 29) (h31 : x ≠ 31) (h32 : x ≠ 32) (h33 : x ≠ 33), (m_fm_start_L0 n S a b t).2 x y z = S x y z := by
  intro n
  induction n with
  | zero => intro S a b t x y z h0 h5 h6 h7 h8 h9 h10 h11 h12 h13 h14 h15 h16 h17 h18 h19 h20 h21 h22 h23 h24 h25 h26 h27 h28 h29 h31 h32 h33; rfl
  | succ n ih =>
    intro S a b t x y z h0 h5 h6 h7 h8 h9 h10 h11 h12 h13 h14 h15 h16 h17 h18 h19 h20 h21 h22 h23 h24 h25 h26 h27 h28 h29 h31 h32 h33
    by_cases c_1 : 6 ≤ nI t
    · -- yes
      by_cases c_2 : nI t = 6
      · -- yes
        have hf : m_fm_start_L0 (n + 1) S a b t = ((-3), S) := by rw [m_fm_start_L0, if_pos c_1, if_pos c_2]
        rw [hf]
      · -- no
        have hf : m_fm_start_L0 (n + 1) S a b t = (nI t, m_fm_begin (q_st (q_st (q_st (q_st (q_st (q_st (q_st (q_st (q_st S 5 0 t (.int 1)) 6 0 t (.int 0)) 9 0 t (.int a)) 13 0 t (.int 0)) 23 0 t (.int 0)) 15 0 t (.int 1)) 17 0 (20 * t) (.int 1)) 18 0 (20 * t) (.int a)) 19 0 (20 * t) (.int b)) t) := by rw [m_fm_start_L0, if_pos c_1, if_neg c_2]
        rw [hf]
        exact ((mK_fm_begin (q_st (q_st (q_st (q_st (q_st (q_st (q_st (q_st (q_st S 5 0 t (.int 1)) 6 0 t (.int 0)) 9 0 t (.int a)) 13 0 t (.int 0)) 23 0 t (.int 0)) 15 0 t (.int 1)) 17 0 (20 * t) (.int 1)) 18 0 (20 * t) (.int a)) 19 0 (20 * t) (.int b)) t x y z h0 h7 h8 h10 h11 h12 h13 h14 h15 h16 h17 h18 h19 h20 h21 h22 h23 h24 h25 h26 h27 h28 h29 h31 h32 h33)).trans ((q_kj h19).trans ((q_kj h18).trans ((q_kj h17).trans ((q_kj h15).trans ((q_kj h23).trans ((q_kj h13).trans ((q_kj h9).trans ((q_kj h6).trans ((q_kj h5))))))))))
    · -- no
      by_cases c_27 : q_i (S 5 0 t) = 0
      · -- yes
        by_cases c_28 : nI t = 6
        · -- yes
          have hf : m_fm_start_L0 (n + 1) S a b t = ((-3), S) := by rw [m_fm_start_L0, if_neg c_1, if_pos c_27, if_pos c_28]
          rw [hf]
        · -- no
          have hf : m_fm_start_L0 (n + 1) S a b t = (nI t, m_fm_begin (q_st (q_st (q_st (q_st (q_st (q_st (q_st (q_st (q_st S 5 0 t (.int 1)) 6 0 t (.int 0)) 9 0 t (.int a)) 13 0 t (.int 0)) 23 0 t (.int 0)) 15 0 t (.int 1)) 17 0 (20 * t) (.int 1)) 18 0 (20 * t) (.int a)) 19 0 (20 * t) (.int b)) t) := by rw [m_fm_start_L0, if_neg c_1, if_pos c_27, if_neg c_28]
          rw [hf]
          exact ((mK_fm_begin (q_st (q_st (q_st (q_st (q_st (q_st (q_st (q_st (q_st S 5 0 t (.int 1)) 6 0 t (.int 0)) 9 0 t (.int a)) 13 0 t (.int 0)) 23 0 t (.int 0)) 15 0 t (.int 1)) 17 0 (20 * t) (.int 1)) 18 0 (20 * t) (.int a)) 19 0 (20 * t) (.int b)) t x y z h0 h7 h8 h10 h11 h12 h13 h14 h15 h16 h17 h18 h19 h20 h21 h22 h23 h24 h25 h26 h27 h28 h29 h31 h32 h33)).trans ((q_kj h19).trans ((q_kj h18).trans ((q_kj h17).trans ((q_kj h15).trans ((q_kj h23).trans ((q_kj h13).trans ((q_kj h9).trans ((q_kj h6).trans ((q_kj h5))))))))))
      · -- no
        have hf : m_fm_start_L0 (n + 1) S a b t = m_fm_start_L0 n S a b (t + 1) := by rw [m_fm_start_L0, if_neg c_1, if_neg c_27]
        rw [hf]
        exact (ih S a b (t + 1) x y z h0 h5 h6 h7 h8 h9 h10 h11 h12 h13 h14 h15 h16 h17 h18 h19 h20 h21 h22 h23 h24 h25 h26 h27 h28 h29 h31 h32 h33).trans (rfl)
set_option maxRecDepth 100000 in
set_option maxHeartbeats 4000000 in
theorem mI_fm_start_L0 (a b : Int32)  : ∀ (n : Nat) (S : q_S) (t : Nat), t + n = 7 → t ≤ 6 → 0 ≤ a.toInt ∧ a.toInt ≤ 2 → mI S → mJ S → mQ S → mI ((m_fm_start_L0 n S a b t).2) := by
  intro n
  induction n with
  | zero =>
    intro S t ht hu ha hI hJ hQ
    exfalso
    omega
  | succ n ih =>
    intro S t ht hu ha hI hJ hQ
    by_cases c_1 : 6 ≤ nI t
    · -- yes
      by_cases c_2 : nI t = 6
      · -- yes
        have hf : m_fm_start_L0 (n + 1) S a b t = ((-3), S) := by rw [m_fm_start_L0, if_pos c_1, if_pos c_2]
        rw [hf]
        exact hI
      · -- no
        have h_3 : vp_in (nI t) 6 := by have e_c_2 := lv_neT c_2 (a := 6) (by decide); simp only [Int32.lt_iff_toInt_lt, Int32.le_iff_toInt_le, q_n0, q_n1, q_n2, q_n3, q_n4, q_n5, q_n6, q_n7, q_n8, q_n9, q_n10, q_n11, q_n12, q_n13, q_n14, q_n15, q_n20, q_n60, q_n1288] at c_1; have l1 := nI_toInt (n := t) (by omega); have l2 : (6 : Int32).toInt = 6 := rfl; rw [vp_in_iff]; omega
        have s_4 : (nI t).toNatClampNeg = t := by have e_c_2 := lv_neT c_2 (a := 6) (by decide); simp only [Int32.lt_iff_toInt_lt, Int32.le_iff_toInt_le, q_n0, q_n1, q_n2, q_n3, q_n4, q_n5, q_n6, q_n7, q_n8, q_n9, q_n10, q_n11, q_n12, q_n13, q_n14, q_n15, q_n20, q_n60, q_n1288] at c_1; have l1 := nI_toInt (n := t) (by omega); have l2 : (6 : Int32).toInt = 6 := rfl; apply q_tn; omega
        have h_5 : vp_in (nI t) 6 := by have e_c_2 := lv_neT c_2 (a := 6) (by decide); simp only [Int32.lt_iff_toInt_lt, Int32.le_iff_toInt_le, q_n0, q_n1, q_n2, q_n3, q_n4, q_n5, q_n6, q_n7, q_n8, q_n9, q_n10, q_n11, q_n12, q_n13, q_n14, q_n15, q_n20, q_n60, q_n1288] at c_1; have l1 := nI_toInt (n := t) (by omega); have l2 : (6 : Int32).toInt = 6 := rfl; rw [vp_in_iff]; omega
        have s_6 : (nI t).toNatClampNeg = t := by have e_c_2 := lv_neT c_2 (a := 6) (by decide); simp only [Int32.lt_iff_toInt_lt, Int32.le_iff_toInt_le, q_n0, q_n1, q_n2, q_n3, q_n4, q_n5, q_n6, q_n7, q_n8, q_n9, q_n10, q_n11, q_n12, q_n13, q_n14, q_n15, q_n20, q_n60, q_n1288] at c_1; have l1 := nI_toInt (n := t) (by omega); have l2 : (6 : Int32).toInt = 6 := rfl; apply q_tn; omega
        have h_7 : vp_in (nI t) 6 := by have e_c_2 := lv_neT c_2 (a := 6) (by decide); simp only [Int32.lt_iff_toInt_lt, Int32.le_iff_toInt_le, q_n0, q_n1, q_n2, q_n3, q_n4, q_n5, q_n6, q_n7, q_n8, q_n9, q_n10, q_n11, q_n12, q_n13, q_n14, q_n15, q_n20, q_n60, q_n1288] at c_1; have l1 := nI_toInt (n := t) (by omega); have l2 : (6 : Int32).toInt = 6 := rfl; rw [vp_in_iff]; omega
        have s_8 : (nI t).toNatClampNeg = t := by have e_c_2 := lv_neT c_2 (a := 6) (by decide); simp only [Int32.lt_iff_toInt_lt, Int32.le_iff_toInt_le, q_n0, q_n1, q_n2, q_n3, q_n4, q_n5, q_n6, q_n7, q_n8, q_n9, q_n10, q_n11, q_n12, q_n13, q_n14, q_n15, q_n20, q_n60, q_n1288] at c_1; have l1 := nI_toInt (n := t) (by omega); have l2 : (6 : Int32).toInt = 6 := rfl; apply q_tn; omega
        have h_9 : vp_in (nI t) 6 := by have e_c_2 := lv_neT c_2 (a := 6) (by decide); simp only [Int32.lt_iff_toInt_lt, Int32.le_iff_toInt_le, q_n0, q_n1, q_n2, q_n3, q_n4, q_n5, q_n6, q_n7, q_n8, q_n9, q_n10, q_n11, q_n12, q_n13, q_n14, q_n15, q_n20, q_n60, q_n1288] at c_1; have l1 := nI_toInt (n := t) (by omega); have l2 : (6 : Int32).toInt = 6 := rfl; rw [vp_in_iff]; omega
        have s_10 : (nI t).toNatClampNeg = t := by have e_c_2 := lv_neT c_2 (a := 6) (by decide); simp only [Int32.lt_iff_toInt_lt, Int32.le_iff_toInt_le, q_n0, q_n1, q_n2, q_n3, q_n4, q_n5, q_n6, q_n7, q_n8, q_n9, q_n10, q_n11, q_n12, q_n13, q_n14, q_n15, q_n20, q_n60, q_n1288] at c_1; have l1 := nI_toInt (n := t) (by omega); have l2 : (6 : Int32).toInt = 6 := rfl; apply q_tn; omega
        have h_11 : vp_in (nI t) 6 := by have e_c_2 := lv_neT c_2 (a := 6) (by decide); simp only [Int32.lt_iff_toInt_lt, Int32.le_iff_toInt_le, q_n0, q_n1, q_n2, q_n3, q_n4, q_n5, q_n6, q_n7, q_n8, q_n9, q_n10, q_n11, q_n12, q_n13, q_n14, q_n15, q_n20, q_n60, q_n1288] at c_1; have l1 := nI_toInt (n := t) (by omega); have l2 : (6 : Int32).toInt = 6 := rfl; rw [vp_in_iff]; omega
        have s_12 : (nI t).toNatClampNeg = t := by have e_c_2 := lv_neT c_2 (a := 6) (by decide); simp only [Int32.lt_iff_toInt_lt, Int32.le_iff_toInt_le, q_n0, q_n1, q_n2, q_n3, q_n4, q_n5, q_n6, q_n7, q_n8, q_n9, q_n10, q_n11, q_n12, q_n13, q_n14, q_n15, q_n20, q_n60, q_n1288] at c_1; have l1 := nI_toInt (n := t) (by omega); have l2 : (6 : Int32).toInt = 6 := rfl; apply q_tn; omega
        have h_13 : vp_in (nI t) 6 := by have e_c_2 := lv_neT c_2 (a := 6) (by decide); simp only [Int32.lt_iff_toInt_lt, Int32.le_iff_toInt_le, q_n0, q_n1, q_n2, q_n3, q_n4, q_n5, q_n6, q_n7, q_n8, q_n9, q_n10, q_n11, q_n12, q_n13, q_n14, q_n15, q_n20, q_n60, q_n1288] at c_1; have l1 := nI_toInt (n := t) (by omega); have l2 : (6 : Int32).toInt = 6 := rfl; rw [vp_in_iff]; omega
        have s_14 : (nI t).toNatClampNeg = t := by have e_c_2 := lv_neT c_2 (a := 6) (by decide); simp only [Int32.lt_iff_toInt_lt, Int32.le_iff_toInt_le, q_n0, q_n1, q_n2, q_n3, q_n4, q_n5, q_n6, q_n7, q_n8, q_n9, q_n10, q_n11, q_n12, q_n13, q_n14, q_n15, q_n20, q_n60, q_n1288] at c_1; have l1 := nI_toInt (n := t) (by omega); have l2 : (6 : Int32).toInt = 6 := rfl; apply q_tn; omega
        have h_15 : vp_in (20 * (nI t)) 120 := by have e_c_2 := lv_neT c_2 (a := 6) (by decide); simp only [Int32.lt_iff_toInt_lt, Int32.le_iff_toInt_le, q_n0, q_n1, q_n2, q_n3, q_n4, q_n5, q_n6, q_n7, q_n8, q_n9, q_n10, q_n11, q_n12, q_n13, q_n14, q_n15, q_n20, q_n60, q_n1288] at c_1; have l1 : (20 : Int32).toInt = 20 := rfl; have l2 := nI_toInt (n := t) (by omega); have l3 := q_mulI (c := 20) (x := nI t) (k := 20) rfl (by omega); have l4 : (6 : Int32).toInt = 6 := rfl; rw [vp_in_iff]; omega
        have s_16 : (20 * (nI t)).toNatClampNeg = 20 * t := by have e_c_2 := lv_neT c_2 (a := 6) (by decide); simp only [Int32.lt_iff_toInt_lt, Int32.le_iff_toInt_le, q_n0, q_n1, q_n2, q_n3, q_n4, q_n5, q_n6, q_n7, q_n8, q_n9, q_n10, q_n11, q_n12, q_n13, q_n14, q_n15, q_n20, q_n60, q_n1288] at c_1; have l1 : (20 : Int32).toInt = 20 := rfl; have l2 := nI_toInt (n := t) (by omega); have l3 := q_mulI (c := 20) (x := nI t) (k := 20) rfl (by omega); have l4 : (6 : Int32).toInt = 6 := rfl; apply q_tn; omega
        have h_17 : vp_in (20 * (nI t)) 120 := by have e_c_2 := lv_neT c_2 (a := 6) (by decide); simp only [Int32.lt_iff_toInt_lt, Int32.le_iff_toInt_le, q_n0, q_n1, q_n2, q_n3, q_n4, q_n5, q_n6, q_n7, q_n8, q_n9, q_n10, q_n11, q_n12, q_n13, q_n14, q_n15, q_n20, q_n60, q_n1288] at c_1; have l1 : (20 : Int32).toInt = 20 := rfl; have l2 := nI_toInt (n := t) (by omega); have l3 := q_mulI (c := 20) (x := nI t) (k := 20) rfl (by omega); have l4 : (6 : Int32).toInt = 6 := rfl; rw [vp_in_iff]; omega
        have s_18 : (20 * (nI t)).toNatClampNeg = 20 * t := by have e_c_2 := lv_neT c_2 (a := 6) (by decide); simp only [Int32.lt_iff_toInt_lt, Int32.le_iff_toInt_le, q_n0, q_n1, q_n2, q_n3, q_n4, q_n5, q_n6, q_n7, q_n8, q_n9, q_n10, q_n11, q_n12, q_n13, q_n14, q_n15, q_n20, q_n60, q_n1288] at c_1; have l1 : (20 : Int32).toInt = 20 := rfl; have l2 := nI_toInt (n := t) (by omega); have l3 := q_mulI (c := 20) (x := nI t) (k := 20) rfl (by omega); have l4 : (6 : Int32).toInt = 6 := rfl; apply q_tn; omega
        have h_19 : vp_in (20 * (nI t)) 120 := by have e_c_2 := lv_neT c_2 (a := 6) (by decide); simp only [Int32.lt_iff_toInt_lt, Int32.le_iff_toInt_le, q_n0, q_n1, q_n2, q_n3, q_n4, q_n5, q_n6, q_n7, q_n8, q_n9, q_n10, q_n11, q_n12, q_n13, q_n14, q_n15, q_n20, q_n60, q_n1288] at c_1; have l1 : (20 : Int32).toInt = 20 := rfl; have l2 := nI_toInt (n := t) (by omega); have l3 := q_mulI (c := 20) (x := nI t) (k := 20) rfl (by omega); have l4 : (6 : Int32).toInt = 6 := rfl; rw [vp_in_iff]; omega
        have s_20 : (20 * (nI t)).toNatClampNeg = 20 * t := by have e_c_2 := lv_neT c_2 (a := 6) (by decide); simp only [Int32.lt_iff_toInt_lt, Int32.le_iff_toInt_le, q_n0, q_n1, q_n2, q_n3, q_n4, q_n5, q_n6, q_n7, q_n8, q_n9, q_n10, q_n11, q_n12, q_n13, q_n14, q_n15, q_n20, q_n60, q_n1288] at c_1; have l1 : (20 : Int32).toInt = 20 := rfl; have l2 := nI_toInt (n := t) (by omega); have l3 := q_mulI (c := 20) (x := nI t) (k := 20) rfl (by omega); have l4 : (6 : Int32).toInt = 6 := rfl; apply q_tn; omega
        have h_21 : t < 6 := by have e_c_2 := lv_neT c_2 (a := 6) (by decide); simp only [Int32.lt_iff_toInt_lt, Int32.le_iff_toInt_le, q_n0, q_n1, q_n2, q_n3, q_n4, q_n5, q_n6, q_n7, q_n8, q_n9, q_n10, q_n11, q_n12, q_n13, q_n14, q_n15, q_n20, q_n60, q_n1288] at c_1; have l1 := nI_toInt (n := t) (by omega); have l2 : (6 : Int32).toInt = 6 := rfl; omega
        have hI_22 : mI (q_st (q_st (q_st (q_st (q_st (q_st (q_st (q_st (q_st S 5 0 t (.int 1)) 6 0 t (.int 0)) 9 0 t (.int a)) 13 0 t (.int 0)) 23 0 t (.int 0)) 15 0 t (.int 1)) 17 0 (20 * t) (.int 1)) 18 0 (20 * t) (.int a)) 19 0 (20 * t) (.int b)) := (mIs (mIs (mIs (mI_st (mI_st (mIs (mI_st (mIs (mIs hI rfl) rfl) (by have e_c_2 := lv_neT c_2 (a := 6) (by decide); simp only [Int32.lt_iff_toInt_lt, Int32.le_iff_toInt_le, q_n0, q_n1, q_n2, q_n3, q_n4, q_n5, q_n6, q_n7, q_n8, q_n9, q_n10, q_n11, q_n12, q_n13, q_n14, q_n15, q_n20, q_n60, q_n1288] at c_1; have l1 : (6 : Int32).toInt = 6 := rfl; have l2 := nI_toInt (n := t) (by omega); show 0 ≤ (a).toInt ∧ (a).toInt ≤ 2; omega)) rfl) (by show (0 : Int) ≤ (0 : Int32).toInt ∧ (0 : Int32).toInt ≤ 4; decide)) (by show (0 : Int) ≤ (1 : Int32).toInt ∧ (1 : Int32).toInt ≤ 20; decide)) rfl) rfl) rfl)
        have hJ_23 : mJ (q_st (q_st (q_st (q_st (q_st (q_st (q_st (q_st (q_st S 5 0 t (.int 1)) 6 0 t (.int 0)) 9 0 t (.int a)) 13 0 t (.int 0)) 23 0 t (.int 0)) 15 0 t (.int 1)) 17 0 (20 * t) (.int 1)) 18 0 (20 * t) (.int a)) 19 0 (20 * t) (.int b)) := mJ_eq hJ (fun k => ((q_kj (by decide)).trans ((q_kj (by decide)).trans ((q_kj (by decide)).trans ((q_kj (by decide)).trans ((q_kj (by decide)).trans ((q_kj (by decide)).trans ((q_kj (by decide)).trans ((q_kj (by decide)).trans (q_kj (by decide))))))))))) (fun k => ((q_kj (by decide)).trans ((q_kj (by decide)).trans ((q_kj (by decide)).trans ((q_kj (by decide)).trans ((q_kj (by decide)).trans ((q_kj (by decide)).trans ((q_kj (by decide)).trans ((q_kj (by decide)).trans (q_kj (by decide))))))))))) (fun k => ((q_kj (by decide)).trans ((q_kj (by decide)).trans ((q_kj (by decide)).trans ((q_kj (by decide)).trans ((q_kj (by decide)).trans ((q_kj (by decide)).trans ((q_kj (by decide)).trans ((q_kj (by decide)).trans (q_kj (by decide))))))))))) (fun k => ((q_kj (by decide)).trans ((q_kj (by decide)).trans ((q_kj (by decide)).trans ((q_kj (by decide)).trans ((q_kj (by decide)).trans ((q_kj (by decide)).trans ((q_kj (by decide)).trans ((q_kj (by decide)).trans (q_kj (by decide)))))))))))
        have hQ_24 : mQ (q_st (q_st (q_st (q_st (q_st (q_st (q_st (q_st (q_st S 5 0 t (.int 1)) 6 0 t (.int 0)) 9 0 t (.int a)) 13 0 t (.int 0)) 23 0 t (.int 0)) 15 0 t (.int 1)) 17 0 (20 * t) (.int 1)) 18 0 (20 * t) (.int a)) 19 0 (20 * t) (.int b)) := mQ_eq hQ ((q_kj (by decide)).trans ((q_kj (by decide)).trans ((q_kj (by decide)).trans ((q_kj (by decide)).trans ((q_kj (by decide)).trans ((q_kj (by decide)).trans ((q_kj (by decide)).trans ((q_kj (by decide)).trans (q_kj (by decide)))))))))) (fun _ => ((q_kj (by decide)).trans ((q_kj (by decide)).trans ((q_kj (by decide)).trans ((q_kj (by decide)).trans ((q_kj (by decide)).trans ((q_kj (by decide)).trans ((q_kj (by decide)).trans ((q_kj (by decide)).trans (q_kj (by decide))))))))))) (fun _ => ((q_kj (by decide)).trans ((q_kj (by decide)).trans ((q_kj (by decide)).trans ((q_kj (by decide)).trans ((q_kj (by decide)).trans ((q_kj (by decide)).trans ((q_kj (by decide)).trans ((q_kj (by decide)).trans (q_kj (by decide)))))))))))
        have hf : m_fm_start_L0 (n + 1) S a b t = (nI t, m_fm_begin (q_st (q_st (q_st (q_st (q_st (q_st (q_st (q_st (q_st S 5 0 t (.int 1)) 6 0 t (.int 0)) 9 0 t (.int a)) 13 0 t (.int 0)) 23 0 t (.int 0)) 15 0 t (.int 1)) 17 0 (20 * t) (.int 1)) 18 0 (20 * t) (.int a)) 19 0 (20 * t) (.int b)) t) := by rw [m_fm_start_L0, if_pos c_1, if_neg c_2]
        rw [hf]
        exact (mI_fm_begin (q_st (q_st (q_st (q_st (q_st (q_st (q_st (q_st (q_st S 5 0 t (.int 1)) 6 0 t (.int 0)) 9 0 t (.int a)) 13 0 t (.int 0)) 23 0 t (.int 0)) 15 0 t (.int 1)) 17 0 (20 * t) (.int 1)) 18 0 (20 * t) (.int a)) 19 0 (20 * t) (.int b)) t h_21 hI_22 hJ_23 hQ_24 (by rw [show q_i ((q_st (q_st (q_st (q_st (q_st (q_st (q_st (q_st (q_st S 5 0 t (.int 1)) 6 0 t (.int 0)) 9 0 t (.int a)) 13 0 t (.int 0)) 23 0 t (.int 0)) 15 0 t (.int 1)) 17 0 (20 * t) (.int 1)) 18 0 (20 * t) (.int a)) 19 0 (20 * t) (.int b)) 15 0 t) = 1 from q_sj (by decide) (q_sj (by decide) (q_sj (by decide) (q_ss)))]; decide))
    · -- no
      by_cases c_27 : q_i (S 5 0 t) = 0
      · -- yes
        by_cases c_28 : nI t = 6
        · -- yes
          have h_25 : vp_in (nI t) 6 := by simp only [Int32.lt_iff_toInt_lt, Int32.le_iff_toInt_le, q_n0, q_n1, q_n2, q_n3, q_n4, q_n5, q_n6, q_n7, q_n8, q_n9, q_n10, q_n11, q_n12, q_n13, q_n14, q_n15, q_n20, q_n60, q_n1288] at c_1; have l1 := nI_toInt (n := t) (by omega); have l2 : (6 : Int32).toInt = 6 := rfl; rw [vp_in_iff]; omega
          have s_26 : (nI t).toNatClampNeg = t := by simp only [Int32.lt_iff_toInt_lt, Int32.le_iff_toInt_le, q_n0, q_n1, q_n2, q_n3, q_n4, q_n5, q_n6, q_n7, q_n8, q_n9, q_n10, q_n11, q_n12, q_n13, q_n14, q_n15, q_n20, q_n60, q_n1288] at c_1; have l1 := nI_toInt (n := t) (by omega); have l2 : (6 : Int32).toInt = 6 := rfl; apply q_tn; omega
          have hf : m_fm_start_L0 (n + 1) S a b t = ((-3), S) := by rw [m_fm_start_L0, if_neg c_1, if_pos c_27, if_pos c_28]
          rw [hf]
          exact hI
        · -- no
          have h_25 : vp_in (nI t) 6 := by simp only [Int32.lt_iff_toInt_lt, Int32.le_iff_toInt_le, q_n0, q_n1, q_n2, q_n3, q_n4, q_n5, q_n6, q_n7, q_n8, q_n9, q_n10, q_n11, q_n12, q_n13, q_n14, q_n15, q_n20, q_n60, q_n1288] at c_1; have l1 := nI_toInt (n := t) (by omega); have l2 : (6 : Int32).toInt = 6 := rfl; rw [vp_in_iff]; omega
          have s_26 : (nI t).toNatClampNeg = t := by simp only [Int32.lt_iff_toInt_lt, Int32.le_iff_toInt_le, q_n0, q_n1, q_n2, q_n3, q_n4, q_n5, q_n6, q_n7, q_n8, q_n9, q_n10, q_n11, q_n12, q_n13, q_n14, q_n15, q_n20, q_n60, q_n1288] at c_1; have l1 := nI_toInt (n := t) (by omega); have l2 : (6 : Int32).toInt = 6 := rfl; apply q_tn; omega
          have h_29 : vp_in (nI t) 6 := by have e_c_27 : (q_i (S 5 0 t)).toInt = 0 := (by rw [c_27]; rfl); have e_c_28 := lv_neT c_28 (a := 6) (by decide); simp only [Int32.lt_iff_toInt_lt, Int32.le_iff_toInt_le, q_n0, q_n1, q_n2, q_n3, q_n4, q_n5, q_n6, q_n7, q_n8, q_n9, q_n10, q_n11, q_n12, q_n13, q_n14, q_n15, q_n20, q_n60, q_n1288] at c_1; have l1 := nI_toInt (n := t) (by omega); have l2 : (6 : Int32).toInt = 6 := rfl; rw [vp_in_iff]; omega
          have s_30 : (nI t).toNatClampNeg = t := by have e_c_27 : (q_i (S 5 0 t)).toInt = 0 := (by rw [c_27]; rfl); have e_c_28 := lv_neT c_28 (a := 6) (by decide); simp only [Int32.lt_iff_toInt_lt, Int32.le_iff_toInt_le, q_n0, q_n1, q_n2, q_n3, q_n4, q_n5, q_n6, q_n7, q_n8, q_n9, q_n10, q_n11, q_n12, q_n13, q_n14, q_n15, q_n20, q_n60, q_n1288] at c_1; have l1 := nI_toInt (n := t) (by omega); have l2 : (6 : Int32).toInt = 6 := rfl; apply q_tn; omega
          have h_31 : vp_in (nI t) 6 := by have e_c_27 : (q_i (S 5 0 t)).toInt = 0 := (by rw [c_27]; rfl); have e_c_28 := lv_neT c_28 (a := 6) (by decide); simp only [Int32.lt_iff_toInt_lt, Int32.le_iff_toInt_le, q_n0, q_n1, q_n2, q_n3, q_n4, q_n5, q_n6, q_n7, q_n8, q_n9, q_n10, q_n11, q_n12, q_n13, q_n14, q_n15, q_n20, q_n60, q_n1288] at c_1; have l1 := nI_toInt (n := t) (by omega); have l2 : (6 : Int32).toInt = 6 := rfl; rw [vp_in_iff]; omega
          have s_32 : (nI t).toNatClampNeg = t := by have e_c_27 : (q_i (S 5 0 t)).toInt = 0 := (by rw [c_27]; rfl); have e_c_28 := lv_neT c_28 (a := 6) (by decide); simp only [Int32.lt_iff_toInt_lt, Int32.le_iff_toInt_le, q_n0, q_n1, q_n2, q_n3, q_n4, q_n5, q_n6, q_n7, q_n8, q_n9, q_n10, q_n11, q_n12, q_n13, q_n14, q_n15, q_n20, q_n60, q_n1288] at c_1; have l1 := nI_toInt (n := t) (by omega); have l2 : (6 : Int32).toInt = 6 := rfl; apply q_tn; omega
          have h_33 : vp_in (nI t) 6 := by have e_c_27 : (q_i (S 5 0 t)).toInt = 0 := (by rw [c_27]; rfl); have e_c_28 := lv_neT c_28 (a := 6) (by decide); simp only [Int32.lt_iff_toInt_lt, Int32.le_iff_toInt_le, q_n0, q_n1, q_n2, q_n3, q_n4, q_n5, q_n6, q_n7, q_n8, q_n9, q_n10, q_n11, q_n12, q_n13, q_n14, q_n15, q_n20, q_n60, q_n1288] at c_1; have l1 := nI_toInt (n := t) (by omega); have l2 : (6 : Int32).toInt = 6 := rfl; rw [vp_in_iff]; omega
          have s_34 : (nI t).toNatClampNeg = t := by have e_c_27 : (q_i (S 5 0 t)).toInt = 0 := (by rw [c_27]; rfl); have e_c_28 := lv_neT c_28 (a := 6) (by decide); simp only [Int32.lt_iff_toInt_lt, Int32.le_iff_toInt_le, q_n0, q_n1, q_n2, q_n3, q_n4, q_n5, q_n6, q_n7, q_n8, q_n9, q_n10, q_n11, q_n12, q_n13, q_n14, q_n15, q_n20, q_n60, q_n1288] at c_1; have l1 := nI_toInt (n := t) (by omega); have l2 : (6 : Int32).toInt = 6 := rfl; apply q_tn; omega
          have h_35 : vp_in (nI t) 6 := by have e_c_27 : (q_i (S 5 0 t)).toInt = 0 := (by rw [c_27]; rfl); have e_c_28 := lv_neT c_28 (a := 6) (by decide); simp only [Int32.lt_iff_toInt_lt, Int32.le_iff_toInt_le, q_n0, q_n1, q_n2, q_n3, q_n4, q_n5, q_n6, q_n7, q_n8, q_n9, q_n10, q_n11, q_n12, q_n13, q_n14, q_n15, q_n20, q_n60, q_n1288] at c_1; have l1 := nI_toInt (n := t) (by omega); have l2 : (6 : Int32).toInt = 6 := rfl; rw [vp_in_iff]; omega
          have s_36 : (nI t).toNatClampNeg = t := by have e_c_27 : (q_i (S 5 0 t)).toInt = 0 := (by rw [c_27]; rfl); have e_c_28 := lv_neT c_28 (a := 6) (by decide); simp only [Int32.lt_iff_toInt_lt, Int32.le_iff_toInt_le, q_n0, q_n1, q_n2, q_n3, q_n4, q_n5, q_n6, q_n7, q_n8, q_n9, q_n10, q_n11, q_n12, q_n13, q_n14, q_n15, q_n20, q_n60, q_n1288] at c_1; have l1 := nI_toInt (n := t) (by omega); have l2 : (6 : Int32).toInt = 6 := rfl; apply q_tn; omega
          have h_37 : vp_in (nI t) 6 := by have e_c_27 : (q_i (S 5 0 t)).toInt = 0 := (by rw [c_27]; rfl); have e_c_28 := lv_neT c_28 (a := 6) (by decide); simp only [Int32.lt_iff_toInt_lt, Int32.le_iff_toInt_le, q_n0, q_n1, q_n2, q_n3, q_n4, q_n5, q_n6, q_n7, q_n8, q_n9, q_n10, q_n11, q_n12, q_n13, q_n14, q_n15, q_n20, q_n60, q_n1288] at c_1; have l1 := nI_toInt (n := t) (by omega); have l2 : (6 : Int32).toInt = 6 := rfl; rw [vp_in_iff]; omega
          have s_38 : (nI t).toNatClampNeg = t := by have e_c_27 : (q_i (S 5 0 t)).toInt = 0 := (by rw [c_27]; rfl); have e_c_28 := lv_neT c_28 (a := 6) (by decide); simp only [Int32.lt_iff_toInt_lt, Int32.le_iff_toInt_le, q_n0, q_n1, q_n2, q_n3, q_n4, q_n5, q_n6, q_n7, q_n8, q_n9, q_n10, q_n11, q_n12, q_n13, q_n14, q_n15, q_n20, q_n60, q_n1288] at c_1; have l1 := nI_toInt (n := t) (by omega); have l2 : (6 : Int32).toInt = 6 := rfl; apply q_tn; omega
          have h_39 : vp_in (nI t) 6 := by have e_c_27 : (q_i (S 5 0 t)).toInt = 0 := (by rw [c_27]; rfl); have e_c_28 := lv_neT c_28 (a := 6) (by decide); simp only [Int32.lt_iff_toInt_lt, Int32.le_iff_toInt_le, q_n0, q_n1, q_n2, q_n3, q_n4, q_n5, q_n6, q_n7, q_n8, q_n9, q_n10, q_n11, q_n12, q_n13, q_n14, q_n15, q_n20, q_n60, q_n1288] at c_1; have l1 := nI_toInt (n := t) (by omega); have l2 : (6 : Int32).toInt = 6 := rfl; rw [vp_in_iff]; omega
          have s_40 : (nI t).toNatClampNeg = t := by have e_c_27 : (q_i (S 5 0 t)).toInt = 0 := (by rw [c_27]; rfl); have e_c_28 := lv_neT c_28 (a := 6) (by decide); simp only [Int32.lt_iff_toInt_lt, Int32.le_iff_toInt_le, q_n0, q_n1, q_n2, q_n3, q_n4, q_n5, q_n6, q_n7, q_n8, q_n9, q_n10, q_n11, q_n12, q_n13, q_n14, q_n15, q_n20, q_n60, q_n1288] at c_1; have l1 := nI_toInt (n := t) (by omega); have l2 : (6 : Int32).toInt = 6 := rfl; apply q_tn; omega
          have h_41 : vp_in (20 * (nI t)) 120 := by have e_c_27 : (q_i (S 5 0 t)).toInt = 0 := (by rw [c_27]; rfl); have e_c_28 := lv_neT c_28 (a := 6) (by decide); simp only [Int32.lt_iff_toInt_lt, Int32.le_iff_toInt_le, q_n0, q_n1, q_n2, q_n3, q_n4, q_n5, q_n6, q_n7, q_n8, q_n9, q_n10, q_n11, q_n12, q_n13, q_n14, q_n15, q_n20, q_n60, q_n1288] at c_1; have l1 : (20 : Int32).toInt = 20 := rfl; have l2 := nI_toInt (n := t) (by omega); have l3 := q_mulI (c := 20) (x := nI t) (k := 20) rfl (by omega); have l4 : (6 : Int32).toInt = 6 := rfl; rw [vp_in_iff]; omega
          have s_42 : (20 * (nI t)).toNatClampNeg = 20 * t := by have e_c_27 : (q_i (S 5 0 t)).toInt = 0 := (by rw [c_27]; rfl); have e_c_28 := lv_neT c_28 (a := 6) (by decide); simp only [Int32.lt_iff_toInt_lt, Int32.le_iff_toInt_le, q_n0, q_n1, q_n2, q_n3, q_n4, q_n5, q_n6, q_n7, q_n8, q_n9, q_n10, q_n11, q_n12, q_n13, q_n14, q_n15, q_n20, q_n60, q_n1288] at c_1; have l1 : (20 : Int32).toInt = 20 := rfl; have l2 := nI_toInt (n := t) (by omega); have l3 := q_mulI (c := 20) (x := nI t) (k := 20) rfl (by omega); have l4 : (6 : Int32).toInt = 6 := rfl; apply q_tn; omega
          have h_43 : vp_in (20 * (nI t)) 120 := by have e_c_27 : (q_i (S 5 0 t)).toInt = 0 := (by rw [c_27]; rfl); have e_c_28 := lv_neT c_28 (a := 6) (by decide); simp only [Int32.lt_iff_toInt_lt, Int32.le_iff_toInt_le, q_n0, q_n1, q_n2, q_n3, q_n4, q_n5, q_n6, q_n7, q_n8, q_n9, q_n10, q_n11, q_n12, q_n13, q_n14, q_n15, q_n20, q_n60, q_n1288] at c_1; have l1 : (20 : Int32).toInt = 20 := rfl; have l2 := nI_toInt (n := t) (by omega); have l3 := q_mulI (c := 20) (x := nI t) (k := 20) rfl (by omega); have l4 : (6 : Int32).toInt = 6 := rfl; rw [vp_in_iff]; omega
          have s_44 : (20 * (nI t)).toNatClampNeg = 20 * t := by have e_c_27 : (q_i (S 5 0 t)).toInt = 0 := (by rw [c_27]; rfl); have e_c_28 := lv_neT c_28 (a := 6) (by decide); simp only [Int32.lt_iff_toInt_lt, Int32.le_iff_toInt_le, q_n0, q_n1, q_n2, q_n3, q_n4, q_n5, q_n6, q_n7, q_n8, q_n9, q_n10, q_n11, q_n12, q_n13, q_n14, q_n15, q_n20, q_n60, q_n1288] at c_1; have l1 : (20 : Int32).toInt = 20 := rfl; have l2 := nI_toInt (n := t) (by omega); have l3 := q_mulI (c := 20) (x := nI t) (k := 20) rfl (by omega); have l4 : (6 : Int32).toInt = 6 := rfl; apply q_tn; omega
          have h_45 : vp_in (20 * (nI t)) 120 := by have e_c_27 : (q_i (S 5 0 t)).toInt = 0 := (by rw [c_27]; rfl); have e_c_28 := lv_neT c_28 (a := 6) (by decide); simp only [Int32.lt_iff_toInt_lt, Int32.le_iff_toInt_le, q_n0, q_n1, q_n2, q_n3, q_n4, q_n5, q_n6, q_n7, q_n8, q_n9, q_n10, q_n11, q_n12, q_n13, q_n14, q_n15, q_n20, q_n60, q_n1288] at c_1; have l1 : (20 : Int32).toInt = 20 := rfl; have l2 := nI_toInt (n := t) (by omega); have l3 := q_mulI (c := 20) (x := nI t) (k := 20) rfl (by omega); have l4 : (6 : Int32).toInt = 6 := rfl; rw [vp_in_iff]; omega
          have s_46 : (20 * (nI t)).toNatClampNeg = 20 * t := by have e_c_27 : (q_i (S 5 0 t)).toInt = 0 := (by rw [c_27]; rfl); have e_c_28 := lv_neT c_28 (a := 6) (by decide); simp only [Int32.lt_iff_toInt_lt, Int32.le_iff_toInt_le, q_n0, q_n1, q_n2, q_n3, q_n4, q_n5, q_n6, q_n7, q_n8, q_n9, q_n10, q_n11, q_n12, q_n13, q_n14, q_n15, q_n20, q_n60, q_n1288] at c_1; have l1 : (20 : Int32).toInt = 20 := rfl; have l2 := nI_toInt (n := t) (by omega); have l3 := q_mulI (c := 20) (x := nI t) (k := 20) rfl (by omega); have l4 : (6 : Int32).toInt = 6 := rfl; apply q_tn; omega
          have h_47 : t < 6 := by have e_c_27 : (q_i (S 5 0 t)).toInt = 0 := (by rw [c_27]; rfl); have e_c_28 := lv_neT c_28 (a := 6) (by decide); simp only [Int32.lt_iff_toInt_lt, Int32.le_iff_toInt_le, q_n0, q_n1, q_n2, q_n3, q_n4, q_n5, q_n6, q_n7, q_n8, q_n9, q_n10, q_n11, q_n12, q_n13, q_n14, q_n15, q_n20, q_n60, q_n1288] at c_1; have l1 := nI_toInt (n := t) (by omega); have l2 : (6 : Int32).toInt = 6 := rfl; omega
          have hI_48 : mI (q_st (q_st (q_st (q_st (q_st (q_st (q_st (q_st (q_st S 5 0 t (.int 1)) 6 0 t (.int 0)) 9 0 t (.int a)) 13 0 t (.int 0)) 23 0 t (.int 0)) 15 0 t (.int 1)) 17 0 (20 * t) (.int 1)) 18 0 (20 * t) (.int a)) 19 0 (20 * t) (.int b)) := (mIs (mIs (mIs (mI_st (mI_st (mIs (mI_st (mIs (mIs hI rfl) rfl) (by have e_c_27 : (q_i (S 5 0 t)).toInt = 0 := (by rw [c_27]; rfl); have e_c_28 := lv_neT c_28 (a := 6) (by decide); simp only [Int32.lt_iff_toInt_lt, Int32.le_iff_toInt_le, q_n0, q_n1, q_n2, q_n3, q_n4, q_n5, q_n6, q_n7, q_n8, q_n9, q_n10, q_n11, q_n12, q_n13, q_n14, q_n15, q_n20, q_n60, q_n1288] at c_1; have l1 : (6 : Int32).toInt = 6 := rfl; have l2 := nI_toInt (n := t) (by omega); show 0 ≤ (a).toInt ∧ (a).toInt ≤ 2; omega)) rfl) (by show (0 : Int) ≤ (0 : Int32).toInt ∧ (0 : Int32).toInt ≤ 4; decide)) (by show (0 : Int) ≤ (1 : Int32).toInt ∧ (1 : Int32).toInt ≤ 20; decide)) rfl) rfl) rfl)
          have hJ_49 : mJ (q_st (q_st (q_st (q_st (q_st (q_st (q_st (q_st (q_st S 5 0 t (.int 1)) 6 0 t (.int 0)) 9 0 t (.int a)) 13 0 t (.int 0)) 23 0 t (.int 0)) 15 0 t (.int 1)) 17 0 (20 * t) (.int 1)) 18 0 (20 * t) (.int a)) 19 0 (20 * t) (.int b)) := mJ_eq hJ (fun k => ((q_kj (by decide)).trans ((q_kj (by decide)).trans ((q_kj (by decide)).trans ((q_kj (by decide)).trans ((q_kj (by decide)).trans ((q_kj (by decide)).trans ((q_kj (by decide)).trans ((q_kj (by decide)).trans (q_kj (by decide))))))))))) (fun k => ((q_kj (by decide)).trans ((q_kj (by decide)).trans ((q_kj (by decide)).trans ((q_kj (by decide)).trans ((q_kj (by decide)).trans ((q_kj (by decide)).trans ((q_kj (by decide)).trans ((q_kj (by decide)).trans (q_kj (by decide))))))))))) (fun k => ((q_kj (by decide)).trans ((q_kj (by decide)).trans ((q_kj (by decide)).trans ((q_kj (by decide)).trans ((q_kj (by decide)).trans ((q_kj (by decide)).trans ((q_kj (by decide)).trans ((q_kj (by decide)).trans (q_kj (by decide))))))))))) (fun k => ((q_kj (by decide)).trans ((q_kj (by decide)).trans ((q_kj (by decide)).trans ((q_kj (by decide)).trans ((q_kj (by decide)).trans ((q_kj (by decide)).trans ((q_kj (by decide)).trans ((q_kj (by decide)).trans (q_kj (by decide)))))))))))
          have hQ_50 : mQ (q_st (q_st (q_st (q_st (q_st (q_st (q_st (q_st (q_st S 5 0 t (.int 1)) 6 0 t (.int 0)) 9 0 t (.int a)) 13 0 t (.int 0)) 23 0 t (.int 0)) 15 0 t (.int 1)) 17 0 (20 * t) (.int 1)) 18 0 (20 * t) (.int a)) 19 0 (20 * t) (.int b)) := mQ_eq hQ ((q_kj (by decide)).trans ((q_kj (by decide)).trans ((q_kj (by decide)).trans ((q_kj (by decide)).trans ((q_kj (by decide)).trans ((q_kj (by decide)).trans ((q_kj (by decide)).trans ((q_kj (by decide)).trans (q_kj (by decide)))))))))) (fun _ => ((q_kj (by decide)).trans ((q_kj (by decide)).trans ((q_kj (by decide)).trans ((q_kj (by decide)).trans ((q_kj (by decide)).trans ((q_kj (by decide)).trans ((q_kj (by decide)).trans ((q_kj (by decide)).trans (q_kj (by decide))))))))))) (fun _ => ((q_kj (by decide)).trans ((q_kj (by decide)).trans ((q_kj (by decide)).trans ((q_kj (by decide)).trans ((q_kj (by decide)).trans ((q_kj (by decide)).trans ((q_kj (by decide)).trans ((q_kj (by decide)).trans (q_kj (by decide)))))))))))
          have hf : m_fm_start_L0 (n + 1) S a b t = (nI t, m_fm_begin (q_st (q_st (q_st (q_st (q_st (q_st (q_st (q_st (q_st S 5 0 t (.int 1)) 6 0 t (.int 0)) 9 0 t (.int a)) 13 0 t (.int 0)) 23 0 t (.int 0)) 15 0 t (.int 1)) 17 0 (20 * t) (.int 1)) 18 0 (20 * t) (.int a)) 19 0 (20 * t) (.int b)) t) := by rw [m_fm_start_L0, if_neg c_1, if_pos c_27, if_neg c_28]
          rw [hf]
          exact (mI_fm_begin (q_st (q_st (q_st (q_st (q_st (q_st (q_st (q_st (q_st S 5 0 t (.int 1)) 6 0 t (.int 0)) 9 0 t (.int a)) 13 0 t (.int 0)) 23 0 t (.int 0)) 15 0 t (.int 1)) 17 0 (20 * t) (.int 1)) 18 0 (20 * t) (.int a)) 19 0 (20 * t) (.int b)) t h_47 hI_48 hJ_49 hQ_50 (by rw [show q_i ((q_st (q_st (q_st (q_st (q_st (q_st (q_st (q_st (q_st S 5 0 t (.int 1)) 6 0 t (.int 0)) 9 0 t (.int a)) 13 0 t (.int 0)) 23 0 t (.int 0)) 15 0 t (.int 1)) 17 0 (20 * t) (.int 1)) 18 0 (20 * t) (.int a)) 19 0 (20 * t) (.int b)) 15 0 t) = 1 from q_sj (by decide) (q_sj (by decide) (q_sj (by decide) (q_ss)))]; decide))
      · -- no
        have h_25 : vp_in (nI t) 6 := by simp only [Int32.lt_iff_toInt_lt, Int32.le_iff_toInt_le, q_n0, q_n1, q_n2, q_n3, q_n4, q_n5, q_n6, q_n7, q_n8, q_n9, q_n10, q_n11, q_n12, q_n13, q_n14, q_n15, q_n20, q_n60, q_n1288] at c_1; have l1 := nI_toInt (n := t) (by omega); have l2 : (6 : Int32).toInt = 6 := rfl; rw [vp_in_iff]; omega
        have s_26 : (nI t).toNatClampNeg = t := by simp only [Int32.lt_iff_toInt_lt, Int32.le_iff_toInt_le, q_n0, q_n1, q_n2, q_n3, q_n4, q_n5, q_n6, q_n7, q_n8, q_n9, q_n10, q_n11, q_n12, q_n13, q_n14, q_n15, q_n20, q_n60, q_n1288] at c_1; have l1 := nI_toInt (n := t) (by omega); have l2 : (6 : Int32).toInt = 6 := rfl; apply q_tn; omega
        have hf : m_fm_start_L0 (n + 1) S a b t = m_fm_start_L0 n S a b (t + 1) := by rw [m_fm_start_L0, if_neg c_1, if_neg c_27]
        rw [hf]
        exact ih S (t + 1) (by have n_t := nI_toInt (n := t) (by omega); have m_t := q_nT (n := t) (by omega); simp only [Int32.lt_iff_toInt_lt, Int32.le_iff_toInt_le, q_n0, q_n1, q_n2, q_n3, q_n4, q_n5, q_n6, q_n7, q_n8, q_n9, q_n10, q_n11, q_n12, q_n13, q_n14, q_n15, q_n20, q_n60, q_n1288] at c_1; omega) (by have n_t := nI_toInt (n := t) (by omega); have m_t := q_nT (n := t) (by omega); simp only [Int32.lt_iff_toInt_lt, Int32.le_iff_toInt_le, q_n0, q_n1, q_n2, q_n3, q_n4, q_n5, q_n6, q_n7, q_n8, q_n9, q_n10, q_n11, q_n12, q_n13, q_n14, q_n15, q_n20, q_n60, q_n1288] at c_1; omega) ha hI hJ hQ
def m_fm_start (S : q_S) (a b : Int32) : Int32 × q_S :=
  if m_fm_in S a 0 2 = 0 then
    ((-1), S)
  else
    m_fm_start_L0 7 S a b 0
set_option maxRecDepth 100000 in
set_option maxHeartbeats 4000000 in
theorem mC_fm_start (l : Launch) (G : q_G) (S : q_S) (a b : Int32) (hI : mI S) (hJ : mJ S) (hQ : mQ S) : q_Mi mX G l my_fm_start (q_ws (q_gw lw_tbl) my_fm_start mb_fm_start 4 (some .int)) (q_rm 10) [.ref (q_a mX G 0 0), .int a, .int b] S (m_fm_start S a b).1 (m_fm_start S a b).2 := by
  refine q_met (cc := mb_fm_start) (maxL := 4) (ret := (some .int)) mOk (by decide) rfl (Nat.le_of_ble_eq_true rfl) ?_
  intro p e s m below meth c ls hC hr hlocks hW hS hl
  have hx := hC.1.1
  have hb := hC.1.2.1
  have hl : lv_has ls 4 [(0, .ref (q_a mX G 0 0)), (1, .int a), (2, .int b)] := hl
  refine lv_iload_n hx hb md_fm_start_0 rfl (lv_at hl 1 rfl) ?_
  refine lv_iconst (v := 0) hx hb md_fm_start_1 (by decide) ?_
  refine lv_iconst (v := 2) hx hb md_fm_start_2 (by decide) ?_
  refine q_calli hC hS (fun _ h => h) (q_runS (rest := []) hC hW (mC_fm_in l G S a 0 2) (mc_fm_111 (q_rm 0) hC.1.2.2.2.2 ⟨Nat.le_of_ble_eq_true rfl, Nat.le_of_ble_eq_true rfl⟩ rfl rfl) rfl hl.1 rfl (Nat.le_of_ble_eq_true rfl) md_fm_start_3 ⟨Nat.zero_le _, Nat.zero_le _⟩) (fun H locs hW hS => ?_)
  refine lv_if_ne (tgt := 11) hx hb md_fm_start_6 (by decide) (fun c_1 => ?_) (fun c_1 => ?_)
  · -- taken
    refine lv_iconst (v := 0) hx hb md_fm_start_11 (by decide) ?_
    refine lv_istore_n (lv' := [(3, .int 0), (0, .ref (q_a mX G 0 0)), (1, .int a), (2, .int b)]) hx hb md_fm_start_12 rfl hl (by decide) rfl (fun ls hl => ?_)
    have hf : m_fm_start S a b = m_fm_start_L0 7 S a b 0 := by unfold m_fm_start; rw [if_neg c_1]
    rw [hf]
    have hl2 : lv_has ls 4 [(0, .ref (q_a mX G 0 0)), (1, .int a), (2, .int b), (3, .int (nI 0))] := by rw [(show nI 0 = 0 from rfl)]; exact lv_sub hl [1, 2, 3, 0] rfl
    exact mL_fm_start_L0 l G a b  hC hr hlocks 7 S 0 _ _ ls (by obtain ⟨f_c_1_0, f_c_1_1⟩ := mF_in c_1; simp only [Int32.lt_iff_toInt_lt, Int32.le_iff_toInt_le, q_n0, q_n1, q_n2, q_n3, q_n4, q_n5, q_n6, q_n7, q_n8, q_n9, q_n10, q_n11, q_n12, q_n13, q_n14, q_n15, q_n20, q_n60, q_n1288] at f_c_1_0 f_c_1_1; omega) (by obtain ⟨f_c_1_0, f_c_1_1⟩ := mF_in c_1; simp only [Int32.lt_iff_toInt_lt, Int32.le_iff_toInt_le, q_n0, q_n1, q_n2, q_n3, q_n4, q_n5, q_n6, q_n7, q_n8, q_n9, q_n10, q_n11, q_n12, q_n13, q_n14, q_n15, q_n20, q_n60, q_n1288] at f_c_1_0 f_c_1_1; omega) (by obtain ⟨f_c_1_0, f_c_1_1⟩ := mF_in c_1; simp only [Int32.lt_iff_toInt_lt, Int32.le_iff_toInt_le, q_n0, q_n1, q_n2, q_n3, q_n4, q_n5, q_n6, q_n7, q_n8, q_n9, q_n10, q_n11, q_n12, q_n13, q_n14, q_n15, q_n20, q_n60, q_n1288] at f_c_1_0 f_c_1_1; have l1 : (0 : Int32).toInt = 0 := rfl; have l2 : (2 : Int32).toInt = 2 := rfl; omega) hI hJ hQ hW hS hl2
  · -- not taken
    refine lv_iconst (v := (-1)) hx hb md_fm_start_9 (by decide) ?_
    have hf : m_fm_start S a b = ((-1), S) := by unfold m_fm_start; rw [if_pos c_1]
    rw [hf]
    exact q_iret hC hr hlocks hW hS rfl rfl md_fm_start_10
set_option maxRecDepth 100000 in
set_option maxHeartbeats 4000000 in
theorem mI_fm_start (S : q_S) (a b : Int32) (hI : mI S) (hJ : mJ S) (hQ : mQ S) : mI ((m_fm_start S a b).2) := by
  by_cases c_1 : m_fm_in S a 0 2 = 0
  · -- yes
    have hf : m_fm_start S a b = ((-1), S) := by unfold m_fm_start; rw [if_pos c_1]
    rw [hf]
    exact hI
  · -- no
    have hf : m_fm_start S a b = m_fm_start_L0 7 S a b 0 := by unfold m_fm_start; rw [if_neg c_1]
    rw [hf]
    exact mI_fm_start_L0 a b  7 S 0 (by obtain ⟨f_c_1_0, f_c_1_1⟩ := mF_in c_1; simp only [Int32.lt_iff_toInt_lt, Int32.le_iff_toInt_le, q_n0, q_n1, q_n2, q_n3, q_n4, q_n5, q_n6, q_n7, q_n8, q_n9, q_n10, q_n11, q_n12, q_n13, q_n14, q_n15, q_n20, q_n60, q_n1288] at f_c_1_0 f_c_1_1; omega) (by obtain ⟨f_c_1_0, f_c_1_1⟩ := mF_in c_1; simp only [Int32.lt_iff_toInt_lt, Int32.le_iff_toInt_le, q_n0, q_n1, q_n2, q_n3, q_n4, q_n5, q_n6, q_n7, q_n8, q_n9, q_n10, q_n11, q_n12, q_n13, q_n14, q_n15, q_n20, q_n60, q_n1288] at f_c_1_0 f_c_1_1; omega) (by obtain ⟨f_c_1_0, f_c_1_1⟩ := mF_in c_1; simp only [Int32.lt_iff_toInt_lt, Int32.le_iff_toInt_le, q_n0, q_n1, q_n2, q_n3, q_n4, q_n5, q_n6, q_n7, q_n8, q_n9, q_n10, q_n11, q_n12, q_n13, q_n14, q_n15, q_n20, q_n60, q_n1288] at f_c_1_0 f_c_1_1; have l1 : (0 : Int32).toInt = 0 := rfl; have l2 : (2 : Int32).toInt = 2 := rfl; omega) hI hJ hQ
set_option maxRecDepth 100000 in
set_option maxHeartbeats 4000000 in
theorem mK_fm_start (S : q_S) (a b : Int32) (x y z : Nat) (h0 : x ≠ 0) (h5 : x ≠ 5) (h6 : x ≠ 6) (h7 : x ≠ 7) (h8 : x ≠ 8) (h9 : x ≠ 9) (h10 : x ≠ 10) (h11 : x ≠ 11) (h12 : x ≠ 12) (h13 : x ≠ 13) (h14 : x ≠ 14) (h15 : x ≠ 15) (h16 : x ≠ 16) (h17 : x ≠ 17) (h18 : x ≠ 18) (h19 : x ≠ 19) (h20 : x ≠ 20) (h21 : x ≠ 21) (h22 : x ≠ 22) (h23 : x ≠ 23) (h24 : x ≠ 24) (h25 : x ≠ 25) (h26 : x ≠ 26) (h27 : x ≠ 27) (h28 : x ≠ 28) (h29 : x ≠ 29) (h31 : x ≠ 31) (h32 : x ≠ 32) (h33 : x ≠ 33) : (m_fm_start S a b).2 x y z = S x y z := by
  by_cases c_1 : m_fm_in S a 0 2 = 0
  · -- yes
    have hf : m_fm_start S a b = ((-1), S) := by unfold m_fm_start; rw [if_pos c_1]
    rw [hf]
  · -- no
    have hf : m_fm_start S a b = m_fm_start_L0 7 S a b 0 := by unfold m_fm_start; rw [if_neg c_1]
    rw [hf]
    exact (mK_fm_start_L0 7 S a b 0 x y z h0 h5 h6 h7 h8 h9 h10 h11 h12 h13 h14 h15 h16 h17 h18 h19 h20 h21 h22 h23 h24 h25 h26 h27 h28 h29 h31 h32 h33).trans (rfl)
