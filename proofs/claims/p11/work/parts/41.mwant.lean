def m_fm_want (S : q_S) (i : Nat) (a b d : Int32) : q_S :=
  if m_fm_left S i = 0 then
    if (m_fm_put S i 2 a b).1 = 0 then
      (m_fm_put S i 2 a b).2
    else
      m_fm_newTask (q_st (q_st ((m_fm_put S i 2 a b).2) 27 0 i (.int a)) 10 0 i (.int d)) i a
  else
    if (m_fm_put S i 2 a b).1 = 0 then
      (m_fm_put S i 2 a b).2
    else
      q_st (q_st ((m_fm_put S i 2 a b).2) 27 0 i (.int a)) 10 0 i (.int d)
set_option maxRecDepth 100000 in
set_option maxHeartbeats 4000000 in
theorem mC_fm_want (l : Launch) (G : q_G) (S : q_S) (i : Nat) (a b d : Int32) (hi : i < 6) (hI : mI S) (hg : (q_i (S 16 0 i)).toInt ≤ (q_i (S 15 0 i)).toInt) (hQ : mQ S) : q_Mv mX G l my_fm_want (q_ws (q_gw lw_tbl) my_fm_want mb_fm_want 7 none) (q_rm 5) [.ref (q_a mX G 0 0), .int (nI i), .int a, .int b, .int d] S (m_fm_want S i a b d) := by
  refine q_met (cc := mb_fm_want) (maxL := 7) (ret := none) mOk (by decide) rfl (Nat.le_of_ble_eq_true rfl) ?_
  intro p e s m below meth c ls hC hr hlocks hW hS hl
  have hx := hC.1.1
  have hb := hC.1.2.1
  have hl : lv_has ls 7 [(0, .ref (q_a mX G 0 0)), (1, .int (nI i)), (2, .int a), (3, .int b), (4, .int d)] := hl
  refine lv_aload_n hx hb md_fm_want_0 rfl (lv_at hl 0 rfl) ?_
  refine lv_iload_n hx hb md_fm_want_1 rfl (lv_at hl 1 rfl) ?_
  refine q_calli hC hS (fun _ h => h) (q_runV (rest := []) hC hW (mC_fm_left l G S i hi) (mc_fm_139 (q_rm 0) hC.1.2.2.2.2 ⟨Nat.le_of_ble_eq_true rfl, Nat.le_of_ble_eq_true rfl⟩ rfl rfl) Nat.one_pos rfl rfl rfl hl.1 rfl (Nat.le_of_ble_eq_true rfl) md_fm_want_2 ⟨Nat.zero_le _, Nat.zero_le _⟩) (fun H locs hW hS => ?_)
  refine lv_if_ne (tgt := 12) hx hb md_fm_want_5 (by decide) (fun c_1 => ?_) (fun c_1 => ?_)
  · -- taken
    refine lv_iconst (v := 0) hx hb md_fm_want_12 (by decide) ?_
    refine lv_istore (lv' := [(5, .int 0), (0, .ref (q_a mX G 0 0)), (1, .int (nI i)), (2, .int a), (3, .int b), (4, .int d)]) hx hb md_fm_want_13 hl (by decide) rfl (fun ls hl => ?_)
    refine lv_aload_n hx hb md_fm_want_15 rfl (lv_at hl 1 rfl) ?_
    refine lv_iload_n hx hb md_fm_want_16 rfl (lv_at hl 2 rfl) ?_
    refine lv_iconst (v := 2) hx hb md_fm_want_17 (by decide) ?_
    refine lv_iload_n hx hb md_fm_want_18 rfl (lv_at hl 3 rfl) ?_
    refine lv_iload_n hx hb md_fm_want_19 rfl (lv_at hl 4 rfl) ?_
    refine q_calli hC hS (fun _ h => h) (q_runV (rest := []) hC hW (mC_fm_put l G S i 2 a b hi hI hg) (mc_fm_150 (q_rm 4) hC.1.2.2.2.2 ⟨Nat.le_of_ble_eq_true rfl, Nat.le_of_ble_eq_true rfl⟩ rfl rfl) Nat.one_pos rfl rfl rfl hl.1 rfl (Nat.le_of_ble_eq_true rfl) md_fm_want_20 ⟨Nat.zero_le _, Nat.zero_le _⟩) (fun H locs hW hS => ?_)
    refine lv_istore (lv' := [(6, .int ((m_fm_put S i 2 a b).1)), (5, .int 0), (0, .ref (q_a mX G 0 0)), (1, .int (nI i)), (2, .int a), (3, .int b), (4, .int d)]) hx hb md_fm_want_23 hl (by decide) rfl (fun ls hl => ?_)
    refine lv_iload hx hb md_fm_want_25 (lv_at hl 0 rfl) ?_
    refine lv_if_ne (tgt := 31) hx hb md_fm_want_27 (by decide) (fun c_2 => ?_) (fun c_2 => ?_)
    · -- taken
      refine lv_aload_n hx hb md_fm_want_31 rfl (lv_at hl 2 rfl) ?_
      refine mg_fm_90 hC hW 0 Nat.one_pos md_fm_want_32 ?_
      refine lv_iload_n hx hb md_fm_want_35 rfl (lv_at hl 3 rfl) ?_
      refine lv_iload_n hx hb md_fm_want_36 rfl (lv_at hl 4 rfl) ?_
      have h_3 : vp_in (nI i) 6 := by have e_c_1 := lv_neT c_1 (a := 0) (by decide); have e_c_2 := lv_neT c_2 (a := 0) (by decide); have l1 := nI_toInt (n := i) (by omega); have l2 := mF_left hI i; have l3 : 0 ≤ (q_i (S 15 0 i)).toInt ∧ (q_i (S 15 0 i)).toInt ≤ 20 := hI 15 0 i; have l4 : 0 ≤ (q_i (S 16 0 i)).toInt ∧ (q_i (S 16 0 i)).toInt ≤ 20 := hI 16 0 i; rw [vp_in_iff]; omega
      have s_4 : (nI i).toNatClampNeg = i := by have e_c_1 := lv_neT c_1 (a := 0) (by decide); have e_c_2 := lv_neT c_2 (a := 0) (by decide); have l1 := nI_toInt (n := i) (by omega); have l2 := mF_left hI i; have l3 : 0 ≤ (q_i (S 15 0 i)).toInt ∧ (q_i (S 15 0 i)).toInt ≤ 20 := hI 15 0 i; have l4 : 0 ≤ (q_i (S 16 0 i)).toInt ∧ (q_i (S 16 0 i)).toInt ≤ 20 := hI 16 0 i; apply q_tn; omega
      refine mase_27 hC hW hS (fun _ h => h) h_3 s_4 md_fm_want_37 (fun H locs hW hS => ?_)
      refine lv_aload_n hx hb md_fm_want_38 rfl (lv_at hl 2 rfl) ?_
      refine mg_fm_38 hC hW 0 Nat.one_pos md_fm_want_39 ?_
      refine lv_iload_n hx hb md_fm_want_42 rfl (lv_at hl 3 rfl) ?_
      refine lv_iload hx hb md_fm_want_43 (lv_at hl 6 rfl) ?_
      have h_5 : vp_in (nI i) 6 := by have e_c_1 := lv_neT c_1 (a := 0) (by decide); have e_c_2 := lv_neT c_2 (a := 0) (by decide); have l1 := nI_toInt (n := i) (by omega); have l2 := mF_left hI i; have l3 : 0 ≤ (q_i (S 15 0 i)).toInt ∧ (q_i (S 15 0 i)).toInt ≤ 20 := hI 15 0 i; have l4 : 0 ≤ (q_i (S 16 0 i)).toInt ∧ (q_i (S 16 0 i)).toInt ≤ 20 := hI 16 0 i; rw [vp_in_iff]; omega
      have s_6 : (nI i).toNatClampNeg = i := by have e_c_1 := lv_neT c_1 (a := 0) (by decide); have e_c_2 := lv_neT c_2 (a := 0) (by decide); have l1 := nI_toInt (n := i) (by omega); have l2 := mF_left hI i; have l3 : 0 ≤ (q_i (S 15 0 i)).toInt ∧ (q_i (S 15 0 i)).toInt ≤ 20 := hI 15 0 i; have l4 : 0 ≤ (q_i (S 16 0 i)).toInt ∧ (q_i (S 16 0 i)).toInt ≤ 20 := hI 16 0 i; apply q_tn; omega
      refine mase_10 hC hW hS (fun _ h => h) h_5 s_6 md_fm_want_45 (fun H locs hW hS => ?_)
      refine lv_iload hx hb md_fm_want_46 (lv_at hl 1 rfl) ?_
      refine lv_if_eq (tgt := 57) hx hb md_fm_want_48 (by decide) (fun _ => ?_) (fun c_7 => absurd c_7 (by decide))
      have hf : m_fm_want S i a b d = q_st (q_st ((m_fm_put S i 2 a b).2) 27 0 i (.int a)) 10 0 i (.int d) := by unfold m_fm_want; rw [if_neg c_1, if_neg c_2]
      rw [hf]
      exact q_vret hC hr hlocks hW hS rfl md_fm_want_57
    · -- not taken
      have hf : m_fm_want S i a b d = (m_fm_put S i 2 a b).2 := by unfold m_fm_want; rw [if_neg c_1, if_pos c_2]
      rw [hf]
      exact q_vret hC hr hlocks hW hS rfl md_fm_want_30
  · -- not taken
    refine lv_iconst (v := 1) hx hb md_fm_want_8 (by decide) ?_
    refine lv_goto (tgt := 13) hx hb md_fm_want_9 (by decide) ?_
    refine lv_istore (lv' := [(5, .int 1), (0, .ref (q_a mX G 0 0)), (1, .int (nI i)), (2, .int a), (3, .int b), (4, .int d)]) hx hb md_fm_want_13 hl (by decide) rfl (fun ls hl => ?_)
    refine lv_aload_n hx hb md_fm_want_15 rfl (lv_at hl 1 rfl) ?_
    refine lv_iload_n hx hb md_fm_want_16 rfl (lv_at hl 2 rfl) ?_
    refine lv_iconst (v := 2) hx hb md_fm_want_17 (by decide) ?_
    refine lv_iload_n hx hb md_fm_want_18 rfl (lv_at hl 3 rfl) ?_
    refine lv_iload_n hx hb md_fm_want_19 rfl (lv_at hl 4 rfl) ?_
    refine q_calli hC hS (fun _ h => h) (q_runV (rest := []) hC hW (mC_fm_put l G S i 2 a b hi hI hg) (mc_fm_150 (q_rm 4) hC.1.2.2.2.2 ⟨Nat.le_of_ble_eq_true rfl, Nat.le_of_ble_eq_true rfl⟩ rfl rfl) Nat.one_pos rfl rfl rfl hl.1 rfl (Nat.le_of_ble_eq_true rfl) md_fm_want_20 ⟨Nat.zero_le _, Nat.zero_le _⟩) (fun H locs hW hS => ?_)
    refine lv_istore (lv' := [(6, .int ((m_fm_put S i 2 a b).1)), (5, .int 1), (0, .ref (q_a mX G 0 0)), (1, .int (nI i)), (2, .int a), (3, .int b), (4, .int d)]) hx hb md_fm_want_23 hl (by decide) rfl (fun ls hl => ?_)
    refine lv_iload hx hb md_fm_want_25 (lv_at hl 0 rfl) ?_
    refine lv_if_ne (tgt := 31) hx hb md_fm_want_27 (by decide) (fun c_8 => ?_) (fun c_8 => ?_)
    · -- taken
      refine lv_aload_n hx hb md_fm_want_31 rfl (lv_at hl 2 rfl) ?_
      refine mg_fm_90 hC hW 0 Nat.one_pos md_fm_want_32 ?_
      refine lv_iload_n hx hb md_fm_want_35 rfl (lv_at hl 3 rfl) ?_
      refine lv_iload_n hx hb md_fm_want_36 rfl (lv_at hl 4 rfl) ?_
      have h_9 : vp_in (nI i) 6 := by have e_c_1 : (m_fm_left S i).toInt = 0 := (by rw [c_1]; rfl); have e_c_8 := lv_neT c_8 (a := 0) (by decide); have l1 := nI_toInt (n := i) (by omega); have l2 := mF_left hI i; have l3 : 0 ≤ (q_i (S 15 0 i)).toInt ∧ (q_i (S 15 0 i)).toInt ≤ 20 := hI 15 0 i; have l4 : 0 ≤ (q_i (S 16 0 i)).toInt ∧ (q_i (S 16 0 i)).toInt ≤ 20 := hI 16 0 i; rw [vp_in_iff]; omega
      have s_10 : (nI i).toNatClampNeg = i := by have e_c_1 : (m_fm_left S i).toInt = 0 := (by rw [c_1]; rfl); have e_c_8 := lv_neT c_8 (a := 0) (by decide); have l1 := nI_toInt (n := i) (by omega); have l2 := mF_left hI i; have l3 : 0 ≤ (q_i (S 15 0 i)).toInt ∧ (q_i (S 15 0 i)).toInt ≤ 20 := hI 15 0 i; have l4 : 0 ≤ (q_i (S 16 0 i)).toInt ∧ (q_i (S 16 0 i)).toInt ≤ 20 := hI 16 0 i; apply q_tn; omega
      refine mase_27 hC hW hS (fun _ h => h) h_9 s_10 md_fm_want_37 (fun H locs hW hS => ?_)
      refine lv_aload_n hx hb md_fm_want_38 rfl (lv_at hl 2 rfl) ?_
      refine mg_fm_38 hC hW 0 Nat.one_pos md_fm_want_39 ?_
      refine lv_iload_n hx hb md_fm_want_42 rfl (lv_at hl 3 rfl) ?_
      refine lv_iload hx hb md_fm_want_43 (lv_at hl 6 rfl) ?_
      have h_11 : vp_in (nI i) 6 := by have e_c_1 : (m_fm_left S i).toInt = 0 := (by rw [c_1]; rfl); have e_c_8 := lv_neT c_8 (a := 0) (by decide); have l1 := nI_toInt (n := i) (by omega); have l2 := mF_left hI i; have l3 : 0 ≤ (q_i (S 15 0 i)).toInt ∧ (q_i (S 15 0 i)).toInt ≤ 20 := hI 15 0 i; have l4 : 0 ≤ (q_i (S 16 0 i)).toInt ∧ (q_i (S 16 0 i)).toInt ≤ 20 := hI 16 0 i; rw [vp_in_iff]; omega
      have s_12 : (nI i).toNatClampNeg = i := by have e_c_1 : (m_fm_left S i).toInt = 0 := (by rw [c_1]; rfl); have e_c_8 := lv_neT c_8 (a := 0) (by decide); have l1 := nI_toInt (n := i) (by omega); have l2 := mF_left hI i; have l3 : 0 ≤ (q_i (S 15 0 i)).toInt ∧ (q_i (S 15 0 i)).toInt ≤ 20 := hI 15 0 i; have l4 : 0 ≤ (q_i (S 16 0 i)).toInt ∧ (q_i (S 16 0 i)).toInt ≤ 20 := hI 16 0 i; apply q_tn; omega
      refine mase_10 hC hW hS (fun _ h => h) h_11 s_12 md_fm_want_45 (fun H locs hW hS => ?_)
      refine lv_iload hx hb md_fm_want_46 (lv_at hl 1 rfl) ?_
      refine lv_if_eq (tgt := 57) hx hb md_fm_want_48 (by decide) (fun c_13 => absurd c_13 (by decide)) (fun _ => ?_)
      refine lv_aload_n hx hb md_fm_want_51 rfl (lv_at hl 2 rfl) ?_
      refine lv_iload_n hx hb md_fm_want_52 rfl (lv_at hl 3 rfl) ?_
      refine lv_iload_n hx hb md_fm_want_53 rfl (lv_at hl 4 rfl) ?_
      refine W.eq (g2 := F0 m 54 ls [.int a, .int (nI i), .ref (q_a mX G 0 0)]) rfl ?_
      have hI_14 : mI (q_st (q_st ((m_fm_put S i 2 a b).2) 27 0 i (.int a)) 10 0 i (.int d)) := (mIs (mIs (mI_fm_put S i 2 a b hi hI hg) rfl) rfl)
      have hI_15 : mI (q_st (q_st ((m_fm_put S i 2 a b).2) 27 0 i (.int a)) 10 0 i (.int d)) := (mIs (mIs (mI_fm_put S i 2 a b hi hI hg) rfl) rfl)
      have hQ_16 : mQ (q_st (q_st ((m_fm_put S i 2 a b).2) 27 0 i (.int a)) 10 0 i (.int d)) := mQ_eq (mQ_fm_put S i 2 a b hi hI hg hQ) ((q_kj (by decide)).trans (q_kj (by decide))) (fun _ => ((q_kj (by decide)).trans (q_kj (by decide)))) (fun _ => ((q_kj (by decide)).trans (q_kj (by decide))))
      refine q_callv hC hS (fun _ h => h) (q_runV (rest := []) hC hW (mC_fm_newTask l G (q_st (q_st ((m_fm_put S i 2 a b).2) 27 0 i (.int a)) 10 0 i (.int d)) i a hi hI_14 (mQ_q hi hI_15 hQ_16)) (mc_fm_154 (q_rm 2) hC.1.2.2.2.2 ⟨Nat.le_of_ble_eq_true rfl, Nat.le_of_ble_eq_true rfl⟩ rfl rfl) Nat.one_pos rfl rfl rfl hl.1 rfl (Nat.le_of_ble_eq_true rfl) md_fm_want_54 ⟨Nat.zero_le _, Nat.zero_le _⟩) (fun H locs hW hS => ?_)
      have hf : m_fm_want S i a b d = m_fm_newTask (q_st (q_st ((m_fm_put S i 2 a b).2) 27 0 i (.int a)) 10 0 i (.int d)) i a := by unfold m_fm_want; rw [if_pos c_1, if_neg c_8]
      rw [hf]
      exact q_vret hC hr hlocks hW hS rfl md_fm_want_57
    · -- not taken
      have hf : m_fm_want S i a b d = (m_fm_put S i 2 a b).2 := by unfold m_fm_want; rw [if_pos c_1, if_pos c_8]
      rw [hf]
      exact q_vret hC hr hlocks hW hS rfl md_fm_want_30
set_option maxRecDepth 100000 in
set_option maxHeartbeats 4000000 in
theorem mI_fm_want (S : q_S) (i : Nat) (a b d : Int32) (hi : i < 6) (hI : mI S) (hg : (q_i (S 16 0 i)).toInt ≤ (q_i (S 15 0 i)).toInt) (hQ : mQ S) : mI (m_fm_want S i a b d) := by
  by_cases c_1 : m_fm_left S i = 0
  · -- yes
    by_cases c_8 : (m_fm_put S i 2 a b).1 = 0
    · -- yes
      have hf : m_fm_want S i a b d = (m_fm_put S i 2 a b).2 := by unfold m_fm_want; rw [if_pos c_1, if_pos c_8]
      rw [hf]
      exact (mI_fm_put S i 2 a b hi hI hg)
    · -- no
      have h_9 : vp_in (nI i) 6 := by have e_c_1 : (m_fm_left S i).toInt = 0 := (by rw [c_1]; rfl); have e_c_8 := lv_neT c_8 (a := 0) (by decide); have l1 := nI_toInt (n := i) (by omega); have l2 := mF_left hI i; have l3 : 0 ≤ (q_i (S 15 0 i)).toInt ∧ (q_i (S 15 0 i)).toInt ≤ 20 := hI 15 0 i; have l4 : 0 ≤ (q_i (S 16 0 i)).toInt ∧ (q_i (S 16 0 i)).toInt ≤ 20 := hI 16 0 i; rw [vp_in_iff]; omega
      have s_10 : (nI i).toNatClampNeg = i := by have e_c_1 : (m_fm_left S i).toInt = 0 := (by rw [c_1]; rfl); have e_c_8 := lv_neT c_8 (a := 0) (by decide); have l1 := nI_toInt (n := i) (by omega); have l2 := mF_left hI i; have l3 : 0 ≤ (q_i (S 15 0 i)).toInt ∧ (q_i (S 15 0 i)).toInt ≤ 20 := hI 15 0 i; have l4 : 0 ≤ (q_i (S 16 0 i)).toInt ∧ (q_i (S 16 0 i)).toInt ≤ 20 := hI 16 0 i; apply q_tn; omega
      have h_11 : vp_in (nI i) 6 := by have e_c_1 : (m_fm_left S i).toInt = 0 := (by rw [c_1]; rfl); have e_c_8 := lv_neT c_8 (a := 0) (by decide); have l1 := nI_toInt (n := i) (by omega); have l2 := mF_left hI i; have l3 : 0 ≤ (q_i (S 15 0 i)).toInt ∧ (q_i (S 15 0 i)).toInt ≤ 20 := hI 15 0 i; have l4 : 0 ≤ (q_i (S 16 0 i)).toInt ∧ (q_i (S 16 0 i)).toInt ≤ 20 := hI 16 0 i; rw [vp_in_iff]; omega
      have s_12 : (nI i).toNatClampNeg = i := by have e_c_1 : (m_fm_left S i).toInt = 0 := (by rw [c_1]; rfl); have e_c_8 := lv_neT c_8 (a := 0) (by decide); have l1 := nI_toInt (n := i) (by omega); have l2 := mF_left hI i; have l3 : 0 ≤ (q_i (S 15 0 i)).toInt ∧ (q_i (S 15 0 i)).toInt ≤ 20 := hI 15 0 i; have l4 : 0 ≤ (q_i (S 16 0 i)).toInt ∧ (q_i (S 16 0 i)).toInt ≤ 20 := hI 16 0 i; apply q_tn; omega
      have hI_14 : mI (q_st (q_st ((m_fm_put S i 2 a b).2) 27 0 i (.int a)) 10 0 i (.int d)) := (mIs (mIs (mI_fm_put S i 2 a b hi hI hg) rfl) rfl)
      have hI_15 : mI (q_st (q_st ((m_fm_put S i 2 a b).2) 27 0 i (.int a)) 10 0 i (.int d)) := (mIs (mIs (mI_fm_put S i 2 a b hi hI hg) rfl) rfl)
      have hQ_16 : mQ (q_st (q_st ((m_fm_put S i 2 a b).2) 27 0 i (.int a)) 10 0 i (.int d)) := mQ_eq (mQ_fm_put S i 2 a b hi hI hg hQ) ((q_kj (by decide)).trans (q_kj (by decide))) (fun _ => ((q_kj (by decide)).trans (q_kj (by decide)))) (fun _ => ((q_kj (by decide)).trans (q_kj (by decide))))
      have hf : m_fm_want S i a b d = m_fm_newTask (q_st (q_st ((m_fm_put S i 2 a b).2) 27 0 i (.int a)) 10 0 i (.int d)) i a := by unfold m_fm_want; rw [if_pos c_1, if_neg c_8]
      rw [hf]
      exact (mI_fm_newTask (q_st (q_st ((m_fm_put S i 2 a b).2) 27 0 i (.int a)) 10 0 i (.int d)) i a hi hI_14 (mQ_q hi hI_15 hQ_16))
  · -- no
    by_cases c_2 : (m_fm_put S i 2 a b).1 = 0
    · -- yes
      have hf : m_fm_want S i a b d = (m_fm_put S i 2 a b).2 := by unfold m_fm_want; rw [if_neg c_1, if_pos c_2]
      rw [hf]
      exact (mI_fm_put S i 2 a b hi hI hg)
    · -- no
      have h_3 : vp_in (nI i) 6 := by have e_c_1 := lv_neT c_1 (a := 0) (by decide); have e_c_2 := lv_neT c_2 (a := 0) (by decide); have l1 := nI_toInt (n := i) (by omega); have l2 := mF_left hI i; have l3 : 0 ≤ (q_i (S 15 0 i)).toInt ∧ (q_i (S 15 0 i)).toInt ≤ 20 := hI 15 0 i; have l4 : 0 ≤ (q_i (S 16 0 i)).toInt ∧ (q_i (S 16 0 i)).toInt ≤ 20 := hI 16 0 i; rw [vp_in_iff]; omega
      have s_4 : (nI i).toNatClampNeg = i := by have e_c_1 := lv_neT c_1 (a := 0) (by decide); have e_c_2 := lv_neT c_2 (a := 0) (by decide); have l1 := nI_toInt (n := i) (by omega); have l2 := mF_left hI i; have l3 : 0 ≤ (q_i (S 15 0 i)).toInt ∧ (q_i (S 15 0 i)).toInt ≤ 20 := hI 15 0 i; have l4 : 0 ≤ (q_i (S 16 0 i)).toInt ∧ (q_i (S 16 0 i)).toInt ≤ 20 := hI 16 0 i; apply q_tn; omega
      have h_5 : vp_in (nI i) 6 := by have e_c_1 := lv_neT c_1 (a := 0) (by decide); have e_c_2 := lv_neT c_2 (a := 0) (by decide); have l1 := nI_toInt (n := i) (by omega); have l2 := mF_left hI i; have l3 : 0 ≤ (q_i (S 15 0 i)).toInt ∧ (q_i (S 15 0 i)).toInt ≤ 20 := hI 15 0 i; have l4 : 0 ≤ (q_i (S 16 0 i)).toInt ∧ (q_i (S 16 0 i)).toInt ≤ 20 := hI 16 0 i; rw [vp_in_iff]; omega
      have s_6 : (nI i).toNatClampNeg = i := by have e_c_1 := lv_neT c_1 (a := 0) (by decide); have e_c_2 := lv_neT c_2 (a := 0) (by decide); have l1 := nI_toInt (n := i) (by omega); have l2 := mF_left hI i; have l3 : 0 ≤ (q_i (S 15 0 i)).toInt ∧ (q_i (S 15 0 i)).toInt ≤ 20 := hI 15 0 i; have l4 : 0 ≤ (q_i (S 16 0 i)).toInt ∧ (q_i (S 16 0 i)).toInt ≤ 20 := hI 16 0 i; apply q_tn; omega
      have hf : m_fm_want S i a b d = q_st (q_st ((m_fm_put S i 2 a b).2) 27 0 i (.int a)) 10 0 i (.int d) := by unfold m_fm_want; rw [if_neg c_1, if_neg c_2]
      rw [hf]
      exact (mIs (mIs (mI_fm_put S i 2 a b hi hI hg) rfl) rfl)
set_option maxRecDepth 100000 in
set_option maxHeartbeats 4000000 in
theorem mK_fm_want (S : q_S) (i : Nat) (a b d : Int32) (x y z : Nat) (h0 : x ≠ 0) (h7 : x ≠ 7) (h8 : x ≠ 8) (h10 : x ≠ 10) (h15 : x ≠ 15) (h16 : x ≠ 16) (h17 : x ≠ 17) (h18 : x ≠ 18) (h19 : x ≠ 19) (h27 : x ≠ 27) (h28 : x ≠ 28) (h29 : x ≠ 29) (h31 : x ≠ 31) (h32 : x ≠ 32) (h33 : x ≠ 33) : (m_fm_want S i a b d) x y z = S x y z := by
  by_cases c_1 : m_fm_left S i = 0
  · -- yes
    by_cases c_8 : (m_fm_put S i 2 a b).1 = 0
    · -- yes
      have hf : m_fm_want S i a b d = (m_fm_put S i 2 a b).2 := by unfold m_fm_want; rw [if_pos c_1, if_pos c_8]
      rw [hf]
      exact ((mK_fm_put S i 2 a b x y z h0 h7 h8 h10 h15 h16 h17 h18 h19 h29 h32 h33))
    · -- no
      have hf : m_fm_want S i a b d = m_fm_newTask (q_st (q_st ((m_fm_put S i 2 a b).2) 27 0 i (.int a)) 10 0 i (.int d)) i a := by unfold m_fm_want; rw [if_pos c_1, if_neg c_8]
      rw [hf]
      exact ((mK_fm_newTask (q_st (q_st ((m_fm_put S i 2 a b).2) 27 0 i (.int a)) 10 0 i (.int d)) i a x y z h0 h7 h8 h28 h29 h31 h32)).trans ((q_kj h10).trans ((q_kj h27).trans (((mK_fm_put S i 2 a b x y z h0 h7 h8 h10 h15 h16 h17 h18 h19 h29 h32 h33)))))
  · -- no
    by_cases c_2 : (m_fm_put S i 2 a b).1 = 0
    · -- yes
      have hf : m_fm_want S i a b d = (m_fm_put S i 2 a b).2 := by unfold m_fm_want; rw [if_neg c_1, if_pos c_2]
      rw [hf]
      exact ((mK_fm_put S i 2 a b x y z h0 h7 h8 h10 h15 h16 h17 h18 h19 h29 h32 h33))
    · -- no
      have hf : m_fm_want S i a b d = q_st (q_st ((m_fm_put S i 2 a b).2) 27 0 i (.int a)) 10 0 i (.int d) := by unfold m_fm_want; rw [if_neg c_1, if_neg c_2]
      rw [hf]
      exact (q_kj h10).trans ((q_kj h27).trans (((mK_fm_put S i 2 a b x y z h0 h7 h8 h10 h15 h16 h17 h18 h19 h29 h32 h33))))
def m_fm_undo (S : q_S) (i : Nat) : q_S :=
  if q_i (S 20 0 i) = 0 then
    m_fm_end S i 6
  else
    m_fm_want (q_st S 20 0 i (.int ((q_i (S 20 0 i)) - 1))) i (q_i (S 21 0 (6 * i + (((q_i (S 20 0 i)) - 1).toNatClampNeg)))) (q_i (S 22 0 (6 * i + (((q_i (S 20 0 i)) - 1).toNatClampNeg)))) 4
set_option maxRecDepth 100000 in
set_option maxHeartbeats 4000000 in
theorem mC_fm_undo (l : Launch) (G : q_G) (S : q_S) (i : Nat) (hi : i < 6) (hI : mI S) (hg : (q_i (S 16 0 i)).toInt ≤ (q_i (S 15 0 i)).toInt) (hQ : mQ S) : q_Mv mX G l my_fm_undo (q_ws (q_gw lw_tbl) my_fm_undo mb_fm_undo 2 none) (q_rm 6) [.ref (q_a mX G 0 0), .int (nI i)] S (m_fm_undo S i) := by
  refine q_met (cc := mb_fm_undo) (maxL := 2) (ret := none) mOk (by decide) rfl (Nat.le_of_ble_eq_true rfl) ?_
  intro p e s m below meth c ls hC hr hlocks hW hS hl
  have hx := hC.1.1
  have hb := hC.1.2.1
  have hl : lv_has ls 2 [(0, .ref (q_a mX G 0 0)), (1, .int (nI i))] := hl
  refine lv_aload_n hx hb md_fm_undo_0 rfl (lv_at hl 0 rfl) ?_
  refine mg_fm_68 hC hW 0 Nat.one_pos md_fm_undo_1 ?_
  refine lv_iload_n hx hb md_fm_undo_4 rfl (lv_at hl 1 rfl) ?_
  have h_1 : vp_in (nI i) 6 := by have l1 := nI_toInt (n := i) (by omega); rw [vp_in_iff]; omega
  have s_2 : (nI i).toNatClampNeg = i := by have l1 := nI_toInt (n := i) (by omega); apply q_tn; omega
  refine male_20 hC hW h_1 s_2 (rfl) md_fm_undo_5 ?_
  refine lv_if_ne (tgt := 17) hx hb md_fm_undo_6 (by decide) (fun c_3 => ?_) (fun c_3 => ?_)
  · -- taken
    refine lv_aload_n hx hb md_fm_undo_17 rfl (lv_at hl 0 rfl) ?_
    refine mg_fm_68 hC hW 0 Nat.one_pos md_fm_undo_18 ?_
    refine lv_iload_n hx hb md_fm_undo_21 rfl (lv_at hl 1 rfl) ?_
    refine lv_dup2_11 hx hb md_fm_undo_22 rfl rfl ?_
    have h_4 : vp_in (nI i) 6 := by have e_c_3 := lv_neT c_3 (a := 0) (by decide); have l1 := nI_toInt (n := i) (by omega); have l2 : 0 ≤ (q_i (S 20 0 i)).toInt ∧ (q_i (S 20 0 i)).toInt ≤ 6 := hI 20 0 i; rw [vp_in_iff]; omega
    have s_5 : (nI i).toNatClampNeg = i := by have e_c_3 := lv_neT c_3 (a := 0) (by decide); have l1 := nI_toInt (n := i) (by omega); have l2 : 0 ≤ (q_i (S 20 0 i)).toInt ∧ (q_i (S 20 0 i)).toInt ≤ 6 := hI 20 0 i; apply q_tn; omega
    refine male_20 hC hW h_4 s_5 (rfl) md_fm_undo_23 ?_
    refine lv_iconst (v := 1) hx hb md_fm_undo_24 (by decide) ?_
    refine lv_isub hx hb md_fm_undo_25 ?_
    have h_6 : vp_in (nI i) 6 := by have e_c_3 := lv_neT c_3 (a := 0) (by decide); have l1 := nI_toInt (n := i) (by omega); have l2 : 0 ≤ (q_i (S 20 0 i)).toInt ∧ (q_i (S 20 0 i)).toInt ≤ 6 := hI 20 0 i; rw [vp_in_iff]; omega
    have s_7 : (nI i).toNatClampNeg = i := by have e_c_3 := lv_neT c_3 (a := 0) (by decide); have l1 := nI_toInt (n := i) (by omega); have l2 : 0 ≤ (q_i (S 20 0 i)).toInt ∧ (q_i (S 20 0 i)).toInt ≤ 6 := hI 20 0 i; apply q_tn; omega
    refine mase_20 hC hW hS (fun _ h => h) h_6 s_7 md_fm_undo_26 (fun H locs hW hS => ?_)
    refine lv_aload_n hx hb md_fm_undo_27 rfl (lv_at hl 0 rfl) ?_
    refine lv_iload_n hx hb md_fm_undo_28 rfl (lv_at hl 1 rfl) ?_
    refine lv_aload_n hx hb md_fm_undo_29 rfl (lv_at hl 0 rfl) ?_
    refine mg_fm_71 hC hW 0 Nat.one_pos md_fm_undo_30 ?_
    refine lv_bipush (v := 6) hx hb md_fm_undo_33 (by decide) ?_
    refine lv_iload_n hx hb md_fm_undo_35 rfl (lv_at hl 1 rfl) ?_
    refine W.eq (g2 := F0 m 36 ls [.int (nI i), .int 6, .ref (q_a mX G 21 0), .int (nI i), .ref (q_a mX G 0 0)]) rfl ?_
    refine lv_imul hx hb md_fm_undo_36 ?_
    refine lv_aload_n hx hb md_fm_undo_37 rfl (lv_at hl 0 rfl) ?_
    refine mg_fm_68 hC hW 0 Nat.one_pos md_fm_undo_38 ?_
    refine lv_iload_n hx hb md_fm_undo_41 rfl (lv_at hl 1 rfl) ?_
    have h_8 : vp_in (nI i) 6 := by have e_c_3 := lv_neT c_3 (a := 0) (by decide); have l1 := nI_toInt (n := i) (by omega); have l2 : 0 ≤ (q_i (S 20 0 i)).toInt ∧ (q_i (S 20 0 i)).toInt ≤ 6 := hI 20 0 i; rw [vp_in_iff]; omega
    have s_9 : (nI i).toNatClampNeg = i := by have e_c_3 := lv_neT c_3 (a := 0) (by decide); have l1 := nI_toInt (n := i) (by omega); have l2 : 0 ≤ (q_i (S 20 0 i)).toInt ∧ (q_i (S 20 0 i)).toInt ≤ 6 := hI 20 0 i; apply q_tn; omega
    refine male_20 hC hW h_8 s_9 (q_ss) md_fm_undo_42 ?_
    refine lv_iadd hx hb md_fm_undo_43 ?_
    have h_10 : vp_in ((6 * (nI i)) + ((q_i (S 20 0 i)) - 1)) 36 := by have e_c_3 := lv_neT c_3 (a := 0) (by decide); have l1 : (6 : Int32).toInt = 6 := rfl; have l2 := nI_toInt (n := i) (by omega); have l3 := q_mulI (c := 6) (x := nI i) (k := 6) rfl (by omega); have l4 : 0 ≤ (q_i (S 20 0 i)).toInt ∧ (q_i (S 20 0 i)).toInt ≤ 6 := hI 20 0 i; have l5 : (1 : Int32).toInt = 1 := rfl; have l6 := q_subI (x := q_i (S 20 0 i)) (y := 1) (by omega); have l7 := q_addI (x := 6 * (nI i)) (y := (q_i (S 20 0 i)) - 1) (by omega); rw [vp_in_iff]; omega
    have s_11 : ((6 * (nI i)) + ((q_i (S 20 0 i)) - 1)).toNatClampNeg = 6 * i + (((q_i (S 20 0 i)) - 1).toNatClampNeg) := by have e_c_3 := lv_neT c_3 (a := 0) (by decide); have l1 : (6 : Int32).toInt = 6 := rfl; have l2 := nI_toInt (n := i) (by omega); have l3 := q_mulI (c := 6) (x := nI i) (k := 6) rfl (by omega); have l4 : 0 ≤ (q_i (S 20 0 i)).toInt ∧ (q_i (S 20 0 i)).toInt ≤ 6 := hI 20 0 i; have l5 : (1 : Int32).toInt = 1 := rfl; have l6 := q_subI (x := q_i (S 20 0 i)) (y := 1) (by omega); have l7 := q_addI (x := 6 * (nI i)) (y := (q_i (S 20 0 i)) - 1) (by omega); have c0 := q_clI (x := (q_i (S 20 0 i)) - 1) (by omega); apply q_tn; omega
    refine male_21 hC hW h_10 s_11 (q_sj (by decide) (rfl)) md_fm_undo_44 ?_
    refine lv_aload_n hx hb md_fm_undo_45 rfl (lv_at hl 0 rfl) ?_
    refine mg_fm_74 hC hW 0 Nat.one_pos md_fm_undo_46 ?_
    refine lv_bipush (v := 6) hx hb md_fm_undo_49 (by decide) ?_
    refine lv_iload_n hx hb md_fm_undo_51 rfl (lv_at hl 1 rfl) ?_
    refine lv_imul hx hb md_fm_undo_52 ?_
    refine lv_aload_n hx hb md_fm_undo_53 rfl (lv_at hl 0 rfl) ?_
    refine mg_fm_68 hC hW 0 Nat.one_pos md_fm_undo_54 ?_
    refine W.eq (g2 := F0 m 57 ls [.ref (q_a mX G 20 0), .int (6 * (nI i)), .ref (q_a mX G 22 0), .int (q_i (S 21 0 (6 * i + (((q_i (S 20 0 i)) - 1).toNatClampNeg)))), .int (nI i), .ref (q_a mX G 0 0)]) rfl ?_
    refine lv_iload_n hx hb md_fm_undo_57 rfl (lv_at hl 1 rfl) ?_
    have h_12 : vp_in (nI i) 6 := by have e_c_3 := lv_neT c_3 (a := 0) (by decide); have l1 := nI_toInt (n := i) (by omega); have l2 : 0 ≤ (q_i (S 20 0 i)).toInt ∧ (q_i (S 20 0 i)).toInt ≤ 6 := hI 20 0 i; rw [vp_in_iff]; omega
    have s_13 : (nI i).toNatClampNeg = i := by have e_c_3 := lv_neT c_3 (a := 0) (by decide); have l1 := nI_toInt (n := i) (by omega); have l2 : 0 ≤ (q_i (S 20 0 i)).toInt ∧ (q_i (S 20 0 i)).toInt ≤ 6 := hI 20 0 i; apply q_tn; omega
    refine male_20 hC hW h_12 s_13 (q_ss) md_fm_undo_58 ?_
    refine lv_iadd hx hb md_fm_undo_59 ?_
    have h_14 : vp_in ((6 * (nI i)) + ((q_i (S 20 0 i)) - 1)) 36 := by have e_c_3 := lv_neT c_3 (a := 0) (by decide); have l1 : (6 : Int32).toInt = 6 := rfl; have l2 := nI_toInt (n := i) (by omega); have l3 := q_mulI (c := 6) (x := nI i) (k := 6) rfl (by omega); have l4 : 0 ≤ (q_i (S 20 0 i)).toInt ∧ (q_i (S 20 0 i)).toInt ≤ 6 := hI 20 0 i; have l5 : (1 : Int32).toInt = 1 := rfl; have l6 := q_subI (x := q_i (S 20 0 i)) (y := 1) (by omega); have l7 := q_addI (x := 6 * (nI i)) (y := (q_i (S 20 0 i)) - 1) (by omega); rw [vp_in_iff]; omega
    have s_15 : ((6 * (nI i)) + ((q_i (S 20 0 i)) - 1)).toNatClampNeg = 6 * i + (((q_i (S 20 0 i)) - 1).toNatClampNeg) := by have e_c_3 := lv_neT c_3 (a := 0) (by decide); have l1 : (6 : Int32).toInt = 6 := rfl; have l2 := nI_toInt (n := i) (by omega); have l3 := q_mulI (c := 6) (x := nI i) (k := 6) rfl (by omega); have l4 : 0 ≤ (q_i (S 20 0 i)).toInt ∧ (q_i (S 20 0 i)).toInt ≤ 6 := hI 20 0 i; have l5 : (1 : Int32).toInt = 1 := rfl; have l6 := q_subI (x := q_i (S 20 0 i)) (y := 1) (by omega); have l7 := q_addI (x := 6 * (nI i)) (y := (q_i (S 20 0 i)) - 1) (by omega); have c0 := q_clI (x := (q_i (S 20 0 i)) - 1) (by omega); apply q_tn; omega
    refine male_22 hC hW h_14 s_15 (q_sj (by decide) (rfl)) md_fm_undo_60 ?_
    refine lv_iconst (v := 4) hx hb md_fm_undo_61 (by decide) ?_
    have hI_16 : mI (q_st S 20 0 i (.int ((q_i (S 20 0 i)) - 1))) := (mI_st hI (by have e_c_3 := lv_neT c_3 (a := 0) (by decide); have l1 : 0 ≤ (q_i (S 20 0 i)).toInt ∧ (q_i (S 20 0 i)).toInt ≤ 6 := hI 20 0 i; have l2 : (1 : Int32).toInt = 1 := rfl; have l3 := q_subI (x := q_i (S 20 0 i)) (y := 1) (by omega); show 0 ≤ ((q_i (S 20 0 i)) - 1).toInt ∧ ((q_i (S 20 0 i)) - 1).toInt ≤ 6; omega))
    have hg_17 : (q_i ((q_st S 20 0 i (.int ((q_i (S 20 0 i)) - 1))) 16 0 i)).toInt ≤ (q_i ((q_st S 20 0 i (.int ((q_i (S 20 0 i)) - 1))) 15 0 i)).toInt := by rw [q_kj (by decide), q_kj (by decide)]; exact hg
    have hQ_18 : mQ (q_st S 20 0 i (.int ((q_i (S 20 0 i)) - 1))) := mQ_eq hQ (q_kj (by decide)) (fun _ => (q_kj (by decide))) (fun _ => (q_kj (by decide)))
    refine q_callv hC hS (fun _ h => h) (q_runV (rest := []) hC hW (mC_fm_want l G (q_st S 20 0 i (.int ((q_i (S 20 0 i)) - 1))) i (q_i (S 21 0 (6 * i + (((q_i (S 20 0 i)) - 1).toNatClampNeg)))) (q_i (S 22 0 (6 * i + (((q_i (S 20 0 i)) - 1).toNatClampNeg)))) 4 hi hI_16 hg_17 hQ_18) (mc_fm_157 (q_rm 5) hC.1.2.2.2.2 ⟨Nat.le_of_ble_eq_true rfl, Nat.le_of_ble_eq_true rfl⟩ rfl rfl) Nat.one_pos rfl rfl rfl hl.1 rfl (Nat.le_of_ble_eq_true rfl) md_fm_undo_62 ⟨Nat.zero_le _, Nat.zero_le _⟩) (fun H locs hW hS => ?_)
    have hf : m_fm_undo S i = m_fm_want (q_st S 20 0 i (.int ((q_i (S 20 0 i)) - 1))) i (q_i (S 21 0 (6 * i + (((q_i (S 20 0 i)) - 1).toNatClampNeg)))) (q_i (S 22 0 (6 * i + (((q_i (S 20 0 i)) - 1).toNatClampNeg)))) 4 := by unfold m_fm_undo; rw [if_neg c_3]
    rw [hf]
    exact q_vret hC hr hlocks hW hS rfl md_fm_undo_65
  · -- not taken
    refine lv_aload_n hx hb md_fm_undo_9 rfl (lv_at hl 0 rfl) ?_
    refine lv_iload_n hx hb md_fm_undo_10 rfl (lv_at hl 1 rfl) ?_
    refine lv_bipush (v := 6) hx hb md_fm_undo_11 (by decide) ?_
    refine q_callv hC hS (fun _ h => h) (q_runV (rest := []) hC hW (mC_fm_end l G S i 6 hi hI (by decide)) (mc_fm_143 (q_rm 2) hC.1.2.2.2.2 ⟨Nat.le_of_ble_eq_true rfl, Nat.le_of_ble_eq_true rfl⟩ rfl rfl) Nat.one_pos rfl rfl rfl hl.1 rfl (Nat.le_of_ble_eq_true rfl) md_fm_undo_13 ⟨Nat.zero_le _, Nat.zero_le _⟩) (fun H locs hW hS => ?_)
    have hf : m_fm_undo S i = m_fm_end S i 6 := by unfold m_fm_undo; rw [if_pos c_3]
    rw [hf]
    exact q_vret hC hr hlocks hW hS rfl md_fm_undo_16
set_option maxRecDepth 100000 in
set_option maxHeartbeats 4000000 in
theorem mI_fm_undo (S : q_S) (i : Nat) (hi : i < 6) (hI : mI S) (hg : (q_i (S 16 0 i)).toInt ≤ (q_i (S 15 0 i)).toInt) (hQ : mQ S) : mI (m_fm_undo S i) := by
  by_cases c_3 : q_i (S 20 0 i) = 0
  · -- yes
    have h_1 : vp_in (nI i) 6 := by have l1 := nI_toInt (n := i) (by omega); rw [vp_in_iff]; omega
    have s_2 : (nI i).toNatClampNeg = i := by have l1 := nI_toInt (n := i) (by omega); apply q_tn; omega
    have hf : m_fm_undo S i = m_fm_end S i 6 := by unfold m_fm_undo; rw [if_pos c_3]
    rw [hf]
    exact (mI_fm_end S i 6 hi hI (by decide))
  · -- no
    have h_1 : vp_in (nI i) 6 := by have l1 := nI_toInt (n := i) (by omega); rw [vp_in_iff]; omega
    have s_2 : (nI i).toNatClampNeg = i := by have l1 := nI_toInt (n := i) (by omega); apply q_tn; omega
    have h_4 : vp_in (nI i) 6 := by have e_c_3 := lv_neT c_3 (a := 0) (by decide); have l1 := nI_toInt (n := i) (by omega); have l2 : 0 ≤ (q_i (S 20 0 i)).toInt ∧ (q_i (S 20 0 i)).toInt ≤ 6 := hI 20 0 i; rw [vp_in_iff]; omega
    have s_5 : (nI i).toNatClampNeg = i := by have e_c_3 := lv_neT c_3 (a := 0) (by decide); have l1 := nI_toInt (n := i) (by omega); have l2 : 0 ≤ (q_i (S 20 0 i)).toInt ∧ (q_i (S 20 0 i)).toInt ≤ 6 := hI 20 0 i; apply q_tn; omega
    have h_6 : vp_in (nI i) 6 := by have e_c_3 := lv_neT c_3 (a := 0) (by decide); have l1 := nI_toInt (n := i) (by omega); have l2 : 0 ≤ (q_i (S 20 0 i)).toInt ∧ (q_i (S 20 0 i)).toInt ≤ 6 := hI 20 0 i; rw [vp_in_iff]; omega
    have s_7 : (nI i).toNatClampNeg = i := by have e_c_3 := lv_neT c_3 (a := 0) (by decide); have l1 := nI_toInt (n := i) (by omega); have l2 : 0 ≤ (q_i (S 20 0 i)).toInt ∧ (q_i (S 20 0 i)).toInt ≤ 6 := hI 20 0 i; apply q_tn; omega
    have h_8 : vp_in (nI i) 6 := by have e_c_3 := lv_neT c_3 (a := 0) (by decide); have l1 := nI_toInt (n := i) (by omega); have l2 : 0 ≤ (q_i (S 20 0 i)).toInt ∧ (q_i (S 20 0 i)).toInt ≤ 6 := hI 20 0 i; rw [vp_in_iff]; omega
    have s_9 : (nI i).toNatClampNeg = i := by have e_c_3 := lv_neT c_3 (a := 0) (by decide); have l1 := nI_toInt (n := i) (by omega); have l2 : 0 ≤ (q_i (S 20 0 i)).toInt ∧ (q_i (S 20 0 i)).toInt ≤ 6 := hI 20 0 i; apply q_tn; omega
    have h_10 : vp_in ((6 * (nI i)) + ((q_i (S 20 0 i)) - 1)) 36 := by have e_c_3 := lv_neT c_3 (a := 0) (by decide); have l1 : (6 : Int32).toInt = 6 := rfl; have l2 := nI_toInt (n := i) (by omega); have l3 := q_mulI (c := 6) (x := nI i) (k := 6) rfl (by omega); have l4 : 0 ≤ (q_i (S 20 0 i)).toInt ∧ (q_i (S 20 0 i)).toInt ≤ 6 := hI 20 0 i; have l5 : (1 : Int32).toInt = 1 := rfl; have l6 := q_subI (x := q_i (S 20 0 i)) (y := 1) (by omega); have l7 := q_addI (x := 6 * (nI i)) (y := (q_i (S 20 0 i)) - 1) (by omega); rw [vp_in_iff]; omega
    have s_11 : ((6 * (nI i)) + ((q_i (S 20 0 i)) - 1)).toNatClampNeg = 6 * i + (((q_i (S 20 0 i)) - 1).toNatClampNeg) := by have e_c_3 := lv_neT c_3 (a := 0) (by decide); have l1 : (6 : Int32).toInt = 6 := rfl; have l2 := nI_toInt (n := i) (by omega); have l3 := q_mulI (c := 6) (x := nI i) (k := 6) rfl (by omega); have l4 : 0 ≤ (q_i (S 20 0 i)).toInt ∧ (q_i (S 20 0 i)).toInt ≤ 6 := hI 20 0 i; have l5 : (1 : Int32).toInt = 1 := rfl; have l6 := q_subI (x := q_i (S 20 0 i)) (y := 1) (by omega); have l7 := q_addI (x := 6 * (nI i)) (y := (q_i (S 20 0 i)) - 1) (by omega); have c0 := q_clI (x := (q_i (S 20 0 i)) - 1) (by omega); apply q_tn; omega
    have h_12 : vp_in (nI i) 6 := by have e_c_3 := lv_neT c_3 (a := 0) (by decide); have l1 := nI_toInt (n := i) (by omega); have l2 : 0 ≤ (q_i (S 20 0 i)).toInt ∧ (q_i (S 20 0 i)).toInt ≤ 6 := hI 20 0 i; rw [vp_in_iff]; omega
    have s_13 : (nI i).toNatClampNeg = i := by have e_c_3 := lv_neT c_3 (a := 0) (by decide); have l1 := nI_toInt (n := i) (by omega); have l2 : 0 ≤ (q_i (S 20 0 i)).toInt ∧ (q_i (S 20 0 i)).toInt ≤ 6 := hI 20 0 i; apply q_tn; omega
    have h_14 : vp_in ((6 * (nI i)) + ((q_i (S 20 0 i)) - 1)) 36 := by have e_c_3 := lv_neT c_3 (a := 0) (by decide); have l1 : (6 : Int32).toInt = 6 := rfl; have l2 := nI_toInt (n := i) (by omega); have l3 := q_mulI (c := 6) (x := nI i) (k := 6) rfl (by omega); have l4 : 0 ≤ (q_i (S 20 0 i)).toInt ∧ (q_i (S 20 0 i)).toInt ≤ 6 := hI 20 0 i; have l5 : (1 : Int32).toInt = 1 := rfl; have l6 := q_subI (x := q_i (S 20 0 i)) (y := 1) (by omega); have l7 := q_addI (x := 6 * (nI i)) (y := (q_i (S 20 0 i)) - 1) (by omega); rw [vp_in_iff]; omega
    have s_15 : ((6 * (nI i)) + ((q_i (S 20 0 i)) - 1)).toNatClampNeg = 6 * i + (((q_i (S 20 0 i)) - 1).toNatClampNeg) := by have e_c_3 := lv_neT c_3 (a := 0) (by decide); have l1 : (6 : Int32).toInt = 6 := rfl; have l2 := nI_toInt (n := i) (by omega); have l3 := q_mulI (c := 6) (x := nI i) (k := 6) rfl (by omega); have l4 : 0 ≤ (q_i (S 20 0 i)).toInt ∧ (q_i (S 20 0 i)).toInt ≤ 6 := hI 20 0 i; have l5 : (1 : Int32).toInt = 1 := rfl; have l6 := q_subI (x := q_i (S 20 0 i)) (y := 1) (by omega); have l7 := q_addI (x := 6 * (nI i)) (y := (q_i (S 20 0 i)) - 1) (by omega); have c0 := q_clI (x := (q_i (S 20 0 i)) - 1) (by omega); apply q_tn; omega
    have hI_16 : mI (q_st S 20 0 i (.int ((q_i (S 20 0 i)) - 1))) := (mI_st hI (by have e_c_3 := lv_neT c_3 (a := 0) (by decide); have l1 : 0 ≤ (q_i (S 20 0 i)).toInt ∧ (q_i (S 20 0 i)).toInt ≤ 6 := hI 20 0 i; have l2 : (1 : Int32).toInt = 1 := rfl; have l3 := q_subI (x := q_i (S 20 0 i)) (y := 1) (by omega); show 0 ≤ ((q_i (S 20 0 i)) - 1).toInt ∧ ((q_i (S 20 0 i)) - 1).toInt ≤ 6; omega))
    have hg_17 : (q_i ((q_st S 20 0 i (.int ((q_i (S 20 0 i)) - 1))) 16 0 i)).toInt ≤ (q_i ((q_st S 20 0 i (.int ((q_i (S 20 0 i)) - 1))) 15 0 i)).toInt := by rw [q_kj (by decide), q_kj (by decide)]; exact hg
    have hQ_18 : mQ (q_st S 20 0 i (.int ((q_i (S 20 0 i)) - 1))) := mQ_eq hQ (q_kj (by decide)) (fun _ => (q_kj (by decide))) (fun _ => (q_kj (by decide)))
    have hf : m_fm_undo S i = m_fm_want (q_st S 20 0 i (.int ((q_i (S 20 0 i)) - 1))) i (q_i (S 21 0 (6 * i + (((q_i (S 20 0 i)) - 1).toNatClampNeg)))) (q_i (S 22 0 (6 * i + (((q_i (S 20 0 i)) - 1).toNatClampNeg)))) 4 := by unfold m_fm_undo; rw [if_neg c_3]
    rw [hf]
    exact (mI_fm_want (q_st S 20 0 i (.int ((q_i (S 20 0 i)) - 1))) i (q_i (S 21 0 (6 * i + (((q_i (S 20 0 i)) - 1).toNatClampNeg)))) (q_i (S 22 0 (6 * i + (((q_i (S 20 0 i)) - 1).toNatClampNeg)))) 4 hi hI_16 hg_17 hQ_18)
set_option maxRecDepth 100000 in
set_option maxHeartbeats 4000000 in
theorem mK_fm_undo (S : q_S) (i : Nat) (x y z : Nat) (h0 : x ≠ 0) (h7 : x ≠ 7) (h8 : x ≠ 8) (h10 : x ≠ 10) (h15 : x ≠ 15) (h16 : x ≠ 16) (h17 : x ≠ 17) (h18 : x ≠ 18) (h19 : x ≠ 19) (h20 : x ≠ 20) (h27 : x ≠ 27) (h28 : x ≠ 28) (h29 : x ≠ 29) (h31 : x ≠ 31) (h32 : x ≠ 32) (h33 : x ≠ 33) : (m_fm_undo S i) x y z = S x y z := by
  by_cases c_3 : q_i (S 20 0 i) = 0
  · -- yes
    have hf : m_fm_undo S i = m_fm_end S i 6 := by unfold m_fm_undo; rw [if_pos c_3]
    rw [hf]
    exact ((mK_fm_end S i 6 x y z h0 h7 h8 h10 h29 h32 h33))
  · -- no
    have hf : m_fm_undo S i = m_fm_want (q_st S 20 0 i (.int ((q_i (S 20 0 i)) - 1))) i (q_i (S 21 0 (6 * i + (((q_i (S 20 0 i)) - 1).toNatClampNeg)))) (q_i (S 22 0 (6 * i + (((q_i (S 20 0 i)) - 1).toNatClampNeg)))) 4 := by unfold m_fm_undo; rw [if_neg c_3]
    rw [hf]
    exact ((mK_fm_want (q_st S 20 0 i (.int ((q_i (S 20 0 i)) - 1))) i (q_i (S 21 0 (6 * i + (((q_i (S 20 0 i)) - 1).toNatClampNeg)))) (q_i (S 22 0 (6 * i + (((q_i (S 20 0 i)) - 1).toNatClampNeg)))) 4 x y z h0 h7 h8 h10 h15 h16 h17 h18 h19 h27 h28 h29 h31 h32 h33)).trans ((q_kj h20))
def m_fm_sleep (S : q_S) (i : Nat) (a : Int32) : q_S :=
  if m_fm_left S i = 0 then
    if (m_fm_put S i 5 a 0).1 = 0 then
      (m_fm_put S i 5 a 0).2
    else
      q_st (q_st ((m_fm_put S i 5 a 0).2) 10 0 i (.int 2)) 26 0 i (.long ((Int32.toInt64 (q_i (((m_fm_put S i 5 a 0).2) 0 0 34))) + (Int32.toInt64 a)))
  else
    if (m_fm_put S i 5 a 0).1 = 0 then
      (m_fm_put S i 5 a 0).2
    else
      q_st ((m_fm_put S i 5 a 0).2) 10 0 i (.int 2)
set_option maxRecDepth 100000 in
set_option maxHeartbeats 4000000 in
theorem mC_fm_sleep (l : Launch) (G : q_G) (S : q_S) (i : Nat) (a : Int32) (hi : i < 6) (hI : mI S) (hg : (q_i (S 16 0 i)).toInt ≤ (q_i (S 15 0 i)).toInt) (hQ : mQ S) : q_Mv mX G l my_fm_sleep (q_ws (q_gw lw_tbl) my_fm_sleep mb_fm_sleep 5 none) (q_rm 5) [.ref (q_a mX G 0 0), .int (nI i), .int a] S (m_fm_sleep S i a) := by
  refine q_met (cc := mb_fm_sleep) (maxL := 5) (ret := none) mOk (by decide) rfl (Nat.le_of_ble_eq_true rfl) ?_
  intro p e s m below meth c ls hC hr hlocks hW hS hl
  have hx := hC.1.1
  have hb := hC.1.2.1
  have hl : lv_has ls 5 [(0, .ref (q_a mX G 0 0)), (1, .int (nI i)), (2, .int a)] := hl
  refine lv_aload_n hx hb md_fm_sleep_0 rfl (lv_at hl 0 rfl) ?_
  refine lv_iload_n hx hb md_fm_sleep_1 rfl (lv_at hl 1 rfl) ?_
  refine q_calli hC hS (fun _ h => h) (q_runV (rest := []) hC hW (mC_fm_left l G S i hi) (mc_fm_139 (q_rm 0) hC.1.2.2.2.2 ⟨Nat.le_of_ble_eq_true rfl, Nat.le_of_ble_eq_true rfl⟩ rfl rfl) Nat.one_pos rfl rfl rfl hl.1 rfl (Nat.le_of_ble_eq_true rfl) md_fm_sleep_2 ⟨Nat.zero_le _, Nat.zero_le _⟩) (fun H locs hW hS => ?_)
  refine lv_if_ne (tgt := 12) hx hb md_fm_sleep_5 (by decide) (fun c_1 => ?_) (fun c_1 => ?_)
  · -- taken
    refine lv_iconst (v := 0) hx hb md_fm_sleep_12 (by decide) ?_
    refine lv_istore_n (lv' := [(3, .int 0), (0, .ref (q_a mX G 0 0)), (1, .int (nI i)), (2, .int a)]) hx hb md_fm_sleep_13 rfl hl (by decide) rfl (fun ls hl => ?_)
    refine lv_aload_n hx hb md_fm_sleep_14 rfl (lv_at hl 1 rfl) ?_
    refine lv_iload_n hx hb md_fm_sleep_15 rfl (lv_at hl 2 rfl) ?_
    refine lv_iconst (v := 5) hx hb md_fm_sleep_16 (by decide) ?_
    refine lv_iload_n hx hb md_fm_sleep_17 rfl (lv_at hl 3 rfl) ?_
    refine lv_iconst (v := 0) hx hb md_fm_sleep_18 (by decide) ?_
    refine q_calli hC hS (fun _ h => h) (q_runV (rest := []) hC hW (mC_fm_put l G S i 5 a 0 hi hI hg) (mc_fm_150 (q_rm 4) hC.1.2.2.2.2 ⟨Nat.le_of_ble_eq_true rfl, Nat.le_of_ble_eq_true rfl⟩ rfl rfl) Nat.one_pos rfl rfl rfl hl.1 rfl (Nat.le_of_ble_eq_true rfl) md_fm_sleep_19 ⟨Nat.zero_le _, Nat.zero_le _⟩) (fun H locs hW hS => ?_)
    refine lv_istore (lv' := [(4, .int ((m_fm_put S i 5 a 0).1)), (3, .int 0), (0, .ref (q_a mX G 0 0)), (1, .int (nI i)), (2, .int a)]) hx hb md_fm_sleep_22 hl (by decide) rfl (fun ls hl => ?_)
    refine lv_iload hx hb md_fm_sleep_24 (lv_at hl 0 rfl) ?_
    refine lv_if_ne (tgt := 30) hx hb md_fm_sleep_26 (by decide) (fun c_2 => ?_) (fun c_2 => ?_)
    · -- taken
      refine lv_aload_n hx hb md_fm_sleep_30 rfl (lv_at hl 2 rfl) ?_
      refine mg_fm_38 hC hW 0 Nat.one_pos md_fm_sleep_31 ?_
      refine lv_iload_n hx hb md_fm_sleep_34 rfl (lv_at hl 3 rfl) ?_
      refine lv_iconst (v := 2) hx hb md_fm_sleep_35 (by decide) ?_
      have h_3 : vp_in (nI i) 6 := by have e_c_1 := lv_neT c_1 (a := 0) (by decide); have e_c_2 := lv_neT c_2 (a := 0) (by decide); have l1 := nI_toInt (n := i) (by omega); have l2 := mF_left hI i; have l3 : 0 ≤ (q_i (S 15 0 i)).toInt ∧ (q_i (S 15 0 i)).toInt ≤ 20 := hI 15 0 i; have l4 : 0 ≤ (q_i (S 16 0 i)).toInt ∧ (q_i (S 16 0 i)).toInt ≤ 20 := hI 16 0 i; rw [vp_in_iff]; omega
      have s_4 : (nI i).toNatClampNeg = i := by have e_c_1 := lv_neT c_1 (a := 0) (by decide); have e_c_2 := lv_neT c_2 (a := 0) (by decide); have l1 := nI_toInt (n := i) (by omega); have l2 := mF_left hI i; have l3 : 0 ≤ (q_i (S 15 0 i)).toInt ∧ (q_i (S 15 0 i)).toInt ≤ 20 := hI 15 0 i; have l4 : 0 ≤ (q_i (S 16 0 i)).toInt ∧ (q_i (S 16 0 i)).toInt ≤ 20 := hI 16 0 i; apply q_tn; omega
      refine mase_10 hC hW hS (fun _ h => h) h_3 s_4 md_fm_sleep_36 (fun H locs hW hS => ?_)
      refine lv_iload_n hx hb md_fm_sleep_37 rfl (lv_at hl 1 rfl) ?_
      refine lv_if_eq (tgt := 55) hx hb md_fm_sleep_38 (by decide) (fun _ => ?_) (fun c_5 => absurd c_5 (by decide))
      have hf : m_fm_sleep S i a = q_st ((m_fm_put S i 5 a 0).2) 10 0 i (.int 2) := by unfold m_fm_sleep; rw [if_neg c_1, if_neg c_2]
      rw [hf]
      exact q_vret hC hr hlocks hW hS rfl md_fm_sleep_55
    · -- not taken
      have hf : m_fm_sleep S i a = (m_fm_put S i 5 a 0).2 := by unfold m_fm_sleep; rw [if_neg c_1, if_pos c_2]
      rw [hf]
      exact q_vret hC hr hlocks hW hS rfl md_fm_sleep_29
  · -- not taken
    refine lv_iconst (v := 1) hx hb md_fm_sleep_8 (by decide) ?_
    refine lv_goto (tgt := 13) hx hb md_fm_sleep_9 (by decide) ?_
    refine lv_istore_n (lv' := [(3, .int 1), (0, .ref (q_a mX G 0 0)), (1, .int (nI i)), (2, .int a)]) hx hb md_fm_sleep_13 rfl hl (by decide) rfl (fun ls hl => ?_)
    refine lv_aload_n hx hb md_fm_sleep_14 rfl (lv_at hl 1 rfl) ?_
    refine lv_iload_n hx hb md_fm_sleep_15 rfl (lv_at hl 2 rfl) ?_
    refine lv_iconst (v := 5) hx hb md_fm_sleep_16 (by decide) ?_
    refine lv_iload_n hx hb md_fm_sleep_17 rfl (lv_at hl 3 rfl) ?_
    refine lv_iconst (v := 0) hx hb md_fm_sleep_18 (by decide) ?_
    refine q_calli hC hS (fun _ h => h) (q_runV (rest := []) hC hW (mC_fm_put l G S i 5 a 0 hi hI hg) (mc_fm_150 (q_rm 4) hC.1.2.2.2.2 ⟨Nat.le_of_ble_eq_true rfl, Nat.le_of_ble_eq_true rfl⟩ rfl rfl) Nat.one_pos rfl rfl rfl hl.1 rfl (Nat.le_of_ble_eq_true rfl) md_fm_sleep_19 ⟨Nat.zero_le _, Nat.zero_le _⟩) (fun H locs hW hS => ?_)
    refine lv_istore (lv' := [(4, .int ((m_fm_put S i 5 a 0).1)), (3, .int 1), (0, .ref (q_a mX G 0 0)), (1, .int (nI i)), (2, .int a)]) hx hb md_fm_sleep_22 hl (by decide) rfl (fun ls hl => ?_)
    refine lv_iload hx hb md_fm_sleep_24 (lv_at hl 0 rfl) ?_
    refine lv_if_ne (tgt := 30) hx hb md_fm_sleep_26 (by decide) (fun c_6 => ?_) (fun c_6 => ?_)
    · -- taken
      refine lv_aload_n hx hb md_fm_sleep_30 rfl (lv_at hl 2 rfl) ?_
      refine mg_fm_38 hC hW 0 Nat.one_pos md_fm_sleep_31 ?_
      refine lv_iload_n hx hb md_fm_sleep_34 rfl (lv_at hl 3 rfl) ?_
      refine lv_iconst (v := 2) hx hb md_fm_sleep_35 (by decide) ?_
      have h_7 : vp_in (nI i) 6 := by have e_c_1 : (m_fm_left S i).toInt = 0 := (by rw [c_1]; rfl); have e_c_6 := lv_neT c_6 (a := 0) (by decide); have l1 := nI_toInt (n := i) (by omega); have l2 := mF_left hI i; have l3 : 0 ≤ (q_i (S 15 0 i)).toInt ∧ (q_i (S 15 0 i)).toInt ≤ 20 := hI 15 0 i; have l4 : 0 ≤ (q_i (S 16 0 i)).toInt ∧ (q_i (S 16 0 i)).toInt ≤ 20 := hI 16 0 i; rw [vp_in_iff]; omega
      have s_8 : (nI i).toNatClampNeg = i := by have e_c_1 : (m_fm_left S i).toInt = 0 := (by rw [c_1]; rfl); have e_c_6 := lv_neT c_6 (a := 0) (by decide); have l1 := nI_toInt (n := i) (by omega); have l2 := mF_left hI i; have l3 : 0 ≤ (q_i (S 15 0 i)).toInt ∧ (q_i (S 15 0 i)).toInt ≤ 20 := hI 15 0 i; have l4 : 0 ≤ (q_i (S 16 0 i)).toInt ∧ (q_i (S 16 0 i)).toInt ≤ 20 := hI 16 0 i; apply q_tn; omega
      refine mase_10 hC hW hS (fun _ h => h) h_7 s_8 md_fm_sleep_36 (fun H locs hW hS => ?_)
      refine lv_iload_n hx hb md_fm_sleep_37 rfl (lv_at hl 1 rfl) ?_
      refine lv_if_eq (tgt := 55) hx hb md_fm_sleep_38 (by decide) (fun c_9 => absurd c_9 (by decide)) (fun _ => ?_)
      refine lv_aload_n hx hb md_fm_sleep_41 rfl (lv_at hl 2 rfl) ?_
      refine mg_fm_86 hC hW 0 Nat.one_pos md_fm_sleep_42 ?_
      refine lv_iload_n hx hb md_fm_sleep_45 rfl (lv_at hl 3 rfl) ?_
      refine lv_aload_n hx hb md_fm_sleep_46 rfl (lv_at hl 2 rfl) ?_
      refine mg_fm_136 hC hW 0 Nat.one_pos (q_sj (by decide) (rfl)) md_fm_sleep_47 ?_
      refine lv_i2l (v := Int32.toInt64 (q_i (((m_fm_put S i 5 a 0).2) 0 0 34))) hx hb md_fm_sleep_50 rfl ?_
      refine lv_iload_n hx hb md_fm_sleep_51 rfl (lv_at hl 4 rfl) ?_
      refine lv_i2l (v := Int32.toInt64 a) hx hb md_fm_sleep_52 rfl ?_
      refine W.eq (g2 := F0 m 53 ls [.long (Int32.toInt64 a), .long (Int32.toInt64 (q_i (((m_fm_put S i 5 a 0).2) 0 0 34))), .int (nI i), .ref (q_a mX G 26 0)]) rfl ?_
      refine lv_ladd hx hb md_fm_sleep_53 ?_
      have h_10 : vp_in (nI i) 6 := by have e_c_1 : (m_fm_left S i).toInt = 0 := (by rw [c_1]; rfl); have e_c_6 := lv_neT c_6 (a := 0) (by decide); have l1 := nI_toInt (n := i) (by omega); have l2 := mF_left hI i; have l3 : 0 ≤ (q_i (S 15 0 i)).toInt ∧ (q_i (S 15 0 i)).toInt ≤ 20 := hI 15 0 i; have l4 : 0 ≤ (q_i (S 16 0 i)).toInt ∧ (q_i (S 16 0 i)).toInt ≤ 20 := hI 16 0 i; rw [vp_in_iff]; omega
      have s_11 : (nI i).toNatClampNeg = i := by have e_c_1 : (m_fm_left S i).toInt = 0 := (by rw [c_1]; rfl); have e_c_6 := lv_neT c_6 (a := 0) (by decide); have l1 := nI_toInt (n := i) (by omega); have l2 := mF_left hI i; have l3 : 0 ≤ (q_i (S 15 0 i)).toInt ∧ (q_i (S 15 0 i)).toInt ≤ 20 := hI 15 0 i; have l4 : 0 ≤ (q_i (S 16 0 i)).toInt ∧ (q_i (S 16 0 i)).toInt ≤ 20 := hI 16 0 i; apply q_tn; omega
      refine mase_26 hC hW hS (fun _ h => h) h_10 s_11 md_fm_sleep_54 (fun H locs hW hS => ?_)
      have hf : m_fm_sleep S i a = q_st (q_st ((m_fm_put S i 5 a 0).2) 10 0 i (.int 2)) 26 0 i (.long ((Int32.toInt64 (q_i (((m_fm_put S i 5 a 0).2) 0 0 34))) + (Int32.toInt64 a))) := by unfold m_fm_sleep; rw [if_pos c_1, if_neg c_6]
      rw [hf]
      exact q_vret hC hr hlocks hW hS rfl md_fm_sleep_55
    · -- not taken
      have hf : m_fm_sleep S i a = (m_fm_put S i 5 a 0).2 := by unfold m_fm_sleep; rw [if_pos c_1, if_pos c_6]
      rw [hf]
      exact q_vret hC hr hlocks hW hS rfl md_fm_sleep_29
set_option maxRecDepth 100000 in
set_option maxHeartbeats 4000000 in
theorem mI_fm_sleep (S : q_S) (i : Nat) (a : Int32) (hi : i < 6) (hI : mI S) (hg : (q_i (S 16 0 i)).toInt ≤ (q_i (S 15 0 i)).toInt) (hQ : mQ S) : mI (m_fm_sleep S i a) := by
  by_cases c_1 : m_fm_left S i = 0
  · -- yes
    by_cases c_6 : (m_fm_put S i 5 a 0).1 = 0
    · -- yes
      have hf : m_fm_sleep S i a = (m_fm_put S i 5 a 0).2 := by unfold m_fm_sleep; rw [if_pos c_1, if_pos c_6]
      rw [hf]
      exact (mI_fm_put S i 5 a 0 hi hI hg)
    · -- no
      have h_7 : vp_in (nI i) 6 := by have e_c_1 : (m_fm_left S i).toInt = 0 := (by rw [c_1]; rfl); have e_c_6 := lv_neT c_6 (a := 0) (by decide); have l1 := nI_toInt (n := i) (by omega); have l2 := mF_left hI i; have l3 : 0 ≤ (q_i (S 15 0 i)).toInt ∧ (q_i (S 15 0 i)).toInt ≤ 20 := hI 15 0 i; have l4 : 0 ≤ (q_i (S 16 0 i)).toInt ∧ (q_i (S 16 0 i)).toInt ≤ 20 := hI 16 0 i; rw [vp_in_iff]; omega
      have s_8 : (nI i).toNatClampNeg = i := by have e_c_1 : (m_fm_left S i).toInt = 0 := (by rw [c_1]; rfl); have e_c_6 := lv_neT c_6 (a := 0) (by decide); have l1 := nI_toInt (n := i) (by omega); have l2 := mF_left hI i; have l3 : 0 ≤ (q_i (S 15 0 i)).toInt ∧ (q_i (S 15 0 i)).toInt ≤ 20 := hI 15 0 i; have l4 : 0 ≤ (q_i (S 16 0 i)).toInt ∧ (q_i (S 16 0 i)).toInt ≤ 20 := hI 16 0 i; apply q_tn; omega
      have h_10 : vp_in (nI i) 6 := by have e_c_1 : (m_fm_left S i).toInt = 0 := (by rw [c_1]; rfl); have e_c_6 := lv_neT c_6 (a := 0) (by decide); have l1 := nI_toInt (n := i) (by omega); have l2 := mF_left hI i; have l3 : 0 ≤ (q_i (S 15 0 i)).toInt ∧ (q_i (S 15 0 i)).toInt ≤ 20 := hI 15 0 i; have l4 : 0 ≤ (q_i (S 16 0 i)).toInt ∧ (q_i (S 16 0 i)).toInt ≤ 20 := hI 16 0 i; rw [vp_in_iff]; omega
      have s_11 : (nI i).toNatClampNeg = i := by have e_c_1 : (m_fm_left S i).toInt = 0 := (by rw [c_1]; rfl); have e_c_6 := lv_neT c_6 (a := 0) (by decide); have l1 := nI_toInt (n := i) (by omega); have l2 := mF_left hI i; have l3 : 0 ≤ (q_i (S 15 0 i)).toInt ∧ (q_i (S 15 0 i)).toInt ≤ 20 := hI 15 0 i; have l4 : 0 ≤ (q_i (S 16 0 i)).toInt ∧ (q_i (S 16 0 i)).toInt ≤ 20 := hI 16 0 i; apply q_tn; omega
      have hf : m_fm_sleep S i a = q_st (q_st ((m_fm_put S i 5 a 0).2) 10 0 i (.int 2)) 26 0 i (.long ((Int32.toInt64 (q_i (((m_fm_put S i 5 a 0).2) 0 0 34))) + (Int32.toInt64 a))) := by unfold m_fm_sleep; rw [if_pos c_1, if_neg c_6]
      rw [hf]
      exact (mIl (mIs (mI_fm_put S i 5 a 0 hi hI hg) rfl) rfl)
  · -- no
    by_cases c_2 : (m_fm_put S i 5 a 0).1 = 0
    · -- yes
      have hf : m_fm_sleep S i a = (m_fm_put S i 5 a 0).2 := by unfold m_fm_sleep; rw [if_neg c_1, if_pos c_2]
      rw [hf]
      exact (mI_fm_put S i 5 a 0 hi hI hg)
    · -- no
      have h_3 : vp_in (nI i) 6 := by have e_c_1 := lv_neT c_1 (a := 0) (by decide); have e_c_2 := lv_neT c_2 (a := 0) (by decide); have l1 := nI_toInt (n := i) (by omega); have l2 := mF_left hI i; have l3 : 0 ≤ (q_i (S 15 0 i)).toInt ∧ (q_i (S 15 0 i)).toInt ≤ 20 := hI 15 0 i; have l4 : 0 ≤ (q_i (S 16 0 i)).toInt ∧ (q_i (S 16 0 i)).toInt ≤ 20 := hI 16 0 i; rw [vp_in_iff]; omega
      have s_4 : (nI i).toNatClampNeg = i := by have e_c_1 := lv_neT c_1 (a := 0) (by decide); have e_c_2 := lv_neT c_2 (a := 0) (by decide); have l1 := nI_toInt (n := i) (by omega); have l2 := mF_left hI i; have l3 : 0 ≤ (q_i (S 15 0 i)).toInt ∧ (q_i (S 15 0 i)).toInt ≤ 20 := hI 15 0 i; have l4 : 0 ≤ (q_i (S 16 0 i)).toInt ∧ (q_i (S 16 0 i)).toInt ≤ 20 := hI 16 0 i; apply q_tn; omega
      have hf : m_fm_sleep S i a = q_st ((m_fm_put S i 5 a 0).2) 10 0 i (.int 2) := by unfold m_fm_sleep; rw [if_neg c_1, if_neg c_2]
      rw [hf]
      exact (mIs (mI_fm_put S i 5 a 0 hi hI hg) rfl)
set_option maxRecDepth 100000 in
set_option maxHeartbeats 4000000 in
theorem mK_fm_sleep (S : q_S) (i : Nat) (a : Int32) (x y z : Nat) (h0 : x ≠ 0) (h7 : x ≠ 7) (h8 : x ≠ 8) (h10 : x ≠ 10) (h15 : x ≠ 15) (h16 : x ≠ 16) (h17 : x ≠ 17) (h18 : x ≠ 18) (h19 : x ≠ 19) (h26 : x ≠ 26) (h29 : x ≠ 29) (h32 : x ≠ 32) (h33 : x ≠ 33) : (m_fm_sleep S i a) x y z = S x y z := by
  by_cases c_1 : m_fm_left S i = 0
  · -- yes
    by_cases c_6 : (m_fm_put S i 5 a 0).1 = 0
    · -- yes
      have hf : m_fm_sleep S i a = (m_fm_put S i 5 a 0).2 := by unfold m_fm_sleep; rw [if_pos c_1, if_pos c_6]
      rw [hf]
      exact ((mK_fm_put S i 5 a 0 x y z h0 h7 h8 h10 h15 h16 h17 h18 h19 h29 h32 h33))
    · -- no
      have hf : m_fm_sleep S i a = q_st (q_st ((m_fm_put S i 5 a 0).2) 10 0 i (.int 2)) 26 0 i (.long ((Int32.toInt64 (q_i (((m_fm_put S i 5 a 0).2) 0 0 34))) + (Int32.toInt64 a))) := by unfold m_fm_sleep; rw [if_pos c_1, if_neg c_6]
      rw [hf]
      exact (q_kj h26).trans ((q_kj h10).trans (((mK_fm_put S i 5 a 0 x y z h0 h7 h8 h10 h15 h16 h17 h18 h19 h29 h32 h33))))
  · -- no
    by_cases c_2 : (m_fm_put S i 5 a 0).1 = 0
    · -- yes
      have hf : m_fm_sleep S i a = (m_fm_put S i 5 a 0).2 := by unfold m_fm_sleep; rw [if_neg c_1, if_pos c_2]
      rw [hf]
      exact ((mK_fm_put S i 5 a 0 x y z h0 h7 h8 h10 h15 h16 h17 h18 h19 h29 h32 h33))
    · -- no
      have hf : m_fm_sleep S i a = q_st ((m_fm_put S i 5 a 0).2) 10 0 i (.int 2) := by unfold m_fm_sleep; rw [if_neg c_1, if_neg c_2]
      rw [hf]
      exact (q_kj h10).trans (((mK_fm_put S i 5 a 0 x y z h0 h7 h8 h10 h15 h16 h17 h18 h19 h29 h32 h33)))
def m_fm_note (S : q_S) (i : Nat) (a b : Int32) : q_S :=
  if q_i (S 20 0 i) = 6 then
    m_fm_breakUp S i
  else
    q_st (q_st (q_st (q_st S 21 0 (6 * i + ((q_i (S 20 0 i)).toNatClampNeg)) (.int a)) 22 0 (6 * i + ((q_i (S 20 0 i)).toNatClampNeg)) (.int b)) 20 0 i (.int ((q_i (S 20 0 i)) + 1))) 11 0 i (.int ((q_i (S 11 0 i)) + 1))
set_option maxRecDepth 100000 in
set_option maxHeartbeats 4000000 in
theorem mC_fm_note (l : Launch) (G : q_G) (S : q_S) (i : Nat) (a b : Int32) (hi : i < 6) (hI : mI S) (hp : (q_i (S 11 0 i)).toInt ≤ 13) : q_Mv mX G l my_fm_note (q_ws (q_gw lw_tbl) my_fm_note mb_fm_note 4 none) (q_rm 4) [.ref (q_a mX G 0 0), .int (nI i), .int a, .int b] S (m_fm_note S i a b) := by
  refine q_met (cc := mb_fm_note) (maxL := 4) (ret := none) mOk (by decide) rfl (Nat.le_of_ble_eq_true rfl) ?_
  intro p e s m below meth c ls hC hr hlocks hW hS hl
  have hx := hC.1.1
  have hb := hC.1.2.1
  have hl : lv_has ls 4 [(0, .ref (q_a mX G 0 0)), (1, .int (nI i)), (2, .int a), (3, .int b)] := hl
  refine lv_aload_n hx hb md_fm_note_0 rfl (lv_at hl 0 rfl) ?_
  refine mg_fm_68 hC hW 0 Nat.one_pos md_fm_note_1 ?_
  refine lv_iload_n hx hb md_fm_note_4 rfl (lv_at hl 1 rfl) ?_
  have h_1 : vp_in (nI i) 6 := by have l1 := nI_toInt (n := i) (by omega); rw [vp_in_iff]; omega
  have s_2 : (nI i).toNatClampNeg = i := by have l1 := nI_toInt (n := i) (by omega); apply q_tn; omega
  refine male_20 hC hW h_1 s_2 (rfl) md_fm_note_5 ?_
  refine lv_bipush (v := 6) hx hb md_fm_note_6 (by decide) ?_
  refine lv_icmp_ne (tgt := 17) hx hb md_fm_note_8 (by decide) (fun c_3 => ?_) (fun c_3 => ?_)
  · -- taken
    refine lv_aload_n hx hb md_fm_note_17 rfl (lv_at hl 0 rfl) ?_
    refine mg_fm_71 hC hW 0 Nat.one_pos md_fm_note_18 ?_
    refine lv_bipush (v := 6) hx hb md_fm_note_21 (by decide) ?_
    refine lv_iload_n hx hb md_fm_note_23 rfl (lv_at hl 1 rfl) ?_
    refine lv_imul hx hb md_fm_note_24 ?_
    refine lv_aload_n hx hb md_fm_note_25 rfl (lv_at hl 0 rfl) ?_
    refine mg_fm_68 hC hW 0 Nat.one_pos md_fm_note_26 ?_
    refine lv_iload_n hx hb md_fm_note_29 rfl (lv_at hl 1 rfl) ?_
    have h_4 : vp_in (nI i) 6 := by have e_c_3 := lv_neT c_3 (a := 6) (by decide); have l1 := nI_toInt (n := i) (by omega); have l2 : 0 ≤ (q_i (S 20 0 i)).toInt ∧ (q_i (S 20 0 i)).toInt ≤ 6 := hI 20 0 i; rw [vp_in_iff]; omega
    have s_5 : (nI i).toNatClampNeg = i := by have e_c_3 := lv_neT c_3 (a := 6) (by decide); have l1 := nI_toInt (n := i) (by omega); have l2 : 0 ≤ (q_i (S 20 0 i)).toInt ∧ (q_i (S 20 0 i)).toInt ≤ 6 := hI 20 0 i; apply q_tn; omega
    refine male_20 hC hW h_4 s_5 (rfl) md_fm_note_30 ?_
    refine lv_iadd hx hb md_fm_note_31 ?_
    refine lv_iload_n hx hb md_fm_note_32 rfl (lv_at hl 2 rfl) ?_
    have h_6 : vp_in ((6 * (nI i)) + (q_i (S 20 0 i))) 36 := by have e_c_3 := lv_neT c_3 (a := 6) (by decide); have l1 : (6 : Int32).toInt = 6 := rfl; have l2 := nI_toInt (n := i) (by omega); have l3 := q_mulI (c := 6) (x := nI i) (k := 6) rfl (by omega); have l4 : 0 ≤ (q_i (S 20 0 i)).toInt ∧ (q_i (S 20 0 i)).toInt ≤ 6 := hI 20 0 i; have l5 := q_addI (x := 6 * (nI i)) (y := q_i (S 20 0 i)) (by omega); rw [vp_in_iff]; omega
    have s_7 : ((6 * (nI i)) + (q_i (S 20 0 i))).toNatClampNeg = 6 * i + ((q_i (S 20 0 i)).toNatClampNeg) := by have e_c_3 := lv_neT c_3 (a := 6) (by decide); have l1 : (6 : Int32).toInt = 6 := rfl; have l2 := nI_toInt (n := i) (by omega); have l3 := q_mulI (c := 6) (x := nI i) (k := 6) rfl (by omega); have l4 : 0 ≤ (q_i (S 20 0 i)).toInt ∧ (q_i (S 20 0 i)).toInt ≤ 6 := hI 20 0 i; have l5 := q_addI (x := 6 * (nI i)) (y := q_i (S 20 0 i)) (by omega); have c0 := q_clI (x := q_i (S 20 0 i)) (by omega); apply q_tn; omega
    refine mase_21 hC hW hS (fun _ h => h) h_6 s_7 md_fm_note_33 (fun H locs hW hS => ?_)
    refine lv_aload_n hx hb md_fm_note_34 rfl (lv_at hl 0 rfl) ?_
    refine mg_fm_74 hC hW 0 Nat.one_pos md_fm_note_35 ?_
    refine W.eq (g2 := F0 m 38 ls [.ref (q_a mX G 22 0)]) rfl ?_
    refine lv_bipush (v := 6) hx hb md_fm_note_38 (by decide) ?_
    refine lv_iload_n hx hb md_fm_note_40 rfl (lv_at hl 1 rfl) ?_
    refine lv_imul hx hb md_fm_note_41 ?_
    refine lv_aload_n hx hb md_fm_note_42 rfl (lv_at hl 0 rfl) ?_
    refine mg_fm_68 hC hW 0 Nat.one_pos md_fm_note_43 ?_
    refine lv_iload_n hx hb md_fm_note_46 rfl (lv_at hl 1 rfl) ?_
    have h_8 : vp_in (nI i) 6 := by have e_c_3 := lv_neT c_3 (a := 6) (by decide); have l1 := nI_toInt (n := i) (by omega); have l2 : 0 ≤ (q_i (S 20 0 i)).toInt ∧ (q_i (S 20 0 i)).toInt ≤ 6 := hI 20 0 i; rw [vp_in_iff]; omega
    have s_9 : (nI i).toNatClampNeg = i := by have e_c_3 := lv_neT c_3 (a := 6) (by decide); have l1 := nI_toInt (n := i) (by omega); have l2 : 0 ≤ (q_i (S 20 0 i)).toInt ∧ (q_i (S 20 0 i)).toInt ≤ 6 := hI 20 0 i; apply q_tn; omega
    refine male_20 hC hW h_8 s_9 (q_sj (by decide) (rfl)) md_fm_note_47 ?_
    refine lv_iadd hx hb md_fm_note_48 ?_
    refine lv_iload_n hx hb md_fm_note_49 rfl (lv_at hl 3 rfl) ?_
    have h_10 : vp_in ((6 * (nI i)) + (q_i (S 20 0 i))) 36 := by have e_c_3 := lv_neT c_3 (a := 6) (by decide); have l1 : (6 : Int32).toInt = 6 := rfl; have l2 := nI_toInt (n := i) (by omega); have l3 := q_mulI (c := 6) (x := nI i) (k := 6) rfl (by omega); have l4 : 0 ≤ (q_i (S 20 0 i)).toInt ∧ (q_i (S 20 0 i)).toInt ≤ 6 := hI 20 0 i; have l5 := q_addI (x := 6 * (nI i)) (y := q_i (S 20 0 i)) (by omega); rw [vp_in_iff]; omega
    have s_11 : ((6 * (nI i)) + (q_i (S 20 0 i))).toNatClampNeg = 6 * i + ((q_i (S 20 0 i)).toNatClampNeg) := by have e_c_3 := lv_neT c_3 (a := 6) (by decide); have l1 : (6 : Int32).toInt = 6 := rfl; have l2 := nI_toInt (n := i) (by omega); have l3 := q_mulI (c := 6) (x := nI i) (k := 6) rfl (by omega); have l4 : 0 ≤ (q_i (S 20 0 i)).toInt ∧ (q_i (S 20 0 i)).toInt ≤ 6 := hI 20 0 i; have l5 := q_addI (x := 6 * (nI i)) (y := q_i (S 20 0 i)) (by omega); have c0 := q_clI (x := q_i (S 20 0 i)) (by omega); apply q_tn; omega
    refine mase_22 hC hW hS (fun _ h => h) h_10 s_11 md_fm_note_50 (fun H locs hW hS => ?_)
    refine lv_aload_n hx hb md_fm_note_51 rfl (lv_at hl 0 rfl) ?_
    refine mg_fm_68 hC hW 0 Nat.one_pos md_fm_note_52 ?_
    refine lv_iload_n hx hb md_fm_note_55 rfl (lv_at hl 1 rfl) ?_
    refine lv_dup2_11 hx hb md_fm_note_56 rfl rfl ?_
    refine W.eq (g2 := F0 m 57 ls [.int (nI i), .ref (q_a mX G 20 0), .int (nI i), .ref (q_a mX G 20 0)]) rfl ?_
    have h_12 : vp_in (nI i) 6 := by have e_c_3 := lv_neT c_3 (a := 6) (by decide); have l1 := nI_toInt (n := i) (by omega); have l2 : 0 ≤ (q_i (S 20 0 i)).toInt ∧ (q_i (S 20 0 i)).toInt ≤ 6 := hI 20 0 i; rw [vp_in_iff]; omega
    have s_13 : (nI i).toNatClampNeg = i := by have e_c_3 := lv_neT c_3 (a := 6) (by decide); have l1 := nI_toInt (n := i) (by omega); have l2 : 0 ≤ (q_i (S 20 0 i)).toInt ∧ (q_i (S 20 0 i)).toInt ≤ 6 := hI 20 0 i; apply q_tn; omega
    refine male_20 hC hW h_12 s_13 (q_sj (by decide) (q_sj (by decide) (rfl))) md_fm_note_57 ?_
    refine lv_iconst (v := 1) hx hb md_fm_note_58 (by decide) ?_
    refine lv_iadd hx hb md_fm_note_59 ?_
    have h_14 : vp_in (nI i) 6 := by have e_c_3 := lv_neT c_3 (a := 6) (by decide); have l1 := nI_toInt (n := i) (by omega); have l2 : 0 ≤ (q_i (S 20 0 i)).toInt ∧ (q_i (S 20 0 i)).toInt ≤ 6 := hI 20 0 i; rw [vp_in_iff]; omega
    have s_15 : (nI i).toNatClampNeg = i := by have e_c_3 := lv_neT c_3 (a := 6) (by decide); have l1 := nI_toInt (n := i) (by omega); have l2 : 0 ≤ (q_i (S 20 0 i)).toInt ∧ (q_i (S 20 0 i)).toInt ≤ 6 := hI 20 0 i; apply q_tn; omega
    refine mase_20 hC hW hS (fun _ h => h) h_14 s_15 md_fm_note_60 (fun H locs hW hS => ?_)
    refine lv_aload_n hx hb md_fm_note_61 rfl (lv_at hl 0 rfl) ?_
    refine mg_fm_41 hC hW 0 Nat.one_pos md_fm_note_62 ?_
    refine lv_iload_n hx hb md_fm_note_65 rfl (lv_at hl 1 rfl) ?_
    refine lv_dup2_11 hx hb md_fm_note_66 rfl rfl ?_
    have h_16 : vp_in (nI i) 6 := by have e_c_3 := lv_neT c_3 (a := 6) (by decide); have l1 := nI_toInt (n := i) (by omega); have l2 : 0 ≤ (q_i (S 20 0 i)).toInt ∧ (q_i (S 20 0 i)).toInt ≤ 6 := hI 20 0 i; rw [vp_in_iff]; omega
    have s_17 : (nI i).toNatClampNeg = i := by have e_c_3 := lv_neT c_3 (a := 6) (by decide); have l1 := nI_toInt (n := i) (by omega); have l2 : 0 ≤ (q_i (S 20 0 i)).toInt ∧ (q_i (S 20 0 i)).toInt ≤ 6 := hI 20 0 i; apply q_tn; omega
    refine male_11 hC hW h_16 s_17 (q_sj (by decide) (q_sj (by decide) (q_sj (by decide) (rfl)))) md_fm_note_67 ?_
    refine lv_iconst (v := 1) hx hb md_fm_note_68 (by decide) ?_
    refine lv_iadd hx hb md_fm_note_69 ?_
    have h_18 : vp_in (nI i) 6 := by have e_c_3 := lv_neT c_3 (a := 6) (by decide); have l1 := nI_toInt (n := i) (by omega); have l2 : 0 ≤ (q_i (S 20 0 i)).toInt ∧ (q_i (S 20 0 i)).toInt ≤ 6 := hI 20 0 i; rw [vp_in_iff]; omega
    have s_19 : (nI i).toNatClampNeg = i := by have e_c_3 := lv_neT c_3 (a := 6) (by decide); have l1 := nI_toInt (n := i) (by omega); have l2 : 0 ≤ (q_i (S 20 0 i)).toInt ∧ (q_i (S 20 0 i)).toInt ≤ 6 := hI 20 0 i; apply q_tn; omega
    refine mase_11 hC hW hS (fun _ h => h) h_18 s_19 md_fm_note_70 (fun H locs hW hS => ?_)
    have hf : m_fm_note S i a b = q_st (q_st (q_st (q_st S 21 0 (6 * i + ((q_i (S 20 0 i)).toNatClampNeg)) (.int a)) 22 0 (6 * i + ((q_i (S 20 0 i)).toNatClampNeg)) (.int b)) 20 0 i (.int ((q_i (S 20 0 i)) + 1))) 11 0 i (.int ((q_i (S 11 0 i)) + 1)) := by unfold m_fm_note; rw [if_neg c_3]
    rw [hf]
    exact q_vret hC hr hlocks hW hS rfl md_fm_note_71
  · -- not taken
    refine lv_aload_n hx hb md_fm_note_11 rfl (lv_at hl 0 rfl) ?_
    refine lv_iload_n hx hb md_fm_note_12 rfl (lv_at hl 1 rfl) ?_
    refine q_callv hC hS (fun _ h => h) (q_runV (rest := []) hC hW (mC_fm_breakUp l G S i hi hI) (mc_fm_147 (q_rm 3) hC.1.2.2.2.2 ⟨Nat.le_of_ble_eq_true rfl, Nat.le_of_ble_eq_true rfl⟩ rfl rfl) Nat.one_pos rfl rfl rfl hl.1 rfl (Nat.le_of_ble_eq_true rfl) md_fm_note_13 ⟨Nat.zero_le _, Nat.zero_le _⟩) (fun H locs hW hS => ?_)
    have hf : m_fm_note S i a b = m_fm_breakUp S i := by unfold m_fm_note; rw [if_pos c_3]
    rw [hf]
    exact q_vret hC hr hlocks hW hS rfl md_fm_note_16
set_option maxRecDepth 100000 in
set_option maxHeartbeats 4000000 in
theorem mI_fm_note (S : q_S) (i : Nat) (a b : Int32) (hi : i < 6) (hI : mI S) (hp : (q_i (S 11 0 i)).toInt ≤ 13) : mI (m_fm_note S i a b) := by
  by_cases c_3 : q_i (S 20 0 i) = 6
  · -- yes
    have h_1 : vp_in (nI i) 6 := by have l1 := nI_toInt (n := i) (by omega); rw [vp_in_iff]; omega
    have s_2 : (nI i).toNatClampNeg = i := by have l1 := nI_toInt (n := i) (by omega); apply q_tn; omega
    have hf : m_fm_note S i a b = m_fm_breakUp S i := by unfold m_fm_note; rw [if_pos c_3]
    rw [hf]
    exact (mI_fm_breakUp S i hi hI)
  · -- no
    have h_1 : vp_in (nI i) 6 := by have l1 := nI_toInt (n := i) (by omega); rw [vp_in_iff]; omega
    have s_2 : (nI i).toNatClampNeg = i := by have l1 := nI_toInt (n := i) (by omega); apply q_tn; omega
    have h_4 : vp_in (nI i) 6 := by have e_c_3 := lv_neT c_3 (a := 6) (by decide); have l1 := nI_toInt (n := i) (by omega); have l2 : 0 ≤ (q_i (S 20 0 i)).toInt ∧ (q_i (S 20 0 i)).toInt ≤ 6 := hI 20 0 i; rw [vp_in_iff]; omega
    have s_5 : (nI i).toNatClampNeg = i := by have e_c_3 := lv_neT c_3 (a := 6) (by decide); have l1 := nI_toInt (n := i) (by omega); have l2 : 0 ≤ (q_i (S 20 0 i)).toInt ∧ (q_i (S 20 0 i)).toInt ≤ 6 := hI 20 0 i; apply q_tn; omega
    have h_6 : vp_in ((6 * (nI i)) + (q_i (S 20 0 i))) 36 := by have e_c_3 := lv_neT c_3 (a := 6) (by decide); have l1 : (6 : Int32).toInt = 6 := rfl; have l2 := nI_toInt (n := i) (by omega); have l3 := q_mulI (c := 6) (x := nI i) (k := 6) rfl (by omega); have l4 : 0 ≤ (q_i (S 20 0 i)).toInt ∧ (q_i (S 20 0 i)).toInt ≤ 6 := hI 20 0 i; have l5 := q_addI (x := 6 * (nI i)) (y := q_i (S 20 0 i)) (by omega); rw [vp_in_iff]; omega
    have s_7 : ((6 * (nI i)) + (q_i (S 20 0 i))).toNatClampNeg = 6 * i + ((q_i (S 20 0 i)).toNatClampNeg) := by have e_c_3 := lv_neT c_3 (a := 6) (by decide); have l1 : (6 : Int32).toInt = 6 := rfl; have l2 := nI_toInt (n := i) (by omega); have l3 := q_mulI (c := 6) (x := nI i) (k := 6) rfl (by omega); have l4 : 0 ≤ (q_i (S 20 0 i)).toInt ∧ (q_i (S 20 0 i)).toInt ≤ 6 := hI 20 0 i; have l5 := q_addI (x := 6 * (nI i)) (y := q_i (S 20 0 i)) (by omega); have c0 := q_clI (x := q_i (S 20 0 i)) (by omega); apply q_tn; omega
    have h_8 : vp_in (nI i) 6 := by have e_c_3 := lv_neT c_3 (a := 6) (by decide); have l1 := nI_toInt (n := i) (by omega); have l2 : 0 ≤ (q_i (S 20 0 i)).toInt ∧ (q_i (S 20 0 i)).toInt ≤ 6 := hI 20 0 i; rw [vp_in_iff]; omega
    have s_9 : (nI i).toNatClampNeg = i := by have e_c_3 := lv_neT c_3 (a := 6) (by decide); have l1 := nI_toInt (n := i) (by omega); have l2 : 0 ≤ (q_i (S 20 0 i)).toInt ∧ (q_i (S 20 0 i)).toInt ≤ 6 := hI 20 0 i; apply q_tn; omega
    have h_10 : vp_in ((6 * (nI i)) + (q_i (S 20 0 i))) 36 := by have e_c_3 := lv_neT c_3 (a := 6) (by decide); have l1 : (6 : Int32).toInt = 6 := rfl; have l2 := nI_toInt (n := i) (by omega); have l3 := q_mulI (c := 6) (x := nI i) (k := 6) rfl (by omega); have l4 : 0 ≤ (q_i (S 20 0 i)).toInt ∧ (q_i (S 20 0 i)).toInt ≤ 6 := hI 20 0 i; have l5 := q_addI (x := 6 * (nI i)) (y := q_i (S 20 0 i)) (by omega); rw [vp_in_iff]; omega
    have s_11 : ((6 * (nI i)) + (q_i (S 20 0 i))).toNatClampNeg = 6 * i + ((q_i (S 20 0 i)).toNatClampNeg) := by have e_c_3 := lv_neT c_3 (a := 6) (by decide); have l1 : (6 : Int32).toInt = 6 := rfl; have l2 := nI_toInt (n := i) (by omega); have l3 := q_mulI (c := 6) (x := nI i) (k := 6) rfl (by omega); have l4 : 0 ≤ (q_i (S 20 0 i)).toInt ∧ (q_i (S 20 0 i)).toInt ≤ 6 := hI 20 0 i; have l5 := q_addI (x := 6 * (nI i)) (y := q_i (S 20 0 i)) (by omega); have c0 := q_clI (x := q_i (S 20 0 i)) (by omega); apply q_tn; omega
    have h_12 : vp_in (nI i) 6 := by have e_c_3 := lv_neT c_3 (a := 6) (by decide); have l1 := nI_toInt (n := i) (by omega); have l2 : 0 ≤ (q_i (S 20 0 i)).toInt ∧ (q_i (S 20 0 i)).toInt ≤ 6 := hI 20 0 i; rw [vp_in_iff]; omega
    have s_13 : (nI i).toNatClampNeg = i := by have e_c_3 := lv_neT c_3 (a := 6) (by decide); have l1 := nI_toInt (n := i) (by omega); have l2 : 0 ≤ (q_i (S 20 0 i)).toInt ∧ (q_i (S 20 0 i)).toInt ≤ 6 := hI 20 0 i; apply q_tn; omega
    have h_14 : vp_in (nI i) 6 := by have e_c_3 := lv_neT c_3 (a := 6) (by decide); have l1 := nI_toInt (n := i) (by omega); have l2 : 0 ≤ (q_i (S 20 0 i)).toInt ∧ (q_i (S 20 0 i)).toInt ≤ 6 := hI 20 0 i; rw [vp_in_iff]; omega
    have s_15 : (nI i).toNatClampNeg = i := by have e_c_3 := lv_neT c_3 (a := 6) (by decide); have l1 := nI_toInt (n := i) (by omega); have l2 : 0 ≤ (q_i (S 20 0 i)).toInt ∧ (q_i (S 20 0 i)).toInt ≤ 6 := hI 20 0 i; apply q_tn; omega
    have h_16 : vp_in (nI i) 6 := by have e_c_3 := lv_neT c_3 (a := 6) (by decide); have l1 := nI_toInt (n := i) (by omega); have l2 : 0 ≤ (q_i (S 20 0 i)).toInt ∧ (q_i (S 20 0 i)).toInt ≤ 6 := hI 20 0 i; rw [vp_in_iff]; omega
    have s_17 : (nI i).toNatClampNeg = i := by have e_c_3 := lv_neT c_3 (a := 6) (by decide); have l1 := nI_toInt (n := i) (by omega); have l2 : 0 ≤ (q_i (S 20 0 i)).toInt ∧ (q_i (S 20 0 i)).toInt ≤ 6 := hI 20 0 i; apply q_tn; omega
    have h_18 : vp_in (nI i) 6 := by have e_c_3 := lv_neT c_3 (a := 6) (by decide); have l1 := nI_toInt (n := i) (by omega); have l2 : 0 ≤ (q_i (S 20 0 i)).toInt ∧ (q_i (S 20 0 i)).toInt ≤ 6 := hI 20 0 i; rw [vp_in_iff]; omega
    have s_19 : (nI i).toNatClampNeg = i := by have e_c_3 := lv_neT c_3 (a := 6) (by decide); have l1 := nI_toInt (n := i) (by omega); have l2 : 0 ≤ (q_i (S 20 0 i)).toInt ∧ (q_i (S 20 0 i)).toInt ≤ 6 := hI 20 0 i; apply q_tn; omega
    have hf : m_fm_note S i a b = q_st (q_st (q_st (q_st S 21 0 (6 * i + ((q_i (S 20 0 i)).toNatClampNeg)) (.int a)) 22 0 (6 * i + ((q_i (S 20 0 i)).toNatClampNeg)) (.int b)) 20 0 i (.int ((q_i (S 20 0 i)) + 1))) 11 0 i (.int ((q_i (S 11 0 i)) + 1)) := by unfold m_fm_note; rw [if_neg c_3]
    rw [hf]
    exact (mI_st (mI_st (mIs (mIs hI rfl) rfl) (by have e_c_3 := lv_neT c_3 (a := 6) (by decide); have l1 : 0 ≤ (q_i (S 20 0 i)).toInt ∧ (q_i (S 20 0 i)).toInt ≤ 6 := hI 20 0 i; have l2 : (1 : Int32).toInt = 1 := rfl; have l3 := q_addI (x := q_i (S 20 0 i)) (y := 1) (by omega); show 0 ≤ ((q_i (S 20 0 i)) + 1).toInt ∧ ((q_i (S 20 0 i)) + 1).toInt ≤ 6; omega)) (by have e_c_3 := lv_neT c_3 (a := 6) (by decide); have l1 : 0 ≤ (q_i (S 11 0 i)).toInt ∧ (q_i (S 11 0 i)).toInt ≤ 14 := hI 11 0 i; have l2 : (1 : Int32).toInt = 1 := rfl; have l3 := q_addI (x := q_i (S 11 0 i)) (y := 1) (by omega); have l4 : 0 ≤ (q_i (S 20 0 i)).toInt ∧ (q_i (S 20 0 i)).toInt ≤ 6 := hI 20 0 i; show 0 ≤ ((q_i (S 11 0 i)) + 1).toInt ∧ ((q_i (S 11 0 i)) + 1).toInt ≤ 14; omega))
set_option maxRecDepth 100000 in
set_option maxHeartbeats 4000000 in
theorem mK_fm_note (S : q_S) (i : Nat) (a b : Int32) (x y z : Nat) (h0 : x ≠ 0) (h7 : x ≠ 7) (h8 : x ≠ 8) (h10 : x ≠ 10) (h11 : x ≠ 11) (h16 : x ≠ 16) (h20 : x ≠ 20) (h21 : x ≠ 21) (h22 : x ≠ 22) (h29 : x ≠ 29) (h32 : x ≠ 32) (h33 : x ≠ 33) : (m_fm_note S i a b) x y z = S x y z := by
  by_cases c_3 : q_i (S 20 0 i) = 6
  · -- yes
    have hf : m_fm_note S i a b = m_fm_breakUp S i := by unfold m_fm_note; rw [if_pos c_3]
    rw [hf]
    exact ((mK_fm_breakUp S i x y z h0 h7 h8 h10 h16 h29 h32 h33))
  · -- no
    have hf : m_fm_note S i a b = q_st (q_st (q_st (q_st S 21 0 (6 * i + ((q_i (S 20 0 i)).toNatClampNeg)) (.int a)) 22 0 (6 * i + ((q_i (S 20 0 i)).toNatClampNeg)) (.int b)) 20 0 i (.int ((q_i (S 20 0 i)) + 1))) 11 0 i (.int ((q_i (S 11 0 i)) + 1)) := by unfold m_fm_note; rw [if_neg c_3]
    rw [hf]
    exact (q_kj h11).trans ((q_kj h20).trans ((q_kj h22).trans ((q_kj h21))))
