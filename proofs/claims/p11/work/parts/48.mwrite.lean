def m_fm_write (S : q_S) (i : Nat) (a b d : Int32) : q_S :=
  if m_fm_hasEnded (m_fm_remember S i) i = 0 then
    if m_fm_isFor (m_fm_remember S i) i a b = 0 then
      m_fm_remember S i
    else
      if (m_fm_put (m_fm_remember S i) i a b d).1 = 0 then
        (m_fm_put (m_fm_remember S i) i a b d).2
      else
        m_fm_goOn (m_fm_came ((m_fm_put (m_fm_remember S i) i a b d).2) i a d) i
  else
    m_fm_remember S i
set_option maxRecDepth 100000 in
set_option maxHeartbeats 4000000 in
theorem mC_fm_write (l : Launch) (G : q_G) (S : q_S) (i : Nat) (a b d : Int32) (hi : i < 6) (hI : mI S) (hJ : mJ S) (hg : (q_i (S 16 0 i)).toInt ≤ (q_i (S 15 0 i)).toInt) (hQ : mQ S) (hw : 1 ≤ (q_i (S 15 0 i)).toInt) (hVf : q_i (S 6 0 i) = 0 → mV S i) : q_Mv mX G l my_fm_write (q_ws (q_gw lw_tbl) my_fm_write mb_fm_write 6 none) (q_rm 11) [.ref (q_a mX G 0 0), .int (nI i), .int a, .int b, .int d] S (m_fm_write S i a b d) := by
  refine q_met (cc := mb_fm_write) (maxL := 6) (ret := none) mOk (by decide) rfl (Nat.le_of_ble_eq_true rfl) ?_
  intro p e s m below meth c ls hC hr hlocks hW hS hl
  have hx := hC.1.1
  have hb := hC.1.2.1
  have hl : lv_has ls 6 [(0, .ref (q_a mX G 0 0)), (1, .int (nI i)), (2, .int a), (3, .int b), (4, .int d)] := hl
  refine lv_aload_n hx hb md_fm_write_0 rfl (lv_at hl 0 rfl) ?_
  refine lv_iload_n hx hb md_fm_write_1 rfl (lv_at hl 1 rfl) ?_
  refine q_callv hC hS (fun _ h => h) (q_runV (rest := []) hC hW (mC_fm_remember l G S i hi hI hJ hQ hw) (mc_fm_188 (q_rm 10) hC.1.2.2.2.2 ⟨Nat.le_of_ble_eq_true rfl, Nat.le_of_ble_eq_true rfl⟩ rfl rfl) Nat.one_pos rfl rfl rfl hl.1 rfl (Nat.le_of_ble_eq_true rfl) md_fm_write_2 ⟨Nat.zero_le _, Nat.zero_le _⟩) (fun H locs hW hS => ?_)
  refine lv_aload_n hx hb md_fm_write_5 rfl (lv_at hl 0 rfl) ?_
  refine lv_iload_n hx hb md_fm_write_6 rfl (lv_at hl 1 rfl) ?_
  refine q_calli hC hS (fun _ h => h) (q_runV (rest := []) hC hW (mC_fm_hasEnded l G (m_fm_remember S i) i hi) (mc_fm_191 (q_rm 0) hC.1.2.2.2.2 ⟨Nat.le_of_ble_eq_true rfl, Nat.le_of_ble_eq_true rfl⟩ rfl rfl) Nat.one_pos rfl rfl rfl hl.1 rfl (Nat.le_of_ble_eq_true rfl) md_fm_write_7 ⟨Nat.zero_le _, Nat.zero_le _⟩) (fun H locs hW hS => ?_)
  refine lv_if_ne (tgt := 23) hx hb md_fm_write_10 (by decide) (fun c_1 => ?_) (fun c_1 => ?_)
  · -- taken
    have hf : m_fm_write S i a b d = m_fm_remember S i := by unfold m_fm_write; rw [if_neg c_1]
    rw [hf]
    exact q_vret hC hr hlocks hW hS rfl md_fm_write_23
  · -- not taken
    refine lv_aload_n hx hb md_fm_write_13 rfl (lv_at hl 0 rfl) ?_
    refine lv_iload_n hx hb md_fm_write_14 rfl (lv_at hl 1 rfl) ?_
    refine lv_iload_n hx hb md_fm_write_15 rfl (lv_at hl 2 rfl) ?_
    refine lv_iload_n hx hb md_fm_write_16 rfl (lv_at hl 3 rfl) ?_
    have hI_2 : mI (m_fm_remember S i) := (mI_fm_remember S i hi hI hJ hQ hw)
    refine q_calli hC hS (fun _ h => h) (q_runV (rest := []) hC hW (mC_fm_isFor l G (m_fm_remember S i) i a b hi hI_2 (mp_remember hi hI hJ hg hQ hw hVf).2.1) (mc_fm_176 (q_rm 0) hC.1.2.2.2.2 ⟨Nat.le_of_ble_eq_true rfl, Nat.le_of_ble_eq_true rfl⟩ rfl rfl) Nat.one_pos rfl rfl rfl hl.1 rfl (Nat.le_of_ble_eq_true rfl) md_fm_write_17 ⟨Nat.zero_le _, Nat.zero_le _⟩) (fun H locs hW hS => ?_)
    refine lv_if_ne (tgt := 24) hx hb md_fm_write_20 (by decide) (fun c_3 => ?_) (fun c_3 => ?_)
    · -- taken
      refine lv_aload_n hx hb md_fm_write_24 rfl (lv_at hl 0 rfl) ?_
      refine lv_iload_n hx hb md_fm_write_25 rfl (lv_at hl 1 rfl) ?_
      refine lv_iload_n hx hb md_fm_write_26 rfl (lv_at hl 2 rfl) ?_
      refine lv_iload_n hx hb md_fm_write_27 rfl (lv_at hl 3 rfl) ?_
      refine lv_iload hx hb md_fm_write_28 (lv_at hl 4 rfl) ?_
      have hI_4 : mI (m_fm_remember S i) := (mI_fm_remember S i hi hI hJ hQ hw)
      refine q_calli hC hS (fun _ h => h) (q_runV (rest := []) hC hW (mC_fm_put l G (m_fm_remember S i) i a b d hi hI_4 (mp_remember hi hI hJ hg hQ hw hVf).1) (mc_fm_150 (q_rm 4) hC.1.2.2.2.2 ⟨Nat.le_of_ble_eq_true rfl, Nat.le_of_ble_eq_true rfl⟩ rfl rfl) Nat.one_pos rfl rfl rfl hl.1 rfl (Nat.le_of_ble_eq_true rfl) md_fm_write_30 ⟨Nat.zero_le _, Nat.zero_le _⟩) (fun H locs hW hS => ?_)
      refine lv_istore (lv' := [(5, .int ((m_fm_put (m_fm_remember S i) i a b d).1)), (0, .ref (q_a mX G 0 0)), (1, .int (nI i)), (2, .int a), (3, .int b), (4, .int d)]) hx hb md_fm_write_33 hl (by decide) rfl (fun ls hl => ?_)
      refine lv_iload hx hb md_fm_write_35 (lv_at hl 0 rfl) ?_
      refine lv_if_ne (tgt := 41) hx hb md_fm_write_37 (by decide) (fun c_5 => ?_) (fun c_5 => ?_)
      · -- taken
        refine lv_aload_n hx hb md_fm_write_41 rfl (lv_at hl 1 rfl) ?_
        refine lv_iload_n hx hb md_fm_write_42 rfl (lv_at hl 2 rfl) ?_
        refine lv_iload_n hx hb md_fm_write_43 rfl (lv_at hl 3 rfl) ?_
        refine lv_iload hx hb md_fm_write_44 (lv_at hl 5 rfl) ?_
        have hI_6 : mI ((m_fm_put (m_fm_remember S i) i a b d).2) := (mI_fm_put (m_fm_remember S i) i a b d hi hI_4 (mp_remember hi hI hJ hg hQ hw hVf).1)
        have hJ_7 : mJ ((m_fm_put (m_fm_remember S i) i a b d).2) := mJ_eq hJ (fun k => ((mK_fm_put (m_fm_remember S i) i a b d 1 0 k (by decide) (by decide) (by decide) (by decide) (by decide) (by decide) (by decide) (by decide) (by decide) (by decide) (by decide) (by decide)).trans (mK_fm_remember S i 1 0 k (by decide) (by decide) (by decide) (by decide) (by decide) (by decide) (by decide) (by decide) (by decide) (by decide) (by decide) (by decide) (by decide) (by decide) (by decide) (by decide) (by decide) (by decide) (by decide) (by decide) (by decide) (by decide) (by decide) (by decide) (by decide) (by decide) (by decide)))) (fun k => ((mK_fm_put (m_fm_remember S i) i a b d 2 0 k (by decide) (by decide) (by decide) (by decide) (by decide) (by decide) (by decide) (by decide) (by decide) (by decide) (by decide) (by decide)).trans (mK_fm_remember S i 2 0 k (by decide) (by decide) (by decide) (by decide) (by decide) (by decide) (by decide) (by decide) (by decide) (by decide) (by decide) (by decide) (by decide) (by decide) (by decide) (by decide) (by decide) (by decide) (by decide) (by decide) (by decide) (by decide) (by decide) (by decide) (by decide) (by decide) (by decide)))) (fun k => ((mK_fm_put (m_fm_remember S i) i a b d 3 0 k (by decide) (by decide) (by decide) (by decide) (by decide) (by decide) (by decide) (by decide) (by decide) (by decide) (by decide) (by decide)).trans (mK_fm_remember S i 3 0 k (by decide) (by decide) (by decide) (by decide) (by decide) (by decide) (by decide) (by decide) (by decide) (by decide) (by decide) (by decide) (by decide) (by decide) (by decide) (by decide) (by decide) (by decide) (by decide) (by decide) (by decide) (by decide) (by decide) (by decide) (by decide) (by decide) (by decide)))) (fun k => ((mK_fm_put (m_fm_remember S i) i a b d 4 0 k (by decide) (by decide) (by decide) (by decide) (by decide) (by decide) (by decide) (by decide) (by decide) (by decide) (by decide) (by decide)).trans (mK_fm_remember S i 4 0 k (by decide) (by decide) (by decide) (by decide) (by decide) (by decide) (by decide) (by decide) (by decide) (by decide) (by decide) (by decide) (by decide) (by decide) (by decide) (by decide) (by decide) (by decide) (by decide) (by decide) (by decide) (by decide) (by decide) (by decide) (by decide) (by decide) (by decide))))
        have hQ_9 : mQ (m_fm_remember S i) := (mQ_fm_remember S i hi hI hJ hQ hw)
        have hQ_8 : mQ ((m_fm_put (m_fm_remember S i) i a b d).2) := (mQ_fm_put (m_fm_remember S i) i a b d hi hI_4 (mp_remember hi hI hJ hg hQ hw hVf).1 hQ_9)
        refine q_callv hC hS (fun _ h => h) (q_runV (rest := []) hC hW (mC_fm_came l G ((m_fm_put (m_fm_remember S i) i a b d).2) i a d hi hI_6 hJ_7 (mp_put1 hI_4 (mp_remember hi hI hJ hg hQ hw hVf).1 c_5).1 hQ_8 (mV_put hI_4 (mp_remember hi hI hJ hg hQ hw hVf).1 (mp_remember hi hI hJ hg hQ hw hVf).2.1 c_5) (mSt_put hI_4 (mp_remember hi hI hJ hg hQ hw hVf).1 (mF_isFor c_3) c_5)) (mc_fm_179 (q_rm 7) hC.1.2.2.2.2 ⟨Nat.le_of_ble_eq_true rfl, Nat.le_of_ble_eq_true rfl⟩ rfl rfl) Nat.one_pos rfl rfl rfl hl.1 rfl (Nat.le_of_ble_eq_true rfl) md_fm_write_46 ⟨Nat.zero_le _, Nat.zero_le _⟩) (fun H locs hW hS => ?_)
        refine lv_aload_n hx hb md_fm_write_49 rfl (lv_at hl 1 rfl) ?_
        refine lv_iload_n hx hb md_fm_write_50 rfl (lv_at hl 2 rfl) ?_
        have hI_10 : mI (m_fm_came ((m_fm_put (m_fm_remember S i) i a b d).2) i a d) := (mI_fm_came ((m_fm_put (m_fm_remember S i) i a b d).2) i a d hi hI_6 hJ_7 (mp_put1 hI_4 (mp_remember hi hI hJ hg hQ hw hVf).1 c_5).1 hQ_8 (mV_put hI_4 (mp_remember hi hI hJ hg hQ hw hVf).1 (mp_remember hi hI hJ hg hQ hw hVf).2.1 c_5) (mSt_put hI_4 (mp_remember hi hI hJ hg hQ hw hVf).1 (mF_isFor c_3) c_5))
        have hJ_11 : mJ (m_fm_came ((m_fm_put (m_fm_remember S i) i a b d).2) i a d) := mJ_eq hJ (fun k => ((mK_fm_came ((m_fm_put (m_fm_remember S i) i a b d).2) i a d 1 0 k (by decide) (by decide) (by decide) (by decide) (by decide) (by decide) (by decide) (by decide) (by decide) (by decide) (by decide) (by decide) (by decide) (by decide) (by decide) (by decide) (by decide) (by decide) (by decide)).trans ((mK_fm_put (m_fm_remember S i) i a b d 1 0 k (by decide) (by decide) (by decide) (by decide) (by decide) (by decide) (by decide) (by decide) (by decide) (by decide) (by decide) (by decide)).trans (mK_fm_remember S i 1 0 k (by decide) (by decide) (by decide) (by decide) (by decide) (by decide) (by decide) (by decide) (by decide) (by decide) (by decide) (by decide) (by decide) (by decide) (by decide) (by decide) (by decide) (by decide) (by decide) (by decide) (by decide) (by decide) (by decide) (by decide) (by decide) (by decide) (by decide))))) (fun k => ((mK_fm_came ((m_fm_put (m_fm_remember S i) i a b d).2) i a d 2 0 k (by decide) (by decide) (by decide) (by decide) (by decide) (by decide) (by decide) (by decide) (by decide) (by decide) (by decide) (by decide) (by decide) (by decide) (by decide) (by decide) (by decide) (by decide) (by decide)).trans ((mK_fm_put (m_fm_remember S i) i a b d 2 0 k (by decide) (by decide) (by decide) (by decide) (by decide) (by decide) (by decide) (by decide) (by decide) (by decide) (by decide) (by decide)).trans (mK_fm_remember S i 2 0 k (by decide) (by decide) (by decide) (by decide) (by decide) (by decide) (by decide) (by decide) (by decide) (by decide) (by decide) (by decide) (by decide) (by decide) (by decide) (by decide) (by decide) (by decide) (by decide) (by decide) (by decide) (by decide) (by decide) (by decide) (by decide) (by decide) (by decide))))) (fun k => ((mK_fm_came ((m_fm_put (m_fm_remember S i) i a b d).2) i a d 3 0 k (by decide) (by decide) (by decide) (by decide) (by decide) (by decide) (by decide) (by decide) (by decide) (by decide) (by decide) (by decide) (by decide) (by decide) (by decide) (by decide) (by decide) (by decide) (by decide)).trans ((mK_fm_put (m_fm_remember S i) i a b d 3 0 k (by decide) (by decide) (by decide) (by decide) (by decide) (by decide) (by decide) (by decide) (by decide) (by decide) (by decide) (by decide)).trans (mK_fm_remember S i 3 0 k (by decide) (by decide) (by decide) (by decide) (by decide) (by decide) (by decide) (by decide) (by decide) (by decide) (by decide) (by decide) (by decide) (by decide) (by decide) (by decide) (by decide) (by decide) (by decide) (by decide) (by decide) (by decide) (by decide) (by decide) (by decide) (by decide) (by decide))))) (fun k => ((mK_fm_came ((m_fm_put (m_fm_remember S i) i a b d).2) i a d 4 0 k (by decide) (by decide) (by decide) (by decide) (by decide) (by decide) (by decide) (by decide) (by decide) (by decide) (by decide) (by decide) (by decide) (by decide) (by decide) (by decide) (by decide) (by decide) (by decide)).trans ((mK_fm_put (m_fm_remember S i) i a b d 4 0 k (by decide) (by decide) (by decide) (by decide) (by decide) (by decide) (by decide) (by decide) (by decide) (by decide) (by decide) (by decide)).trans (mK_fm_remember S i 4 0 k (by decide) (by decide) (by decide) (by decide) (by decide) (by decide) (by decide) (by decide) (by decide) (by decide) (by decide) (by decide) (by decide) (by decide) (by decide) (by decide) (by decide) (by decide) (by decide) (by decide) (by decide) (by decide) (by decide) (by decide) (by decide) (by decide) (by decide)))))
        have hQ_12 : mQ (m_fm_came ((m_fm_put (m_fm_remember S i) i a b d).2) i a d) := (mQ_fm_came ((m_fm_put (m_fm_remember S i) i a b d).2) i a d hi hI_6 hJ_7 (mp_put1 hI_4 (mp_remember hi hI hJ hg hQ hw hVf).1 c_5).1 hQ_8 (mV_put hI_4 (mp_remember hi hI hJ hg hQ hw hVf).1 (mp_remember hi hI hJ hg hQ hw hVf).2.1 c_5) (mSt_put hI_4 (mp_remember hi hI hJ hg hQ hw hVf).1 (mF_isFor c_3) c_5))
        refine q_callv hC hS (fun _ h => h) (q_runV (rest := []) hC hW (mC_fm_goOn l G (m_fm_came ((m_fm_put (m_fm_remember S i) i a b d).2) i a d) i hi hI_10 hJ_11 (mp_came hI_6 (mp_put1 hI_4 (mp_remember hi hI hJ hg hQ hw hVf).1 c_5).1 a d).1 hQ_12 (mp_came hI_6 (mp_put1 hI_4 (mp_remember hi hI hJ hg hQ hw hVf).1 c_5).1 a d).2.2.1) (mc_fm_182 (q_rm 8) hC.1.2.2.2.2 ⟨Nat.le_of_ble_eq_true rfl, Nat.le_of_ble_eq_true rfl⟩ rfl rfl) Nat.one_pos rfl rfl rfl hl.1 rfl (Nat.le_of_ble_eq_true rfl) md_fm_write_51 ⟨Nat.zero_le _, Nat.zero_le _⟩) (fun H locs hW hS => ?_)
        have hf : m_fm_write S i a b d = m_fm_goOn (m_fm_came ((m_fm_put (m_fm_remember S i) i a b d).2) i a d) i := by unfold m_fm_write; rw [if_pos c_1, if_neg c_3, if_neg c_5]
        rw [hf]
        exact q_vret hC hr hlocks hW hS rfl md_fm_write_54
      · -- not taken
        have hf : m_fm_write S i a b d = (m_fm_put (m_fm_remember S i) i a b d).2 := by unfold m_fm_write; rw [if_pos c_1, if_neg c_3, if_pos c_5]
        rw [hf]
        exact q_vret hC hr hlocks hW hS rfl md_fm_write_40
    · -- not taken
      have hf : m_fm_write S i a b d = m_fm_remember S i := by unfold m_fm_write; rw [if_pos c_1, if_pos c_3]
      rw [hf]
      exact q_vret hC hr hlocks hW hS rfl md_fm_write_23
set_option maxRecDepth 100000 in
set_option maxHeartbeats 4000000 in
theorem mI_fm_write (S : q_S) (i : Nat) (a b d : Int32) (hi : i < 6) (hI : mI S) (hJ : mJ S) (hg : (q_i (S 16 0 i)).toInt ≤ (q_i (S 15 0 i)).toInt) (hQ : mQ S) (hw : 1 ≤ (q_i (S 15 0 i)).toInt) (hVf : q_i (S 6 0 i) = 0 → mV S i) : mI (m_fm_write S i a b d) := by
  by_cases c_1 : m_fm_hasEnded (m_fm_remember S i) i = 0
  · -- yes
    by_cases c_3 : m_fm_isFor (m_fm_remember S i) i a b = 0
    · -- yes
      have hI_2 : mI (m_fm_remember S i) := (mI_fm_remember S i hi hI hJ hQ hw)
      have hf : m_fm_write S i a b d = m_fm_remember S i := by unfold m_fm_write; rw [if_pos c_1, if_pos c_3]
      rw [hf]
      exact (mI_fm_remember S i hi hI hJ hQ hw)
    · -- no
      by_cases c_5 : (m_fm_put (m_fm_remember S i) i a b d).1 = 0
      · -- yes
        have hI_2 : mI (m_fm_remember S i) := (mI_fm_remember S i hi hI hJ hQ hw)
        have hI_4 : mI (m_fm_remember S i) := (mI_fm_remember S i hi hI hJ hQ hw)
        have hf : m_fm_write S i a b d = (m_fm_put (m_fm_remember S i) i a b d).2 := by unfold m_fm_write; rw [if_pos c_1, if_neg c_3, if_pos c_5]
        rw [hf]
        exact (mI_fm_put (m_fm_remember S i) i a b d hi hI_4 (mp_remember hi hI hJ hg hQ hw hVf).1)
      · -- no
        have hI_2 : mI (m_fm_remember S i) := (mI_fm_remember S i hi hI hJ hQ hw)
        have hI_4 : mI (m_fm_remember S i) := (mI_fm_remember S i hi hI hJ hQ hw)
        have hI_6 : mI ((m_fm_put (m_fm_remember S i) i a b d).2) := (mI_fm_put (m_fm_remember S i) i a b d hi hI_4 (mp_remember hi hI hJ hg hQ hw hVf).1)
        have hJ_7 : mJ ((m_fm_put (m_fm_remember S i) i a b d).2) := mJ_eq hJ (fun k => ((mK_fm_put (m_fm_remember S i) i a b d 1 0 k (by decide) (by decide) (by decide) (by decide) (by decide) (by decide) (by decide) (by decide) (by decide) (by decide) (by decide) (by decide)).trans (mK_fm_remember S i 1 0 k (by decide) (by decide) (by decide) (by decide) (by decide) (by decide) (by decide) (by decide) (by decide) (by decide) (by decide) (by decide) (by decide) (by decide) (by decide) (by decide) (by decide) (by decide) (by decide) (by decide) (by decide) (by decide) (by decide) (by decide) (by decide) (by decide) (by decide)))) (fun k => ((mK_fm_put (m_fm_remember S i) i a b d 2 0 k (by decide) (by decide) (by decide) (by decide) (by decide) (by decide) (by decide) (by decide) (by decide) (by decide) (by decide) (by decide)).trans (mK_fm_remember S i 2 0 k (by decide) (by decide) (by decide) (by decide) (by decide) (by decide) (by decide) (by decide) (by decide) (by decide) (by decide) (by decide) (by decide) (by decide) (by decide) (by decide) (by decide) (by decide) (by decide) (by decide) (by decide) (by decide) (by decide) (by decide) (by decide) (by decide) (by decide)))) (fun k => ((mK_fm_put (m_fm_remember S i) i a b d 3 0 k (by decide) (by decide) (by decide) (by decide) (by decide) (by decide) (by decide) (by decide) (by decide) (by decide) (by decide) (by decide)).trans (mK_fm_remember S i 3 0 k (by decide) (by decide) (by decide) (by decide) (by decide) (by decide) (by decide) (by decide) (by decide) (by decide) (by decide) (by decide) (by decide) (by decide) (by decide) (by decide) (by decide) (by decide) (by decide) (by decide) (by decide) (by decide) (by decide) (by decide) (by decide) (by decide) (by decide)))) (fun k => ((mK_fm_put (m_fm_remember S i) i a b d 4 0 k (by decide) (by decide) (by decide) (by decide) (by decide) (by decide) (by decide) (by decide) (by decide) (by decide) (by decide) (by decide)).trans (mK_fm_remember S i 4 0 k (by decide) (by decide) (by decide) (by decide) (by decide) (by decide) (by decide) (by decide) (by decide) (by decide) (by decide) (by decide) (by decide) (by decide) (by decide) (by decide) (by decide) (by decide) (by decide) (by decide) (by decide) (by decide) (by decide) (by decide) (by decide) (by decide) (by decide))))
        have hQ_9 : mQ (m_fm_remember S i) := (mQ_fm_remember S i hi hI hJ hQ hw)
        have hQ_8 : mQ ((m_fm_put (m_fm_remember S i) i a b d).2) := (mQ_fm_put (m_fm_remember S i) i a b d hi hI_4 (mp_remember hi hI hJ hg hQ hw hVf).1 hQ_9)
        have hI_10 : mI (m_fm_came ((m_fm_put (m_fm_remember S i) i a b d).2) i a d) := (mI_fm_came ((m_fm_put (m_fm_remember S i) i a b d).2) i a d hi hI_6 hJ_7 (mp_put1 hI_4 (mp_remember hi hI hJ hg hQ hw hVf).1 c_5).1 hQ_8 (mV_put hI_4 (mp_remember hi hI hJ hg hQ hw hVf).1 (mp_remember hi hI hJ hg hQ hw hVf).2.1 c_5) (mSt_put hI_4 (mp_remember hi hI hJ hg hQ hw hVf).1 (mF_isFor c_3) c_5))
        have hJ_11 : mJ (m_fm_came ((m_fm_put (m_fm_remember S i) i a b d).2) i a d) := mJ_eq hJ (fun k => ((mK_fm_came ((m_fm_put (m_fm_remember S i) i a b d).2) i a d 1 0 k (by decide) (by decide) (by decide) (by decide) (by decide) (by decide) (by decide) (by decide) (by decide) (by decide) (by decide) (by decide) (by decide) (by decide) (by decide) (by decide) (by decide) (by decide) (by decide)).trans ((mK_fm_put (m_fm_remember S i) i a b d 1 0 k (by decide) (by decide) (by decide) (by decide) (by decide) (by decide) (by decide) (by decide) (by decide) (by decide) (by decide) (by decide)).trans (mK_fm_remember S i 1 0 k (by decide) (by decide) (by decide) (by decide) (by decide) (by decide) (by decide) (by decide) (by decide) (by decide) (by decide) (by decide) (by decide) (by decide) (by decide) (by decide) (by decide) (by decide) (by decide) (by decide) (by decide) (by decide) (by decide) (by decide) (by decide) (by decide) (by decide))))) (fun k => ((mK_fm_came ((m_fm_put (m_fm_remember S i) i a b d).2) i a d 2 0 k (by decide) (by decide) (by decide) (by decide) (by decide) (by decide) (by decide) (by decide) (by decide) (by decide) (by decide) (by decide) (by decide) (by decide) (by decide) (by decide) (by decide) (by decide) (by decide)).trans ((mK_fm_put (m_fm_remember S i) i a b d 2 0 k (by decide) (by decide) (by decide) (by decide) (by decide) (by decide) (by decide) (by decide) (by decide) (by decide) (by decide) (by decide)).trans (mK_fm_remember S i 2 0 k (by decide) (by decide) (by decide) (by decide) (by decide) (by decide) (by decide) (by decide) (by decide) (by decide) (by decide) (by decide) (by decide) (by decide) (by decide) (by decide) (by decide) (by decide) (by decide) (by decide) (by decide) (by decide) (by decide) (by decide) (by decide) (by decide) (by decide))))) (fun k => ((mK_fm_came ((m_fm_put (m_fm_remember S i) i a b d).2) i a d 3 0 k (by decide) (by decide) (by decide) (by decide) (by decide) (by decide) (by decide) (by decide) (by decide) (by decide) (by decide) (by decide) (by decide) (by decide) (by decide) (by decide) (by decide) (by decide) (by decide)).trans ((mK_fm_put (m_fm_remember S i) i a b d 3 0 k (by decide) (by decide) (by decide) (by decide) (by decide) (by decide) (by decide) (by decide) (by decide) (by decide) (by decide) (by decide)).trans (mK_fm_remember S i 3 0 k (by decide) (by decide) (by decide) (by decide) (by decide) (by decide) (by decide) (by decide) (by decide) (by decide) (by decide) (by decide) (by decide) (by decide) (by decide) (by decide) (by decide) (by decide) (by decide) (by decide) (by decide) (by decide) (by decide) (by decide) (by decide) (by decide) (by decide))))) (fun k => ((mK_fm_came ((m_fm_put (m_fm_remember S i) i a b d).2) i a d 4 0 k (by decide) (by decide) (by decide) (by decide) (by decide) (by decide) (by decide) (by decide) (by decide) (by decide) (by decide) (by decide) (by decide) (by decide) (by decide) (by decide) (by decide) (by decide) (by decide)).trans ((mK_fm_put (m_fm_remember S i) i a b d 4 0 k (by decide) (by decide) (by decide) (by decide) (by decide) (by decide) (by decide) (by decide) (by decide) (by decide) (by decide) (by decide)).trans (mK_fm_remember S i 4 0 k (by decide) (by decide) (by decide) (by decide) (by decide) (by decide) (by decide) (by decide) (by decide) (by decide) (by decide) (by decide) (by decide) (by decide) (by decide) (by decide) (by decide) (by decide) (by decide) (by decide) (by decide) (by decide) (by decide) (by decide) (by decide) (by decide) (by decide)))))
        have hQ_12 : mQ (m_fm_came ((m_fm_put (m_fm_remember S i) i a b d).2) i a d) := (mQ_fm_came ((m_fm_put (m_fm_remember S i) i a b d).2) i a d hi hI_6 hJ_7 (mp_put1 hI_4 (mp_remember hi hI hJ hg hQ hw hVf).1 c_5).1 hQ_8 (mV_put hI_4 (mp_remember hi hI hJ hg hQ hw hVf).1 (mp_remember hi hI hJ hg hQ hw hVf).2.1 c_5) (mSt_put hI_4 (mp_remember hi hI hJ hg hQ hw hVf).1 (mF_isFor c_3) c_5))
        have hf : m_fm_write S i a b d = m_fm_goOn (m_fm_came ((m_fm_put (m_fm_remember S i) i a b d).2) i a d) i := by unfold m_fm_write; rw [if_pos c_1, if_neg c_3, if_neg c_5]
        rw [hf]
        exact (mI_fm_goOn (m_fm_came ((m_fm_put (m_fm_remember S i) i a b d).2) i a d) i hi hI_10 hJ_11 (mp_came hI_6 (mp_put1 hI_4 (mp_remember hi hI hJ hg hQ hw hVf).1 c_5).1 a d).1 hQ_12 (mp_came hI_6 (mp_put1 hI_4 (mp_remember hi hI hJ hg hQ hw hVf).1 c_5).1 a d).2.2.1)
  · -- no
    have hf : m_fm_write S i a b d = m_fm_remember S i := by unfold m_fm_write; rw [if_neg c_1]
    rw [hf]
    exact (mI_fm_remember S i hi hI hJ hQ hw)
set_option maxRecDepth 100000 in
set_option maxHeartbeats 4000000 in
theorem mK_fm_write (S : q_S) (i : Nat) (a b d : Int32) (x y z : Nat) (h0 : x ≠ 0) (h6 : x ≠ 6) (h7 : x ≠ 7) (h8 : x ≠ 8) (h10 : x ≠ 10) (h11 : x ≠ 11) (h12 : x ≠ 12) (h13 : x ≠ 13) (h14 : x ≠ 14) (h15 : x ≠ 15) (h16 : x ≠ 16) (h17 : x ≠ 17) (h18 : x ≠ 18) (h19 : x ≠ 19) (h20 : x ≠ 20) (h21 : x ≠ 21) (h22 : x ≠ 22) (h23 : x ≠ 23) (h24 : x ≠ 24) (h25 : x ≠ 25) (h26 : x ≠ 26) (h27 : x ≠ 27) (h28 : x ≠ 28) (h29 : x ≠ 29) (h31 : x ≠ 31) (h32 : x ≠ 32) (h33 : x ≠ 33) : (m_fm_write S i a b d) x y z = S x y z := by
  by_cases c_1 : m_fm_hasEnded (m_fm_remember S i) i = 0
  · -- yes
    by_cases c_3 : m_fm_isFor (m_fm_remember S i) i a b = 0
    · -- yes
      have hf : m_fm_write S i a b d = m_fm_remember S i := by unfold m_fm_write; rw [if_pos c_1, if_pos c_3]
      rw [hf]
      exact ((mK_fm_remember S i x y z h0 h6 h7 h8 h10 h11 h12 h13 h14 h15 h16 h17 h18 h19 h20 h21 h22 h23 h24 h25 h26 h27 h28 h29 h31 h32 h33))
    · -- no
      by_cases c_5 : (m_fm_put (m_fm_remember S i) i a b d).1 = 0
      · -- yes
        have hf : m_fm_write S i a b d = (m_fm_put (m_fm_remember S i) i a b d).2 := by unfold m_fm_write; rw [if_pos c_1, if_neg c_3, if_pos c_5]
        rw [hf]
        exact ((mK_fm_put (m_fm_remember S i) i a b d x y z h0 h7 h8 h10 h15 h16 h17 h18 h19 h29 h32 h33)).trans (((mK_fm_remember S i x y z h0 h6 h7 h8 h10 h11 h12 h13 h14 h15 h16 h17 h18 h19 h20 h21 h22 h23 h24 h25 h26 h27 h28 h29 h31 h32 h33)))
      · -- no
        have hf : m_fm_write S i a b d = m_fm_goOn (m_fm_came ((m_fm_put (m_fm_remember S i) i a b d).2) i a d) i := by unfold m_fm_write; rw [if_pos c_1, if_neg c_3, if_neg c_5]
        rw [hf]
        exact ((mK_fm_goOn (m_fm_came ((m_fm_put (m_fm_remember S i) i a b d).2) i a d) i x y z h0 h7 h8 h10 h11 h12 h13 h14 h15 h16 h17 h18 h19 h20 h21 h22 h23 h24 h25 h26 h27 h28 h29 h31 h32 h33)).trans (((mK_fm_came ((m_fm_put (m_fm_remember S i) i a b d).2) i a d x y z h0 h7 h8 h10 h11 h12 h14 h15 h16 h17 h18 h19 h20 h27 h28 h29 h31 h32 h33)).trans (((mK_fm_put (m_fm_remember S i) i a b d x y z h0 h7 h8 h10 h15 h16 h17 h18 h19 h29 h32 h33)).trans (((mK_fm_remember S i x y z h0 h6 h7 h8 h10 h11 h12 h13 h14 h15 h16 h17 h18 h19 h20 h21 h22 h23 h24 h25 h26 h27 h28 h29 h31 h32 h33)))))
  · -- no
    have hf : m_fm_write S i a b d = m_fm_remember S i := by unfold m_fm_write; rw [if_neg c_1]
    rw [hf]
    exact ((mK_fm_remember S i x y z h0 h6 h7 h8 h10 h11 h12 h13 h14 h15 h16 h17 h18 h19 h20 h21 h22 h23 h24 h25 h26 h27 h28 h29 h31 h32 h33))
