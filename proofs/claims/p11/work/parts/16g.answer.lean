def x_fe_answer (S : q_S) (a b d : Int32) : Int32 × q_S :=
  if x_fe_isThere S a = 0 then
    ((-1), S)
  else
    if q_i (S 21 a.toNatClampNeg 2) = 0 then
      ((-2), S)
    else
      if b = 0 then
        (q_i ((x_fe_goWrong S a.toNatClampNeg) 9 a.toNatClampNeg 10), x_fe_goWrong S a.toNatClampNeg)
      else
        (q_i ((x_fe_happen (x_fe_remember S a.toNatClampNeg) a.toNatClampNeg 3 (q_i ((x_fe_remember S a.toNatClampNeg) 21 a.toNatClampNeg 0)) d) 9 a.toNatClampNeg 10), x_fe_happen (x_fe_remember S a.toNatClampNeg) a.toNatClampNeg 3 (q_i ((x_fe_remember S a.toNatClampNeg) 21 a.toNatClampNeg 0)) d)
set_option maxRecDepth 100000 in
set_option maxHeartbeats 4000000 in
theorem xC_fe_answer (l : Launch) (G : q_G) (S : q_S) (a b d : Int32) (hI : xI S) (hJ : xJ S) : q_Mi xX G l xy_fe_answer (q_ws (q_gw lw_tbl) xy_fe_answer xb_fe_answer 5 (some .int)) (q_rm 6) [.ref (q_a xX G 0 0), .int a, .int b, .int d] S (x_fe_answer S a b d).1 (x_fe_answer S a b d).2 := by
  refine q_met (cc := xb_fe_answer) (maxL := 5) (ret := (some .int)) xOk (by decide) rfl (Nat.le_of_ble_eq_true rfl) ?_
  intro p e s m below meth c ls hC hr hlocks hW hS hl
  have hx := hC.1.1
  have hb := hC.1.2.1
  have hl : lv_has ls 5 [(0, .ref (q_a xX G 0 0)), (1, .int a), (2, .int b), (3, .int d)] := hl
  refine lv_aload_n hx hb xd_fe_answer_0 rfl (lv_at hl 0 rfl) ?_
  refine lv_iload_n hx hb xd_fe_answer_1 rfl (lv_at hl 1 rfl) ?_
  refine q_calli hC hS (fun _ h => h) (q_runV (rest := []) hC hW (xC_fe_isThere l G S a) (xc_fe_66 (q_rm 0) hC.1.2.2.2.2 ⟨Nat.le_of_ble_eq_true rfl, Nat.le_of_ble_eq_true rfl⟩ rfl rfl) Nat.one_pos rfl rfl rfl hl.1 rfl (Nat.le_of_ble_eq_true rfl) xd_fe_answer_2 ⟨Nat.zero_le _, Nat.zero_le _⟩) (fun H locs hW hS => ?_)
  refine lv_if_ne (tgt := 10) hx hb xd_fe_answer_5 (by decide) (fun c_1 => ?_) (fun c_1 => ?_)
  · -- taken
    refine lv_aload_n hx hb xd_fe_answer_10 rfl (lv_at hl 0 rfl) ?_
    refine xg_fe_17 hC hW 0 Nat.one_pos xd_fe_answer_11 ?_
    refine lv_iload_n hx hb xd_fe_answer_14 rfl (lv_at hl 1 rfl) ?_
    have h_2 : vp_in a 6 := by obtain ⟨f_c_1_0, f_c_1_1⟩ := xF_isT c_1; simp only [vp_in_iff, Int32.lt_iff_toInt_lt, Int32.le_iff_toInt_le, q_n0, q_n1, q_n2, q_n3, q_n4, q_n5, q_n6, q_n7, q_n10, q_n14, q_n15, q_n20, q_n60, q_n1288] at f_c_1_0 f_c_1_1 ⊢; omega
    refine xal_2 hC hW 0 Nat.one_pos h_2 xd_fe_answer_15 ?_
    refine lv_astore (lv' := [(4, .ref (q_a xX G 9 a.toNatClampNeg)), (0, .ref (q_a xX G 0 0)), (1, .int a), (2, .int b), (3, .int d)]) hx hb xd_fe_answer_16 hl (by decide) rfl (fun ls hl => ?_)
    refine lv_aload hx hb xd_fe_answer_18 (lv_at hl 0 rfl) ?_
    refine xg_fe_107 hC hW a.toNatClampNeg (q_lt h_2) xd_fe_answer_20 ?_
    refine xg_fe_125 hC hW a.toNatClampNeg (q_lt h_2) (rfl) xd_fe_answer_23 ?_
    refine lv_if_ne (tgt := 32) hx hb xd_fe_answer_26 (by decide) (fun c_3 => ?_) (fun c_3 => ?_)
    · -- taken
      refine lv_iload_n hx hb xd_fe_answer_32 rfl (lv_at hl 3 rfl) ?_
      refine lv_if_eq (tgt := 61) hx hb xd_fe_answer_33 (by decide) (fun c_4 => ?_) (fun c_4 => ?_)
      · -- taken
        refine lv_aload_n hx hb xd_fe_answer_61 rfl (lv_at hl 1 rfl) ?_
        refine lv_aload hx hb xd_fe_answer_62 (lv_at hl 0 rfl) ?_
        refine q_callv hC hS (fun _ h => h) (q_runV (rest := []) hC hW (xC_fe_goWrong l G S a.toNatClampNeg (q_lt h_2) hI hJ) (xc_fe_131 (q_rm 5) hC.1.2.2.2.2 ⟨Nat.le_of_ble_eq_true rfl, Nat.le_of_ble_eq_true rfl⟩ rfl rfl) Nat.one_pos rfl rfl rfl hl.1 rfl (Nat.le_of_ble_eq_true rfl) xd_fe_answer_64 ⟨Nat.zero_le _, Nat.zero_le _⟩) (fun H locs hW hS => ?_)
        refine lv_aload hx hb xd_fe_answer_67 (lv_at hl 0 rfl) ?_
        refine xg_fe_134 hC hW a.toNatClampNeg (q_lt h_2) (rfl) xd_fe_answer_69 ?_
        have hf : x_fe_answer S a b d = (q_i ((x_fe_goWrong S a.toNatClampNeg) 9 a.toNatClampNeg 10), x_fe_goWrong S a.toNatClampNeg) := by unfold x_fe_answer; rw [if_neg c_1, if_neg c_3, if_pos c_4]
        rw [hf]
        exact q_iret hC hr hlocks hW hS rfl rfl xd_fe_answer_72
      · -- not taken
        refine lv_aload_n hx hb xd_fe_answer_36 rfl (lv_at hl 1 rfl) ?_
        refine lv_aload hx hb xd_fe_answer_37 (lv_at hl 0 rfl) ?_
        refine q_callv hC hS (fun _ h => h) (q_runV (rest := []) hC hW (xC_fe_remember l G S a.toNatClampNeg (q_lt h_2) hI hJ) (xc_fe_89 (q_rm 4) hC.1.2.2.2.2 ⟨Nat.le_of_ble_eq_true rfl, Nat.le_of_ble_eq_true rfl⟩ rfl rfl) Nat.one_pos rfl rfl rfl hl.1 rfl (Nat.le_of_ble_eq_true rfl) xd_fe_answer_39 ⟨Nat.zero_le _, Nat.zero_le _⟩) (fun H locs hW hS => ?_)
        refine lv_aload_n hx hb xd_fe_answer_42 rfl (lv_at hl 1 rfl) ?_
        refine lv_aload hx hb xd_fe_answer_43 (lv_at hl 0 rfl) ?_
        refine lv_iconst (v := 3) hx hb xd_fe_answer_45 (by decide) ?_
        refine lv_aload hx hb xd_fe_answer_46 (lv_at hl 0 rfl) ?_
        refine xg_fe_107 hC hW a.toNatClampNeg (q_lt h_2) xd_fe_answer_48 ?_
        refine xg_fe_128 hC hW a.toNatClampNeg (q_lt h_2) (rfl) xd_fe_answer_51 ?_
        refine lv_iload_n hx hb xd_fe_answer_54 rfl (lv_at hl 4 rfl) ?_
        have hI_5 : xI (x_fe_remember S a.toNatClampNeg) := (xI_fe_remember S a.toNatClampNeg (q_lt h_2) hI hJ)
        have hJ_6 : xJ (x_fe_remember S a.toNatClampNeg) := xJ_keep hJ (fun x y z hx => ((xK_fe_remember S a.toNatClampNeg x y z (show x ≠ 0 by omega) (show x ≠ 3 by omega) (show x ≠ 4 by omega) (show x ≠ 9 by omega) (show x ≠ 10 by omega) (show x ≠ 11 by omega) (show x ≠ 12 by omega) (show x ≠ 13 by omega) (show x ≠ 14 by omega) (show x ≠ 15 by omega) (show x ≠ 16 by omega) (show x ≠ 17 by omega) (show x ≠ 18 by omega) (show x ≠ 19 by omega) (show x ≠ 20 by omega) (show x ≠ 21 by omega))))
        refine q_callv hC hS (fun _ h => h) (q_runV (rest := []) hC hW (xC_fe_happen l G (x_fe_remember S a.toNatClampNeg) a.toNatClampNeg 3 (q_i ((x_fe_remember S a.toNatClampNeg) 21 a.toNatClampNeg 0)) d (q_lt h_2) hI_5 hJ_6) (xc_fe_96 (q_rm 4) hC.1.2.2.2.2 ⟨Nat.le_of_ble_eq_true rfl, Nat.le_of_ble_eq_true rfl⟩ rfl rfl) Nat.one_pos rfl rfl rfl hl.1 rfl (Nat.le_of_ble_eq_true rfl) xd_fe_answer_55 ⟨Nat.zero_le _, Nat.zero_le _⟩) (fun H locs hW hS => ?_)
        refine lv_goto (tgt := 67) hx hb xd_fe_answer_58 (by decide) ?_
        refine lv_aload hx hb xd_fe_answer_67 (lv_at hl 0 rfl) ?_
        refine xg_fe_134 hC hW a.toNatClampNeg (q_lt h_2) (rfl) xd_fe_answer_69 ?_
        have hf : x_fe_answer S a b d = (q_i ((x_fe_happen (x_fe_remember S a.toNatClampNeg) a.toNatClampNeg 3 (q_i ((x_fe_remember S a.toNatClampNeg) 21 a.toNatClampNeg 0)) d) 9 a.toNatClampNeg 10), x_fe_happen (x_fe_remember S a.toNatClampNeg) a.toNatClampNeg 3 (q_i ((x_fe_remember S a.toNatClampNeg) 21 a.toNatClampNeg 0)) d) := by unfold x_fe_answer; rw [if_neg c_1, if_neg c_3, if_neg c_4]
        rw [hf]
        exact q_iret hC hr hlocks hW hS rfl rfl xd_fe_answer_72
    · -- not taken
      refine lv_bipush (v := (-2)) hx hb xd_fe_answer_29 (by decide) ?_
      have hf : x_fe_answer S a b d = ((-2), S) := by unfold x_fe_answer; rw [if_neg c_1, if_pos c_3]
      rw [hf]
      exact q_iret hC hr hlocks hW hS rfl rfl xd_fe_answer_31
  · -- not taken
    refine lv_iconst (v := (-1)) hx hb xd_fe_answer_8 (by decide) ?_
    have hf : x_fe_answer S a b d = ((-1), S) := by unfold x_fe_answer; rw [if_pos c_1]
    rw [hf]
    exact q_iret hC hr hlocks hW hS rfl rfl xd_fe_answer_9
set_option maxRecDepth 100000 in
set_option maxHeartbeats 4000000 in
theorem xI_fe_answer (S : q_S) (a b d : Int32) (hI : xI S) (hJ : xJ S) : xI ((x_fe_answer S a b d).2) := by
  by_cases c_1 : x_fe_isThere S a = 0
  · -- yes
    have hf : x_fe_answer S a b d = ((-1), S) := by unfold x_fe_answer; rw [if_pos c_1]
    rw [hf]
    exact hI
  · -- no
    by_cases c_3 : q_i (S 21 a.toNatClampNeg 2) = 0
    · -- yes
      have h_2 : vp_in a 6 := by obtain ⟨f_c_1_0, f_c_1_1⟩ := xF_isT c_1; simp only [vp_in_iff, Int32.lt_iff_toInt_lt, Int32.le_iff_toInt_le, q_n0, q_n1, q_n2, q_n3, q_n4, q_n5, q_n6, q_n7, q_n10, q_n14, q_n15, q_n20, q_n60, q_n1288] at f_c_1_0 f_c_1_1 ⊢; omega
      have hf : x_fe_answer S a b d = ((-2), S) := by unfold x_fe_answer; rw [if_neg c_1, if_pos c_3]
      rw [hf]
      exact hI
    · -- no
      by_cases c_4 : b = 0
      · -- yes
        have h_2 : vp_in a 6 := by obtain ⟨f_c_1_0, f_c_1_1⟩ := xF_isT c_1; simp only [vp_in_iff, Int32.lt_iff_toInt_lt, Int32.le_iff_toInt_le, q_n0, q_n1, q_n2, q_n3, q_n4, q_n5, q_n6, q_n7, q_n10, q_n14, q_n15, q_n20, q_n60, q_n1288] at f_c_1_0 f_c_1_1 ⊢; omega
        have hf : x_fe_answer S a b d = (q_i ((x_fe_goWrong S a.toNatClampNeg) 9 a.toNatClampNeg 10), x_fe_goWrong S a.toNatClampNeg) := by unfold x_fe_answer; rw [if_neg c_1, if_neg c_3, if_pos c_4]
        rw [hf]
        exact (xI_fe_goWrong S a.toNatClampNeg (q_lt h_2) hI hJ)
      · -- no
        have h_2 : vp_in a 6 := by obtain ⟨f_c_1_0, f_c_1_1⟩ := xF_isT c_1; simp only [vp_in_iff, Int32.lt_iff_toInt_lt, Int32.le_iff_toInt_le, q_n0, q_n1, q_n2, q_n3, q_n4, q_n5, q_n6, q_n7, q_n10, q_n14, q_n15, q_n20, q_n60, q_n1288] at f_c_1_0 f_c_1_1 ⊢; omega
        have hI_5 : xI (x_fe_remember S a.toNatClampNeg) := (xI_fe_remember S a.toNatClampNeg (q_lt h_2) hI hJ)
        have hJ_6 : xJ (x_fe_remember S a.toNatClampNeg) := xJ_keep hJ (fun x y z hx => ((xK_fe_remember S a.toNatClampNeg x y z (show x ≠ 0 by omega) (show x ≠ 3 by omega) (show x ≠ 4 by omega) (show x ≠ 9 by omega) (show x ≠ 10 by omega) (show x ≠ 11 by omega) (show x ≠ 12 by omega) (show x ≠ 13 by omega) (show x ≠ 14 by omega) (show x ≠ 15 by omega) (show x ≠ 16 by omega) (show x ≠ 17 by omega) (show x ≠ 18 by omega) (show x ≠ 19 by omega) (show x ≠ 20 by omega) (show x ≠ 21 by omega))))
        have hf : x_fe_answer S a b d = (q_i ((x_fe_happen (x_fe_remember S a.toNatClampNeg) a.toNatClampNeg 3 (q_i ((x_fe_remember S a.toNatClampNeg) 21 a.toNatClampNeg 0)) d) 9 a.toNatClampNeg 10), x_fe_happen (x_fe_remember S a.toNatClampNeg) a.toNatClampNeg 3 (q_i ((x_fe_remember S a.toNatClampNeg) 21 a.toNatClampNeg 0)) d) := by unfold x_fe_answer; rw [if_neg c_1, if_neg c_3, if_neg c_4]
        rw [hf]
        exact (xI_fe_happen (x_fe_remember S a.toNatClampNeg) a.toNatClampNeg 3 (q_i ((x_fe_remember S a.toNatClampNeg) 21 a.toNatClampNeg 0)) d (q_lt h_2) hI_5 hJ_6)
set_option maxRecDepth 100000 in
set_option maxHeartbeats 4000000 in
theorem xK_fe_answer (S : q_S) (a b d : Int32) (x y z : Nat) (h0 : x ≠ 0) (h3 : x ≠ 3) (h4 : x ≠ 4) (h9 : x ≠ 9) (h10 : x ≠ 10) (h11 : x ≠ 11) (h12 : x ≠ 12) (h13 : x ≠ 13) (h14 : x ≠ 14) (h15 : x ≠ 15) (h16 : x ≠ 16) (h17 : x ≠ 17) (h18 : x ≠ 18) (h19 : x ≠ 19) (h20 : x ≠ 20) (h21 : x ≠ 21) : (x_fe_answer S a b d).2 x y z = S x y z := by
  by_cases c_1 : x_fe_isThere S a = 0
  · -- yes
    have hf : x_fe_answer S a b d = ((-1), S) := by unfold x_fe_answer; rw [if_pos c_1]
    rw [hf]
  · -- no
    by_cases c_3 : q_i (S 21 a.toNatClampNeg 2) = 0
    · -- yes
      have hf : x_fe_answer S a b d = ((-2), S) := by unfold x_fe_answer; rw [if_neg c_1, if_pos c_3]
      rw [hf]
    · -- no
      by_cases c_4 : b = 0
      · -- yes
        have hf : x_fe_answer S a b d = (q_i ((x_fe_goWrong S a.toNatClampNeg) 9 a.toNatClampNeg 10), x_fe_goWrong S a.toNatClampNeg) := by unfold x_fe_answer; rw [if_neg c_1, if_neg c_3, if_pos c_4]
        rw [hf]
        exact ((xK_fe_goWrong S a.toNatClampNeg x y z h0 h3 h4 h9 h10 h11 h12 h13 h14 h15 h16 h17 h18 h19 h20 h21))
      · -- no
        have hf : x_fe_answer S a b d = (q_i ((x_fe_happen (x_fe_remember S a.toNatClampNeg) a.toNatClampNeg 3 (q_i ((x_fe_remember S a.toNatClampNeg) 21 a.toNatClampNeg 0)) d) 9 a.toNatClampNeg 10), x_fe_happen (x_fe_remember S a.toNatClampNeg) a.toNatClampNeg 3 (q_i ((x_fe_remember S a.toNatClampNeg) 21 a.toNatClampNeg 0)) d) := by unfold x_fe_answer; rw [if_neg c_1, if_neg c_3, if_neg c_4]
        rw [hf]
        exact ((xK_fe_happen (x_fe_remember S a.toNatClampNeg) a.toNatClampNeg 3 (q_i ((x_fe_remember S a.toNatClampNeg) 21 a.toNatClampNeg 0)) d x y z h0 h3 h4 h9 h10 h11 h12 h13 h14 h15 h16 h17 h18 h19 h20 h21)).trans (((xK_fe_remember S a.toNatClampNeg x y z h0 h3 h4 h9 h10 h11 h12 h13 h14 h15 h16 h17 h18 h19 h20 h21)))
