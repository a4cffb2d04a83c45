def x_fe_forget (S : q_S) (a : Int32) : Int32 × q_S :=
  if x_fe_isThere S a = 0 then
    (0, S)
  else
    if x_wf_hasEnded S a.toNatClampNeg = 0 then
      if q_i (S 9 a.toNatClampNeg 7) = 0 then
        (1, q_st S 9 a.toNatClampNeg 7 (.int 1))
      else
        (0, S)
    else
      (0, S)
set_option maxRecDepth 100000 in
set_option maxHeartbeats 4000000 in
theorem xC_fe_forget (l : Launch) (G : q_G) (S : q_S) (a : Int32) (hI : xI S) : q_Mi xX G l xy_fe_forget (q_ws (q_gw lw_tbl) xy_fe_forget xb_fe_forget 2 (some .boolean)) (q_rm 1) [.ref (q_a xX G 0 0), .int a] S (x_fe_forget S a).1 (x_fe_forget S a).2 := by
  refine q_met (cc := xb_fe_forget) (maxL := 2) (ret := (some .boolean)) xOk (by decide) rfl (Nat.le_of_ble_eq_true rfl) ?_
  intro p e s m below meth c ls hC hr hlocks hW hS hl
  have hx := hC.1.1
  have hb := hC.1.2.1
  have hl : lv_has ls 2 [(0, .ref (q_a xX G 0 0)), (1, .int a)] := hl
  refine lv_aload_n hx hb xd_fe_forget_0 rfl (lv_at hl 0 rfl) ?_
  refine lv_iload_n hx hb xd_fe_forget_1 rfl (lv_at hl 1 rfl) ?_
  refine q_calli hC hS (fun _ h => h) (q_runV (rest := []) hC hW (xC_fe_isThere l G S a) (xc_fe_66 (q_rm 0) hC.1.2.2.2.2 ⟨Nat.le_of_ble_eq_true rfl, Nat.le_of_ble_eq_true rfl⟩ rfl rfl) Nat.one_pos rfl rfl rfl hl.1 rfl (Nat.le_of_ble_eq_true rfl) xd_fe_forget_2 ⟨Nat.zero_le _, Nat.zero_le _⟩) (fun H locs hW hS => ?_)
  refine lv_if_eq (tgt := 32) hx hb xd_fe_forget_5 (by decide) (fun c_1 => ?_) (fun c_1 => ?_)
  · -- taken
    refine lv_iconst (v := 0) hx hb xd_fe_forget_32 (by decide) ?_
    have hf : x_fe_forget S a = (0, S) := by unfold x_fe_forget; rw [if_pos c_1]
    rw [hf]
    exact q_zret hC hr hlocks hW hS (by decide) rfl rfl xd_fe_forget_33
  · -- not taken
    refine lv_aload_n hx hb xd_fe_forget_8 rfl (lv_at hl 0 rfl) ?_
    refine xg_fe_17 hC hW 0 Nat.one_pos xd_fe_forget_9 ?_
    refine lv_iload_n hx hb xd_fe_forget_12 rfl (lv_at hl 1 rfl) ?_
    have h_2 : vp_in a 6 := by obtain ⟨f_c_1_0, f_c_1_1⟩ := xF_isT c_1; simp only [vp_in_iff, Int32.lt_iff_toInt_lt, Int32.le_iff_toInt_le, q_n0, q_n1, q_n2, q_n3, q_n4, q_n5, q_n6, q_n7, q_n10, q_n14, q_n15, q_n20, q_n60, q_n1288] at f_c_1_0 f_c_1_1 ⊢; omega
    refine xal_2 hC hW 0 Nat.one_pos h_2 xd_fe_forget_13 ?_
    refine q_calli hC hS (fun _ h => h) (q_runV (rest := []) hC hW (xC_wf_hasEnded l G S a.toNatClampNeg (q_lt h_2)) (xc_fe_76 (q_rm 0) hC.1.2.2.2.2 ⟨Nat.le_of_ble_eq_true rfl, Nat.le_of_ble_eq_true rfl⟩ rfl rfl) (q_lt h_2) rfl rfl rfl hl.1 rfl (Nat.le_of_ble_eq_true rfl) xd_fe_forget_14 ⟨Nat.zero_le _, Nat.zero_le _⟩) (fun H locs hW hS => ?_)
    refine lv_if_ne (tgt := 32) hx hb xd_fe_forget_17 (by decide) (fun c_3 => ?_) (fun c_3 => ?_)
    · -- taken
      refine lv_iconst (v := 0) hx hb xd_fe_forget_32 (by decide) ?_
      have hf : x_fe_forget S a = (0, S) := by unfold x_fe_forget; rw [if_neg c_1, if_neg c_3]
      rw [hf]
      exact q_zret hC hr hlocks hW hS (by decide) rfl rfl xd_fe_forget_33
    · -- not taken
      refine lv_aload_n hx hb xd_fe_forget_20 rfl (lv_at hl 0 rfl) ?_
      refine xg_fe_17 hC hW 0 Nat.one_pos xd_fe_forget_21 ?_
      refine lv_iload_n hx hb xd_fe_forget_24 rfl (lv_at hl 1 rfl) ?_
      have h_4 : vp_in a 6 := by obtain ⟨f_c_1_0, f_c_1_1⟩ := xF_isT c_1; simp only [vp_in_iff, Int32.lt_iff_toInt_lt, Int32.le_iff_toInt_le, q_n0, q_n1, q_n2, q_n3, q_n4, q_n5, q_n6, q_n7, q_n10, q_n14, q_n15, q_n20, q_n60, q_n1288] at f_c_1_0 f_c_1_1 ⊢; omega
      refine xal_2 hC hW 0 Nat.one_pos h_4 xd_fe_forget_25 ?_
      refine xg_fe_143 hC hW a.toNatClampNeg (q_lt h_4) (rfl) xd_fe_forget_26 ?_
      refine lv_if_eq (tgt := 34) hx hb xd_fe_forget_29 (by decide) (fun c_5 => ?_) (fun c_5 => ?_)
      · -- taken
        refine lv_aload_n hx hb xd_fe_forget_34 rfl (lv_at hl 0 rfl) ?_
        refine xg_fe_17 hC hW 0 Nat.one_pos xd_fe_forget_35 ?_
        refine lv_iload_n hx hb xd_fe_forget_38 rfl (lv_at hl 1 rfl) ?_
        have h_6 : vp_in a 6 := by obtain ⟨f_c_1_0, f_c_1_1⟩ := xF_isT c_1; simp only [vp_in_iff, Int32.lt_iff_toInt_lt, Int32.le_iff_toInt_le, q_n0, q_n1, q_n2, q_n3, q_n4, q_n5, q_n6, q_n7, q_n10, q_n14, q_n15, q_n20, q_n60, q_n1288] at f_c_1_0 f_c_1_1 ⊢; omega
        refine xal_2 hC hW 0 Nat.one_pos h_6 xd_fe_forget_39 ?_
        refine lv_iconst (v := 1) hx hb xd_fe_forget_40 (by decide) ?_
        refine xg_fe_143p hC hW hS (fun _ h => h) a.toNatClampNeg (q_lt h_6) rfl rfl xd_fe_forget_41 (fun H locs hW hS => ?_)
        refine lv_iconst (v := 1) hx hb xd_fe_forget_44 (by decide) ?_
        have hf : x_fe_forget S a = (1, q_st S 9 a.toNatClampNeg 7 (.int 1)) := by unfold x_fe_forget; rw [if_neg c_1, if_pos c_3, if_pos c_5]
        rw [hf]
        exact q_zret hC hr hlocks hW hS (by decide) rfl rfl xd_fe_forget_45
      · -- not taken
        refine lv_iconst (v := 0) hx hb xd_fe_forget_32 (by decide) ?_
        have hf : x_fe_forget S a = (0, S) := by unfold x_fe_forget; rw [if_neg c_1, if_pos c_3, if_neg c_5]
        rw [hf]
        exact q_zret hC hr hlocks hW hS (by decide) rfl rfl xd_fe_forget_33
set_option maxRecDepth 100000 in
set_option maxHeartbeats 4000000 in
theorem xI_fe_forget (S : q_S) (a : Int32) (hI : xI S) : xI ((x_fe_forget S a).2) := by
  by_cases c_1 : x_fe_isThere S a = 0
  · -- yes
    have hf : x_fe_forget S a = (0, S) := by unfold x_fe_forget; rw [if_pos c_1]
    rw [hf]
    exact hI
  · -- no
    by_cases c_3 : x_wf_hasEnded S a.toNatClampNeg = 0
    · -- yes
      by_cases c_5 : q_i (S 9 a.toNatClampNeg 7) = 0
      · -- yes
        have h_2 : vp_in a 6 := by obtain ⟨f_c_1_0, f_c_1_1⟩ := xF_isT c_1; simp only [vp_in_iff, Int32.lt_iff_toInt_lt, Int32.le_iff_toInt_le, q_n0, q_n1, q_n2, q_n3, q_n4, q_n5, q_n6, q_n7, q_n10, q_n14, q_n15, q_n20, q_n60, q_n1288] at f_c_1_0 f_c_1_1 ⊢; omega
        have h_4 : vp_in a 6 := by obtain ⟨f_c_1_0, f_c_1_1⟩ := xF_isT c_1; simp only [vp_in_iff, Int32.lt_iff_toInt_lt, Int32.le_iff_toInt_le, q_n0, q_n1, q_n2, q_n3, q_n4, q_n5, q_n6, q_n7, q_n10, q_n14, q_n15, q_n20, q_n60, q_n1288] at f_c_1_0 f_c_1_1 ⊢; omega
        have h_6 : vp_in a 6 := by obtain ⟨f_c_1_0, f_c_1_1⟩ := xF_isT c_1; simp only [vp_in_iff, Int32.lt_iff_toInt_lt, Int32.le_iff_toInt_le, q_n0, q_n1, q_n2, q_n3, q_n4, q_n5, q_n6, q_n7, q_n10, q_n14, q_n15, q_n20, q_n60, q_n1288] at f_c_1_0 f_c_1_1 ⊢; omega
        have hf : x_fe_forget S a = (1, q_st S 9 a.toNatClampNeg 7 (.int 1)) := by unfold x_fe_forget; rw [if_neg c_1, if_pos c_3, if_pos c_5]
        rw [hf]
        exact (q_Is hI rfl)
      · -- no
        have h_2 : vp_in a 6 := by obtain ⟨f_c_1_0, f_c_1_1⟩ := xF_isT c_1; simp only [vp_in_iff, Int32.lt_iff_toInt_lt, Int32.le_iff_toInt_le, q_n0, q_n1, q_n2, q_n3, q_n4, q_n5, q_n6, q_n7, q_n10, q_n14, q_n15, q_n20, q_n60, q_n1288] at f_c_1_0 f_c_1_1 ⊢; omega
        have h_4 : vp_in a 6 := by obtain ⟨f_c_1_0, f_c_1_1⟩ := xF_isT c_1; simp only [vp_in_iff, Int32.lt_iff_toInt_lt, Int32.le_iff_toInt_le, q_n0, q_n1, q_n2, q_n3, q_n4, q_n5, q_n6, q_n7, q_n10, q_n14, q_n15, q_n20, q_n60, q_n1288] at f_c_1_0 f_c_1_1 ⊢; omega
        have hf : x_fe_forget S a = (0, S) := by unfold x_fe_forget; rw [if_neg c_1, if_pos c_3, if_neg c_5]
        rw [hf]
        exact hI
    · -- no
      have h_2 : vp_in a 6 := by obtain ⟨f_c_1_0, f_c_1_1⟩ := xF_isT c_1; simp only [vp_in_iff, Int32.lt_iff_toInt_lt, Int32.le_iff_toInt_le, q_n0, q_n1, q_n2, q_n3, q_n4, q_n5, q_n6, q_n7, q_n10, q_n14, q_n15, q_n20, q_n60, q_n1288] at f_c_1_0 f_c_1_1 ⊢; omega
      have hf : x_fe_forget S a = (0, S) := by unfold x_fe_forget; rw [if_neg c_1, if_neg c_3]
      rw [hf]
      exact hI
set_option maxRecDepth 100000 in
set_option maxHeartbeats 4000000 in
theorem xK_fe_forget (S : q_S) (a : Int32) (x y z : Nat) (h9 : x ≠ 9) : (x_fe_forget S a).2 x y z = S x y z := by
  by_cases c_1 : x_fe_isThere S a = 0
  · -- yes
    have hf : x_fe_forget S a = (0, S) := by unfold x_fe_forget; rw [if_pos c_1]
    rw [hf]
  · -- no
    by_cases c_3 : x_wf_hasEnded S a.toNatClampNeg = 0
    · -- yes
      by_cases c_5 : q_i (S 9 a.toNatClampNeg 7) = 0
      · -- yes
        have hf : x_fe_forget S a = (1, q_st S 9 a.toNatClampNeg 7 (.int 1)) := by unfold x_fe_forget; rw [if_neg c_1, if_pos c_3, if_pos c_5]
        rw [hf]
        exact (q_kj h9)
      · -- no
        have hf : x_fe_forget S a = (0, S) := by unfold x_fe_forget; rw [if_neg c_1, if_pos c_3, if_neg c_5]
        rw [hf]
    · -- no
      have hf : x_fe_forget S a = (0, S) := by unfold x_fe_forget; rw [if_neg c_1, if_neg c_3]
      rw [hf]
