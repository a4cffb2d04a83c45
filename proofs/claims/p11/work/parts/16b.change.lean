def x_fe_change (S : q_S) (a b d f g : Int32) : Int32 × q_S :=
  if x_fe_isProgram S a = 0 then
    (0, S)
  else
    if x_fe_isInstruction S d f g = 0 then
      (0, S)
    else
      if x_pr_has S a.toNatClampNeg b = 0 then
        (0, S)
      else
        (1, x_fe_forgetAllOf (x_pr_put S a.toNatClampNeg b d f g) a)
set_option maxRecDepth 100000 in
set_option maxHeartbeats 4000000 in
theorem xC_fe_change (l : Launch) (G : q_G) (S : q_S) (a b d f g : Int32) (hI : xI S) : q_Mi xX G l xy_fe_change (q_ws (q_gw lw_tbl) xy_fe_change xb_fe_change 6 (some .boolean)) (q_rm 2) [.ref (q_a xX G 0 0), .int a, .int b, .int d, .int f, .int g] S (x_fe_change S a b d f g).1 (x_fe_change S a b d f g).2 := by
  refine q_met (cc := xb_fe_change) (maxL := 6) (ret := (some .boolean)) xOk (by decide) rfl (Nat.le_of_ble_eq_true rfl) ?_
  intro p e s m below meth c ls hC hr hlocks hW hS hl
  have hx := hC.1.1
  have hb := hC.1.2.1
  have hl : lv_has ls 6 [(0, .ref (q_a xX G 0 0)), (1, .int a), (2, .int b), (3, .int d), (4, .int f), (5, .int g)] := hl
  refine lv_iload_n hx hb xd_fe_change_0 rfl (lv_at hl 1 rfl) ?_
  refine q_calli hC hS (fun _ h => h) (q_runS (rest := []) hC hW (xC_fe_isProgram l G S a) (xc_fe_32 (q_rm 0) hC.1.2.2.2.2 ⟨Nat.le_of_ble_eq_true rfl, Nat.le_of_ble_eq_true rfl⟩ rfl rfl) rfl hl.1 rfl (Nat.le_of_ble_eq_true rfl) xd_fe_change_1 ⟨Nat.zero_le _, Nat.zero_le _⟩) (fun H locs hW hS => ?_)
  refine lv_if_eq (tgt := 31) hx hb xd_fe_change_4 (by decide) (fun c_1 => ?_) (fun c_1 => ?_)
  · -- taken
    refine lv_iconst (v := 0) hx hb xd_fe_change_31 (by decide) ?_
    have hf : x_fe_change S a b d f g = (0, S) := by unfold x_fe_change; rw [if_pos c_1]
    rw [hf]
    exact q_zret hC hr hlocks hW hS (by decide) rfl rfl xd_fe_change_32
  · -- not taken
    refine lv_iload_n hx hb xd_fe_change_7 rfl (lv_at hl 3 rfl) ?_
    refine lv_iload hx hb xd_fe_change_8 (lv_at hl 4 rfl) ?_
    refine lv_iload hx hb xd_fe_change_10 (lv_at hl 5 rfl) ?_
    refine q_calli hC hS (fun _ h => h) (q_runS (rest := []) hC hW (xC_fe_isInstruction l G S d f g) (xc_fe_36 (q_rm 1) hC.1.2.2.2.2 ⟨Nat.le_of_ble_eq_true rfl, Nat.le_of_ble_eq_true rfl⟩ rfl rfl) rfl hl.1 rfl (Nat.le_of_ble_eq_true rfl) xd_fe_change_12 ⟨Nat.zero_le _, Nat.zero_le _⟩) (fun H locs hW hS => ?_)
    refine lv_if_eq (tgt := 31) hx hb xd_fe_change_15 (by decide) (fun c_2 => ?_) (fun c_2 => ?_)
    · -- taken
      refine lv_iconst (v := 0) hx hb xd_fe_change_31 (by decide) ?_
      have hf : x_fe_change S a b d f g = (0, S) := by unfold x_fe_change; rw [if_neg c_1, if_pos c_2]
      rw [hf]
      exact q_zret hC hr hlocks hW hS (by decide) rfl rfl xd_fe_change_32
    · -- not taken
      refine lv_aload_n hx hb xd_fe_change_18 rfl (lv_at hl 0 rfl) ?_
      refine xg_fe_11 hC hW 0 Nat.one_pos xd_fe_change_19 ?_
      refine lv_iload_n hx hb xd_fe_change_22 rfl (lv_at hl 1 rfl) ?_
      have h_3 : vp_in a 3 := by obtain ⟨f_c_1_0, f_c_1_1⟩ := xF_isP c_1; simp only [vp_in_iff, Int32.lt_iff_toInt_lt, Int32.le_iff_toInt_le, q_n0, q_n1, q_n2, q_n3, q_n4, q_n5, q_n6, q_n7, q_n10, q_n14, q_n15, q_n20, q_n60, q_n1288] at f_c_1_0 f_c_1_1 ⊢; omega
      refine xal_1 hC hW 0 Nat.one_pos h_3 xd_fe_change_23 ?_
      refine lv_iload_n hx hb xd_fe_change_24 rfl (lv_at hl 2 rfl) ?_
      refine q_calli hC hS (fun _ h => h) (q_runV (rest := []) hC hW (xC_pr_has l G S a.toNatClampNeg b (q_lt h_3)) (xc_fe_51 (q_rm 0) hC.1.2.2.2.2 ⟨Nat.le_of_ble_eq_true rfl, Nat.le_of_ble_eq_true rfl⟩ rfl rfl) (q_lt h_3) rfl rfl rfl hl.1 rfl (Nat.le_of_ble_eq_true rfl) xd_fe_change_25 ⟨Nat.zero_le _, Nat.zero_le _⟩) (fun H locs hW hS => ?_)
      refine lv_if_ne (tgt := 33) hx hb xd_fe_change_28 (by decide) (fun c_4 => ?_) (fun c_4 => ?_)
      · -- taken
        refine lv_aload_n hx hb xd_fe_change_33 rfl (lv_at hl 0 rfl) ?_
        refine xg_fe_11 hC hW 0 Nat.one_pos xd_fe_change_34 ?_
        refine lv_iload_n hx hb xd_fe_change_37 rfl (lv_at hl 1 rfl) ?_
        have h_5 : vp_in a 3 := by obtain ⟨f_c_1_0, f_c_1_1⟩ := xF_isP c_1; obtain ⟨f_c_4_0, f_c_4_1⟩ := xF_pr_has c_4; have b1 : 0 ≤ (q_i (S 5 a.toNatClampNeg 3)).toInt ∧ (q_i (S 5 a.toNatClampNeg 3)).toInt ≤ 14 := hI 5 a.toNatClampNeg 3; simp only [vp_in_iff, Int32.lt_iff_toInt_lt, Int32.le_iff_toInt_le, q_n0, q_n1, q_n2, q_n3, q_n4, q_n5, q_n6, q_n7, q_n10, q_n14, q_n15, q_n20, q_n60, q_n1288] at f_c_1_0 f_c_1_1 f_c_4_0 f_c_4_1 ⊢; omega
        refine xal_1 hC hW 0 Nat.one_pos h_5 xd_fe_change_38 ?_
        refine lv_iload_n hx hb xd_fe_change_39 rfl (lv_at hl 2 rfl) ?_
        refine lv_iload_n hx hb xd_fe_change_40 rfl (lv_at hl 3 rfl) ?_
        refine lv_iload hx hb xd_fe_change_41 (lv_at hl 4 rfl) ?_
        refine lv_iload hx hb xd_fe_change_43 (lv_at hl 5 rfl) ?_
        refine q_callv hC hS (fun _ h => h) (q_runV (rest := []) hC hW (xC_pr_put l G S a.toNatClampNeg b d f g (q_lt h_5) hI) (xc_fe_44 (q_rm 1) hC.1.2.2.2.2 ⟨Nat.le_of_ble_eq_true rfl, Nat.le_of_ble_eq_true rfl⟩ rfl rfl) (q_lt h_5) rfl rfl rfl hl.1 rfl (Nat.le_of_ble_eq_true rfl) xd_fe_change_45 ⟨Nat.zero_le _, Nat.zero_le _⟩) (fun H locs hW hS => ?_)
        refine lv_aload_n hx hb xd_fe_change_48 rfl (lv_at hl 0 rfl) ?_
        refine lv_iload_n hx hb xd_fe_change_49 rfl (lv_at hl 1 rfl) ?_
        have hI_6 : xI (x_pr_put S a.toNatClampNeg b d f g) := (xI_pr_put S a.toNatClampNeg b d f g (q_lt h_5) hI)
        refine q_callv hC hS (fun _ h => h) (q_runV (rest := []) hC hW (xC_fe_forgetAllOf l G (x_pr_put S a.toNatClampNeg b d f g) a hI_6) (xc_fe_48 (q_rm 1) hC.1.2.2.2.2 ⟨Nat.le_of_ble_eq_true rfl, Nat.le_of_ble_eq_true rfl⟩ rfl rfl) Nat.one_pos rfl rfl rfl hl.1 rfl (Nat.le_of_ble_eq_true rfl) xd_fe_change_50 ⟨Nat.zero_le _, Nat.zero_le _⟩) (fun H locs hW hS => ?_)
        refine lv_iconst (v := 1) hx hb xd_fe_change_53 (by decide) ?_
        have hf : x_fe_change S a b d f g = (1, x_fe_forgetAllOf (x_pr_put S a.toNatClampNeg b d f g) a) := by unfold x_fe_change; rw [if_neg c_1, if_neg c_2, if_neg c_4]
        rw [hf]
        exact q_zret hC hr hlocks hW hS (by decide) rfl rfl xd_fe_change_54
      · -- not taken
        refine lv_iconst (v := 0) hx hb xd_fe_change_31 (by decide) ?_
        have hf : x_fe_change S a b d f g = (0, S) := by unfold x_fe_change; rw [if_neg c_1, if_neg c_2, if_pos c_4]
        rw [hf]
        exact q_zret hC hr hlocks hW hS (by decide) rfl rfl xd_fe_change_32
set_option maxRecDepth 100000 in
set_option maxHeartbeats 4000000 in
theorem xI_fe_change (S : q_S) (a b d f g : Int32) (hI : xI S) : xI ((x_fe_change S a b d f g).2) := by
  by_cases c_1 : x_fe_isProgram S a = 0
  · -- yes
    have hf : x_fe_change S a b d f g = (0, S) := by unfold x_fe_change; rw [if_pos c_1]
    rw [hf]
    exact hI
  · -- no
    by_cases c_2 : x_fe_isInstruction S d f g = 0
    · -- yes
      have hf : x_fe_change S a b d f g = (0, S) := by unfold x_fe_change; rw [if_neg c_1, if_pos c_2]
      rw [hf]
      exact hI
    · -- no
      by_cases c_4 : x_pr_has S a.toNatClampNeg b = 0
      · -- yes
        have h_3 : vp_in a 3 := by obtain ⟨f_c_1_0, f_c_1_1⟩ := xF_isP c_1; simp only [vp_in_iff, Int32.lt_iff_toInt_lt, Int32.le_iff_toInt_le, q_n0, q_n1, q_n2, q_n3, q_n4, q_n5, q_n6, q_n7, q_n10, q_n14, q_n15, q_n20, q_n60, q_n1288] at f_c_1_0 f_c_1_1 ⊢; omega
        have hf : x_fe_change S a b d f g = (0, S) := by unfold x_fe_change; rw [if_neg c_1, if_neg c_2, if_pos c_4]
        rw [hf]
        exact hI
      · -- no
        have h_3 : vp_in a 3 := by obtain ⟨f_c_1_0, f_c_1_1⟩ := xF_isP c_1; simp only [vp_in_iff, Int32.lt_iff_toInt_lt, Int32.le_iff_toInt_le, q_n0, q_n1, q_n2, q_n3, q_n4, q_n5, q_n6, q_n7, q_n10, q_n14, q_n15, q_n20, q_n60, q_n1288] at f_c_1_0 f_c_1_1 ⊢; omega
        have h_5 : vp_in a 3 := by obtain ⟨f_c_1_0, f_c_1_1⟩ := xF_isP c_1; obtain ⟨f_c_4_0, f_c_4_1⟩ := xF_pr_has c_4; have b1 : 0 ≤ (q_i (S 5 a.toNatClampNeg 3)).toInt ∧ (q_i (S 5 a.toNatClampNeg 3)).toInt ≤ 14 := hI 5 a.toNatClampNeg 3; simp only [vp_in_iff, Int32.lt_iff_toInt_lt, Int32.le_iff_toInt_le, q_n0, q_n1, q_n2, q_n3, q_n4, q_n5, q_n6, q_n7, q_n10, q_n14, q_n15, q_n20, q_n60, q_n1288] at f_c_1_0 f_c_1_1 f_c_4_0 f_c_4_1 ⊢; omega
        have hI_6 : xI (x_pr_put S a.toNatClampNeg b d f g) := (xI_pr_put S a.toNatClampNeg b d f g (q_lt h_5) hI)
        have hf : x_fe_change S a b d f g = (1, x_fe_forgetAllOf (x_pr_put S a.toNatClampNeg b d f g) a) := by unfold x_fe_change; rw [if_neg c_1, if_neg c_2, if_neg c_4]
        rw [hf]
        exact (xI_fe_forgetAllOf (x_pr_put S a.toNatClampNeg b d f g) a hI_6)
set_option maxRecDepth 100000 in
set_option maxHeartbeats 4000000 in
theorem xK_fe_change (S : q_S) (a b d f g : Int32) (x y z : Nat) (h6 : x ≠ 6) (h7 : x ≠ 7) (h8 : x ≠ 8) (h9 : x ≠ 9) : (x_fe_change S a b d f g).2 x y z = S x y z := by
  by_cases c_1 : x_fe_isProgram S a = 0
  · -- yes
    have hf : x_fe_change S a b d f g = (0, S) := by unfold x_fe_change; rw [if_pos c_1]
    rw [hf]
  · -- no
    by_cases c_2 : x_fe_isInstruction S d f g = 0
    · -- yes
      have hf : x_fe_change S a b d f g = (0, S) := by unfold x_fe_change; rw [if_neg c_1, if_pos c_2]
      rw [hf]
    · -- no
      by_cases c_4 : x_pr_has S a.toNatClampNeg b = 0
      · -- yes
        have hf : x_fe_change S a b d f g = (0, S) := by unfold x_fe_change; rw [if_neg c_1, if_neg c_2, if_pos c_4]
        rw [hf]
      · -- no
        have hf : x_fe_change S a b d f g = (1, x_fe_forgetAllOf (x_pr_put S a.toNatClampNeg b d f g) a) := by unfold x_fe_change; rw [if_neg c_1, if_neg c_2, if_neg c_4]
        rw [hf]
        exact ((xK_fe_forgetAllOf (x_pr_put S a.toNatClampNeg b d f g) a x y z h9)).trans (((xK_pr_put S a.toNatClampNeg b d f g x y z h6 h7 h8)))
