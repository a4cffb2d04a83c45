def x_fe_remove (S : q_S) (a : Int32) : Int32 × q_S :=
  if x_fe_isThere S a = 0 then
    (0, S)
  else
    (1, q_st (x_fe_dropTask S a.toNatClampNeg) 9 a.toNatClampNeg 6 (.int 0))
set_option maxRecDepth 100000 in
set_option maxHeartbeats 4000000 in
theorem xC_fe_remove (l : Launch) (G : q_G) (S : q_S) (a : Int32) (hI : xI S) : q_Mi xX G l xy_fe_remove (q_ws (q_gw lw_tbl) xy_fe_remove xb_fe_remove 2 (some .boolean)) (q_rm 2) [.ref (q_a xX G 0 0), .int a] S (x_fe_remove S a).1 (x_fe_remove S a).2 := by
  refine q_met (cc := xb_fe_remove) (maxL := 2) (ret := (some .boolean)) xOk (by decide) rfl (Nat.le_of_ble_eq_true rfl) ?_
  intro p e s m below meth c ls hC hr hlocks hW hS hl
  have hx := hC.1.1
  have hb := hC.1.2.1
  have hl : lv_has ls 2 [(0, .ref (q_a xX G 0 0)), (1, .int a)] := hl
  refine lv_aload_n hx hb xd_fe_remove_0 rfl (lv_at hl 0 rfl) ?_
  refine lv_iload_n hx hb xd_fe_remove_1 rfl (lv_at hl 1 rfl) ?_
  refine q_calli hC hS (fun _ h => h) (q_runV (rest := []) hC hW (xC_fe_isThere l G S a) (xc_fe_66 (q_rm 0) hC.1.2.2.2.2 ⟨Nat.le_of_ble_eq_true rfl, Nat.le_of_ble_eq_true rfl⟩ rfl rfl) Nat.one_pos rfl rfl rfl hl.1 rfl (Nat.le_of_ble_eq_true rfl) xd_fe_remove_2 ⟨Nat.zero_le _, Nat.zero_le _⟩) (fun H locs hW hS => ?_)
  refine lv_if_ne (tgt := 10) hx hb xd_fe_remove_5 (by decide) (fun c_1 => ?_) (fun c_1 => ?_)
  · -- taken
    refine lv_aload_n hx hb xd_fe_remove_10 rfl (lv_at hl 0 rfl) ?_
    refine lv_aload_n hx hb xd_fe_remove_11 rfl (lv_at hl 0 rfl) ?_
    refine xg_fe_17 hC hW 0 Nat.one_pos xd_fe_remove_12 ?_
    refine lv_iload_n hx hb xd_fe_remove_15 rfl (lv_at hl 1 rfl) ?_
    have h_2 : vp_in a 6 := by obtain ⟨f_c_1_0, f_c_1_1⟩ := xF_isT c_1; simp only [vp_in_iff, Int32.lt_iff_toInt_lt, Int32.le_iff_toInt_le, q_n0, q_n1, q_n2, q_n3, q_n4, q_n5, q_n6, q_n7, q_n10, q_n14, q_n15, q_n20, q_n60, q_n1288] at f_c_1_0 f_c_1_1 ⊢; omega
    refine xal_2 hC hW 0 Nat.one_pos h_2 xd_fe_remove_16 ?_
    refine q_callv hC hS (fun _ h => h) (q_runV (rest := []) hC hW (xC_fe_dropTask l G S a.toNatClampNeg (q_lt h_2) hI) (xc_fe_69 (q_rm 1) hC.1.2.2.2.2 ⟨Nat.le_of_ble_eq_true rfl, Nat.le_of_ble_eq_true rfl⟩ rfl rfl) Nat.one_pos rfl rfl rfl hl.1 rfl (Nat.le_of_ble_eq_true rfl) xd_fe_remove_17 ⟨Nat.zero_le _, Nat.zero_le _⟩) (fun H locs hW hS => ?_)
    refine lv_aload_n hx hb xd_fe_remove_20 rfl (lv_at hl 0 rfl) ?_
    refine xg_fe_17 hC hW 0 Nat.one_pos xd_fe_remove_21 ?_
    refine lv_iload_n hx hb xd_fe_remove_24 rfl (lv_at hl 1 rfl) ?_
    have h_3 : vp_in a 6 := by obtain ⟨f_c_1_0, f_c_1_1⟩ := xF_isT c_1; simp only [vp_in_iff, Int32.lt_iff_toInt_lt, Int32.le_iff_toInt_le, q_n0, q_n1, q_n2, q_n3, q_n4, q_n5, q_n6, q_n7, q_n10, q_n14, q_n15, q_n20, q_n60, q_n1288] at f_c_1_0 f_c_1_1 ⊢; omega
    refine xal_2 hC hW 0 Nat.one_pos h_3 xd_fe_remove_25 ?_
    refine lv_iconst (v := 0) hx hb xd_fe_remove_26 (by decide) ?_
    refine xg_fe_72p hC hW hS (fun _ h => h) a.toNatClampNeg (q_lt h_3) rfl rfl xd_fe_remove_27 (fun H locs hW hS => ?_)
    refine lv_iconst (v := 1) hx hb xd_fe_remove_30 (by decide) ?_
    have hf : x_fe_remove S a = (1, q_st (x_fe_dropTask S a.toNatClampNeg) 9 a.toNatClampNeg 6 (.int 0)) := by unfold x_fe_remove; rw [if_neg c_1]
    rw [hf]
    exact q_zret hC hr hlocks hW hS (by decide) rfl rfl xd_fe_remove_31
  · -- not taken
    refine lv_iconst (v := 0) hx hb xd_fe_remove_8 (by decide) ?_
    have hf : x_fe_remove S a = (0, S) := by unfold x_fe_remove; rw [if_pos c_1]
    rw [hf]
    exact q_zret hC hr hlocks hW hS (by decide) rfl rfl xd_fe_remove_9
set_option maxRecDepth 100000 in
set_option maxHeartbeats 4000000 in
theorem xI_fe_remove (S : q_S) (a : Int32) (hI : xI S) : xI ((x_fe_remove S a).2) := by
  by_cases c_1 : x_fe_isThere S a = 0
  · -- yes
    have hf : x_fe_remove S a = (0, S) := by unfold x_fe_remove; rw [if_pos c_1]
    rw [hf]
    exact hI
  · -- no
    have h_2 : vp_in a 6 := by obtain ⟨f_c_1_0, f_c_1_1⟩ := xF_isT c_1; simp only [vp_in_iff, Int32.lt_iff_toInt_lt, Int32.le_iff_toInt_le, q_n0, q_n1, q_n2, q_n3, q_n4, q_n5, q_n6, q_n7, q_n10, q_n14, q_n15, q_n20, q_n60, q_n1288] at f_c_1_0 f_c_1_1 ⊢; omega
    have h_3 : vp_in a 6 := by obtain ⟨f_c_1_0, f_c_1_1⟩ := xF_isT c_1; simp only [vp_in_iff, Int32.lt_iff_toInt_lt, Int32.le_iff_toInt_le, q_n0, q_n1, q_n2, q_n3, q_n4, q_n5, q_n6, q_n7, q_n10, q_n14, q_n15, q_n20, q_n60, q_n1288] at f_c_1_0 f_c_1_1 ⊢; omega
    have hf : x_fe_remove S a = (1, q_st (x_fe_dropTask S a.toNatClampNeg) 9 a.toNatClampNeg 6 (.int 0)) := by unfold x_fe_remove; rw [if_neg c_1]
    rw [hf]
    exact (q_Is (xI_fe_dropTask S a.toNatClampNeg (q_lt h_2) hI) rfl)
set_option maxRecDepth 100000 in
set_option maxHeartbeats 4000000 in
theorem xK_fe_remove (S : q_S) (a : Int32) (x y z : Nat) (h3 : x ≠ 3) (h4 : x ≠ 4) (h9 : x ≠ 9) (h21 : x ≠ 21) : (x_fe_remove S a).2 x y z = S x y z := by
  by_cases c_1 : x_fe_isThere S a = 0
  · -- yes
    have hf : x_fe_remove S a = (0, S) := by unfold x_fe_remove; rw [if_pos c_1]
    rw [hf]
  · -- no
    have hf : x_fe_remove S a = (1, q_st (x_fe_dropTask S a.toNatClampNeg) 9 a.toNatClampNeg 6 (.int 0)) := by unfold x_fe_remove; rw [if_neg c_1]
    rw [hf]
    exact (q_kj h9).trans (((xK_fe_dropTask S a.toNatClampNeg x y z h3 h4 h21)))
