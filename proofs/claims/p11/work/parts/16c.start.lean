def x_fe_start (S : q_S) (a b : Int32) : Int32 × q_S :=
  if x_fe_isProgram S a = 0 then
    ((-1), S)
  else
    if 0 ≤ (x_fe_leastFree S) then
      ((x_fe_leastFree S), x_fe_run (x_wf_begin S (x_fe_leastFree S).toNatClampNeg a b) (x_fe_leastFree S).toNatClampNeg)
    else
      ((-3), S)
set_option maxRecDepth 100000 in
set_option maxHeartbeats 4000000 in
theorem xC_fe_start (l : Launch) (G : q_G) (S : q_S) (a b : Int32) (hI : xI S) (hJ : xJ S) : q_Mi xX G l xy_fe_start (q_ws (q_gw lw_tbl) xy_fe_start xb_fe_start 4 (some .int)) (q_rm 4) [.ref (q_a xX G 0 0), .int a, .int b] S (x_fe_start S a b).1 (x_fe_start S a b).2 := by
  refine q_met (cc := xb_fe_start) (maxL := 4) (ret := (some .int)) xOk (by decide) rfl (Nat.le_of_ble_eq_true rfl) ?_
  intro p e s m below meth c ls hC hr hlocks hW hS hl
  have hx := hC.1.1
  have hb := hC.1.2.1
  have hl : lv_has ls 4 [(0, .ref (q_a xX G 0 0)), (1, .int a), (2, .int b)] := hl
  refine lv_iload_n hx hb xd_fe_start_0 rfl (lv_at hl 1 rfl) ?_
  refine q_calli hC hS (fun _ h => h) (q_runS (rest := []) hC hW (xC_fe_isProgram l G S a) (xc_fe_32 (q_rm 0) hC.1.2.2.2.2 ⟨Nat.le_of_ble_eq_true rfl, Nat.le_of_ble_eq_true rfl⟩ rfl rfl) rfl hl.1 rfl (Nat.le_of_ble_eq_true rfl) xd_fe_start_1 ⟨Nat.zero_le _, Nat.zero_le _⟩) (fun H locs hW hS => ?_)
  refine lv_if_ne (tgt := 9) hx hb xd_fe_start_4 (by decide) (fun c_1 => ?_) (fun c_1 => ?_)
  · -- taken
    refine lv_aload_n hx hb xd_fe_start_9 rfl (lv_at hl 0 rfl) ?_
    refine q_calli hC hS (fun _ h => h) (q_runV (rest := []) hC hW (xC_fe_leastFree l G S) (xc_fe_54 (q_rm 0) hC.1.2.2.2.2 ⟨Nat.le_of_ble_eq_true rfl, Nat.le_of_ble_eq_true rfl⟩ rfl rfl) Nat.one_pos rfl rfl rfl hl.1 rfl (Nat.le_of_ble_eq_true rfl) xd_fe_start_10 ⟨Nat.zero_le _, Nat.zero_le _⟩) (fun H locs hW hS => ?_)
    generalize hw_2 : x_fe_leastFree S = w_2
    refine lv_istore_n (lv' := [(3, .int w_2), (0, .ref (q_a xX G 0 0)), (1, .int a), (2, .int b)]) hx hb xd_fe_start_13 rfl hl (by decide) rfl (fun ls hl => ?_)
    refine lv_iload_n hx hb xd_fe_start_14 rfl (lv_at hl 0 rfl) ?_
    refine lv_if_ge (tgt := 21) hx hb xd_fe_start_15 (by decide) (fun c_3 => ?_) (fun c_3 => ?_)
    · -- taken
      refine lv_aload_n hx hb xd_fe_start_21 rfl (lv_at hl 1 rfl) ?_
      refine xg_fe_17 hC hW 0 Nat.one_pos xd_fe_start_22 ?_
      refine lv_iload_n hx hb xd_fe_start_25 rfl (lv_at hl 0 rfl) ?_
      have h_4 : vp_in w_2 6 := by rw [← hw_2]; exact xF_lfS (by rw [hw_2]; exact c_3)
      refine xal_2 hC hW 0 Nat.one_pos h_4 xd_fe_start_26 ?_
      refine lv_iload_n hx hb xd_fe_start_27 rfl (lv_at hl 2 rfl) ?_
      refine lv_iload_n hx hb xd_fe_start_28 rfl (lv_at hl 3 rfl) ?_
      refine q_callv hC hS (fun _ h => h) (q_runV (rest := []) hC hW (xC_wf_begin l G S w_2.toNatClampNeg a b (q_lt h_4) hI (xF_P2 c_1)) (xc_fe_58 (q_rm 1) hC.1.2.2.2.2 ⟨Nat.le_of_ble_eq_true rfl, Nat.le_of_ble_eq_true rfl⟩ rfl rfl) (q_lt h_4) rfl rfl rfl hl.1 rfl (Nat.le_of_ble_eq_true rfl) xd_fe_start_29 ⟨Nat.zero_le _, Nat.zero_le _⟩) (fun H locs hW hS => ?_)
      refine lv_aload_n hx hb xd_fe_start_32 rfl (lv_at hl 1 rfl) ?_
      refine lv_aload_n hx hb xd_fe_start_33 rfl (lv_at hl 1 rfl) ?_
      refine xg_fe_17 hC hW 0 Nat.one_pos xd_fe_start_34 ?_
      refine lv_iload_n hx hb xd_fe_start_37 rfl (lv_at hl 0 rfl) ?_
      have h_5 : vp_in w_2 6 := by rw [← hw_2]; exact xF_lfS (by rw [hw_2]; exact c_3)
      refine xal_2 hC hW 0 Nat.one_pos h_5 xd_fe_start_38 ?_
      have hI_6 : xI (x_wf_begin S w_2.toNatClampNeg a b) := (xI_wf_begin S w_2.toNatClampNeg a b (q_lt h_4) hI (xF_P2 c_1))
      have hJ_7 : xJ (x_wf_begin S w_2.toNatClampNeg a b) := xJ_keep hJ (fun x y z hx => ((xK_wf_begin S w_2.toNatClampNeg a b x y z (show x ≠ 9 by omega) (show x ≠ 10 by omega) (show x ≠ 11 by omega) (show x ≠ 12 by omega) (show x ≠ 13 by omega) (show x ≠ 14 by omega) (show x ≠ 15 by omega) (show x ≠ 18 by omega))))
      refine q_callv hC hS (fun _ h => h) (q_runV (rest := []) hC hW (xC_fe_run l G (x_wf_begin S w_2.toNatClampNeg a b) w_2.toNatClampNeg (q_lt h_5) hI_6 hJ_7) (xc_fe_62 (q_rm 3) hC.1.2.2.2.2 ⟨Nat.le_of_ble_eq_true rfl, Nat.le_of_ble_eq_true rfl⟩ rfl rfl) Nat.one_pos rfl rfl rfl hl.1 rfl (Nat.le_of_ble_eq_true rfl) xd_fe_start_39 ⟨Nat.zero_le _, Nat.zero_le _⟩) (fun H locs hW hS => ?_)
      refine lv_iload_n hx hb xd_fe_start_42 rfl (lv_at hl 0 rfl) ?_
      refine W.eq (g2 := F0 m 43 ls [.int w_2]) rfl ?_
      have hf : x_fe_start S a b = (w_2, x_fe_run (x_wf_begin S w_2.toNatClampNeg a b) w_2.toNatClampNeg) := by unfold x_fe_start; rw [hw_2, if_neg c_1, if_pos c_3]
      rw [hf]
      exact q_iret hC hr hlocks hW hS rfl rfl xd_fe_start_43
    · -- not taken
      refine lv_bipush (v := (-3)) hx hb xd_fe_start_18 (by decide) ?_
      have hf : x_fe_start S a b = ((-3), S) := by unfold x_fe_start; rw [hw_2, if_neg c_1, if_neg c_3]
      rw [hf]
      exact q_iret hC hr hlocks hW hS rfl rfl xd_fe_start_20
  · -- not taken
    refine lv_iconst (v := (-1)) hx hb xd_fe_start_7 (by decide) ?_
    have hf : x_fe_start S a b = ((-1), S) := by unfold x_fe_start; rw [if_pos c_1]
    rw [hf]
    exact q_iret hC hr hlocks hW hS rfl rfl xd_fe_start_8
set_option maxRecDepth 100000 in
set_option maxHeartbeats 4000000 in
theorem xI_fe_start (S : q_S) (a b : Int32) (hI : xI S) (hJ : xJ S) : xI ((x_fe_start S a b).2) := by
  obtain ⟨w_2, hw_2⟩ : ∃ z, x_fe_leastFree S = z := ⟨_, rfl⟩
  by_cases c_1 : x_fe_isProgram S a = 0
  · -- yes
    have hf : x_fe_start S a b = ((-1), S) := by unfold x_fe_start; rw [hw_2, if_pos c_1]
    rw [hf]
    exact hI
  · -- no
    by_cases c_3 : 0 ≤ w_2
    · -- yes
      have h_4 : vp_in w_2 6 := by rw [← hw_2]; exact xF_lfS (by rw [hw_2]; exact c_3)
      have h_5 : vp_in w_2 6 := by rw [← hw_2]; exact xF_lfS (by rw [hw_2]; exact c_3)
      have hI_6 : xI (x_wf_begin S w_2.toNatClampNeg a b) := (xI_wf_begin S w_2.toNatClampNeg a b (q_lt h_4) hI (xF_P2 c_1))
      have hJ_7 : xJ (x_wf_begin S w_2.toNatClampNeg a b) := xJ_keep hJ (fun x y z hx => ((xK_wf_begin S w_2.toNatClampNeg a b x y z (show x ≠ 9 by omega) (show x ≠ 10 by omega) (show x ≠ 11 by omega) (show x ≠ 12 by omega) (show x ≠ 13 by omega) (show x ≠ 14 by omega) (show x ≠ 15 by omega) (show x ≠ 18 by omega))))
      have hf : x_fe_start S a b = (w_2, x_fe_run (x_wf_begin S w_2.toNatClampNeg a b) w_2.toNatClampNeg) := by unfold x_fe_start; rw [hw_2, if_neg c_1, if_pos c_3]
      rw [hf]
      exact (xI_fe_run (x_wf_begin S w_2.toNatClampNeg a b) w_2.toNatClampNeg (q_lt h_5) hI_6 hJ_7)
    · -- no
      have hf : x_fe_start S a b = ((-3), S) := by unfold x_fe_start; rw [hw_2, if_neg c_1, if_neg c_3]
      rw [hf]
      exact hI
set_option maxRecDepth 100000 in
set_option maxHeartbeats 4000000 in
theorem xK_fe_start (S : q_S) (a b : Int32) (x y z : Nat) (h0 : x ≠ 0) (h3 : x ≠ 3) (h4 : x ≠ 4) (h9 : x ≠ 9) (h10 : x ≠ 10) (h11 : x ≠ 11) (h12 : x ≠ 12) (h13 : x ≠ 13) (h14 : x ≠ 14) (h15 : x ≠ 15) (h16 : x ≠ 16) (h17 : x ≠ 17) (h18 : x ≠ 18) (h19 : x ≠ 19) (h20 : x ≠ 20) (h21 : x ≠ 21) : (x_fe_start S a b).2 x y z = S x y z := by
  obtain ⟨w_2, hw_2⟩ : ∃ z, x_fe_leastFree S = z := ⟨_, rfl⟩
  by_cases c_1 : x_fe_isProgram S a = 0
  · -- yes
    have hf : x_fe_start S a b = ((-1), S) := by unfold x_fe_start; rw [hw_2, if_pos c_1]
    rw [hf]
  · -- no
    by_cases c_3 : 0 ≤ w_2
    · -- yes
      have hf : x_fe_start S a b = (w_2, x_fe_run (x_wf_begin S w_2.toNatClampNeg a b) w_2.toNatClampNeg) := by unfold x_fe_start; rw [hw_2, if_neg c_1, if_pos c_3]
      rw [hf]
      exact ((xK_fe_run (x_wf_begin S w_2.toNatClampNeg a b) w_2.toNatClampNeg x y z h0 h3 h4 h9 h10 h11 h12 h13 h14 h15 h16 h17 h18 h19 h20 h21)).trans (((xK_wf_begin S w_2.toNatClampNeg a b x y z h9 h10 h11 h12 h13 h14 h15 h18)))
    · -- no
      have hf : x_fe_start S a b = ((-3), S) := by unfold x_fe_start; rw [hw_2, if_neg c_1, if_neg c_3]
      rw [hf]
