def x_fe_signal (S : q_S) (a b d : Int32) : Int32 × q_S :=
  if x_fe_isThere S a = 0 then
    ((-1), S)
  else
    if b < 0 then
      ((-1), S)
    else
      if b < 4 then
        if x_wf_hasEnded S a.toNatClampNeg = 0 then
          if x_ke_isFull S a.toNatClampNeg = 0 then
            if x_wf_waitsFor (x_fe_remember S a.toNatClampNeg) a.toNatClampNeg 7 b = 0 then
              if x_wf_hasEnded (x_fe_remember S a.toNatClampNeg) a.toNatClampNeg = 0 then
                (0, x_ke_keep (x_fe_remember S a.toNatClampNeg) a.toNatClampNeg b d)
              else
                (0, x_fe_remember S a.toNatClampNeg)
            else
              (1, x_fe_happen (x_fe_remember S a.toNatClampNeg) a.toNatClampNeg 7 b d)
          else
            ((-3), S)
        else
          ((-2), S)
      else
        ((-1), S)
set_option maxRecDepth 100000 in
set_option maxHeartbeats 4000000 in
theorem xC_fe_signal (l : Launch) (G : q_G) (S : q_S) (a b d : Int32) (hI : xI S) (hJ : xJ S) : q_Mi xX G l xy_fe_signal (q_ws (q_gw lw_tbl) xy_fe_signal xb_fe_signal 5 (some .int)) (q_rm 5) [.ref (q_a xX G 0 0), .int a, .int b, .int d] S (x_fe_signal S a b d).1 (x_fe_signal S a b d).2 := by
  refine q_met (cc := xb_fe_signal) (maxL := 5) (ret := (some .int)) xOk (by decide) rfl (Nat.le_of_ble_eq_true rfl) ?_
  intro p e s m below meth c ls hC hr hlocks hW hS hl
  have hx := hC.1.1
  have hb := hC.1.2.1
  have hl : lv_has ls 5 [(0, .ref (q_a xX G 0 0)), (1, .int a), (2, .int b), (3, .int d)] := hl
  refine lv_aload_n hx hb xd_fe_signal_0 rfl (lv_at hl 0 rfl) ?_
  refine lv_iload_n hx hb xd_fe_signal_1 rfl (lv_at hl 1 rfl) ?_
  refine q_calli hC hS (fun _ h => h) (q_runV (rest := []) hC hW (xC_fe_isThere l G S a) (xc_fe_66 (q_rm 0) hC.1.2.2.2.2 ⟨Nat.le_of_ble_eq_true rfl, Nat.le_of_ble_eq_true rfl⟩ rfl rfl) Nat.one_pos rfl rfl rfl hl.1 rfl (Nat.le_of_ble_eq_true rfl) xd_fe_signal_2 ⟨Nat.zero_le _, Nat.zero_le _⟩) (fun H locs hW hS => ?_)
  refine lv_if_eq (tgt := 17) hx hb xd_fe_signal_5 (by decide) (fun c_1 => ?_) (fun c_1 => ?_)
  · -- taken
    refine lv_iconst (v := (-1)) hx hb xd_fe_signal_17 (by decide) ?_
    have hf : x_fe_signal S a b d = ((-1), S) := by unfold x_fe_signal; rw [if_pos c_1]
    rw [hf]
    exact q_iret hC hr hlocks hW hS rfl rfl xd_fe_signal_18
  · -- not taken
    refine lv_iload_n hx hb xd_fe_signal_8 rfl (lv_at hl 2 rfl) ?_
    refine lv_if_lt (tgt := 17) hx hb xd_fe_signal_9 (by decide) (fun c_2 => ?_) (fun c_2 => ?_)
    · -- taken
      refine lv_iconst (v := (-1)) hx hb xd_fe_signal_17 (by decide) ?_
      have hf : x_fe_signal S a b d = ((-1), S) := by unfold x_fe_signal; rw [if_neg c_1, if_pos c_2]
      rw [hf]
      exact q_iret hC hr hlocks hW hS rfl rfl xd_fe_signal_18
    · -- not taken
      refine lv_iload_n hx hb xd_fe_signal_12 rfl (lv_at hl 2 rfl) ?_
      refine lv_iconst (v := 4) hx hb xd_fe_signal_13 (by decide) ?_
      refine lv_icmp_lt (tgt := 19) hx hb xd_fe_signal_14 (by decide) (fun c_3 => ?_) (fun c_3 => ?_)
      · -- taken
        refine lv_aload_n hx hb xd_fe_signal_19 rfl (lv_at hl 0 rfl) ?_
        refine xg_fe_17 hC hW 0 Nat.one_pos xd_fe_signal_20 ?_
        refine lv_iload_n hx hb xd_fe_signal_23 rfl (lv_at hl 1 rfl) ?_
        have h_4 : vp_in a 6 := by obtain ⟨f_c_1_0, f_c_1_1⟩ := xF_isT c_1; simp only [vp_in_iff, Int32.lt_iff_toInt_lt, Int32.le_iff_toInt_le, q_n0, q_n1, q_n2, q_n3, q_n4, q_n5, q_n6, q_n7, q_n10, q_n14, q_n15, q_n20, q_n60, q_n1288] at f_c_1_0 f_c_1_1 c_2 c_3 ⊢; omega
        refine xal_2 hC hW 0 Nat.one_pos h_4 xd_fe_signal_24 ?_
        refine lv_astore (lv' := [(4, .ref (q_a xX G 9 a.toNatClampNeg)), (0, .ref (q_a xX G 0 0)), (1, .int a), (2, .int b), (3, .int d)]) hx hb xd_fe_signal_25 hl (by decide) rfl (fun ls hl => ?_)
        refine lv_aload hx hb xd_fe_signal_27 (lv_at hl 0 rfl) ?_
        refine q_calli hC hS (fun _ h => h) (q_runV (rest := []) hC hW (xC_wf_hasEnded l G S a.toNatClampNeg (q_lt h_4)) (xc_fe_76 (q_rm 0) hC.1.2.2.2.2 ⟨Nat.le_of_ble_eq_true rfl, Nat.le_of_ble_eq_true rfl⟩ rfl rfl) (q_lt h_4) rfl rfl rfl hl.1 rfl (Nat.le_of_ble_eq_true rfl) xd_fe_signal_29 ⟨Nat.zero_le _, Nat.zero_le _⟩) (fun H locs hW hS => ?_)
        refine lv_if_eq (tgt := 38) hx hb xd_fe_signal_32 (by decide) (fun c_5 => ?_) (fun c_5 => ?_)
        · -- taken
          refine lv_aload hx hb xd_fe_signal_38 (lv_at hl 0 rfl) ?_
          refine xg_fe_80 hC hW a.toNatClampNeg (q_lt h_4) xd_fe_signal_40 ?_
          refine q_calli hC hS (fun _ h => h) (q_runV (rest := []) hC hW (xC_ke_isFull l G S a.toNatClampNeg (q_lt h_4)) (xc_fe_84 (q_rm 0) hC.1.2.2.2.2 ⟨Nat.le_of_ble_eq_true rfl, Nat.le_of_ble_eq_true rfl⟩ rfl rfl) (q_lt h_4) rfl rfl rfl hl.1 rfl (Nat.le_of_ble_eq_true rfl) xd_fe_signal_43 ⟨Nat.zero_le _, Nat.zero_le _⟩) (fun H locs hW hS => ?_)
          refine lv_if_eq (tgt := 52) hx hb xd_fe_signal_46 (by decide) (fun c_6 => ?_) (fun c_6 => ?_)
          · -- taken
            refine lv_aload_n hx hb xd_fe_signal_52 rfl (lv_at hl 1 rfl) ?_
            refine lv_aload hx hb xd_fe_signal_53 (lv_at hl 0 rfl) ?_
            refine q_callv hC hS (fun _ h => h) (q_runV (rest := []) hC hW (xC_fe_remember l G S a.toNatClampNeg (q_lt h_4) hI hJ) (xc_fe_89 (q_rm 4) hC.1.2.2.2.2 ⟨Nat.le_of_ble_eq_true rfl, Nat.le_of_ble_eq_true rfl⟩ rfl rfl) Nat.one_pos rfl rfl rfl hl.1 rfl (Nat.le_of_ble_eq_true rfl) xd_fe_signal_55 ⟨Nat.zero_le _, Nat.zero_le _⟩) (fun H locs hW hS => ?_)
            refine lv_aload hx hb xd_fe_signal_58 (lv_at hl 0 rfl) ?_
            refine lv_bipush (v := 7) hx hb xd_fe_signal_60 (by decide) ?_
            refine lv_iload_n hx hb xd_fe_signal_62 rfl (lv_at hl 3 rfl) ?_
            refine q_calli hC hS (fun _ h => h) (q_runV (rest := []) hC hW (xC_wf_waitsFor l G (x_fe_remember S a.toNatClampNeg) a.toNatClampNeg 7 b (q_lt h_4)) (xc_fe_92 (q_rm 0) hC.1.2.2.2.2 ⟨Nat.le_of_ble_eq_true rfl, Nat.le_of_ble_eq_true rfl⟩ rfl rfl) (q_lt h_4) rfl rfl rfl hl.1 rfl (Nat.le_of_ble_eq_true rfl) xd_fe_signal_63 ⟨Nat.zero_le _, Nat.zero_le _⟩) (fun H locs hW hS => ?_)
            refine lv_if_eq (tgt := 81) hx hb xd_fe_signal_66 (by decide) (fun c_7 => ?_) (fun c_7 => ?_)
            · -- taken
              refine lv_aload hx hb xd_fe_signal_81 (lv_at hl 0 rfl) ?_
              refine q_calli hC hS (fun _ h => h) (q_runV (rest := []) hC hW (xC_wf_hasEnded l G (x_fe_remember S a.toNatClampNeg) a.toNatClampNeg (q_lt h_4)) (xc_fe_76 (q_rm 0) hC.1.2.2.2.2 ⟨Nat.le_of_ble_eq_true rfl, Nat.le_of_ble_eq_true rfl⟩ rfl rfl) (q_lt h_4) rfl rfl rfl hl.1 rfl (Nat.le_of_ble_eq_true rfl) xd_fe_signal_83 ⟨Nat.zero_le _, Nat.zero_le _⟩) (fun H locs hW hS => ?_)
              refine lv_if_ne (tgt := 99) hx hb xd_fe_signal_86 (by decide) (fun c_8 => ?_) (fun c_8 => ?_)
              · -- taken
                refine lv_iconst (v := 0) hx hb xd_fe_signal_99 (by decide) ?_
                have hf : x_fe_signal S a b d = (0, x_fe_remember S a.toNatClampNeg) := by unfold x_fe_signal; rw [if_neg c_1, if_neg c_2, if_pos c_3, if_pos c_5, if_pos c_6, if_pos c_7, if_neg c_8]
                rw [hf]
                exact q_iret hC hr hlocks hW hS rfl rfl xd_fe_signal_100
              · -- not taken
                refine lv_aload hx hb xd_fe_signal_89 (lv_at hl 0 rfl) ?_
                refine xg_fe_80 hC hW a.toNatClampNeg (q_lt h_4) xd_fe_signal_91 ?_
                refine lv_iload_n hx hb xd_fe_signal_94 rfl (lv_at hl 3 rfl) ?_
                refine lv_iload_n hx hb xd_fe_signal_95 rfl (lv_at hl 4 rfl) ?_
                have hI_9 : xI (x_fe_remember S a.toNatClampNeg) := (xI_fe_remember S a.toNatClampNeg (q_lt h_4) hI hJ)
                refine q_callv hC hS (fun _ h => h) (q_runV (rest := []) hC hW (xC_ke_keep l G (x_fe_remember S a.toNatClampNeg) a.toNatClampNeg b d (q_lt h_4) hI_9) (xc_fe_100 (q_rm 1) hC.1.2.2.2.2 ⟨Nat.le_of_ble_eq_true rfl, Nat.le_of_ble_eq_true rfl⟩ rfl rfl) (q_lt h_4) rfl rfl rfl hl.1 rfl (Nat.le_of_ble_eq_true rfl) xd_fe_signal_96 ⟨Nat.zero_le _, Nat.zero_le _⟩) (fun H locs hW hS => ?_)
                refine lv_iconst (v := 0) hx hb xd_fe_signal_99 (by decide) ?_
                have hf : x_fe_signal S a b d = (0, x_ke_keep (x_fe_remember S a.toNatClampNeg) a.toNatClampNeg b d) := by unfold x_fe_signal; rw [if_neg c_1, if_neg c_2, if_pos c_3, if_pos c_5, if_pos c_6, if_pos c_7, if_pos c_8]
                rw [hf]
                exact q_iret hC hr hlocks hW hS rfl rfl xd_fe_signal_100
            · -- not taken
              refine lv_aload_n hx hb xd_fe_signal_69 rfl (lv_at hl 1 rfl) ?_
              refine lv_aload hx hb xd_fe_signal_70 (lv_at hl 0 rfl) ?_
              refine lv_bipush (v := 7) hx hb xd_fe_signal_72 (by decide) ?_
              refine lv_iload_n hx hb xd_fe_signal_74 rfl (lv_at hl 3 rfl) ?_
              refine lv_iload_n hx hb xd_fe_signal_75 rfl (lv_at hl 4 rfl) ?_
              have hI_10 : xI (x_fe_remember S a.toNatClampNeg) := (xI_fe_remember S a.toNatClampNeg (q_lt h_4) hI hJ)
              have hJ_11 : xJ (x_fe_remember S a.toNatClampNeg) := xJ_keep hJ (fun x y z hx => ((xK_fe_remember S a.toNatClampNeg x y z (show x ≠ 0 by omega) (show x ≠ 3 by omega) (show x ≠ 4 by omega) (show x ≠ 9 by omega) (show x ≠ 10 by omega) (show x ≠ 11 by omega) (show x ≠ 12 by omega) (show x ≠ 13 by omega) (show x ≠ 14 by omega) (show x ≠ 15 by omega) (show x ≠ 16 by omega) (show x ≠ 17 by omega) (show x ≠ 18 by omega) (show x ≠ 19 by omega) (show x ≠ 20 by omega) (show x ≠ 21 by omega))))
              refine q_callv hC hS (fun _ h => h) (q_runV (rest := []) hC hW (xC_fe_happen l G (x_fe_remember S a.toNatClampNeg) a.toNatClampNeg 7 b d (q_lt h_4) hI_10 hJ_11) (xc_fe_96 (q_rm 4) hC.1.2.2.2.2 ⟨Nat.le_of_ble_eq_true rfl, Nat.le_of_ble_eq_true rfl⟩ rfl rfl) Nat.one_pos rfl rfl rfl hl.1 rfl (Nat.le_of_ble_eq_true rfl) xd_fe_signal_76 ⟨Nat.zero_le _, Nat.zero_le _⟩) (fun H locs hW hS => ?_)
              refine lv_iconst (v := 1) hx hb xd_fe_signal_79 (by decide) ?_
              have hf : x_fe_signal S a b d = (1, x_fe_happen (x_fe_remember S a.toNatClampNeg) a.toNatClampNeg 7 b d) := by unfold x_fe_signal; rw [if_neg c_1, if_neg c_2, if_pos c_3, if_pos c_5, if_pos c_6, if_neg c_7]
              rw [hf]
              exact q_iret hC hr hlocks hW hS rfl rfl xd_fe_signal_80
          · -- not taken
            refine lv_bipush (v := (-3)) hx hb xd_fe_signal_49 (by decide) ?_
            have hf : x_fe_signal S a b d = ((-3), S) := by unfold x_fe_signal; rw [if_neg c_1, if_neg c_2, if_pos c_3, if_pos c_5, if_neg c_6]
            rw [hf]
            exact q_iret hC hr hlocks hW hS rfl rfl xd_fe_signal_51
        · -- not taken
          refine lv_bipush (v := (-2)) hx hb xd_fe_signal_35 (by decide) ?_
          have hf : x_fe_signal S a b d = ((-2), S) := by unfold x_fe_signal; rw [if_neg c_1, if_neg c_2, if_pos c_3, if_neg c_5]
          rw [hf]
          exact q_iret hC hr hlocks hW hS rfl rfl xd_fe_signal_37
      · -- not taken
        refine lv_iconst (v := (-1)) hx hb xd_fe_signal_17 (by decide) ?_
        have hf : x_fe_signal S a b d = ((-1), S) := by unfold x_fe_signal; rw [if_neg c_1, if_neg c_2, if_neg c_3]
        rw [hf]
        exact q_iret hC hr hlocks hW hS rfl rfl xd_fe_signal_18
set_option maxRecDepth 100000 in
set_option maxHeartbeats 4000000 in
theorem xI_fe_signal (S : q_S) (a b d : Int32) (hI : xI S) (hJ : xJ S) : xI ((x_fe_signal S a b d).2) := by
  by_cases c_1 : x_fe_isThere S a = 0
  · -- yes
    have hf : x_fe_signal S a b d = ((-1), S) := by unfold x_fe_signal; rw [if_pos c_1]
    rw [hf]
    exact hI
  · -- no
    by_cases c_2 : b < 0
    · -- yes
      have hf : x_fe_signal S a b d = ((-1), S) := by unfold x_fe_signal; rw [if_neg c_1, if_pos c_2]
      rw [hf]
      exact hI
    · -- no
      by_cases c_3 : b < 4
      · -- yes
        by_cases c_5 : x_wf_hasEnded S a.toNatClampNeg = 0
        · -- yes
          by_cases c_6 : x_ke_isFull S a.toNatClampNeg = 0
          · -- yes
            by_cases c_7 : x_wf_waitsFor (x_fe_remember S a.toNatClampNeg) a.toNatClampNeg 7 b = 0
            · -- yes
              by_cases c_8 : x_wf_hasEnded (x_fe_remember S a.toNatClampNeg) a.toNatClampNeg = 0
              · -- yes
                have h_4 : vp_in a 6 := by obtain ⟨f_c_1_0, f_c_1_1⟩ := xF_isT c_1; simp only [vp_in_iff, Int32.lt_iff_toInt_lt, Int32.le_iff_toInt_le, q_n0, q_n1, q_n2, q_n3, q_n4, q_n5, q_n6, q_n7, q_n10, q_n14, q_n15, q_n20, q_n60, q_n1288] at f_c_1_0 f_c_1_1 c_2 c_3 ⊢; omega
                have hI_9 : xI (x_fe_remember S a.toNatClampNeg) := (xI_fe_remember S a.toNatClampNeg (q_lt h_4) hI hJ)
                have hf : x_fe_signal S a b d = (0, x_ke_keep (x_fe_remember S a.toNatClampNeg) a.toNatClampNeg b d) := by unfold x_fe_signal; rw [if_neg c_1, if_neg c_2, if_pos c_3, if_pos c_5, if_pos c_6, if_pos c_7, if_pos c_8]
                rw [hf]
                exact (xI_ke_keep (x_fe_remember S a.toNatClampNeg) a.toNatClampNeg b d (q_lt h_4) hI_9)
              · -- no
                have h_4 : vp_in a 6 := by obtain ⟨f_c_1_0, f_c_1_1⟩ := xF_isT c_1; simp only [vp_in_iff, Int32.lt_iff_toInt_lt, Int32.le_iff_toInt_le, q_n0, q_n1, q_n2, q_n3, q_n4, q_n5, q_n6, q_n7, q_n10, q_n14, q_n15, q_n20, q_n60, q_n1288] at f_c_1_0 f_c_1_1 c_2 c_3 ⊢; omega
                have hf : x_fe_signal S a b d = (0, x_fe_remember S a.toNatClampNeg) := by unfold x_fe_signal; rw [if_neg c_1, if_neg c_2, if_pos c_3, if_pos c_5, if_pos c_6, if_pos c_7, if_neg c_8]
                rw [hf]
                exact (xI_fe_remember S a.toNatClampNeg (q_lt h_4) hI hJ)
            · -- no
              have h_4 : vp_in a 6 := by obtain ⟨f_c_1_0, f_c_1_1⟩ := xF_isT c_1; simp only [vp_in_iff, Int32.lt_iff_toInt_lt, Int32.le_iff_toInt_le, q_n0, q_n1, q_n2, q_n3, q_n4, q_n5, q_n6, q_n7, q_n10, q_n14, q_n15, q_n20, q_n60, q_n1288] at f_c_1_0 f_c_1_1 c_2 c_3 ⊢; omega
              have hI_10 : xI (x_fe_remember S a.toNatClampNeg) := (xI_fe_remember S a.toNatClampNeg (q_lt h_4) hI hJ)
              have hJ_11 : xJ (x_fe_remember S a.toNatClampNeg) := xJ_keep hJ (fun x y z hx => ((xK_fe_remember S a.toNatClampNeg x y z (show x ≠ 0 by omega) (show x ≠ 3 by omega) (show x ≠ 4 by omega) (show x ≠ 9 by omega) (show x ≠ 10 by omega) (show x ≠ 11 by omega) (show x ≠ 12 by omega) (show x ≠ 13 by omega) (show x ≠ 14 by omega) (show x ≠ 15 by omega) (show x ≠ 16 by omega) (show x ≠ 17 by omega) (show x ≠ 18 by omega) (show x ≠ 19 by omega) (show x ≠ 20 by omega) (show x ≠ 21 by omega))))
              have hf : x_fe_signal S a b d = (1, x_fe_happen (x_fe_remember S a.toNatClampNeg) a.toNatClampNeg 7 b d) := by unfold x_fe_signal; rw [if_neg c_1, if_neg c_2, if_pos c_3, if_pos c_5, if_pos c_6, if_neg c_7]
              rw [hf]
              exact (xI_fe_happen (x_fe_remember S a.toNatClampNeg) a.toNatClampNeg 7 b d (q_lt h_4) hI_10 hJ_11)
          · -- no
            have h_4 : vp_in a 6 := by obtain ⟨f_c_1_0, f_c_1_1⟩ := xF_isT c_1; simp only [vp_in_iff, Int32.lt_iff_toInt_lt, Int32.le_iff_toInt_le, q_n0, q_n1, q_n2, q_n3, q_n4, q_n5, q_n6, q_n7, q_n10, q_n14, q_n15, q_n20, q_n60, q_n1288] at f_c_1_0 f_c_1_1 c_2 c_3 ⊢; omega
            have hf : x_fe_signal S a b d = ((-3), S) := by unfold x_fe_signal; rw [if_neg c_1, if_neg c_2, if_pos c_3, if_pos c_5, if_neg c_6]
            rw [hf]
            exact hI
        · -- no
          have h_4 : vp_in a 6 := by obtain ⟨f_c_1_0, f_c_1_1⟩ := xF_isT c_1; simp only [vp_in_iff, Int32.lt_iff_toInt_lt, Int32.le_iff_toInt_le, q_n0, q_n1, q_n2, q_n3, q_n4, q_n5, q_n6, q_n7, q_n10, q_n14, q_n15, q_n20, q_n60, q_n1288] at f_c_1_0 f_c_1_1 c_2 c_3 ⊢; omega
          have hf : x_fe_signal S a b d = ((-2), S) := by unfold x_fe_signal; rw [if_neg c_1, if_neg c_2, if_pos c_3, if_neg c_5]
          rw [hf]
          exact hI
      · -- no
        have hf : x_fe_signal S a b d = ((-1), S) := by unfold x_fe_signal; rw [if_neg c_1, if_neg c_2, if_neg c_3]
        rw [hf]
        exact hI
set_option maxRecDepth 100000 in
set_option maxHeartbeats 4000000 in
theorem xK_fe_signal (S : q_S) (a b d : Int32) (x y z : Nat) (h0 : x ≠ 0) (h3 : x ≠ 3) (h4 : x ≠ 4) (h9 : x ≠ 9) (h10 : x ≠ 10) (h11 : x ≠ 11) (h12 : x ≠ 12) (h13 : x ≠ 13) (h14 : x ≠ 14) (h15 : x ≠ 15) (h16 : x ≠ 16) (h17 : x ≠ 17) (h18 : x ≠ 18) (h19 : x ≠ 19) (h20 : x ≠ 20) (h21 : x ≠ 21) : (x_fe_signal S a b d).2 x y z = S x y z := by
  by_cases c_1 : x_fe_isThere S a = 0
  · -- yes
    have hf : x_fe_signal S a b d = ((-1), S) := by unfold x_fe_signal; rw [if_pos c_1]
    rw [hf]
  · -- no
    by_cases c_2 : b < 0
    · -- yes
      have hf : x_fe_signal S a b d = ((-1), S) := by unfold x_fe_signal; rw [if_neg c_1, if_pos c_2]
      rw [hf]
    · -- no
      by_cases c_3 : b < 4
      · -- yes
        by_cases c_5 : x_wf_hasEnded S a.toNatClampNeg = 0
        · -- yes
          by_cases c_6 : x_ke_isFull S a.toNatClampNeg = 0
          · -- yes
            by_cases c_7 : x_wf_waitsFor (x_fe_remember S a.toNatClampNeg) a.toNatClampNeg 7 b = 0
            · -- yes
              by_cases c_8 : x_wf_hasEnded (x_fe_remember S a.toNatClampNeg) a.toNatClampNeg = 0
              · -- yes
                have hf : x_fe_signal S a b d = (0, x_ke_keep (x_fe_remember S a.toNatClampNeg) a.toNatClampNeg b d) := by unfold x_fe_signal; rw [if_neg c_1, if_neg c_2, if_pos c_3, if_pos c_5, if_pos c_6, if_pos c_7, if_pos c_8]
                rw [hf]
                exact ((xK_ke_keep (x_fe_remember S a.toNatClampNeg) a.toNatClampNeg b d x y z h15 h16 h17)).trans (((xK_fe_remember S a.toNatClampNeg x y z h0 h3 h4 h9 h10 h11 h12 h13 h14 h15 h16 h17 h18 h19 h20 h21)))
              · -- no
                have hf : x_fe_signal S a b d = (0, x_fe_remember S a.toNatClampNeg) := by unfold x_fe_signal; rw [if_neg c_1, if_neg c_2, if_pos c_3, if_pos c_5, if_pos c_6, if_pos c_7, if_neg c_8]
                rw [hf]
                exact ((xK_fe_remember S a.toNatClampNeg x y z h0 h3 h4 h9 h10 h11 h12 h13 h14 h15 h16 h17 h18 h19 h20 h21))
            · -- no
              have hf : x_fe_signal S a b d = (1, x_fe_happen (x_fe_remember S a.toNatClampNeg) a.toNatClampNeg 7 b d) := by unfold x_fe_signal; rw [if_neg c_1, if_neg c_2, if_pos c_3, if_pos c_5, if_pos c_6, if_neg c_7]
              rw [hf]
              exact ((xK_fe_happen (x_fe_remember S a.toNatClampNeg) a.toNatClampNeg 7 b d x y z h0 h3 h4 h9 h10 h11 h12 h13 h14 h15 h16 h17 h18 h19 h20 h21)).trans (((xK_fe_remember S a.toNatClampNeg x y z h0 h3 h4 h9 h10 h11 h12 h13 h14 h15 h16 h17 h18 h19 h20 h21)))
          · -- no
            have hf : x_fe_signal S a b d = ((-3), S) := by unfold x_fe_signal; rw [if_neg c_1, if_neg c_2, if_pos c_3, if_pos c_5, if_neg c_6]
            rw [hf]
        · -- no
          have hf : x_fe_signal S a b d = ((-2), S) := by unfold x_fe_signal; rw [if_neg c_1, if_neg c_2, if_pos c_3, if_neg c_5]
          rw [hf]
      · -- no
        have hf : x_fe_signal S a b d = ((-1), S) := by unfold x_fe_signal; rw [if_neg c_1, if_neg c_2, if_neg c_3]
        rw [hf]
