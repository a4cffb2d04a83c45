def m_fm_isFor (S : q_S) (i : Nat) (a b : Int32) : Int32 :=
  if q_i (S 10 0 i) = 1 then
    if a = 3 then
      if b = q_i (S 27 0 i) then
        1
      else
        0
    else
      if a = 4 then
        if b = q_i (S 27 0 i) then
          1
        else
          0
      else
        0
  else
    if q_i (S 10 0 i) = 4 then
      if a = 3 then
        if b = q_i (S 27 0 i) then
          1
        else
          0
      else
        if a = 4 then
          if b = q_i (S 27 0 i) then
            1
          else
            0
        else
          0
    else
      if q_i (S 10 0 i) = 2 then
        if a = 6 then
          1
        else
          0
      else
        if q_i (S 10 0 i) = 3 then
          if a = 7 then
            if b = q_i (S 2 0 (14 * ((q_i (S 9 0 i)).toNatClampNeg) + ((q_i (S 11 0 i)).toNatClampNeg))) then
              1
            else
              0
          else
            0
        else
          0
set_option maxRecDepth 100000 in
set_option maxHeartbeats 4000000 in
theorem mC_fm_isFor (l : Launch) (G : q_G) (S : q_S) (i : Nat) (a b : Int32) (hi : i < 6) (hI : mI S) (hV : mV S i) : q_Mi mX G l my_fm_isFor (q_ws (q_gw lw_tbl) my_fm_isFor mb_fm_isFor 4 (some .boolean)) (q_rm 0) [.ref (q_a mX G 0 0), .int (nI i), .int a, .int b] S (m_fm_isFor S i a b) S := by
  refine q_met (cc := mb_fm_isFor) (maxL := 4) (ret := (some .boolean)) mOk (by decide) rfl (Nat.le_of_ble_eq_true rfl) ?_
  intro p e s m below meth c ls hC hr hlocks hW hS hl
  have hx := hC.1.1
  have hb := hC.1.2.1
  have hl : lv_has ls 4 [(0, .ref (q_a mX G 0 0)), (1, .int (nI i)), (2, .int a), (3, .int b)] := hl
  refine lv_aload_n hx hb md_fm_isFor_0 rfl (lv_at hl 0 rfl) ?_
  refine mg_fm_38 hC hW 0 Nat.one_pos md_fm_isFor_1 ?_
  refine lv_iload_n hx hb md_fm_isFor_4 rfl (lv_at hl 1 rfl) ?_
  have h_1 : vp_in (nI i) 6 := by have l1 := nI_toInt (n := i) (by omega); rw [vp_in_iff]; omega
  have s_2 : (nI i).toNatClampNeg = i := by have l1 := nI_toInt (n := i) (by omega); apply q_tn; omega
  refine male_10 hC hW h_1 s_2 (rfl) md_fm_isFor_5 ?_
  refine lv_iconst (v := 1) hx hb md_fm_isFor_6 (by decide) ?_
  refine lv_icmp_eq (tgt := 20) hx hb md_fm_isFor_7 (by decide) (fun c_3 => ?_) (fun c_3 => ?_)
  · -- taken
    refine lv_iload_n hx hb md_fm_isFor_20 rfl (lv_at hl 2 rfl) ?_
    refine lv_iconst (v := 3) hx hb md_fm_isFor_21 (by decide) ?_
    refine lv_icmp_eq (tgt := 30) hx hb md_fm_isFor_22 (by decide) (fun c_4 => ?_) (fun c_4 => ?_)
    · -- taken
      refine lv_iload_n hx hb md_fm_isFor_30 rfl (lv_at hl 3 rfl) ?_
      refine lv_aload_n hx hb md_fm_isFor_31 rfl (lv_at hl 0 rfl) ?_
      refine mg_fm_90 hC hW 0 Nat.one_pos md_fm_isFor_32 ?_
      refine lv_iload_n hx hb md_fm_isFor_35 rfl (lv_at hl 1 rfl) ?_
      have h_5 : vp_in (nI i) 6 := by have e_c_3 : (q_i (S 10 0 i)).toInt = 1 := (by rw [c_3]; rfl); have e_c_4 : (a).toInt = 3 := (by rw [c_4]; rfl); have l1 := nI_toInt (n := i) (by omega); rw [vp_in_iff]; omega
      have s_6 : (nI i).toNatClampNeg = i := by have e_c_3 : (q_i (S 10 0 i)).toInt = 1 := (by rw [c_3]; rfl); have e_c_4 : (a).toInt = 3 := (by rw [c_4]; rfl); have l1 := nI_toInt (n := i) (by omega); apply q_tn; omega
      refine male_27 hC hW h_5 s_6 (rfl) md_fm_isFor_36 ?_
      refine lv_icmp_ne (tgt := 44) hx hb md_fm_isFor_37 (by decide) (fun c_7 => ?_) (fun c_7 => ?_)
      · -- taken
        refine lv_iconst (v := 0) hx hb md_fm_isFor_44 (by decide) ?_
        have hf : m_fm_isFor S i a b = 0 := by unfold m_fm_isFor; rw [if_pos c_3, if_pos c_4, if_neg c_7]
        rw [hf]
        exact q_zret hC hr hlocks hW hS (by decide) rfl rfl md_fm_isFor_45
      · -- not taken
        refine lv_iconst (v := 1) hx hb md_fm_isFor_40 (by decide) ?_
        refine lv_goto (tgt := 45) hx hb md_fm_isFor_41 (by decide) ?_
        have hf : m_fm_isFor S i a b = 1 := by unfold m_fm_isFor; rw [if_pos c_3, if_pos c_4, if_pos c_7]
        rw [hf]
        exact q_zret hC hr hlocks hW hS (by decide) rfl rfl md_fm_isFor_45
    · -- not taken
      refine lv_iload_n hx hb md_fm_isFor_25 rfl (lv_at hl 2 rfl) ?_
      refine lv_iconst (v := 4) hx hb md_fm_isFor_26 (by decide) ?_
      refine lv_icmp_ne (tgt := 44) hx hb md_fm_isFor_27 (by decide) (fun c_8 => ?_) (fun c_8 => ?_)
      · -- taken
        refine lv_iconst (v := 0) hx hb md_fm_isFor_44 (by decide) ?_
        have hf : m_fm_isFor S i a b = 0 := by unfold m_fm_isFor; rw [if_pos c_3, if_neg c_4, if_neg c_8]
        rw [hf]
        exact q_zret hC hr hlocks hW hS (by decide) rfl rfl md_fm_isFor_45
      · -- not taken
        refine lv_iload_n hx hb md_fm_isFor_30 rfl (lv_at hl 3 rfl) ?_
        refine lv_aload_n hx hb md_fm_isFor_31 rfl (lv_at hl 0 rfl) ?_
        refine mg_fm_90 hC hW 0 Nat.one_pos md_fm_isFor_32 ?_
        refine lv_iload_n hx hb md_fm_isFor_35 rfl (lv_at hl 1 rfl) ?_
        have h_9 : vp_in (nI i) 6 := by have e_c_3 : (q_i (S 10 0 i)).toInt = 1 := (by rw [c_3]; rfl); have e_c_4 := lv_neT c_4 (a := 3) (by decide); have e_c_8 : (a).toInt = 4 := (by rw [c_8]; rfl); have l1 := nI_toInt (n := i) (by omega); rw [vp_in_iff]; omega
        have s_10 : (nI i).toNatClampNeg = i := by have e_c_3 : (q_i (S 10 0 i)).toInt = 1 := (by rw [c_3]; rfl); have e_c_4 := lv_neT c_4 (a := 3) (by decide); have e_c_8 : (a).toInt = 4 := (by rw [c_8]; rfl); have l1 := nI_toInt (n := i) (by omega); apply q_tn; omega
        refine male_27 hC hW h_9 s_10 (rfl) md_fm_isFor_36 ?_
        refine lv_icmp_ne (tgt := 44) hx hb md_fm_isFor_37 (by decide) (fun c_11 => ?_) (fun c_11 => ?_)
        · -- taken
          refine lv_iconst (v := 0) hx hb md_fm_isFor_44 (by decide) ?_
          have hf : m_fm_isFor S i a b = 0 := by unfold m_fm_isFor; rw [if_pos c_3, if_neg c_4, if_pos c_8, if_neg c_11]
          rw [hf]
          exact q_zret hC hr hlocks hW hS (by decide) rfl rfl md_fm_isFor_45
        · -- not taken
          refine lv_iconst (v := 1) hx hb md_fm_isFor_40 (by decide) ?_
          refine lv_goto (tgt := 45) hx hb md_fm_isFor_41 (by decide) ?_
          have hf : m_fm_isFor S i a b = 1 := by unfold m_fm_isFor; rw [if_pos c_3, if_neg c_4, if_pos c_8, if_pos c_11]
          rw [hf]
          exact q_zret hC hr hlocks hW hS (by decide) rfl rfl md_fm_isFor_45
  · -- not taken
    refine lv_aload_n hx hb md_fm_isFor_10 rfl (lv_at hl 0 rfl) ?_
    refine mg_fm_38 hC hW 0 Nat.one_pos md_fm_isFor_11 ?_
    refine lv_iload_n hx hb md_fm_isFor_14 rfl (lv_at hl 1 rfl) ?_
    have h_12 : vp_in (nI i) 6 := by have e_c_3 := lv_neT c_3 (a := 1) (by decide); have l1 := nI_toInt (n := i) (by omega); rw [vp_in_iff]; omega
    have s_13 : (nI i).toNatClampNeg = i := by have e_c_3 := lv_neT c_3 (a := 1) (by decide); have l1 := nI_toInt (n := i) (by omega); apply q_tn; omega
    refine male_10 hC hW h_12 s_13 (rfl) md_fm_isFor_15 ?_
    refine lv_iconst (v := 4) hx hb md_fm_isFor_16 (by decide) ?_
    refine lv_icmp_ne (tgt := 46) hx hb md_fm_isFor_17 (by decide) (fun c_14 => ?_) (fun c_14 => ?_)
    · -- taken
      refine lv_aload_n hx hb md_fm_isFor_46 rfl (lv_at hl 0 rfl) ?_
      refine mg_fm_38 hC hW 0 Nat.one_pos md_fm_isFor_47 ?_
      refine lv_iload_n hx hb md_fm_isFor_50 rfl (lv_at hl 1 rfl) ?_
      have h_15 : vp_in (nI i) 6 := by have e_c_3 := lv_neT c_3 (a := 1) (by decide); have e_c_14 := lv_neT c_14 (a := 4) (by decide); have l1 := nI_toInt (n := i) (by omega); rw [vp_in_iff]; omega
      have s_16 : (nI i).toNatClampNeg = i := by have e_c_3 := lv_neT c_3 (a := 1) (by decide); have e_c_14 := lv_neT c_14 (a := 4) (by decide); have l1 := nI_toInt (n := i) (by omega); apply q_tn; omega
      refine male_10 hC hW h_15 s_16 (rfl) md_fm_isFor_51 ?_
      refine lv_iconst (v := 2) hx hb md_fm_isFor_52 (by decide) ?_
      refine lv_icmp_ne (tgt := 68) hx hb md_fm_isFor_53 (by decide) (fun c_17 => ?_) (fun c_17 => ?_)
      · -- taken
        refine lv_aload_n hx hb md_fm_isFor_68 rfl (lv_at hl 0 rfl) ?_
        refine mg_fm_38 hC hW 0 Nat.one_pos md_fm_isFor_69 ?_
        refine lv_iload_n hx hb md_fm_isFor_72 rfl (lv_at hl 1 rfl) ?_
        have h_18 : vp_in (nI i) 6 := by have e_c_3 := lv_neT c_3 (a := 1) (by decide); have e_c_14 := lv_neT c_14 (a := 4) (by decide); have e_c_17 := lv_neT c_17 (a := 2) (by decide); have l1 := nI_toInt (n := i) (by omega); rw [vp_in_iff]; omega
        have s_19 : (nI i).toNatClampNeg = i := by have e_c_3 := lv_neT c_3 (a := 1) (by decide); have e_c_14 := lv_neT c_14 (a := 4) (by decide); have e_c_17 := lv_neT c_17 (a := 2) (by decide); have l1 := nI_toInt (n := i) (by omega); apply q_tn; omega
        refine male_10 hC hW h_18 s_19 (rfl) md_fm_isFor_73 ?_
        refine lv_iconst (v := 3) hx hb md_fm_isFor_74 (by decide) ?_
        refine lv_icmp_ne (tgt := 113) hx hb md_fm_isFor_75 (by decide) (fun c_20 => ?_) (fun c_20 => ?_)
        · -- taken
          refine lv_iconst (v := 0) hx hb md_fm_isFor_113 (by decide) ?_
          have hf : m_fm_isFor S i a b = 0 := by unfold m_fm_isFor; rw [if_neg c_3, if_neg c_14, if_neg c_17, if_neg c_20]
          rw [hf]
          exact q_zret hC hr hlocks hW hS (by decide) rfl rfl md_fm_isFor_114
        · -- not taken
          refine lv_iload_n hx hb md_fm_isFor_78 rfl (lv_at hl 2 rfl) ?_
          refine lv_bipush (v := 7) hx hb md_fm_isFor_79 (by decide) ?_
          refine lv_icmp_ne (tgt := 113) hx hb md_fm_isFor_81 (by decide) (fun c_21 => ?_) (fun c_21 => ?_)
          · -- taken
            refine lv_iconst (v := 0) hx hb md_fm_isFor_113 (by decide) ?_
            have hf : m_fm_isFor S i a b = 0 := by unfold m_fm_isFor; rw [if_neg c_3, if_neg c_14, if_neg c_17, if_pos c_20, if_neg c_21]
            rw [hf]
            exact q_zret hC hr hlocks hW hS (by decide) rfl rfl md_fm_isFor_114
          · -- not taken
            refine lv_iload_n hx hb md_fm_isFor_84 rfl (lv_at hl 3 rfl) ?_
            refine lv_aload_n hx hb md_fm_isFor_85 rfl (lv_at hl 0 rfl) ?_
            refine mg_fm_13 hC hW 0 Nat.one_pos md_fm_isFor_86 ?_
            refine lv_bipush (v := 14) hx hb md_fm_isFor_89 (by decide) ?_
            refine lv_aload_n hx hb md_fm_isFor_91 rfl (lv_at hl 0 rfl) ?_
            refine mg_fm_35 hC hW 0 Nat.one_pos md_fm_isFor_92 ?_
            refine lv_iload_n hx hb md_fm_isFor_95 rfl (lv_at hl 1 rfl) ?_
            have h_22 : vp_in (nI i) 6 := by have e_c_3 := lv_neT c_3 (a := 1) (by decide); have e_c_14 := lv_neT c_14 (a := 4) (by decide); have e_c_17 := lv_neT c_17 (a := 2) (by decide); have e_c_20 : (q_i (S 10 0 i)).toInt = 3 := (by rw [c_20]; rfl); have e_c_21 : (a).toInt = 7 := (by rw [c_21]; rfl); have l1 := nI_toInt (n := i) (by omega); rw [vp_in_iff]; omega
            have s_23 : (nI i).toNatClampNeg = i := by have e_c_3 := lv_neT c_3 (a := 1) (by decide); have e_c_14 := lv_neT c_14 (a := 4) (by decide); have e_c_17 := lv_neT c_17 (a := 2) (by decide); have e_c_20 : (q_i (S 10 0 i)).toInt = 3 := (by rw [c_20]; rfl); have e_c_21 : (a).toInt = 7 := (by rw [c_21]; rfl); have l1 := nI_toInt (n := i) (by omega); apply q_tn; omega
            refine male_9 hC hW h_22 s_23 (rfl) md_fm_isFor_96 ?_
            refine lv_imul hx hb md_fm_isFor_97 ?_
            refine lv_aload_n hx hb md_fm_isFor_98 rfl (lv_at hl 0 rfl) ?_
            refine mg_fm_41 hC hW 0 Nat.one_pos md_fm_isFor_99 ?_
            refine lv_iload_n hx hb md_fm_isFor_102 rfl (lv_at hl 1 rfl) ?_
            have h_24 : vp_in (nI i) 6 := by have e_c_3 := lv_neT c_3 (a := 1) (by decide); have e_c_14 := lv_neT c_14 (a := 4) (by decide); have e_c_17 := lv_neT c_17 (a := 2) (by decide); have e_c_20 : (q_i (S 10 0 i)).toInt = 3 := (by rw [c_20]; rfl); have e_c_21 : (a).toInt = 7 := (by rw [c_21]; rfl); have l1 := nI_toInt (n := i) (by omega); rw [vp_in_iff]; omega
            have s_25 : (nI i).toNatClampNeg = i := by have e_c_3 := lv_neT c_3 (a := 1) (by decide); have e_c_14 := lv_neT c_14 (a := 4) (by decide); have e_c_17 := lv_neT c_17 (a := 2) (by decide); have e_c_20 : (q_i (S 10 0 i)).toInt = 3 := (by rw [c_20]; rfl); have e_c_21 : (a).toInt = 7 := (by rw [c_21]; rfl); have l1 := nI_toInt (n := i) (by omega); apply q_tn; omega
            refine male_11 hC hW h_24 s_25 (rfl) md_fm_isFor_103 ?_
            refine lv_iadd hx hb md_fm_isFor_104 ?_
            refine W.eq (g2 := F0 m 105 ls [.int ((14 * (q_i (S 9 0 i))) + (q_i (S 11 0 i))), .ref (q_a mX G 2 0), .int b]) rfl ?_
            have h_26 : vp_in ((14 * (q_i (S 9 0 i))) + (q_i (S 11 0 i))) 42 := by have e_c_3 := lv_neT c_3 (a := 1) (by decide); have e_c_14 := lv_neT c_14 (a := 4) (by decide); have e_c_17 := lv_neT c_17 (a := 2) (by decide); have e_c_20 : (q_i (S 10 0 i)).toInt = 3 := (by rw [c_20]; rfl); have e_c_21 : (a).toInt = 7 := (by rw [c_21]; rfl); have l4 := mV_13 hI hV (Or.inr (Or.inr c_20)); have l1 : (14 : Int32).toInt = 14 := rfl; have l2 : 0 ≤ (q_i (S 9 0 i)).toInt ∧ (q_i (S 9 0 i)).toInt ≤ 2 := hI 9 0 i; have l3 := q_mulI (c := 14) (x := q_i (S 9 0 i)) (k := 14) rfl (by omega); have l5 : 0 ≤ (q_i (S 11 0 i)).toInt ∧ (q_i (S 11 0 i)).toInt ≤ 14 := hI 11 0 i; have l6 := q_addI (x := 14 * (q_i (S 9 0 i))) (y := q_i (S 11 0 i)) (by omega); rw [vp_in_iff]; omega
            have s_27 : ((14 * (q_i (S 9 0 i))) + (q_i (S 11 0 i))).toNatClampNeg = 14 * ((q_i (S 9 0 i)).toNatClampNeg) + ((q_i (S 11 0 i)).toNatClampNeg) := by have e_c_3 := lv_neT c_3 (a := 1) (by decide); have e_c_14 := lv_neT c_14 (a := 4) (by decide); have e_c_17 := lv_neT c_17 (a := 2) (by decide); have e_c_20 : (q_i (S 10 0 i)).toInt = 3 := (by rw [c_20]; rfl); have e_c_21 : (a).toInt = 7 := (by rw [c_21]; rfl); have l4 := mV_13 hI hV (Or.inr (Or.inr c_20)); have l1 : (14 : Int32).toInt = 14 := rfl; have l2 : 0 ≤ (q_i (S 9 0 i)).toInt ∧ (q_i (S 9 0 i)).toInt ≤ 2 := hI 9 0 i; have l3 := q_mulI (c := 14) (x := q_i (S 9 0 i)) (k := 14) rfl (by omega); have l5 : 0 ≤ (q_i (S 11 0 i)).toInt ∧ (q_i (S 11 0 i)).toInt ≤ 14 := hI 11 0 i; have l6 := q_addI (x := 14 * (q_i (S 9 0 i))) (y := q_i (S 11 0 i)) (by omega); have c0 := q_clI (x := q_i (S 9 0 i)) (by omega); have c1 := q_clI (x := q_i (S 11 0 i)) (by omega); apply q_tn; omega
            refine male_2 hC hW h_26 s_27 (rfl) md_fm_isFor_105 ?_
            refine lv_icmp_ne (tgt := 113) hx hb md_fm_isFor_106 (by decide) (fun c_28 => ?_) (fun c_28 => ?_)
            · -- taken
              refine lv_iconst (v := 0) hx hb md_fm_isFor_113 (by decide) ?_
              have hf : m_fm_isFor S i a b = 0 := by unfold m_fm_isFor; rw [if_neg c_3, if_neg c_14, if_neg c_17, if_pos c_20, if_pos c_21, if_neg c_28]
              rw [hf]
              exact q_zret hC hr hlocks hW hS (by decide) rfl rfl md_fm_isFor_114
            · -- not taken
              refine lv_iconst (v := 1) hx hb md_fm_isFor_109 (by decide) ?_
              refine lv_goto (tgt := 114) hx hb md_fm_isFor_110 (by decide) ?_
              have hf : m_fm_isFor S i a b = 1 := by unfold m_fm_isFor; rw [if_neg c_3, if_neg c_14, if_neg c_17, if_pos c_20, if_pos c_21, if_pos c_28]
              rw [hf]
              exact q_zret hC hr hlocks hW hS (by decide) rfl rfl md_fm_isFor_114
      · -- not taken
        refine lv_iload_n hx hb md_fm_isFor_56 rfl (lv_at hl 2 rfl) ?_
        refine lv_bipush (v := 6) hx hb md_fm_isFor_57 (by decide) ?_
        refine lv_icmp_ne (tgt := 66) hx hb md_fm_isFor_59 (by decide) (fun c_29 => ?_) (fun c_29 => ?_)
        · -- taken
          refine lv_iconst (v := 0) hx hb md_fm_isFor_66 (by decide) ?_
          have hf : m_fm_isFor S i a b = 0 := by unfold m_fm_isFor; rw [if_neg c_3, if_neg c_14, if_pos c_17, if_neg c_29]
          rw [hf]
          exact q_zret hC hr hlocks hW hS (by decide) rfl rfl md_fm_isFor_67
        · -- not taken
          refine lv_iconst (v := 1) hx hb md_fm_isFor_62 (by decide) ?_
          refine lv_goto (tgt := 67) hx hb md_fm_isFor_63 (by decide) ?_
          have hf : m_fm_isFor S i a b = 1 := by unfold m_fm_isFor; rw [if_neg c_3, if_neg c_14, if_pos c_17, if_pos c_29]
          rw [hf]
          exact q_zret hC hr hlocks hW hS (by decide) rfl rfl md_fm_isFor_67
    · -- not taken
      refine lv_iload_n hx hb md_fm_isFor_20 rfl (lv_at hl 2 rfl) ?_
      refine lv_iconst (v := 3) hx hb md_fm_isFor_21 (by decide) ?_
      refine lv_icmp_eq (tgt := 30) hx hb md_fm_isFor_22 (by decide) (fun c_30 => ?_) (fun c_30 => ?_)
      · -- taken
        refine lv_iload_n hx hb md_fm_isFor_30 rfl (lv_at hl 3 rfl) ?_
        refine lv_aload_n hx hb md_fm_isFor_31 rfl (lv_at hl 0 rfl) ?_
        refine mg_fm_90 hC hW 0 Nat.one_pos md_fm_isFor_32 ?_
        refine lv_iload_n hx hb md_fm_isFor_35 rfl (lv_at hl 1 rfl) ?_
        have h_31 : vp_in (nI i) 6 := by have e_c_3 := lv_neT c_3 (a := 1) (by decide); have e_c_14 : (q_i (S 10 0 i)).toInt = 4 := (by rw [c_14]; rfl); have e_c_30 : (a).toInt = 3 := (by rw [c_30]; rfl); have l1 := nI_toInt (n := i) (by omega); rw [vp_in_iff]; omega
        have s_32 : (nI i).toNatClampNeg = i := by have e_c_3 := lv_neT c_3 (a := 1) (by decide); have e_c_14 : (q_i (S 10 0 i)).toInt = 4 := (by rw [c_14]; rfl); have e_c_30 : (a).toInt = 3 := (by rw [c_30]; rfl); have l1 := nI_toInt (n := i) (by omega); apply q_tn; omega
        refine male_27 hC hW h_31 s_32 (rfl) md_fm_isFor_36 ?_
        refine lv_icmp_ne (tgt := 44) hx hb md_fm_isFor_37 (by decide) (fun c_33 => ?_) (fun c_33 => ?_)
        · -- taken
          refine lv_iconst (v := 0) hx hb md_fm_isFor_44 (by decide) ?_
          have hf : m_fm_isFor S i a b = 0 := by unfold m_fm_isFor; rw [if_neg c_3, if_pos c_14, if_pos c_30, if_neg c_33]
          rw [hf]
          exact q_zret hC hr hlocks hW hS (by decide) rfl rfl md_fm_isFor_45
        · -- not taken
          refine lv_iconst (v := 1) hx hb md_fm_isFor_40 (by decide) ?_
          refine lv_goto (tgt := 45) hx hb md_fm_isFor_41 (by decide) ?_
          have hf : m_fm_isFor S i a b = 1 := by unfold m_fm_isFor; rw [if_neg c_3, if_pos c_14, if_pos c_30, if_pos c_33]
          rw [hf]
          exact q_zret hC hr hlocks hW hS (by decide) rfl rfl md_fm_isFor_45
      · -- not taken
        refine lv_iload_n hx hb md_fm_isFor_25 rfl (lv_at hl 2 rfl) ?_
        refine lv_iconst (v := 4) hx hb md_fm_isFor_26 (by decide) ?_
        refine lv_icmp_ne (tgt := 44) hx hb md_fm_isFor_27 (by decide) (fun c_34 => ?_) (fun c_34 => ?_)
        · -- taken
          refine lv_iconst (v := 0) hx hb md_fm_isFor_44 (by decide) ?_
          have hf : m_fm_isFor S i a b = 0 := by unfold m_fm_isFor; rw [if_neg c_3, if_pos c_14, if_neg c_30, if_neg c_34]
          rw [hf]
          exact q_zret hC hr hlocks hW hS (by decide) rfl rfl md_fm_isFor_45
        · -- not taken
          refine lv_iload_n hx hb md_fm_isFor_30 rfl (lv_at hl 3 rfl) ?_
          refine lv_aload_n hx hb md_fm_isFor_31 rfl (lv_at hl 0 rfl) ?_
          refine mg_fm_90 hC hW 0 Nat.one_pos md_fm_isFor_32 ?_
          refine lv_iload_n hx hb md_fm_isFor_35 rfl (lv_at hl 1 rfl) ?_
          have h_35 : vp_in (nI i) 6 := by have e_c_3 := lv_neT c_3 (a := 1) (by decide); have e_c_14 : (q_i (S 10 0 i)).toInt = 4 := (by rw [c_14]; rfl); have e_c_30 := lv_neT c_30 (a := 3) (by decide); have e_c_34 : (a).toInt = 4 := (by rw [c_34]; rfl); have l1 := nI_toInt (n := i) (by omega); rw [vp_in_iff]; omega
          have s_36 : (nI i).toNatClampNeg = i := by have e_c_3 := lv_neT c_3 (a := 1) (by decide); have e_c_14 : (q_i (S 10 0 i)).toInt = 4 := (by rw [c_14]; rfl); have e_c_30 := lv_neT c_30 (a := 3) (by decide); have e_c_34 : (a).toInt = 4 := (by rw [c_34]; rfl); have l1 := nI_toInt (n := i) (by omega); apply q_tn; omega
          refine male_27 hC hW h_35 s_36 (rfl) md_fm_isFor_36 ?_
          refine lv_icmp_ne (tgt := 44) hx hb md_fm_isFor_37 (by decide) (fun c_37 => ?_) (fun c_37 => ?_)
          · -- taken
            refine lv_iconst (v := 0) hx hb md_fm_isFor_44 (by decide) ?_
            have hf : m_fm_isFor S i a b = 0 := by unfold m_fm_isFor; rw [if_neg c_3, if_pos c_14, if_neg c_30, if_pos c_34, if_neg c_37]
            rw [hf]
            exact q_zret hC hr hlocks hW hS (by decide) rfl rfl md_fm_isFor_45
          · -- not taken
            refine lv_iconst (v := 1) hx hb md_fm_isFor_40 (by decide) ?_
            refine lv_goto (tgt := 45) hx hb md_fm_isFor_41 (by decide) ?_
            have hf : m_fm_isFor S i a b = 1 := by unfold m_fm_isFor; rw [if_neg c_3, if_pos c_14, if_neg c_30, if_pos c_34, if_pos c_37]
            rw [hf]
            exact q_zret hC hr hlocks hW hS (by decide) rfl rfl md_fm_isFor_45
def m_fm_came (S : q_S) (i : Nat) (a b : Int32) : q_S :=
  if q_i (S 10 0 i) = 4 then
    m_fm_undo (q_st (q_st S 12 0 i (.int 0)) 10 0 i (.int 0)) i
  else
    if a = 4 then
      m_fm_undo (q_st (q_st S 12 0 i (.int 0)) 10 0 i (.int 0)) i
    else
      if a = 6 then
        q_st (q_st (q_st S 12 0 i (.int 0)) 10 0 i (.int 0)) 11 0 i (.int ((q_i (S 11 0 i)) + 1))
      else
        q_st (q_st (q_st (q_st S 12 0 i (.int 0)) 10 0 i (.int 0)) 14 0 (4 * i + ((q_i (S 3 0 (14 * ((q_i (S 9 0 i)).toNatClampNeg) + ((q_i (S 11 0 i)).toNatClampNeg)))).toNatClampNeg)) (.int b)) 11 0 i (.int ((q_i (S 11 0 i)) + 1))
set_option maxRecDepth 100000 in
set_option maxHeartbeats 4000000 in
theorem mC_fm_came (l : Launch) (G : q_G) (S : q_S) (i : Nat) (a b : Int32) (hi : i < 6) (hI : mI S) (hJ : mJ S) (hg : (q_i (S 16 0 i)).toInt ≤ (q_i (S 15 0 i)).toInt) (hQ : mQ S) (hV : mV S i) (hst : mSt S i a) : q_Mv mX G l my_fm_came (q_ws (q_gw lw_tbl) my_fm_came mb_fm_came 5 none) (q_rm 7) [.ref (q_a mX G 0 0), .int (nI i), .int a, .int b] S (m_fm_came S i a b) := by
  refine q_met (cc := mb_fm_came) (maxL := 5) (ret := none) mOk (by decide) rfl (Nat.le_of_ble_eq_true rfl) ?_
  intro p e s m below meth c ls hC hr hlocks hW hS hl
  have hx := hC.1.1
  have hb := hC.1.2.1
  have hl : lv_has ls 5 [(0, .ref (q_a mX G 0 0)), (1, .int (nI i)), (2, .int a), (3, .int b)] := hl
  refine lv_aload_n hx hb md_fm_came_0 rfl (lv_at hl 0 rfl) ?_
  refine mg_fm_38 hC hW 0 Nat.one_pos md_fm_came_1 ?_
  refine lv_iload_n hx hb md_fm_came_4 rfl (lv_at hl 1 rfl) ?_
  have h_1 : vp_in (nI i) 6 := by have l1 := nI_toInt (n := i) (by omega); rw [vp_in_iff]; omega
  have s_2 : (nI i).toNatClampNeg = i := by have l1 := nI_toInt (n := i) (by omega); apply q_tn; omega
  refine male_10 hC hW h_1 s_2 (rfl) md_fm_came_5 ?_
  refine lv_iconst (v := 4) hx hb md_fm_came_6 (by decide) ?_
  refine lv_icmp_ne (tgt := 14) hx hb md_fm_came_7 (by decide) (fun c_3 => ?_) (fun c_3 => ?_)
  · -- taken
    refine lv_iconst (v := 0) hx hb md_fm_came_14 (by decide) ?_
    refine lv_istore (lv' := [(4, .int 0), (0, .ref (q_a mX G 0 0)), (1, .int (nI i)), (2, .int a), (3, .int b)]) hx hb md_fm_came_15 hl (by decide) rfl (fun ls hl => ?_)
    refine lv_aload_n hx hb md_fm_came_17 rfl (lv_at hl 1 rfl) ?_
    refine mg_fm_44 hC hW 0 Nat.one_pos md_fm_came_18 ?_
    refine lv_iload_n hx hb md_fm_came_21 rfl (lv_at hl 2 rfl) ?_
    refine lv_iconst (v := 0) hx hb md_fm_came_22 (by decide) ?_
    have h_4 : vp_in (nI i) 6 := by have e_c_3 := lv_neT c_3 (a := 4) (by decide); have l1 := nI_toInt (n := i) (by omega); rw [vp_in_iff]; omega
    have s_5 : (nI i).toNatClampNeg = i := by have e_c_3 := lv_neT c_3 (a := 4) (by decide); have l1 := nI_toInt (n := i) (by omega); apply q_tn; omega
    refine mase_12 hC hW hS (fun _ h => h) h_4 s_5 md_fm_came_23 (fun H locs hW hS => ?_)
    refine lv_aload_n hx hb md_fm_came_24 rfl (lv_at hl 1 rfl) ?_
    refine mg_fm_38 hC hW 0 Nat.one_pos md_fm_came_25 ?_
    refine lv_iload_n hx hb md_fm_came_28 rfl (lv_at hl 2 rfl) ?_
    refine lv_iconst (v := 0) hx hb md_fm_came_29 (by decide) ?_
    have h_6 : vp_in (nI i) 6 := by have e_c_3 := lv_neT c_3 (a := 4) (by decide); have l1 := nI_toInt (n := i) (by omega); rw [vp_in_iff]; omega
    have s_7 : (nI i).toNatClampNeg = i := by have e_c_3 := lv_neT c_3 (a := 4) (by decide); have l1 := nI_toInt (n := i) (by omega); apply q_tn; omega
    refine mase_10 hC hW hS (fun _ h => h) h_6 s_7 md_fm_came_30 (fun H locs hW hS => ?_)
    refine lv_iload hx hb md_fm_came_31 (lv_at hl 0 rfl) ?_
    refine lv_if_ne (tgt := 41) hx hb md_fm_came_33 (by decide) (fun c_8 => absurd c_8 (by decide)) (fun _ => ?_)
    refine lv_iload_n hx hb md_fm_came_36 rfl (lv_at hl 3 rfl) ?_
    refine W.eq (g2 := F0 m 37 ls [.int a]) rfl ?_
    refine lv_iconst (v := 4) hx hb md_fm_came_37 (by decide) ?_
    refine lv_icmp_ne (tgt := 47) hx hb md_fm_came_38 (by decide) (fun c_9 => ?_) (fun c_9 => ?_)
    · -- taken
      refine lv_iload_n hx hb md_fm_came_47 rfl (lv_at hl 3 rfl) ?_
      refine lv_bipush (v := 6) hx hb md_fm_came_48 (by decide) ?_
      refine lv_icmp_eq (tgt := 84) hx hb md_fm_came_50 (by decide) (fun c_10 => ?_) (fun c_10 => ?_)
      · -- taken
        refine lv_aload_n hx hb md_fm_came_84 rfl (lv_at hl 1 rfl) ?_
        refine mg_fm_41 hC hW 0 Nat.one_pos md_fm_came_85 ?_
        refine lv_iload_n hx hb md_fm_came_88 rfl (lv_at hl 2 rfl) ?_
        refine lv_dup2_11 hx hb md_fm_came_89 rfl rfl ?_
        have h_11 : vp_in (nI i) 6 := by have e_c_3 := lv_neT c_3 (a := 4) (by decide); have e_c_9 := lv_neT c_9 (a := 4) (by decide); have e_c_10 : (a).toInt = 6 := (by rw [c_10]; rfl); have l1 := nI_toInt (n := i) (by omega); rw [vp_in_iff]; omega
        have s_12 : (nI i).toNatClampNeg = i := by have e_c_3 := lv_neT c_3 (a := 4) (by decide); have e_c_9 := lv_neT c_9 (a := 4) (by decide); have e_c_10 : (a).toInt = 6 := (by rw [c_10]; rfl); have l1 := nI_toInt (n := i) (by omega); apply q_tn; omega
        refine male_11 hC hW h_11 s_12 (q_sj (by decide) (q_sj (by decide) (rfl))) md_fm_came_90 ?_
        refine lv_iconst (v := 1) hx hb md_fm_came_91 (by decide) ?_
        refine lv_iadd hx hb md_fm_came_92 ?_
        have h_13 : vp_in (nI i) 6 := by have e_c_3 := lv_neT c_3 (a := 4) (by decide); have e_c_9 := lv_neT c_9 (a := 4) (by decide); have e_c_10 : (a).toInt = 6 := (by rw [c_10]; rfl); have l1 := nI_toInt (n := i) (by omega); rw [vp_in_iff]; omega
        have s_14 : (nI i).toNatClampNeg = i := by have e_c_3 := lv_neT c_3 (a := 4) (by decide); have e_c_9 := lv_neT c_9 (a := 4) (by decide); have e_c_10 : (a).toInt = 6 := (by rw [c_10]; rfl); have l1 := nI_toInt (n := i) (by omega); apply q_tn; omega
        refine mase_11 hC hW hS (fun _ h => h) h_13 s_14 md_fm_came_93 (fun H locs hW hS => ?_)
        have hf : m_fm_came S i a b = q_st (q_st (q_st S 12 0 i (.int 0)) 10 0 i (.int 0)) 11 0 i (.int ((q_i (S 11 0 i)) + 1)) := by unfold m_fm_came; rw [if_neg c_3, if_neg c_9, if_pos c_10]
        rw [hf]
        exact q_vret hC hr hlocks hW hS rfl md_fm_came_94
      · -- not taken
        refine lv_aload_n hx hb md_fm_came_53 rfl (lv_at hl 1 rfl) ?_
        refine mg_fm_50 hC hW 0 Nat.one_pos md_fm_came_54 ?_
        refine lv_iconst (v := 4) hx hb md_fm_came_57 (by decide) ?_
        refine lv_iload_n hx hb md_fm_came_58 rfl (lv_at hl 2 rfl) ?_
        refine lv_imul hx hb md_fm_came_59 ?_
        refine lv_aload_n hx hb md_fm_came_60 rfl (lv_at hl 1 rfl) ?_
        refine mg_fm_16 hC hW 0 Nat.one_pos md_fm_came_61 ?_
        refine lv_bipush (v := 14) hx hb md_fm_came_64 (by decide) ?_
        refine lv_aload_n hx hb md_fm_came_66 rfl (lv_at hl 1 rfl) ?_
        refine mg_fm_35 hC hW 0 Nat.one_pos md_fm_came_67 ?_
        refine lv_iload_n hx hb md_fm_came_70 rfl (lv_at hl 2 rfl) ?_
        have h_15 : vp_in (nI i) 6 := by have e_c_3 := lv_neT c_3 (a := 4) (by decide); have e_c_9 := lv_neT c_9 (a := 4) (by decide); have e_c_10 := lv_neT c_10 (a := 6) (by decide); have l1 := nI_toInt (n := i) (by omega); rw [vp_in_iff]; omega
        have s_16 : (nI i).toNatClampNeg = i := by have e_c_3 := lv_neT c_3 (a := 4) (by decide); have e_c_9 := lv_neT c_9 (a := 4) (by decide); have e_c_10 := lv_neT c_10 (a := 6) (by decide); have l1 := nI_toInt (n := i) (by omega); apply q_tn; omega
        refine male_9 hC hW h_15 s_16 (q_sj (by decide) (q_sj (by decide) (rfl))) md_fm_came_71 ?_
        refine lv_imul hx hb md_fm_came_72 ?_
        refine lv_aload_n hx hb md_fm_came_73 rfl (lv_at hl 1 rfl) ?_
        refine W.eq (g2 := F0 m 74 ls [.ref (q_a mX G 0 0), .int (14 * (q_i (S 9 0 i))), .ref (q_a mX G 3 0), .int (4 * (nI i)), .ref (q_a mX G 14 0)]) rfl ?_
        refine mg_fm_41 hC hW 0 Nat.one_pos md_fm_came_74 ?_
        refine lv_iload_n hx hb md_fm_came_77 rfl (lv_at hl 2 rfl) ?_
        have h_17 : vp_in (nI i) 6 := by have e_c_3 := lv_neT c_3 (a := 4) (by decide); have e_c_9 := lv_neT c_9 (a := 4) (by decide); have e_c_10 := lv_neT c_10 (a := 6) (by decide); have l1 := nI_toInt (n := i) (by omega); rw [vp_in_iff]; omega
        have s_18 : (nI i).toNatClampNeg = i := by have e_c_3 := lv_neT c_3 (a := 4) (by decide); have e_c_9 := lv_neT c_9 (a := 4) (by decide); have e_c_10 := lv_neT c_10 (a := 6) (by decide); have l1 := nI_toInt (n := i) (by omega); apply q_tn; omega
        refine male_11 hC hW h_17 s_18 (q_sj (by decide) (q_sj (by decide) (rfl))) md_fm_came_78 ?_
        refine lv_iadd hx hb md_fm_came_79 ?_
        have h_19 : vp_in ((14 * (q_i (S 9 0 i))) + (q_i (S 11 0 i))) 42 := by have e_c_3 := lv_neT c_3 (a := 4) (by decide); have e_c_9 := lv_neT c_9 (a := 4) (by decide); have e_c_10 := lv_neT c_10 (a := 6) (by decide); have l4 := mV_13 hI hV (mSt_w hst c_3); have l1 : (14 : Int32).toInt = 14 := rfl; have l2 : 0 ≤ (q_i (S 9 0 i)).toInt ∧ (q_i (S 9 0 i)).toInt ≤ 2 := hI 9 0 i; have l3 := q_mulI (c := 14) (x := q_i (S 9 0 i)) (k := 14) rfl (by omega); have l5 : 0 ≤ (q_i (S 11 0 i)).toInt ∧ (q_i (S 11 0 i)).toInt ≤ 14 := hI 11 0 i; have l6 := q_addI (x := 14 * (q_i (S 9 0 i))) (y := q_i (S 11 0 i)) (by omega); rw [vp_in_iff]; omega
        have s_20 : ((14 * (q_i (S 9 0 i))) + (q_i (S 11 0 i))).toNatClampNeg = 14 * ((q_i (S 9 0 i)).toNatClampNeg) + ((q_i (S 11 0 i)).toNatClampNeg) := by have e_c_3 := lv_neT c_3 (a := 4) (by decide); have e_c_9 := lv_neT c_9 (a := 4) (by decide); have e_c_10 := lv_neT c_10 (a := 6) (by decide); have l4 := mV_13 hI hV (mSt_w hst c_3); have l1 : (14 : Int32).toInt = 14 := rfl; have l2 : 0 ≤ (q_i (S 9 0 i)).toInt ∧ (q_i (S 9 0 i)).toInt ≤ 2 := hI 9 0 i; have l3 := q_mulI (c := 14) (x := q_i (S 9 0 i)) (k := 14) rfl (by omega); have l5 : 0 ≤ (q_i (S 11 0 i)).toInt ∧ (q_i (S 11 0 i)).toInt ≤ 14 := hI 11 0 i; have l6 := q_addI (x := 14 * (q_i (S 9 0 i))) (y := q_i (S 11 0 i)) (by omega); have c0 := q_clI (x := q_i (S 9 0 i)) (by omega); have c1 := q_clI (x := q_i (S 11 0 i)) (by omega); apply q_tn; omega
        refine male_3 hC hW h_19 s_20 (q_sj (by decide) (q_sj (by decide) (rfl))) md_fm_came_80 ?_
        refine lv_iadd hx hb md_fm_came_81 ?_
        refine lv_iload_n hx hb md_fm_came_82 rfl (lv_at hl 4 rfl) ?_
        have h_21 : vp_in ((4 * (nI i)) + (q_i (S 3 0 (14 * ((q_i (S 9 0 i)).toNatClampNeg) + ((q_i (S 11 0 i)).toNatClampNeg))))) 24 := by have e_c_3 := lv_neT c_3 (a := 4) (by decide); have e_c_9 := lv_neT c_9 (a := 4) (by decide); have e_c_10 := lv_neT c_10 (a := 6) (by decide); have l4 := mSt_two hI hJ hV hst c_3 c_10; have l1 : (4 : Int32).toInt = 4 := rfl; have l2 := nI_toInt (n := i) (by omega); have l3 := q_mulI (c := 4) (x := nI i) (k := 4) rfl (by omega); have l5 := q_addI (x := 4 * (nI i)) (y := q_i (S 3 0 (14 * ((q_i (S 9 0 i)).toNatClampNeg) + ((q_i (S 11 0 i)).toNatClampNeg)))) (by omega); rw [vp_in_iff]; omega
        have s_22 : ((4 * (nI i)) + (q_i (S 3 0 (14 * ((q_i (S 9 0 i)).toNatClampNeg) + ((q_i (S 11 0 i)).toNatClampNeg))))).toNatClampNeg = 4 * i + ((q_i (S 3 0 (14 * ((q_i (S 9 0 i)).toNatClampNeg) + ((q_i (S 11 0 i)).toNatClampNeg)))).toNatClampNeg) := by have e_c_3 := lv_neT c_3 (a := 4) (by decide); have e_c_9 := lv_neT c_9 (a := 4) (by decide); have e_c_10 := lv_neT c_10 (a := 6) (by decide); have l4 := mSt_two hI hJ hV hst c_3 c_10; have l1 : (4 : Int32).toInt = 4 := rfl; have l2 := nI_toInt (n := i) (by omega); have l3 := q_mulI (c := 4) (x := nI i) (k := 4) rfl (by omega); have l5 := q_addI (x := 4 * (nI i)) (y := q_i (S 3 0 (14 * ((q_i (S 9 0 i)).toNatClampNeg) + ((q_i (S 11 0 i)).toNatClampNeg)))) (by omega); have c0 := q_clI (x := q_i (S 3 0 (14 * ((q_i (S 9 0 i)).toNatClampNeg) + ((q_i (S 11 0 i)).toNatClampNeg)))) (by omega); apply q_tn; omega
        refine mase_14 hC hW hS (fun _ h => h) h_21 s_22 md_fm_came_83 (fun H locs hW hS => ?_)
        refine lv_aload_n hx hb md_fm_came_84 rfl (lv_at hl 1 rfl) ?_
        refine mg_fm_41 hC hW 0 Nat.one_pos md_fm_came_85 ?_
        refine lv_iload_n hx hb md_fm_came_88 rfl (lv_at hl 2 rfl) ?_
        refine lv_dup2_11 hx hb md_fm_came_89 rfl rfl ?_
        have h_23 : vp_in (nI i) 6 := by have e_c_3 := lv_neT c_3 (a := 4) (by decide); have e_c_9 := lv_neT c_9 (a := 4) (by decide); have e_c_10 := lv_neT c_10 (a := 6) (by decide); have l1 := nI_toInt (n := i) (by omega); rw [vp_in_iff]; omega
        have s_24 : (nI i).toNatClampNeg = i := by have e_c_3 := lv_neT c_3 (a := 4) (by decide); have e_c_9 := lv_neT c_9 (a := 4) (by decide); have e_c_10 := lv_neT c_10 (a := 6) (by decide); have l1 := nI_toInt (n := i) (by omega); apply q_tn; omega
        refine male_11 hC hW h_23 s_24 (q_sj (by decide) (q_sj (by decide) (q_sj (by decide) (rfl)))) md_fm_came_90 ?_
        refine lv_iconst (v := 1) hx hb md_fm_came_91 (by decide) ?_
        refine W.eq (g2 := F0 m 92 ls [.int 1, .int (q_i (S 11 0 i)), .int (nI i), .ref (q_a mX G 11 0)]) rfl ?_
        refine lv_iadd hx hb md_fm_came_92 ?_
        have h_25 : vp_in (nI i) 6 := by have e_c_3 := lv_neT c_3 (a := 4) (by decide); have e_c_9 := lv_neT c_9 (a := 4) (by decide); have e_c_10 := lv_neT c_10 (a := 6) (by decide); have l1 := nI_toInt (n := i) (by omega); rw [vp_in_iff]; omega
        have s_26 : (nI i).toNatClampNeg = i := by have e_c_3 := lv_neT c_3 (a := 4) (by decide); have e_c_9 := lv_neT c_9 (a := 4) (by decide); have e_c_10 := lv_neT c_10 (a := 6) (by decide); have l1 := nI_toInt (n := i) (by omega); apply q_tn; omega
        refine mase_11 hC hW hS (fun _ h => h) h_25 s_26 md_fm_came_93 (fun H locs hW hS => ?_)
        have hf : m_fm_came S i a b = q_st (q_st (q_st (q_st S 12 0 i (.int 0)) 10 0 i (.int 0)) 14 0 (4 * i + ((q_i (S 3 0 (14 * ((q_i (S 9 0 i)).toNatClampNeg) + ((q_i (S 11 0 i)).toNatClampNeg)))).toNatClampNeg)) (.int b)) 11 0 i (.int ((q_i (S 11 0 i)) + 1)) := by unfold m_fm_came; rw [if_neg c_3, if_neg c_9, if_neg c_10]
        rw [hf]
        exact q_vret hC hr hlocks hW hS rfl md_fm_came_94
    · -- not taken
      refine lv_aload_n hx hb md_fm_came_41 rfl (lv_at hl 1 rfl) ?_
      refine lv_iload_n hx hb md_fm_came_42 rfl (lv_at hl 2 rfl) ?_
      have hI_27 : mI (q_st (q_st S 12 0 i (.int 0)) 10 0 i (.int 0)) := (mIs (mI_st hI (by show (0 : Int) ≤ (0 : Int32).toInt ∧ (0 : Int32).toInt ≤ 60; decide)) rfl)
      have hg_28 : (q_i ((q_st (q_st S 12 0 i (.int 0)) 10 0 i (.int 0)) 16 0 i)).toInt ≤ (q_i ((q_st (q_st S 12 0 i (.int 0)) 10 0 i (.int 0)) 15 0 i)).toInt := by rw [q_kj (by decide), q_kj (by decide), q_kj (by decide), q_kj (by decide)]; exact hg
      have hQ_29 : mQ (q_st (q_st S 12 0 i (.int 0)) 10 0 i (.int 0)) := mQ_eq hQ ((q_kj (by decide)).trans (q_kj (by decide))) (fun _ => ((q_kj (by decide)).trans (q_kj (by decide)))) (fun _ => ((q_kj (by decide)).trans (q_kj (by decide))))
      refine q_callv hC hS (fun _ h => h) (q_runV (rest := []) hC hW (mC_fm_undo l G (q_st (q_st S 12 0 i (.int 0)) 10 0 i (.int 0)) i hi hI_27 hg_28 hQ_29) (mc_fm_170 (q_rm 6) hC.1.2.2.2.2 ⟨Nat.le_of_ble_eq_true rfl, Nat.le_of_ble_eq_true rfl⟩ rfl rfl) Nat.one_pos rfl rfl rfl hl.1 rfl (Nat.le_of_ble_eq_true rfl) md_fm_came_43 ⟨Nat.zero_le _, Nat.zero_le _⟩) (fun H locs hW hS => ?_)
      have hf : m_fm_came S i a b = m_fm_undo (q_st (q_st S 12 0 i (.int 0)) 10 0 i (.int 0)) i := by unfold m_fm_came; rw [if_neg c_3, if_pos c_9]
      rw [hf]
      exact q_vret hC hr hlocks hW hS rfl md_fm_came_46
  · -- not taken
    refine lv_iconst (v := 1) hx hb md_fm_came_10 (by decide) ?_
    refine lv_goto (tgt := 15) hx hb md_fm_came_11 (by decide) ?_
    refine lv_istore (lv' := [(4, .int 1), (0, .ref (q_a mX G 0 0)), (1, .int (nI i)), (2, .int a), (3, .int b)]) hx hb md_fm_came_15 hl (by decide) rfl (fun ls hl => ?_)
    refine lv_aload_n hx hb md_fm_came_17 rfl (lv_at hl 1 rfl) ?_
    refine mg_fm_44 hC hW 0 Nat.one_pos md_fm_came_18 ?_
    refine lv_iload_n hx hb md_fm_came_21 rfl (lv_at hl 2 rfl) ?_
    refine lv_iconst (v := 0) hx hb md_fm_came_22 (by decide) ?_
    have h_30 : vp_in (nI i) 6 := by have e_c_3 : (q_i (S 10 0 i)).toInt = 4 := (by rw [c_3]; rfl); have l1 := nI_toInt (n := i) (by omega); rw [vp_in_iff]; omega
    have s_31 : (nI i).toNatClampNeg = i := by have e_c_3 : (q_i (S 10 0 i)).toInt = 4 := (by rw [c_3]; rfl); have l1 := nI_toInt (n := i) (by omega); apply q_tn; omega
    refine mase_12 hC hW hS (fun _ h => h) h_30 s_31 md_fm_came_23 (fun H locs hW hS => ?_)
    refine lv_aload_n hx hb md_fm_came_24 rfl (lv_at hl 1 rfl) ?_
    refine mg_fm_38 hC hW 0 Nat.one_pos md_fm_came_25 ?_
    refine lv_iload_n hx hb md_fm_came_28 rfl (lv_at hl 2 rfl) ?_
    refine lv_iconst (v := 0) hx hb md_fm_came_29 (by decide) ?_
    have h_32 : vp_in (nI i) 6 := by have e_c_3 : (q_i (S 10 0 i)).toInt = 4 := (by rw [c_3]; rfl); have l1 := nI_toInt (n := i) (by omega); rw [vp_in_iff]; omega
    have s_33 : (nI i).toNatClampNeg = i := by have e_c_3 : (q_i (S 10 0 i)).toInt = 4 := (by rw [c_3]; rfl); have l1 := nI_toInt (n := i) (by omega); apply q_tn; omega
    refine mase_10 hC hW hS (fun _ h => h) h_32 s_33 md_fm_came_30 (fun H locs hW hS => ?_)
    refine lv_iload hx hb md_fm_came_31 (lv_at hl 0 rfl) ?_
    refine lv_if_ne (tgt := 41) hx hb md_fm_came_33 (by decide) (fun _ => ?_) (fun c_34 => absurd c_34 (by decide))
    refine lv_aload_n hx hb md_fm_came_41 rfl (lv_at hl 1 rfl) ?_
    refine W.eq (g2 := F0 m 42 ls [.ref (q_a mX G 0 0)]) rfl ?_
    refine lv_iload_n hx hb md_fm_came_42 rfl (lv_at hl 2 rfl) ?_
    have hI_35 : mI (q_st (q_st S 12 0 i (.int 0)) 10 0 i (.int 0)) := (mIs (mI_st hI (by show (0 : Int) ≤ (0 : Int32).toInt ∧ (0 : Int32).toInt ≤ 60; decide)) rfl)
    have hg_36 : (q_i ((q_st (q_st S 12 0 i (.int 0)) 10 0 i (.int 0)) 16 0 i)).toInt ≤ (q_i ((q_st (q_st S 12 0 i (.int 0)) 10 0 i (.int 0)) 15 0 i)).toInt := by rw [q_kj (by decide), q_kj (by decide), q_kj (by decide), q_kj (by decide)]; exact hg
    have hQ_37 : mQ (q_st (q_st S 12 0 i (.int 0)) 10 0 i (.int 0)) := mQ_eq hQ ((q_kj (by decide)).trans (q_kj (by decide))) (fun _ => ((q_kj (by decide)).trans (q_kj (by decide)))) (fun _ => ((q_kj (by decide)).trans (q_kj (by decide))))
    refine q_callv hC hS (fun _ h => h) (q_runV (rest := []) hC hW (mC_fm_undo l G (q_st (q_st S 12 0 i (.int 0)) 10 0 i (.int 0)) i hi hI_35 hg_36 hQ_37) (mc_fm_170 (q_rm 6) hC.1.2.2.2.2 ⟨Nat.le_of_ble_eq_true rfl, Nat.le_of_ble_eq_true rfl⟩ rfl rfl) Nat.one_pos rfl rfl rfl hl.1 rfl (Nat.le_of_ble_eq_true rfl) md_fm_came_43 ⟨Nat.zero_le _, Nat.zero_le _⟩) (fun H locs hW hS => ?_)
    have hf : m_fm_came S i a b = m_fm_undo (q_st (q_st S 12 0 i (.int 0)) 10 0 i (.int 0)) i := by unfold m_fm_came; rw [if_pos c_3]
    rw [hf]
    exact q_vret hC hr hlocks hW hS rfl md_fm_came_46
set_option maxRecDepth 100000 in
set_option maxHeartbeats 4000000 in
theorem mI_fm_came (S : q_S) (i : Nat) (a b : Int32) (hi : i < 6) (hI : mI S) (hJ : mJ S) (hg : (q_i (S 16 0 i)).toInt ≤ (q_i (S 15 0 i)).toInt) (hQ : mQ S) (hV : mV S i) (hst : mSt S i a) : mI (m_fm_came S i a b) := by
  by_cases c_3 : q_i (S 10 0 i) = 4
  · -- yes
    have h_1 : vp_in (nI i) 6 := by have l1 := nI_toInt (n := i) (by omega); rw [vp_in_iff]; omega
    have s_2 : (nI i).toNatClampNeg = i := by have l1 := nI_toInt (n := i) (by omega); apply q_tn; omega
    have h_30 : vp_in (nI i) 6 := by have e_c_3 : (q_i (S 10 0 i)).toInt = 4 := (by rw [c_3]; rfl); have l1 := nI_toInt (n := i) (by omega); rw [vp_in_iff]; omega
    have s_31 : (nI i).toNatClampNeg = i := by have e_c_3 : (q_i (S 10 0 i)).toInt = 4 := (by rw [c_3]; rfl); have l1 := nI_toInt (n := i) (by omega); apply q_tn; omega
    have h_32 : vp_in (nI i) 6 := by have e_c_3 : (q_i (S 10 0 i)).toInt = 4 := (by rw [c_3]; rfl); have l1 := nI_toInt (n := i) (by omega); rw [vp_in_iff]; omega
    have s_33 : (nI i).toNatClampNeg = i := by have e_c_3 : (q_i (S 10 0 i)).toInt = 4 := (by rw [c_3]; rfl); have l1 := nI_toInt (n := i) (by omega); apply q_tn; omega
    have hI_35 : mI (q_st (q_st S 12 0 i (.int 0)) 10 0 i (.int 0)) := (mIs (mI_st hI (by show (0 : Int) ≤ (0 : Int32).toInt ∧ (0 : Int32).toInt ≤ 60; decide)) rfl)
    have hg_36 : (q_i ((q_st (q_st S 12 0 i (.int 0)) 10 0 i (.int 0)) 16 0 i)).toInt ≤ (q_i ((q_st (q_st S 12 0 i (.int 0)) 10 0 i (.int 0)) 15 0 i)).toInt := by rw [q_kj (by decide), q_kj (by decide), q_kj (by decide), q_kj (by decide)]; exact hg
    have hQ_37 : mQ (q_st (q_st S 12 0 i (.int 0)) 10 0 i (.int 0)) := mQ_eq hQ ((q_kj (by decide)).trans (q_kj (by decide))) (fun _ => ((q_kj (by decide)).trans (q_kj (by decide)))) (fun _ => ((q_kj (by decide)).trans (q_kj (by decide))))
    have hf : m_fm_came S i a b = m_fm_undo (q_st (q_st S 12 0 i (.int 0)) 10 0 i (.int 0)) i := by unfold m_fm_came; rw [if_pos c_3]
    rw [hf]
    exact (mI_fm_undo (q_st (q_st S 12 0 i (.int 0)) 10 0 i (.int 0)) i hi hI_35 hg_36 hQ_37)
  · -- no
    by_cases c_9 : a = 4
    · -- yes
      have h_1 : vp_in (nI i) 6 := by have l1 := nI_toInt (n := i) (by omega); rw [vp_in_iff]; omega
      have s_2 : (nI i).toNatClampNeg = i := by have l1 := nI_toInt (n := i) (by omega); apply q_tn; omega
      have h_4 : vp_in (nI i) 6 := by have e_c_3 := lv_neT c_3 (a := 4) (by decide); have l1 := nI_toInt (n := i) (by omega); rw [vp_in_iff]; omega
      have s_5 : (nI i).toNatClampNeg = i := by have e_c_3 := lv_neT c_3 (a := 4) (by decide); have l1 := nI_toInt (n := i) (by omega); apply q_tn; omega
      have h_6 : vp_in (nI i) 6 := by have e_c_3 := lv_neT c_3 (a := 4) (by decide); have l1 := nI_toInt (n := i) (by omega); rw [vp_in_iff]; omega
      have s_7 : (nI i).toNatClampNeg = i := by have e_c_3 := lv_neT c_3 (a := 4) (by decide); have l1 := nI_toInt (n := i) (by omega); apply q_tn; omega
      have hI_27 : mI (q_st (q_st S 12 0 i (.int 0)) 10 0 i (.int 0)) := (mIs (mI_st hI (by show (0 : Int) ≤ (0 : Int32).toInt ∧ (0 : Int32).toInt ≤ 60; decide)) rfl)
      have hg_28 : (q_i ((q_st (q_st S 12 0 i (.int 0)) 10 0 i (.int 0)) 16 0 i)).toInt ≤ (q_i ((q_st (q_st S 12 0 i (.int 0)) 10 0 i (.int 0)) 15 0 i)).toInt := by rw [q_kj (by decide), q_kj (by decide), q_kj (by decide), q_kj (by decide)]; exact hg
      have hQ_29 : mQ (q_st (q_st S 12 0 i (.int 0)) 10 0 i (.int 0)) := mQ_eq hQ ((q_kj (by decide)).trans (q_kj (by decide))) (fun _ => ((q_kj (by decide)).trans (q_kj (by decide)))) (fun _ => ((q_kj (by decide)).trans (q_kj (by decide))))
      have hf : m_fm_came S i a b = m_fm_undo (q_st (q_st S 12 0 i (.int 0)) 10 0 i (.int 0)) i := by unfold m_fm_came; rw [if_neg c_3, if_pos c_9]
      rw [hf]
      exact (mI_fm_undo (q_st (q_st S 12 0 i (.int 0)) 10 0 i (.int 0)) i hi hI_27 hg_28 hQ_29)
    · -- no
      by_cases c_10 : a = 6
      · -- yes
        have h_1 : vp_in (nI i) 6 := by have l1 := nI_toInt (n := i) (by omega); rw [vp_in_iff]; omega
        have s_2 : (nI i).toNatClampNeg = i := by have l1 := nI_toInt (n := i) (by omega); apply q_tn; omega
        have h_4 : vp_in (nI i) 6 := by have e_c_3 := lv_neT c_3 (a := 4) (by decide); have l1 := nI_toInt (n := i) (by omega); rw [vp_in_iff]; omega
        have s_5 : (nI i).toNatClampNeg = i := by have e_c_3 := lv_neT c_3 (a := 4) (by decide); have l1 := nI_toInt (n := i) (by omega); apply q_tn; omega
        have h_6 : vp_in (nI i) 6 := by have e_c_3 := lv_neT c_3 (a := 4) (by decide); have l1 := nI_toInt (n := i) (by omega); rw [vp_in_iff]; omega
        have s_7 : (nI i).toNatClampNeg = i := by have e_c_3 := lv_neT c_3 (a := 4) (by decide); have l1 := nI_toInt (n := i) (by omega); apply q_tn; omega
        have h_11 : vp_in (nI i) 6 := by have e_c_3 := lv_neT c_3 (a := 4) (by decide); have e_c_9 := lv_neT c_9 (a := 4) (by decide); have e_c_10 : (a).toInt = 6 := (by rw [c_10]; rfl); have l1 := nI_toInt (n := i) (by omega); rw [vp_in_iff]; omega
        have s_12 : (nI i).toNatClampNeg = i := by have e_c_3 := lv_neT c_3 (a := 4) (by decide); have e_c_9 := lv_neT c_9 (a := 4) (by decide); have e_c_10 : (a).toInt = 6 := (by rw [c_10]; rfl); have l1 := nI_toInt (n := i) (by omega); apply q_tn; omega
        have h_13 : vp_in (nI i) 6 := by have e_c_3 := lv_neT c_3 (a := 4) (by decide); have e_c_9 := lv_neT c_9 (a := 4) (by decide); have e_c_10 : (a).toInt = 6 := (by rw [c_10]; rfl); have l1 := nI_toInt (n := i) (by omega); rw [vp_in_iff]; omega
        have s_14 : (nI i).toNatClampNeg = i := by have e_c_3 := lv_neT c_3 (a := 4) (by decide); have e_c_9 := lv_neT c_9 (a := 4) (by decide); have e_c_10 : (a).toInt = 6 := (by rw [c_10]; rfl); have l1 := nI_toInt (n := i) (by omega); apply q_tn; omega
        have hf : m_fm_came S i a b = q_st (q_st (q_st S 12 0 i (.int 0)) 10 0 i (.int 0)) 11 0 i (.int ((q_i (S 11 0 i)) + 1)) := by unfold m_fm_came; rw [if_neg c_3, if_neg c_9, if_pos c_10]
        rw [hf]
        exact (mI_st (mIs (mI_st hI (by show (0 : Int) ≤ (0 : Int32).toInt ∧ (0 : Int32).toInt ≤ 60; decide)) rfl) (by have e_c_3 := lv_neT c_3 (a := 4) (by decide); have e_c_9 := lv_neT c_9 (a := 4) (by decide); have e_c_10 : (a).toInt = 6 := (by rw [c_10]; rfl); have l1 := mV_13 hI hV (mSt_w hst c_3); have l2 : 0 ≤ (q_i (S 11 0 i)).toInt ∧ (q_i (S 11 0 i)).toInt ≤ 14 := hI 11 0 i; have l3 : (1 : Int32).toInt = 1 := rfl; have l4 := q_addI (x := q_i (S 11 0 i)) (y := 1) (by omega); show 0 ≤ ((q_i (S 11 0 i)) + 1).toInt ∧ ((q_i (S 11 0 i)) + 1).toInt ≤ 14; omega))
      · -- no
        have h_1 : vp_in (nI i) 6 := by have l1 := nI_toInt (n := i) (by omega); rw [vp_in_iff]; omega
        have s_2 : (nI i).toNatClampNeg = i := by have l1 := nI_toInt (n := i) (by omega); apply q_tn; omega
        have h_4 : vp_in (nI i) 6 := by have e_c_3 := lv_neT c_3 (a := 4) (by decide); have l1 := nI_toInt (n := i) (by omega); rw [vp_in_iff]; omega
        have s_5 : (nI i).toNatClampNeg = i := by have e_c_3 := lv_neT c_3 (a := 4) (by decide); have l1 := nI_toInt (n := i) (by omega); apply q_tn; omega
        have h_6 : vp_in (nI i) 6 := by have e_c_3 := lv_neT c_3 (a := 4) (by decide); have l1 := nI_toInt (n := i) (by omega); rw [vp_in_iff]; omega
        have s_7 : (nI i).toNatClampNeg = i := by have e_c_3 := lv_neT c_3 (a := 4) (by decide); have l1 := nI_toInt (n := i) (by omega); apply q_tn; omega
        have h_15 : vp_in (nI i) 6 := by have e_c_3 := lv_neT c_3 (a := 4) (by decide); have e_c_9 := lv_neT c_9 (a := 4) (by decide); have e_c_10 := lv_neT c_10 (a := 6) (by decide); have l1 := nI_toInt (n := i) (by omega); rw [vp_in_iff]; omega
        have s_16 : (nI i).toNatClampNeg = i := by have e_c_3 := lv_neT c_3 (a := 4) (by decide); have e_c_9 := lv_neT c_9 (a := 4) (by decide); have e_c_10 := lv_neT c_10 (a := 6) (by decide); have l1 := nI_toInt (n := i) (by omega); apply q_tn; omega
        have h_17 : vp_in (nI i) 6 := by have e_c_3 := lv_neT c_3 (a := 4) (by decide); have e_c_9 := lv_neT c_9 (a := 4) (by decide); have e_c_10 := lv_neT c_10 (a := 6) (by decide); have l1 := nI_toInt (n := i) (by omega); rw [vp_in_iff]; omega
        have s_18 : (nI i).toNatClampNeg = i := by have e_c_3 := lv_neT c_3 (a := 4) (by decide); have e_c_9 := lv_neT c_9 (a := 4) (by decide); have e_c_10 := lv_neT c_10 (a := 6) (by decide); have l1 := nI_toInt (n := i) (by omega); apply q_tn; omega
        have h_19 : vp_in ((14 * (q_i (S 9 0 i))) + (q_i (S 11 0 i))) 42 := by have e_c_3 := lv_neT c_3 (a := 4) (by decide); have e_c_9 := lv_neT c_9 (a := 4) (by decide); have e_c_10 := lv_neT c_10 (a := 6) (by decide); have l4 := mV_13 hI hV (mSt_w hst c_3); have l1 : (14 : Int32).toInt = 14 := rfl; have l2 : 0 ≤ (q_i (S 9 0 i)).toInt ∧ (q_i (S 9 0 i)).toInt ≤ 2 := hI 9 0 i; have l3 := q_mulI (c := 14) (x := q_i (S 9 0 i)) (k := 14) rfl (by omega); have l5 : 0 ≤ (q_i (S 11 0 i)).toInt ∧ (q_i (S 11 0 i)).toInt ≤ 14 := hI 11 0 i; have l6 := q_addI (x := 14 * (q_i (S 9 0 i))) (y := q_i (S 11 0 i)) (by omega); rw [vp_in_iff]; omega
        have s_20 : ((14 * (q_i (S 9 0 i))) + (q_i (S 11 0 i))).toNatClampNeg = 14 * ((q_i (S 9 0 i)).toNatClampNeg) + ((q_i (S 11 0 i)).toNatClampNeg) := by have e_c_3 := lv_neT c_3 (a := 4) (by decide); have e_c_9 := lv_neT c_9 (a := 4) (by decide); have e_c_10 := lv_neT c_10 (a := 6) (by decide); have l4 := mV_13 hI hV (mSt_w hst c_3); have l1 : (14 : Int32).toInt = 14 := rfl; have l2 : 0 ≤ (q_i (S 9 0 i)).toInt ∧ (q_i (S 9 0 i)).toInt ≤ 2 := hI 9 0 i; have l3 := q_mulI (c := 14) (x := q_i (S 9 0 i)) (k := 14) rfl (by omega); have l5 : 0 ≤ (q_i (S 11 0 i)).toInt ∧ (q_i (S 11 0 i)).toInt ≤ 14 := hI 11 0 i; have l6 := q_addI (x := 14 * (q_i (S 9 0 i))) (y := q_i (S 11 0 i)) (by omega); have c0 := q_clI (x := q_i (S 9 0 i)) (by omega); have c1 := q_clI (x := q_i (S 11 0 i)) (by omega); apply q_tn; omega
        have h_21 : vp_in ((4 * (nI i)) + (q_i (S 3 0 (14 * ((q_i (S 9 0 i)).toNatClampNeg) + ((q_i (S 11 0 i)).toNatClampNeg))))) 24 := by have e_c_3 := lv_neT c_3 (a := 4) (by decide); have e_c_9 := lv_neT c_9 (a := 4) (by decide); have e_c_10 := lv_neT c_10 (a := 6) (by decide); have l4 := mSt_two hI hJ hV hst c_3 c_10; have l1 : (4 : Int32).toInt = 4 := rfl; have l2 := nI_toInt (n := i) (by omega); have l3 := q_mulI (c := 4) (x := nI i) (k := 4) rfl (by omega); have l5 := q_addI (x := 4 * (nI i)) (y := q_i (S 3 0 (14 * ((q_i (S 9 0 i)).toNatClampNeg) + ((q_i (S 11 0 i)).toNatClampNeg)))) (by omega); rw [vp_in_iff]; omega
        have s_22 : ((4 * (nI i)) + (q_i (S 3 0 (14 * ((q_i (S 9 0 i)).toNatClampNeg) + ((q_i (S 11 0 i)).toNatClampNeg))))).toNatClampNeg = 4 * i + ((q_i (S 3 0 (14 * ((q_i (S 9 0 i)).toNatClampNeg) + ((q_i (S 11 0 i)).toNatClampNeg)))).toNatClampNeg) := by have e_c_3 := lv_neT c_3 (a := 4) (by decide); have e_c_9 := lv_neT c_9 (a := 4) (by decide); have e_c_10 := lv_neT c_10 (a := 6) (by decide); have l4 := mSt_two hI hJ hV hst c_3 c_10; have l1 : (4 : Int32).toInt = 4 := rfl; have l2 := nI_toInt (n := i) (by omega); have l3 := q_mulI (c := 4) (x := nI i) (k := 4) rfl (by omega); have l5 := q_addI (x := 4 * (nI i)) (y := q_i (S 3 0 (14 * ((q_i (S 9 0 i)).toNatClampNeg) + ((q_i (S 11 0 i)).toNatClampNeg)))) (by omega); have c0 := q_clI (x := q_i (S 3 0 (14 * ((q_i (S 9 0 i)).toNatClampNeg) + ((q_i (S 11 0 i)).toNatClampNeg)))) (by omega); apply q_tn; omega
        have h_23 : vp_in (nI i) 6 := by have e_c_3 := lv_neT c_3 (a := 4) (by decide); have e_c_9 := lv_neT c_9 (a := 4) (by decide); have e_c_10 := lv_neT c_10 (a := 6) (by decide); have l1 := nI_toInt (n := i) (by omega); rw [vp_in_iff]; omega
        have s_24 : (nI i).toNatClampNeg = i := by have e_c_3 := lv_neT c_3 (a := 4) (by decide); have e_c_9 := lv_neT c_9 (a := 4) (by decide); have e_c_10 := lv_neT c_10 (a := 6) (by decide); have l1 := nI_toInt (n := i) (by omega); apply q_tn; omega
        have h_25 : vp_in (nI i) 6 := by have e_c_3 := lv_neT c_3 (a := 4) (by decide); have e_c_9 := lv_neT c_9 (a := 4) (by decide); have e_c_10 := lv_neT c_10 (a := 6) (by decide); have l1 := nI_toInt (n := i) (by omega); rw [vp_in_iff]; omega
        have s_26 : (nI i).toNatClampNeg = i := by have e_c_3 := lv_neT c_3 (a := 4) (by decide); have e_c_9 := lv_neT c_9 (a := 4) (by decide); have e_c_10 := lv_neT c_10 (a := 6) (by decide); have l1 := nI_toInt (n := i) (by omega); apply q_tn; omega
        have hf : m_fm_came S i a b = q_st (q_st (q_st (q_st S 12 0 i (.int 0)) 10 0 i (.int 0)) 14 0 (4 * i + ((q_i (S 3 0 (14 * ((q_i (S 9 0 i)).toNatClampNeg) + ((q_i (S 11 0 i)).toNatClampNeg)))).toNatClampNeg)) (.int b)) 11 0 i (.int ((q_i (S 11 0 i)) + 1)) := by unfold m_fm_came; rw [if_neg c_3, if_neg c_9, if_neg c_10]
        rw [hf]
        exact (mI_st (mIs (mIs (mI_st hI (by show (0 : Int) ≤ (0 : Int32).toInt ∧ (0 : Int32).toInt ≤ 60; decide)) rfl) rfl) (by have e_c_3 := lv_neT c_3 (a := 4) (by decide); have e_c_9 := lv_neT c_9 (a := 4) (by decide); have e_c_10 := lv_neT c_10 (a := 6) (by decide); have l1 := mV_13 hI hV (mSt_w hst c_3); have l2 : 0 ≤ (q_i (S 11 0 i)).toInt ∧ (q_i (S 11 0 i)).toInt ≤ 14 := hI 11 0 i; have l3 : (1 : Int32).toInt = 1 := rfl; have l4 := q_addI (x := q_i (S 11 0 i)) (y := 1) (by omega); show 0 ≤ ((q_i (S 11 0 i)) + 1).toInt ∧ ((q_i (S 11 0 i)) + 1).toInt ≤ 14; omega))
set_option maxRecDepth 100000 in
set_option maxHeartbeats 4000000 in
theorem mK_fm_came (S : q_S) (i : Nat) (a b : Int32) (x y z : Nat) (h0 : x ≠ 0) (h7 : x ≠ 7) (h8 : x ≠ 8) (h10 : x ≠ 10) (h11 : x ≠ 11) (h12 : x ≠ 12) (h14 : x ≠ 14) (h15 : x ≠ 15) (h16 : x ≠ 16) (h17 : x ≠ 17) (h18 : x ≠ 18) (h19 : x ≠ 19) (h20 : x ≠ 20) (h27 : x ≠ 27) (h28 : x ≠ 28) (h29 : x ≠ 29) (h31 : x ≠ 31) (h32 : x ≠ 32) (h33 : x ≠ 33) : (m_fm_came S i a b) x y z = S x y z := by
  by_cases c_3 : q_i (S 10 0 i) = 4
  · -- yes
    have hf : m_fm_came S i a b = m_fm_undo (q_st (q_st S 12 0 i (.int 0)) 10 0 i (.int 0)) i := by unfold m_fm_came; rw [if_pos c_3]
    rw [hf]
    exact ((mK_fm_undo (q_st (q_st S 12 0 i (.int 0)) 10 0 i (.int 0)) i x y z h0 h7 h8 h10 h15 h16 h17 h18 h19 h20 h27 h28 h29 h31 h32 h33)).trans ((q_kj h10).trans ((q_kj h12)))
  · -- no
    by_cases c_9 : a = 4
    · -- yes
      have hf : m_fm_came S i a b = m_fm_undo (q_st (q_st S 12 0 i (.int 0)) 10 0 i (.int 0)) i := by unfold m_fm_came; rw [if_neg c_3, if_pos c_9]
      rw [hf]
      exact ((mK_fm_undo (q_st (q_st S 12 0 i (.int 0)) 10 0 i (.int 0)) i x y z h0 h7 h8 h10 h15 h16 h17 h18 h19 h20 h27 h28 h29 h31 h32 h33)).trans ((q_kj h10).trans ((q_kj h12)))
    · -- no
      by_cases c_10 : a = 6
      · -- yes
        have hf : m_fm_came S i a b = q_st (q_st (q_st S 12 0 i (.int 0)) 10 0 i (.int 0)) 11 0 i (.int ((q_i (S 11 0 i)) + 1)) := by unfold m_fm_came; rw [if_neg c_3, if_neg c_9, if_pos c_10]
        rw [hf]
        exact (q_kj h11).trans ((q_kj h10).trans ((q_kj h12)))
      · -- no
        have hf : m_fm_came S i a b = q_st (q_st (q_st (q_st S 12 0 i (.int 0)) 10 0 i (.int 0)) 14 0 (4 * i + ((q_i (S 3 0 (14 * ((q_i (S 9 0 i)).toNatClampNeg) + ((q_i (S 11 0 i)).toNatClampNeg)))).toNatClampNeg)) (.int b)) 11 0 i (.int ((q_i (S 11 0 i)) + 1)) := by unfold m_fm_came; rw [if_neg c_3, if_neg c_9, if_neg c_10]
        rw [hf]
        exact (q_kj h11).trans ((q_kj h14).trans ((q_kj h10).trans ((q_kj h12))))
