def x_fe_flow (S : q_S) (a b : Int32) : Int32 :=
  if a < 0 then
    (-1)
  else
    if 6 ≤ a then
      (-1)
    else
      if b < 0 then
        (-1)
      else
        if b < 14 then
          if q_i (S 9 a.toNatClampNeg 6) = 0 then
            0
          else
            if b = 0 then
              q_i (S 9 a.toNatClampNeg 10)
            else
              if b = 1 then
                q_i (S 9 a.toNatClampNeg 9)
              else
                if b = 2 then
                  q_i (S 11 a.toNatClampNeg 3)
                else
                  if b = 3 then
                    if x_wf_isInMind S a.toNatClampNeg = 0 then
                      (-2)
                    else
                      q_i (S 9 a.toNatClampNeg 11)
                  else
                    if b = 4 then
                      if x_wf_isInMind S a.toNatClampNeg = 0 then
                        (-2)
                      else
                        q_i (S 18 a.toNatClampNeg 2)
                    else
                      if b = 5 then
                        if q_i (S 9 a.toNatClampNeg 10) = 5 then
                          q_i (S 9 a.toNatClampNeg 15)
                        else
                          0
                      else
                        if b = 6 then
                          q_i (S 15 a.toNatClampNeg 2)
                        else
                          if b = 7 then
                            if q_i (S 9 a.toNatClampNeg 7) = 0 then
                              0
                            else
                              1
                          else
                            if b = 8 then
                              q_i (S 21 a.toNatClampNeg 1)
                            else
                              if b = 9 then
                                if q_i (S 21 a.toNatClampNeg 2) = 0 then
                                  0
                                else
                                  1
                              else
                                if q_i (S 9 a.toNatClampNeg 7) = 0 then
                                  q_i (S 10 a.toNatClampNeg ((b - 10).toNatClampNeg))
                                else
                                  0
        else
          (-1)
set_option maxRecDepth 100000 in
set_option maxHeartbeats 4000000 in
theorem xC_fe_flow (l : Launch) (G : q_G) (S : q_S) (a b : Int32) (hI : xI S) : q_Mi xX G l xy_fe_flow (q_ws (q_gw lw_tbl) xy_fe_flow xb_fe_flow 4 (some .int)) (q_rm 2) [.ref (q_a xX G 0 0), .int a, .int b] S (x_fe_flow S a b) S := by
  refine q_met (cc := xb_fe_flow) (maxL := 4) (ret := (some .int)) xOk (by decide) rfl (Nat.le_of_ble_eq_true rfl) ?_
  intro p e s m below meth c ls hC hr hlocks hW hS hl
  have hx := hC.1.1
  have hb := hC.1.2.1
  have hl : lv_has ls 4 [(0, .ref (q_a xX G 0 0)), (1, .int a), (2, .int b)] := hl
  refine lv_iload_n hx hb xd_fe_flow_0 rfl (lv_at hl 1 rfl) ?_
  refine lv_if_lt (tgt := 20) hx hb xd_fe_flow_1 (by decide) (fun c_1 => ?_) (fun c_1 => ?_)
  · -- taken
    refine lv_iconst (v := (-1)) hx hb xd_fe_flow_20 (by decide) ?_
    have hf : x_fe_flow S a b = (-1) := by unfold x_fe_flow; rw [if_pos c_1]
    rw [hf]
    exact q_iret hC hr hlocks hW hS rfl rfl xd_fe_flow_21
  · -- not taken
    refine lv_iload_n hx hb xd_fe_flow_4 rfl (lv_at hl 1 rfl) ?_
    refine lv_bipush (v := 6) hx hb xd_fe_flow_5 (by decide) ?_
    refine lv_icmp_ge (tgt := 20) hx hb xd_fe_flow_7 (by decide) (fun c_2 => ?_) (fun c_2 => ?_)
    · -- taken
      refine lv_iconst (v := (-1)) hx hb xd_fe_flow_20 (by decide) ?_
      have hf : x_fe_flow S a b = (-1) := by unfold x_fe_flow; rw [if_neg c_1, if_pos c_2]
      rw [hf]
      exact q_iret hC hr hlocks hW hS rfl rfl xd_fe_flow_21
    · -- not taken
      refine lv_iload_n hx hb xd_fe_flow_10 rfl (lv_at hl 2 rfl) ?_
      refine lv_if_lt (tgt := 20) hx hb xd_fe_flow_11 (by decide) (fun c_3 => ?_) (fun c_3 => ?_)
      · -- taken
        refine lv_iconst (v := (-1)) hx hb xd_fe_flow_20 (by decide) ?_
        have hf : x_fe_flow S a b = (-1) := by unfold x_fe_flow; rw [if_neg c_1, if_neg c_2, if_pos c_3]
        rw [hf]
        exact q_iret hC hr hlocks hW hS rfl rfl xd_fe_flow_21
      · -- not taken
        refine lv_iload_n hx hb xd_fe_flow_14 rfl (lv_at hl 2 rfl) ?_
        refine lv_bipush (v := 14) hx hb xd_fe_flow_15 (by decide) ?_
        refine lv_icmp_lt (tgt := 22) hx hb xd_fe_flow_17 (by decide) (fun c_4 => ?_) (fun c_4 => ?_)
        · -- taken
          refine lv_aload_n hx hb xd_fe_flow_22 rfl (lv_at hl 0 rfl) ?_
          refine xg_fe_17 hC hW 0 Nat.one_pos xd_fe_flow_23 ?_
          refine lv_iload_n hx hb xd_fe_flow_26 rfl (lv_at hl 1 rfl) ?_
          have h_5 : vp_in a 6 := by simp only [vp_in_iff, Int32.lt_iff_toInt_lt, Int32.le_iff_toInt_le, q_n0, q_n1, q_n2, q_n3, q_n4, q_n5, q_n6, q_n7, q_n10, q_n14, q_n15, q_n20, q_n60, q_n1288] at c_1 c_2 c_3 c_4 ⊢; omega
          refine xal_2 hC hW 0 Nat.one_pos h_5 xd_fe_flow_27 ?_
          refine lv_astore_n (lv' := [(3, .ref (q_a xX G 9 a.toNatClampNeg)), (0, .ref (q_a xX G 0 0)), (1, .int a), (2, .int b)]) hx hb xd_fe_flow_28 rfl hl (by decide) rfl (fun ls hl => ?_)
          refine lv_aload_n hx hb xd_fe_flow_29 rfl (lv_at hl 0 rfl) ?_
          refine xg_fe_72 hC hW a.toNatClampNeg (q_lt h_5) (rfl) xd_fe_flow_30 ?_
          refine lv_if_ne (tgt := 38) hx hb xd_fe_flow_33 (by decide) (fun c_6 => ?_) (fun c_6 => ?_)
          · -- taken
            refine lv_iload_n hx hb xd_fe_flow_38 rfl (lv_at hl 3 rfl) ?_
            by_cases c_7 : b = 0
            · -- case 0
              refine lv_tableIn (off := 53) (tgt := 92) hx hb xd_fe_flow_39 (by rw [c_7]; decide) (by rw [c_7]; decide) (by rw [c_7]; decide) (by decide) ?_
              refine lv_aload_n hx hb xd_fe_flow_92 rfl (lv_at hl 0 rfl) ?_
              refine xg_fe_134 hC hW a.toNatClampNeg (q_lt h_5) (rfl) xd_fe_flow_93 ?_
              have hf : x_fe_flow S a b = q_i (S 9 a.toNatClampNeg 10) := by unfold x_fe_flow; rw [if_neg c_1, if_neg c_2, if_neg c_3, if_pos c_4, if_neg c_6, if_pos c_7]
              rw [hf]
              exact q_iret hC hr hlocks hW hS rfl rfl xd_fe_flow_96
            · -- others
              by_cases c_8 : b = 1
              · -- case 1
                refine lv_tableIn (off := 58) (tgt := 97) hx hb xd_fe_flow_39 (by rw [c_8]; decide) (by rw [c_8]; decide) (by rw [c_8]; decide) (by decide) ?_
                refine lv_aload_n hx hb xd_fe_flow_97 rfl (lv_at hl 0 rfl) ?_
                refine xg_fe_146 hC hW a.toNatClampNeg (q_lt h_5) (rfl) xd_fe_flow_98 ?_
                have hf : x_fe_flow S a b = q_i (S 9 a.toNatClampNeg 9) := by unfold x_fe_flow; rw [if_neg c_1, if_neg c_2, if_neg c_3, if_pos c_4, if_neg c_6, if_neg c_7, if_pos c_8]
                rw [hf]
                exact q_iret hC hr hlocks hW hS rfl rfl xd_fe_flow_101
              · -- others
                by_cases c_9 : b = 2
                · -- case 2
                  refine lv_tableIn (off := 63) (tgt := 102) hx hb xd_fe_flow_39 (by rw [c_9]; decide) (by rw [c_9]; decide) (by rw [c_9]; decide) (by decide) ?_
                  refine lv_aload_n hx hb xd_fe_flow_102 rfl (lv_at hl 0 rfl) ?_
                  refine xg_fe_149 hC hW a.toNatClampNeg (q_lt h_5) xd_fe_flow_103 ?_
                  refine xg_fe_153 hC hW a.toNatClampNeg (q_lt h_5) (rfl) xd_fe_flow_106 ?_
                  have hf : x_fe_flow S a b = q_i (S 11 a.toNatClampNeg 3) := by unfold x_fe_flow; rw [if_neg c_1, if_neg c_2, if_neg c_3, if_pos c_4, if_neg c_6, if_neg c_7, if_neg c_8, if_pos c_9]
                  rw [hf]
                  exact q_iret hC hr hlocks hW hS rfl rfl xd_fe_flow_109
                · -- others
                  by_cases c_10 : b = 3
                  · -- case 3
                    refine lv_tableIn (off := 71) (tgt := 110) hx hb xd_fe_flow_39 (by rw [c_10]; decide) (by rw [c_10]; decide) (by rw [c_10]; decide) (by decide) ?_
                    refine lv_aload_n hx hb xd_fe_flow_110 rfl (lv_at hl 0 rfl) ?_
                    refine q_calli hC hS (fun _ h => h) (q_runV (rest := []) hC hW (xC_wf_isInMind l G S a.toNatClampNeg (q_lt h_5)) (xc_fe_156 (q_rm 1) hC.1.2.2.2.2 ⟨Nat.le_of_ble_eq_true rfl, Nat.le_of_ble_eq_true rfl⟩ rfl rfl) (q_lt h_5) rfl rfl rfl hl.1 rfl (Nat.le_of_ble_eq_true rfl) xd_fe_flow_111 ⟨Nat.zero_le _, Nat.zero_le _⟩) (fun H locs hW hS => ?_)
                    refine lv_if_eq (tgt := 124) hx hb xd_fe_flow_114 (by decide) (fun c_11 => ?_) (fun c_11 => ?_)
                    · -- taken
                      refine lv_bipush (v := (-2)) hx hb xd_fe_flow_124 (by decide) ?_
                      have hf : x_fe_flow S a b = (-2) := by unfold x_fe_flow; rw [if_neg c_1, if_neg c_2, if_neg c_3, if_pos c_4, if_neg c_6, if_neg c_7, if_neg c_8, if_neg c_9, if_pos c_10, if_pos c_11]
                      rw [hf]
                      exact q_iret hC hr hlocks hW hS rfl rfl xd_fe_flow_126
                    · -- not taken
                      refine lv_aload_n hx hb xd_fe_flow_117 rfl (lv_at hl 0 rfl) ?_
                      refine xg_fe_159 hC hW a.toNatClampNeg (q_lt h_5) (rfl) xd_fe_flow_118 ?_
                      refine lv_goto (tgt := 126) hx hb xd_fe_flow_121 (by decide) ?_
                      have hf : x_fe_flow S a b = q_i (S 9 a.toNatClampNeg 11) := by unfold x_fe_flow; rw [if_neg c_1, if_neg c_2, if_neg c_3, if_pos c_4, if_neg c_6, if_neg c_7, if_neg c_8, if_neg c_9, if_pos c_10, if_neg c_11]
                      rw [hf]
                      exact q_iret hC hr hlocks hW hS rfl rfl xd_fe_flow_126
                  · -- others
                    by_cases c_12 : b = 4
                    · -- case 4
                      refine lv_tableIn (off := 88) (tgt := 127) hx hb xd_fe_flow_39 (by rw [c_12]; decide) (by rw [c_12]; decide) (by rw [c_12]; decide) (by decide) ?_
                      refine lv_aload_n hx hb xd_fe_flow_127 rfl (lv_at hl 0 rfl) ?_
                      refine q_calli hC hS (fun _ h => h) (q_runV (rest := []) hC hW (xC_wf_isInMind l G S a.toNatClampNeg (q_lt h_5)) (xc_fe_156 (q_rm 1) hC.1.2.2.2.2 ⟨Nat.le_of_ble_eq_true rfl, Nat.le_of_ble_eq_true rfl⟩ rfl rfl) (q_lt h_5) rfl rfl rfl hl.1 rfl (Nat.le_of_ble_eq_true rfl) xd_fe_flow_128 ⟨Nat.zero_le _, Nat.zero_le _⟩) (fun H locs hW hS => ?_)
                      refine lv_if_eq (tgt := 144) hx hb xd_fe_flow_131 (by decide) (fun c_13 => ?_) (fun c_13 => ?_)
                      · -- taken
                        refine lv_bipush (v := (-2)) hx hb xd_fe_flow_144 (by decide) ?_
                        have hf : x_fe_flow S a b = (-2) := by unfold x_fe_flow; rw [if_neg c_1, if_neg c_2, if_neg c_3, if_pos c_4, if_neg c_6, if_neg c_7, if_neg c_8, if_neg c_9, if_neg c_10, if_pos c_12, if_pos c_13]
                        rw [hf]
                        exact q_iret hC hr hlocks hW hS rfl rfl xd_fe_flow_146
                      · -- not taken
                        refine lv_aload_n hx hb xd_fe_flow_134 rfl (lv_at hl 0 rfl) ?_
                        refine xg_fe_162 hC hW a.toNatClampNeg (q_lt h_5) xd_fe_flow_135 ?_
                        refine xg_fe_166 hC hW a.toNatClampNeg (q_lt h_5) (rfl) xd_fe_flow_138 ?_
                        refine lv_goto (tgt := 146) hx hb xd_fe_flow_141 (by decide) ?_
                        have hf : x_fe_flow S a b = q_i (S 18 a.toNatClampNeg 2) := by unfold x_fe_flow; rw [if_neg c_1, if_neg c_2, if_neg c_3, if_pos c_4, if_neg c_6, if_neg c_7, if_neg c_8, if_neg c_9, if_neg c_10, if_pos c_12, if_neg c_13]
                        rw [hf]
                        exact q_iret hC hr hlocks hW hS rfl rfl xd_fe_flow_146
                    · -- others
                      by_cases c_14 : b = 5
                      · -- case 5
                        refine lv_tableIn (off := 108) (tgt := 147) hx hb xd_fe_flow_39 (by rw [c_14]; decide) (by rw [c_14]; decide) (by rw [c_14]; decide) (by decide) ?_
                        refine lv_aload_n hx hb xd_fe_flow_147 rfl (lv_at hl 0 rfl) ?_
                        refine xg_fe_134 hC hW a.toNatClampNeg (q_lt h_5) (rfl) xd_fe_flow_148 ?_
                        refine lv_iconst (v := 5) hx hb xd_fe_flow_151 (by decide) ?_
                        refine lv_icmp_ne (tgt := 162) hx hb xd_fe_flow_152 (by decide) (fun c_15 => ?_) (fun c_15 => ?_)
                        · -- taken
                          refine lv_iconst (v := 0) hx hb xd_fe_flow_162 (by decide) ?_
                          have hf : x_fe_flow S a b = 0 := by unfold x_fe_flow; rw [if_neg c_1, if_neg c_2, if_neg c_3, if_pos c_4, if_neg c_6, if_neg c_7, if_neg c_8, if_neg c_9, if_neg c_10, if_neg c_12, if_pos c_14, if_neg c_15]
                          rw [hf]
                          exact q_iret hC hr hlocks hW hS rfl rfl xd_fe_flow_163
                        · -- not taken
                          refine lv_aload_n hx hb xd_fe_flow_155 rfl (lv_at hl 0 rfl) ?_
                          refine xg_fe_169 hC hW a.toNatClampNeg (q_lt h_5) (rfl) xd_fe_flow_156 ?_
                          refine lv_goto (tgt := 163) hx hb xd_fe_flow_159 (by decide) ?_
                          have hf : x_fe_flow S a b = q_i (S 9 a.toNatClampNeg 15) := by unfold x_fe_flow; rw [if_neg c_1, if_neg c_2, if_neg c_3, if_pos c_4, if_neg c_6, if_neg c_7, if_neg c_8, if_neg c_9, if_neg c_10, if_neg c_12, if_pos c_14, if_pos c_15]
                          rw [hf]
                          exact q_iret hC hr hlocks hW hS rfl rfl xd_fe_flow_163
                      · -- others
                        by_cases c_16 : b = 6
                        · -- case 6
                          refine lv_tableIn (off := 125) (tgt := 164) hx hb xd_fe_flow_39 (by rw [c_16]; decide) (by rw [c_16]; decide) (by rw [c_16]; decide) (by decide) ?_
                          refine lv_aload_n hx hb xd_fe_flow_164 rfl (lv_at hl 0 rfl) ?_
                          refine xg_fe_80 hC hW a.toNatClampNeg (q_lt h_5) xd_fe_flow_165 ?_
                          refine xg_fe_172 hC hW a.toNatClampNeg (q_lt h_5) (rfl) xd_fe_flow_168 ?_
                          have hf : x_fe_flow S a b = q_i (S 15 a.toNatClampNeg 2) := by unfold x_fe_flow; rw [if_neg c_1, if_neg c_2, if_neg c_3, if_pos c_4, if_neg c_6, if_neg c_7, if_neg c_8, if_neg c_9, if_neg c_10, if_neg c_12, if_neg c_14, if_pos c_16]
                          rw [hf]
                          exact q_iret hC hr hlocks hW hS rfl rfl xd_fe_flow_171
                        · -- others
                          by_cases c_17 : b = 7
                          · -- case 7
                            refine lv_tableIn (off := 133) (tgt := 172) hx hb xd_fe_flow_39 (by rw [c_17]; decide) (by rw [c_17]; decide) (by rw [c_17]; decide) (by decide) ?_
                            refine lv_aload_n hx hb xd_fe_flow_172 rfl (lv_at hl 0 rfl) ?_
                            refine xg_fe_143 hC hW a.toNatClampNeg (q_lt h_5) (rfl) xd_fe_flow_173 ?_
                            refine lv_if_eq (tgt := 183) hx hb xd_fe_flow_176 (by decide) (fun c_18 => ?_) (fun c_18 => ?_)
                            · -- taken
                              refine lv_iconst (v := 0) hx hb xd_fe_flow_183 (by decide) ?_
                              have hf : x_fe_flow S a b = 0 := by unfold x_fe_flow; rw [if_neg c_1, if_neg c_2, if_neg c_3, if_pos c_4, if_neg c_6, if_neg c_7, if_neg c_8, if_neg c_9, if_neg c_10, if_neg c_12, if_neg c_14, if_neg c_16, if_pos c_17, if_pos c_18]
                              rw [hf]
                              exact q_iret hC hr hlocks hW hS rfl rfl xd_fe_flow_184
                            · -- not taken
                              refine lv_iconst (v := 1) hx hb xd_fe_flow_179 (by decide) ?_
                              refine lv_goto (tgt := 184) hx hb xd_fe_flow_180 (by decide) ?_
                              have hf : x_fe_flow S a b = 1 := by unfold x_fe_flow; rw [if_neg c_1, if_neg c_2, if_neg c_3, if_pos c_4, if_neg c_6, if_neg c_7, if_neg c_8, if_neg c_9, if_neg c_10, if_neg c_12, if_neg c_14, if_neg c_16, if_pos c_17, if_neg c_18]
                              rw [hf]
                              exact q_iret hC hr hlocks hW hS rfl rfl xd_fe_flow_184
                          · -- others
                            by_cases c_19 : b = 8
                            · -- case 8
                              refine lv_tableIn (off := 146) (tgt := 185) hx hb xd_fe_flow_39 (by rw [c_19]; decide) (by rw [c_19]; decide) (by rw [c_19]; decide) (by decide) ?_
                              refine lv_aload_n hx hb xd_fe_flow_185 rfl (lv_at hl 0 rfl) ?_
                              refine xg_fe_107 hC hW a.toNatClampNeg (q_lt h_5) xd_fe_flow_186 ?_
                              refine xg_fe_173 hC hW a.toNatClampNeg (q_lt h_5) (rfl) xd_fe_flow_189 ?_
                              have hf : x_fe_flow S a b = q_i (S 21 a.toNatClampNeg 1) := by unfold x_fe_flow; rw [if_neg c_1, if_neg c_2, if_neg c_3, if_pos c_4, if_neg c_6, if_neg c_7, if_neg c_8, if_neg c_9, if_neg c_10, if_neg c_12, if_neg c_14, if_neg c_16, if_neg c_17, if_pos c_19]
                              rw [hf]
                              exact q_iret hC hr hlocks hW hS rfl rfl xd_fe_flow_192
                            · -- others
                              by_cases c_20 : b = 9
                              · -- case 9
                                refine lv_tableIn (off := 154) (tgt := 193) hx hb xd_fe_flow_39 (by rw [c_20]; decide) (by rw [c_20]; decide) (by rw [c_20]; decide) (by decide) ?_
                                refine lv_aload_n hx hb xd_fe_flow_193 rfl (lv_at hl 0 rfl) ?_
                                refine xg_fe_107 hC hW a.toNatClampNeg (q_lt h_5) xd_fe_flow_194 ?_
                                refine xg_fe_125 hC hW a.toNatClampNeg (q_lt h_5) (rfl) xd_fe_flow_197 ?_
                                refine lv_if_eq (tgt := 207) hx hb xd_fe_flow_200 (by decide) (fun c_21 => ?_) (fun c_21 => ?_)
                                · -- taken
                                  refine lv_iconst (v := 0) hx hb xd_fe_flow_207 (by decide) ?_
                                  have hf : x_fe_flow S a b = 0 := by unfold x_fe_flow; rw [if_neg c_1, if_neg c_2, if_neg c_3, if_pos c_4, if_neg c_6, if_neg c_7, if_neg c_8, if_neg c_9, if_neg c_10, if_neg c_12, if_neg c_14, if_neg c_16, if_neg c_17, if_neg c_19, if_pos c_20, if_pos c_21]
                                  rw [hf]
                                  exact q_iret hC hr hlocks hW hS rfl rfl xd_fe_flow_208
                                · -- not taken
                                  refine lv_iconst (v := 1) hx hb xd_fe_flow_203 (by decide) ?_
                                  refine lv_goto (tgt := 208) hx hb xd_fe_flow_204 (by decide) ?_
                                  have hf : x_fe_flow S a b = 1 := by unfold x_fe_flow; rw [if_neg c_1, if_neg c_2, if_neg c_3, if_pos c_4, if_neg c_6, if_neg c_7, if_neg c_8, if_neg c_9, if_neg c_10, if_neg c_12, if_neg c_14, if_neg c_16, if_neg c_17, if_neg c_19, if_pos c_20, if_neg c_21]
                                  rw [hf]
                                  exact q_iret hC hr hlocks hW hS rfl rfl xd_fe_flow_208
                              · -- others
                                refine lv_tableOut (tgt := 209) hx hb xd_fe_flow_39 (by have n0 := lv_neT c_7 (a := 0) (by decide); have n1 := lv_neT c_8 (a := 1) (by decide); have n2 := lv_neT c_9 (a := 2) (by decide); have n3 := lv_neT c_10 (a := 3) (by decide); have n4 := lv_neT c_12 (a := 4) (by decide); have n5 := lv_neT c_14 (a := 5) (by decide); have n6 := lv_neT c_16 (a := 6) (by decide); have n7 := lv_neT c_17 (a := 7) (by decide); have n8 := lv_neT c_19 (a := 8) (by decide); have n9 := lv_neT c_20 (a := 9) (by decide); omega) (by decide) ?_
                                refine lv_aload_n hx hb xd_fe_flow_209 rfl (lv_at hl 0 rfl) ?_
                                refine xg_fe_143 hC hW a.toNatClampNeg (q_lt h_5) (rfl) xd_fe_flow_210 ?_
                                refine lv_if_eq (tgt := 220) hx hb xd_fe_flow_213 (by decide) (fun c_22 => ?_) (fun c_22 => ?_)
                                · -- taken
                                  refine lv_aload_n hx hb xd_fe_flow_220 rfl (lv_at hl 0 rfl) ?_
                                  refine xg_fe_176 hC hW a.toNatClampNeg (q_lt h_5) xd_fe_flow_221 ?_
                                  refine lv_iload_n hx hb xd_fe_flow_224 rfl (lv_at hl 3 rfl) ?_
                                  refine lv_bipush (v := 10) hx hb xd_fe_flow_225 (by decide) ?_
                                  refine lv_isub hx hb xd_fe_flow_227 ?_
                                  have h_23 : vp_in (b - 10) 4 := by have n0 := lv_neT c_7 (a := 0) (by decide); have n1 := lv_neT c_8 (a := 1) (by decide); have n2 := lv_neT c_9 (a := 2) (by decide); have n3 := lv_neT c_10 (a := 3) (by decide); have n4 := lv_neT c_12 (a := 4) (by decide); have n5 := lv_neT c_14 (a := 5) (by decide); have n6 := lv_neT c_16 (a := 6) (by decide); have n7 := lv_neT c_17 (a := 7) (by decide); have n8 := lv_neT c_19 (a := 8) (by decide); have n9 := lv_neT c_20 (a := 9) (by decide); simp only [vp_in_iff, Int32.lt_iff_toInt_lt, Int32.le_iff_toInt_le, q_n0, q_n1, q_n2, q_n3, q_n4, q_n5, q_n6, q_n7, q_n10, q_n14, q_n15, q_n20, q_n60, q_n1288] at c_3 c_4 ⊢; rw [q_s10 (by omega)]; omega
                                  refine xal_10 hC hW a.toNatClampNeg (q_lt h_5) h_23 (rfl) xd_fe_flow_228 ?_
                                  have hf : x_fe_flow S a b = q_i (S 10 a.toNatClampNeg ((b - 10).toNatClampNeg)) := by unfold x_fe_flow; rw [if_neg c_1, if_neg c_2, if_neg c_3, if_pos c_4, if_neg c_6, if_neg c_7, if_neg c_8, if_neg c_9, if_neg c_10, if_neg c_12, if_neg c_14, if_neg c_16, if_neg c_17, if_neg c_19, if_neg c_20, if_pos c_22]
                                  rw [hf]
                                  exact q_iret hC hr hlocks hW hS rfl rfl xd_fe_flow_229
                                · -- not taken
                                  refine lv_iconst (v := 0) hx hb xd_fe_flow_216 (by decide) ?_
                                  refine lv_goto (tgt := 229) hx hb xd_fe_flow_217 (by decide) ?_
                                  have hf : x_fe_flow S a b = 0 := by unfold x_fe_flow; rw [if_neg c_1, if_neg c_2, if_neg c_3, if_pos c_4, if_neg c_6, if_neg c_7, if_neg c_8, if_neg c_9, if_neg c_10, if_neg c_12, if_neg c_14, if_neg c_16, if_neg c_17, if_neg c_19, if_neg c_20, if_neg c_22]
                                  rw [hf]
                                  exact q_iret hC hr hlocks hW hS rfl rfl xd_fe_flow_229
          · -- not taken
            refine lv_iconst (v := 0) hx hb xd_fe_flow_36 (by decide) ?_
            have hf : x_fe_flow S a b = 0 := by unfold x_fe_flow; rw [if_neg c_1, if_neg c_2, if_neg c_3, if_pos c_4, if_pos c_6]
            rw [hf]
            exact q_iret hC hr hlocks hW hS rfl rfl xd_fe_flow_37
        · -- not taken
          refine lv_iconst (v := (-1)) hx hb xd_fe_flow_20 (by decide) ?_
          have hf : x_fe_flow S a b = (-1) := by unfold x_fe_flow; rw [if_neg c_1, if_neg c_2, if_neg c_3, if_neg c_4]
          rw [hf]
          exact q_iret hC hr hlocks hW hS rfl rfl xd_fe_flow_21
def x_fe_entry (S : q_S) (a b d : Int32) : Int32 :=
  if a < 0 then
    (-1)
  else
    if 6 ≤ a then
      (-1)
    else
      if d < 0 then
        (-1)
      else
        if d ≤ 2 then
          if q_i (S 9 a.toNatClampNeg 6) = 0 then
            (-2)
          else
            if b < 0 then
              (-2)
            else
              if b < q_i (S 11 a.toNatClampNeg 3) then
                if d = 0 then
                  q_i (S 12 a.toNatClampNeg b.toNatClampNeg)
                else
                  if d = 1 then
                    q_i (S 13 a.toNatClampNeg b.toNatClampNeg)
                  else
                    q_i (S 14 a.toNatClampNeg b.toNatClampNeg)
              else
                (-2)
        else
          (-1)
set_option maxRecDepth 100000 in
set_option maxHeartbeats 4000000 in
theorem xC_fe_entry (l : Launch) (G : q_G) (S : q_S) (a b d : Int32) (hI : xI S) : q_Mi xX G l xy_fe_entry (q_ws (q_gw lw_tbl) xy_fe_entry xb_fe_entry 5 (some .int)) (q_rm 0) [.ref (q_a xX G 0 0), .int a, .int b, .int d] S (x_fe_entry S a b d) S := by
  refine q_met (cc := xb_fe_entry) (maxL := 5) (ret := (some .int)) xOk (by decide) rfl (Nat.le_of_ble_eq_true rfl) ?_
  intro p e s m below meth c ls hC hr hlocks hW hS hl
  have hx := hC.1.1
  have hb := hC.1.2.1
  have hl : lv_has ls 5 [(0, .ref (q_a xX G 0 0)), (1, .int a), (2, .int b), (3, .int d)] := hl
  refine lv_iload_n hx hb xd_fe_entry_0 rfl (lv_at hl 1 rfl) ?_
  refine lv_if_lt (tgt := 19) hx hb xd_fe_entry_1 (by decide) (fun c_1 => ?_) (fun c_1 => ?_)
  · -- taken
    refine lv_iconst (v := (-1)) hx hb xd_fe_entry_19 (by decide) ?_
    have hf : x_fe_entry S a b d = (-1) := by unfold x_fe_entry; rw [if_pos c_1]
    rw [hf]
    exact q_iret hC hr hlocks hW hS rfl rfl xd_fe_entry_20
  · -- not taken
    refine lv_iload_n hx hb xd_fe_entry_4 rfl (lv_at hl 1 rfl) ?_
    refine lv_bipush (v := 6) hx hb xd_fe_entry_5 (by decide) ?_
    refine lv_icmp_ge (tgt := 19) hx hb xd_fe_entry_7 (by decide) (fun c_2 => ?_) (fun c_2 => ?_)
    · -- taken
      refine lv_iconst (v := (-1)) hx hb xd_fe_entry_19 (by decide) ?_
      have hf : x_fe_entry S a b d = (-1) := by unfold x_fe_entry; rw [if_neg c_1, if_pos c_2]
      rw [hf]
      exact q_iret hC hr hlocks hW hS rfl rfl xd_fe_entry_20
    · -- not taken
      refine lv_iload_n hx hb xd_fe_entry_10 rfl (lv_at hl 3 rfl) ?_
      refine lv_if_lt (tgt := 19) hx hb xd_fe_entry_11 (by decide) (fun c_3 => ?_) (fun c_3 => ?_)
      · -- taken
        refine lv_iconst (v := (-1)) hx hb xd_fe_entry_19 (by decide) ?_
        have hf : x_fe_entry S a b d = (-1) := by unfold x_fe_entry; rw [if_neg c_1, if_neg c_2, if_pos c_3]
        rw [hf]
        exact q_iret hC hr hlocks hW hS rfl rfl xd_fe_entry_20
      · -- not taken
        refine lv_iload_n hx hb xd_fe_entry_14 rfl (lv_at hl 3 rfl) ?_
        refine lv_iconst (v := 2) hx hb xd_fe_entry_15 (by decide) ?_
        refine lv_icmp_le (tgt := 21) hx hb xd_fe_entry_16 (by decide) (fun c_4 => ?_) (fun c_4 => ?_)
        · -- taken
          refine lv_aload_n hx hb xd_fe_entry_21 rfl (lv_at hl 0 rfl) ?_
          refine xg_fe_17 hC hW 0 Nat.one_pos xd_fe_entry_22 ?_
          refine lv_iload_n hx hb xd_fe_entry_25 rfl (lv_at hl 1 rfl) ?_
          have h_5 : vp_in a 6 := by simp only [vp_in_iff, Int32.lt_iff_toInt_lt, Int32.le_iff_toInt_le, q_n0, q_n1, q_n2, q_n3, q_n4, q_n5, q_n6, q_n7, q_n10, q_n14, q_n15, q_n20, q_n60, q_n1288] at c_1 c_2 c_3 c_4 ⊢; omega
          refine xal_2 hC hW 0 Nat.one_pos h_5 xd_fe_entry_26 ?_
          refine xg_fe_149 hC hW a.toNatClampNeg (q_lt h_5) xd_fe_entry_27 ?_
          refine lv_astore (lv' := [(4, .ref (q_a xX G 11 a.toNatClampNeg)), (0, .ref (q_a xX G 0 0)), (1, .int a), (2, .int b), (3, .int d)]) hx hb xd_fe_entry_30 hl (by decide) rfl (fun ls hl => ?_)
          refine lv_aload_n hx hb xd_fe_entry_32 rfl (lv_at hl 1 rfl) ?_
          refine xg_fe_17 hC hW 0 Nat.one_pos xd_fe_entry_33 ?_
          refine lv_iload_n hx hb xd_fe_entry_36 rfl (lv_at hl 2 rfl) ?_
          have h_6 : vp_in a 6 := by simp only [vp_in_iff, Int32.lt_iff_toInt_lt, Int32.le_iff_toInt_le, q_n0, q_n1, q_n2, q_n3, q_n4, q_n5, q_n6, q_n7, q_n10, q_n14, q_n15, q_n20, q_n60, q_n1288] at c_1 c_2 c_3 c_4 ⊢; omega
          refine xal_2 hC hW 0 Nat.one_pos h_6 xd_fe_entry_37 ?_
          refine xg_fe_72 hC hW a.toNatClampNeg (q_lt h_6) (rfl) xd_fe_entry_38 ?_
          refine lv_if_eq (tgt := 57) hx hb xd_fe_entry_41 (by decide) (fun c_7 => ?_) (fun c_7 => ?_)
          · -- taken
            refine lv_bipush (v := (-2)) hx hb xd_fe_entry_57 (by decide) ?_
            have hf : x_fe_entry S a b d = (-2) := by unfold x_fe_entry; rw [if_neg c_1, if_neg c_2, if_neg c_3, if_pos c_4, if_pos c_7]
            rw [hf]
            exact q_iret hC hr hlocks hW hS rfl rfl xd_fe_entry_59
          · -- not taken
            refine lv_iload_n hx hb xd_fe_entry_44 rfl (lv_at hl 3 rfl) ?_
            refine lv_if_lt (tgt := 57) hx hb xd_fe_entry_45 (by decide) (fun c_8 => ?_) (fun c_8 => ?_)
            · -- taken
              refine lv_bipush (v := (-2)) hx hb xd_fe_entry_57 (by decide) ?_
              have hf : x_fe_entry S a b d = (-2) := by unfold x_fe_entry; rw [if_neg c_1, if_neg c_2, if_neg c_3, if_pos c_4, if_neg c_7, if_pos c_8]
              rw [hf]
              exact q_iret hC hr hlocks hW hS rfl rfl xd_fe_entry_59
            · -- not taken
              refine lv_iload_n hx hb xd_fe_entry_48 rfl (lv_at hl 3 rfl) ?_
              refine lv_aload hx hb xd_fe_entry_49 (lv_at hl 0 rfl) ?_
              refine xg_fe_153 hC hW a.toNatClampNeg (q_lt h_5) (rfl) xd_fe_entry_51 ?_
              refine lv_icmp_lt (tgt := 60) hx hb xd_fe_entry_54 (by decide) (fun c_9 => ?_) (fun c_9 => ?_)
              · -- taken
                refine lv_iload_n hx hb xd_fe_entry_60 rfl (lv_at hl 4 rfl) ?_
                by_cases c_10 : d = 0
                · -- case 0
                  refine lv_lookup (off := 27) (tgt := 88) hx hb xd_fe_entry_61 (by decide) (by rw [c_10]; decide) (by decide) ?_
                  refine lv_aload hx hb xd_fe_entry_88 (lv_at hl 0 rfl) ?_
                  refine xg_fe_179 hC hW a.toNatClampNeg (q_lt h_5) xd_fe_entry_90 ?_
                  refine lv_iload_n hx hb xd_fe_entry_93 rfl (lv_at hl 3 rfl) ?_
                  have h_11 : vp_in b 20 := by have b1 : 0 ≤ (q_i (S 11 a.toNatClampNeg 3)).toInt ∧ (q_i (S 11 a.toNatClampNeg 3)).toInt ≤ 20 := hI 11 a.toNatClampNeg 3; simp only [vp_in_iff, Int32.lt_iff_toInt_lt, Int32.le_iff_toInt_le, q_n0, q_n1, q_n2, q_n3, q_n4, q_n5, q_n6, q_n7, q_n10, q_n14, q_n15, q_n20, q_n60, q_n1288] at c_1 c_2 c_3 c_4 c_8 c_9 ⊢; omega
                  refine xal_12 hC hW a.toNatClampNeg (q_lt h_5) h_11 (rfl) xd_fe_entry_94 ?_
                  have hf : x_fe_entry S a b d = q_i (S 12 a.toNatClampNeg b.toNatClampNeg) := by unfold x_fe_entry; rw [if_neg c_1, if_neg c_2, if_neg c_3, if_pos c_4, if_neg c_7, if_neg c_8, if_pos c_9, if_pos c_10]
                  rw [hf]
                  exact q_iret hC hr hlocks hW hS rfl rfl xd_fe_entry_95
                · -- others
                  by_cases c_12 : d = 1
                  · -- case 1
                    refine lv_lookup (off := 35) (tgt := 96) hx hb xd_fe_entry_61 (by decide) (by rw [c_12]; decide) (by decide) ?_
                    refine lv_aload hx hb xd_fe_entry_96 (lv_at hl 0 rfl) ?_
                    refine xg_fe_182 hC hW a.toNatClampNeg (q_lt h_5) xd_fe_entry_98 ?_
                    refine lv_iload_n hx hb xd_fe_entry_101 rfl (lv_at hl 3 rfl) ?_
                    have h_13 : vp_in b 20 := by have b1 : 0 ≤ (q_i (S 11 a.toNatClampNeg 3)).toInt ∧ (q_i (S 11 a.toNatClampNeg 3)).toInt ≤ 20 := hI 11 a.toNatClampNeg 3; simp only [vp_in_iff, Int32.lt_iff_toInt_lt, Int32.le_iff_toInt_le, q_n0, q_n1, q_n2, q_n3, q_n4, q_n5, q_n6, q_n7, q_n10, q_n14, q_n15, q_n20, q_n60, q_n1288] at c_1 c_2 c_3 c_4 c_8 c_9 ⊢; omega
                    refine xal_13 hC hW a.toNatClampNeg (q_lt h_5) h_13 (rfl) xd_fe_entry_102 ?_
                    have hf : x_fe_entry S a b d = q_i (S 13 a.toNatClampNeg b.toNatClampNeg) := by unfold x_fe_entry; rw [if_neg c_1, if_neg c_2, if_neg c_3, if_pos c_4, if_neg c_7, if_neg c_8, if_pos c_9, if_neg c_10, if_pos c_12]
                    rw [hf]
                    exact q_iret hC hr hlocks hW hS rfl rfl xd_fe_entry_103
                  · -- others
                    refine lv_lookup (off := 43) (tgt := 104) hx hb xd_fe_entry_61 (by decide) (by rw [show ((#[(0, 27), (1, 35)] : Array (Int × Int))).toList = [(0, 27), (1, 35)] from rfl, lv_osw c_10 (by decide), lv_osw c_12 (by decide)]; rfl) (by decide) ?_
                    refine lv_aload hx hb xd_fe_entry_104 (lv_at hl 0 rfl) ?_
                    refine xg_fe_185 hC hW a.toNatClampNeg (q_lt h_5) xd_fe_entry_106 ?_
                    refine lv_iload_n hx hb xd_fe_entry_109 rfl (lv_at hl 3 rfl) ?_
                    have h_14 : vp_in b 20 := by have b1 : 0 ≤ (q_i (S 11 a.toNatClampNeg 3)).toInt ∧ (q_i (S 11 a.toNatClampNeg 3)).toInt ≤ 20 := hI 11 a.toNatClampNeg 3; simp only [vp_in_iff, Int32.lt_iff_toInt_lt, Int32.le_iff_toInt_le, q_n0, q_n1, q_n2, q_n3, q_n4, q_n5, q_n6, q_n7, q_n10, q_n14, q_n15, q_n20, q_n60, q_n1288] at c_1 c_2 c_3 c_4 c_8 c_9 ⊢; omega
                    refine xal_14 hC hW a.toNatClampNeg (q_lt h_5) h_14 (rfl) xd_fe_entry_110 ?_
                    have hf : x_fe_entry S a b d = q_i (S 14 a.toNatClampNeg b.toNatClampNeg) := by unfold x_fe_entry; rw [if_neg c_1, if_neg c_2, if_neg c_3, if_pos c_4, if_neg c_7, if_neg c_8, if_pos c_9, if_neg c_10, if_neg c_12]
                    rw [hf]
                    exact q_iret hC hr hlocks hW hS rfl rfl xd_fe_entry_111
              · -- not taken
                refine lv_bipush (v := (-2)) hx hb xd_fe_entry_57 (by decide) ?_
                have hf : x_fe_entry S a b d = (-2) := by unfold x_fe_entry; rw [if_neg c_1, if_neg c_2, if_neg c_3, if_pos c_4, if_neg c_7, if_neg c_8, if_neg c_9]
                rw [hf]
                exact q_iret hC hr hlocks hW hS rfl rfl xd_fe_entry_59
        · -- not taken
          refine lv_iconst (v := (-1)) hx hb xd_fe_entry_19 (by decide) ?_
          have hf : x_fe_entry S a b d = (-1) := by unfold x_fe_entry; rw [if_neg c_1, if_neg c_2, if_neg c_3, if_neg c_4]
          rw [hf]
          exact q_iret hC hr hlocks hW hS rfl rfl xd_fe_entry_20
def x_fe_line (S : q_S) (a : Int32) : Int32 :=
  if a = (-1) then
    q_i (S 3 0 1)
  else
    if a < 0 then
      (-2)
    else
      if q_i (S 3 0 1) ≤ a then
        (-2)
      else
        q_i (S 4 0 a.toNatClampNeg)
set_option maxRecDepth 100000 in
set_option maxHeartbeats 4000000 in
theorem xC_fe_line (l : Launch) (G : q_G) (S : q_S) (a : Int32) (hI : xI S) : q_Mi xX G l xy_fe_line (q_ws (q_gw lw_tbl) xy_fe_line xb_fe_line 2 (some .int)) (q_rm 0) [.ref (q_a xX G 0 0), .int a] S (x_fe_line S a) S := by
  refine q_met (cc := xb_fe_line) (maxL := 2) (ret := (some .int)) xOk (by decide) rfl (Nat.le_of_ble_eq_true rfl) ?_
  intro p e s m below meth c ls hC hr hlocks hW hS hl
  have hx := hC.1.1
  have hb := hC.1.2.1
  have hl : lv_has ls 2 [(0, .ref (q_a xX G 0 0)), (1, .int a)] := hl
  refine lv_iload_n hx hb xd_fe_line_0 rfl (lv_at hl 1 rfl) ?_
  refine lv_iconst (v := (-1)) hx hb xd_fe_line_1 (by decide) ?_
  refine lv_icmp_ne (tgt := 13) hx hb xd_fe_line_2 (by decide) (fun c_1 => ?_) (fun c_1 => ?_)
  · -- taken
    refine lv_iload_n hx hb xd_fe_line_13 rfl (lv_at hl 1 rfl) ?_
    refine lv_if_lt (tgt := 40) hx hb xd_fe_line_14 (by decide) (fun c_2 => ?_) (fun c_2 => ?_)
    · -- taken
      refine lv_bipush (v := (-2)) hx hb xd_fe_line_40 (by decide) ?_
      have hf : x_fe_line S a = (-2) := by unfold x_fe_line; rw [if_neg c_1, if_pos c_2]
      rw [hf]
      exact q_iret hC hr hlocks hW hS rfl rfl xd_fe_line_42
    · -- not taken
      refine lv_iload_n hx hb xd_fe_line_17 rfl (lv_at hl 1 rfl) ?_
      refine lv_aload_n hx hb xd_fe_line_18 rfl (lv_at hl 0 rfl) ?_
      refine xg_fe_24 hC hW 0 Nat.one_pos xd_fe_line_19 ?_
      refine xg_fe_103 hC hW 0 Nat.one_pos (rfl) xd_fe_line_22 ?_
      refine lv_icmp_ge (tgt := 40) hx hb xd_fe_line_25 (by decide) (fun c_3 => ?_) (fun c_3 => ?_)
      · -- taken
        refine lv_bipush (v := (-2)) hx hb xd_fe_line_40 (by decide) ?_
        have hf : x_fe_line S a = (-2) := by unfold x_fe_line; rw [if_neg c_1, if_neg c_2, if_pos c_3]
        rw [hf]
        exact q_iret hC hr hlocks hW hS rfl rfl xd_fe_line_42
      · -- not taken
        refine lv_aload_n hx hb xd_fe_line_28 rfl (lv_at hl 0 rfl) ?_
        refine xg_fe_24 hC hW 0 Nat.one_pos xd_fe_line_29 ?_
        refine xg_fe_104 hC hW 0 Nat.one_pos xd_fe_line_32 ?_
        refine lv_iload_n hx hb xd_fe_line_35 rfl (lv_at hl 1 rfl) ?_
        have h_4 : vp_in a 6 := by have b1 : 0 ≤ (q_i (S 3 0 1)).toInt ∧ (q_i (S 3 0 1)).toInt ≤ 6 := hI 3 0 1; simp only [vp_in_iff, Int32.lt_iff_toInt_lt, Int32.le_iff_toInt_le, q_n0, q_n1, q_n2, q_n3, q_n4, q_n5, q_n6, q_n7, q_n10, q_n14, q_n15, q_n20, q_n60, q_n1288] at c_2 c_3 ⊢; omega
        refine xal_4 hC hW 0 Nat.one_pos h_4 (rfl) xd_fe_line_36 ?_
        refine lv_goto (tgt := 42) hx hb xd_fe_line_37 (by decide) ?_
        have hf : x_fe_line S a = q_i (S 4 0 a.toNatClampNeg) := by unfold x_fe_line; rw [if_neg c_1, if_neg c_2, if_neg c_3]
        rw [hf]
        exact q_iret hC hr hlocks hW hS rfl rfl xd_fe_line_42
  · -- not taken
    refine lv_aload_n hx hb xd_fe_line_5 rfl (lv_at hl 0 rfl) ?_
    refine xg_fe_24 hC hW 0 Nat.one_pos xd_fe_line_6 ?_
    refine xg_fe_103 hC hW 0 Nat.one_pos (rfl) xd_fe_line_9 ?_
    have hf : x_fe_line S a = q_i (S 3 0 1) := by unfold x_fe_line; rw [if_pos c_1]
    rw [hf]
    exact q_iret hC hr hlocks hW hS rfl rfl xd_fe_line_12
def x_fe_count (S : q_S) (a : Int32) : Int32 :=
  if a = 0 then
    q_i (S 0 0 3)
  else
    if a = 1 then
      x_fe_countThere S 0
    else
      if a = 2 then
        x_fe_countThere S 1
      else
        if a = 3 then
          q_i (S 0 0 4)
        else
          if a = 4 then
            q_i (S 0 0 5)
          else
            if a = 5 then
              q_i (S 0 0 6)
            else
              if a = 6 then
                q_i (S 0 0 7)
              else
                if a = 7 then
                  q_i (S 0 0 8)
                else
                  if a = 8 then
                    q_i (S 0 0 9)
                  else
                    if a = 9 then
                      q_i (S 0 0 10)
                    else
                      if x_fe_isProgram S (a - 10) = 0 then
                        (-1)
                      else
                        q_i (S 5 ((a - 10).toNatClampNeg) 3)
set_option maxRecDepth 100000 in
set_option maxHeartbeats 4000000 in
theorem xC_fe_count (l : Launch) (G : q_G) (S : q_S) (a : Int32) (hI : xI S) : q_Mi xX G l xy_fe_count (q_ws (q_gw lw_tbl) xy_fe_count xb_fe_count 2 (some .int)) (q_rm 2) [.ref (q_a xX G 0 0), .int a] S (x_fe_count S a) S := by
  refine q_met (cc := xb_fe_count) (maxL := 2) (ret := (some .int)) xOk (by decide) rfl (Nat.le_of_ble_eq_true rfl) ?_
  intro p e s m below meth c ls hC hr hlocks hW hS hl
  have hx := hC.1.1
  have hb := hC.1.2.1
  have hl : lv_has ls 2 [(0, .ref (q_a xX G 0 0)), (1, .int a)] := hl
  refine lv_iload_n hx hb xd_fe_count_0 rfl (lv_at hl 1 rfl) ?_
  by_cases c_1 : a = 0
  · -- case 0
    refine lv_tableIn (off := 55) (tgt := 56) hx hb xd_fe_count_1 (by rw [c_1]; decide) (by rw [c_1]; decide) (by rw [c_1]; decide) (by decide) ?_
    refine lv_aload_n hx hb xd_fe_count_56 rfl (lv_at hl 0 rfl) ?_
    refine xg_fe_116 hC hW 0 Nat.one_pos (rfl) xd_fe_count_57 ?_
    have hf : x_fe_count S a = q_i (S 0 0 3) := by unfold x_fe_count; rw [if_pos c_1]
    rw [hf]
    exact q_iret hC hr hlocks hW hS rfl rfl xd_fe_count_60
  · -- others
    by_cases c_2 : a = 1
    · -- case 1
      refine lv_tableIn (off := 60) (tgt := 61) hx hb xd_fe_count_1 (by rw [c_2]; decide) (by rw [c_2]; decide) (by rw [c_2]; decide) (by decide) ?_
      refine lv_aload_n hx hb xd_fe_count_61 rfl (lv_at hl 0 rfl) ?_
      refine lv_iconst (v := 0) hx hb xd_fe_count_62 (by decide) ?_
      refine q_calli hC hS (fun _ h => h) (q_runV (rest := []) hC hW (xC_fe_countThere l G S 0) (xc_fe_188 (q_rm 1) hC.1.2.2.2.2 ⟨Nat.le_of_ble_eq_true rfl, Nat.le_of_ble_eq_true rfl⟩ rfl rfl) Nat.one_pos rfl rfl rfl hl.1 rfl (Nat.le_of_ble_eq_true rfl) xd_fe_count_63 ⟨Nat.zero_le _, Nat.zero_le _⟩) (fun H locs hW hS => ?_)
      have hf : x_fe_count S a = x_fe_countThere S 0 := by unfold x_fe_count; rw [if_neg c_1, if_pos c_2]
      rw [hf]
      exact q_iret hC hr hlocks hW hS rfl rfl xd_fe_count_66
    · -- others
      by_cases c_3 : a = 2
      · -- case 2
        refine lv_tableIn (off := 66) (tgt := 67) hx hb xd_fe_count_1 (by rw [c_3]; decide) (by rw [c_3]; decide) (by rw [c_3]; decide) (by decide) ?_
        refine lv_aload_n hx hb xd_fe_count_67 rfl (lv_at hl 0 rfl) ?_
        refine lv_iconst (v := 1) hx hb xd_fe_count_68 (by decide) ?_
        refine q_calli hC hS (fun _ h => h) (q_runV (rest := []) hC hW (xC_fe_countThere l G S 1) (xc_fe_188 (q_rm 1) hC.1.2.2.2.2 ⟨Nat.le_of_ble_eq_true rfl, Nat.le_of_ble_eq_true rfl⟩ rfl rfl) Nat.one_pos rfl rfl rfl hl.1 rfl (Nat.le_of_ble_eq_true rfl) xd_fe_count_69 ⟨Nat.zero_le _, Nat.zero_le _⟩) (fun H locs hW hS => ?_)
        have hf : x_fe_count S a = x_fe_countThere S 1 := by unfold x_fe_count; rw [if_neg c_1, if_neg c_2, if_pos c_3]
        rw [hf]
        exact q_iret hC hr hlocks hW hS rfl rfl xd_fe_count_72
      · -- others
        by_cases c_4 : a = 3
        · -- case 3
          refine lv_tableIn (off := 72) (tgt := 73) hx hb xd_fe_count_1 (by rw [c_4]; decide) (by rw [c_4]; decide) (by rw [c_4]; decide) (by decide) ?_
          refine lv_aload_n hx hb xd_fe_count_73 rfl (lv_at hl 0 rfl) ?_
          refine xg_fe_192 hC hW 0 Nat.one_pos (rfl) xd_fe_count_74 ?_
          have hf : x_fe_count S a = q_i (S 0 0 4) := by unfold x_fe_count; rw [if_neg c_1, if_neg c_2, if_neg c_3, if_pos c_4]
          rw [hf]
          exact q_iret hC hr hlocks hW hS rfl rfl xd_fe_count_77
        · -- others
          by_cases c_5 : a = 4
          · -- case 4
            refine lv_tableIn (off := 77) (tgt := 78) hx hb xd_fe_count_1 (by rw [c_5]; decide) (by rw [c_5]; decide) (by rw [c_5]; decide) (by decide) ?_
            refine lv_aload_n hx hb xd_fe_count_78 rfl (lv_at hl 0 rfl) ?_
            refine xg_fe_195 hC hW 0 Nat.one_pos (rfl) xd_fe_count_79 ?_
            have hf : x_fe_count S a = q_i (S 0 0 5) := by unfold x_fe_count; rw [if_neg c_1, if_neg c_2, if_neg c_3, if_neg c_4, if_pos c_5]
            rw [hf]
            exact q_iret hC hr hlocks hW hS rfl rfl xd_fe_count_82
          · -- others
            by_cases c_6 : a = 5
            · -- case 5
              refine lv_tableIn (off := 82) (tgt := 83) hx hb xd_fe_count_1 (by rw [c_6]; decide) (by rw [c_6]; decide) (by rw [c_6]; decide) (by decide) ?_
              refine lv_aload_n hx hb xd_fe_count_83 rfl (lv_at hl 0 rfl) ?_
              refine xg_fe_198 hC hW 0 Nat.one_pos (rfl) xd_fe_count_84 ?_
              have hf : x_fe_count S a = q_i (S 0 0 6) := by unfold x_fe_count; rw [if_neg c_1, if_neg c_2, if_neg c_3, if_neg c_4, if_neg c_5, if_pos c_6]
              rw [hf]
              exact q_iret hC hr hlocks hW hS rfl rfl xd_fe_count_87
            · -- others
              by_cases c_7 : a = 6
              · -- case 6
                refine lv_tableIn (off := 87) (tgt := 88) hx hb xd_fe_count_1 (by rw [c_7]; decide) (by rw [c_7]; decide) (by rw [c_7]; decide) (by decide) ?_
                refine lv_aload_n hx hb xd_fe_count_88 rfl (lv_at hl 0 rfl) ?_
                refine xg_fe_201 hC hW 0 Nat.one_pos (rfl) xd_fe_count_89 ?_
                have hf : x_fe_count S a = q_i (S 0 0 7) := by unfold x_fe_count; rw [if_neg c_1, if_neg c_2, if_neg c_3, if_neg c_4, if_neg c_5, if_neg c_6, if_pos c_7]
                rw [hf]
                exact q_iret hC hr hlocks hW hS rfl rfl xd_fe_count_92
              · -- others
                by_cases c_8 : a = 7
                · -- case 7
                  refine lv_tableIn (off := 92) (tgt := 93) hx hb xd_fe_count_1 (by rw [c_8]; decide) (by rw [c_8]; decide) (by rw [c_8]; decide) (by decide) ?_
                  refine lv_aload_n hx hb xd_fe_count_93 rfl (lv_at hl 0 rfl) ?_
                  refine xg_fe_204 hC hW 0 Nat.one_pos (rfl) xd_fe_count_94 ?_
                  have hf : x_fe_count S a = q_i (S 0 0 8) := by unfold x_fe_count; rw [if_neg c_1, if_neg c_2, if_neg c_3, if_neg c_4, if_neg c_5, if_neg c_6, if_neg c_7, if_pos c_8]
                  rw [hf]
                  exact q_iret hC hr hlocks hW hS rfl rfl xd_fe_count_97
                · -- others
                  by_cases c_9 : a = 8
                  · -- case 8
                    refine lv_tableIn (off := 97) (tgt := 98) hx hb xd_fe_count_1 (by rw [c_9]; decide) (by rw [c_9]; decide) (by rw [c_9]; decide) (by decide) ?_
                    refine lv_aload_n hx hb xd_fe_count_98 rfl (lv_at hl 0 rfl) ?_
                    refine xg_fe_207 hC hW 0 Nat.one_pos (rfl) xd_fe_count_99 ?_
                    have hf : x_fe_count S a = q_i (S 0 0 9) := by unfold x_fe_count; rw [if_neg c_1, if_neg c_2, if_neg c_3, if_neg c_4, if_neg c_5, if_neg c_6, if_neg c_7, if_neg c_8, if_pos c_9]
                    rw [hf]
                    exact q_iret hC hr hlocks hW hS rfl rfl xd_fe_count_102
                  · -- others
                    by_cases c_10 : a = 9
                    · -- case 9
                      refine lv_tableIn (off := 102) (tgt := 103) hx hb xd_fe_count_1 (by rw [c_10]; decide) (by rw [c_10]; decide) (by rw [c_10]; decide) (by decide) ?_
                      refine lv_aload_n hx hb xd_fe_count_103 rfl (lv_at hl 0 rfl) ?_
                      refine xg_fe_210 hC hW 0 Nat.one_pos (rfl) xd_fe_count_104 ?_
                      have hf : x_fe_count S a = q_i (S 0 0 10) := by unfold x_fe_count; rw [if_neg c_1, if_neg c_2, if_neg c_3, if_neg c_4, if_neg c_5, if_neg c_6, if_neg c_7, if_neg c_8, if_neg c_9, if_pos c_10]
                      rw [hf]
                      exact q_iret hC hr hlocks hW hS rfl rfl xd_fe_count_107
                    · -- others
                      refine lv_tableOut (tgt := 108) hx hb xd_fe_count_1 (by have n0 := lv_neT c_1 (a := 0) (by decide); have n1 := lv_neT c_2 (a := 1) (by decide); have n2 := lv_neT c_3 (a := 2) (by decide); have n3 := lv_neT c_4 (a := 3) (by decide); have n4 := lv_neT c_5 (a := 4) (by decide); have n5 := lv_neT c_6 (a := 5) (by decide); have n6 := lv_neT c_7 (a := 6) (by decide); have n7 := lv_neT c_8 (a := 7) (by decide); have n8 := lv_neT c_9 (a := 8) (by decide); have n9 := lv_neT c_10 (a := 9) (by decide); omega) (by decide) ?_
                      refine lv_iload_n hx hb xd_fe_count_108 rfl (lv_at hl 1 rfl) ?_
                      refine lv_bipush (v := 10) hx hb xd_fe_count_109 (by decide) ?_
                      refine lv_isub hx hb xd_fe_count_111 ?_
                      refine q_calli hC hS (fun _ h => h) (q_runS (rest := []) hC hW (xC_fe_isProgram l G S (a - 10)) (xc_fe_32 (q_rm 0) hC.1.2.2.2.2 ⟨Nat.le_of_ble_eq_true rfl, Nat.le_of_ble_eq_true rfl⟩ rfl rfl) rfl hl.1 rfl (Nat.le_of_ble_eq_true rfl) xd_fe_count_112 ⟨Nat.zero_le _, Nat.zero_le _⟩) (fun H locs hW hS => ?_)
                      refine lv_if_eq (tgt := 133) hx hb xd_fe_count_115 (by decide) (fun c_11 => ?_) (fun c_11 => ?_)
                      · -- taken
                        refine lv_iconst (v := (-1)) hx hb xd_fe_count_133 (by decide) ?_
                        have hf : x_fe_count S a = (-1) := by unfold x_fe_count; rw [if_neg c_1, if_neg c_2, if_neg c_3, if_neg c_4, if_neg c_5, if_neg c_6, if_neg c_7, if_neg c_8, if_neg c_9, if_neg c_10, if_pos c_11]
                        rw [hf]
                        exact q_iret hC hr hlocks hW hS rfl rfl xd_fe_count_134
                      · -- not taken
                        refine lv_aload_n hx hb xd_fe_count_118 rfl (lv_at hl 0 rfl) ?_
                        refine xg_fe_11 hC hW 0 Nat.one_pos xd_fe_count_119 ?_
                        refine lv_iload_n hx hb xd_fe_count_122 rfl (lv_at hl 1 rfl) ?_
                        refine lv_bipush (v := 10) hx hb xd_fe_count_123 (by decide) ?_
                        refine lv_isub hx hb xd_fe_count_125 ?_
                        have h_12 : vp_in (a - 10) 3 := by obtain ⟨f_c_11_0, f_c_11_1⟩ := xF_isP c_11; simp only [vp_in_iff, Int32.lt_iff_toInt_lt, Int32.le_iff_toInt_le, q_n0, q_n1, q_n2, q_n3, q_n4, q_n5, q_n6, q_n7, q_n10, q_n14, q_n15, q_n20, q_n60, q_n1288] at f_c_11_0 f_c_11_1 ⊢; omega
                        refine xal_1 hC hW 0 Nat.one_pos h_12 xd_fe_count_126 ?_
                        refine xg_fe_40 hC hW ((a - 10).toNatClampNeg) (q_lt h_12) (rfl) xd_fe_count_127 ?_
                        refine lv_goto (tgt := 134) hx hb xd_fe_count_130 (by decide) ?_
                        have hf : x_fe_count S a = q_i (S 5 ((a - 10).toNatClampNeg) 3) := by unfold x_fe_count; rw [if_neg c_1, if_neg c_2, if_neg c_3, if_neg c_4, if_neg c_5, if_neg c_6, if_neg c_7, if_neg c_8, if_neg c_9, if_neg c_10, if_neg c_11]
                        rw [hf]
                        exact q_iret hC hr hlocks hW hS rfl rfl xd_fe_count_134
