def m_fm_in (S : q_S) (a b d : Int32) : Int32 :=
  if a < b then
    0
  else
    if d < a then
      0
    else
      1
set_option maxRecDepth 100000 in
set_option maxHeartbeats 4000000 in
theorem mC_fm_in (l : Launch) (G : q_G) (S : q_S) (a b d : Int32)  : q_Mi mX G l my_fm_in (q_ws (q_gw lw_tbl) my_fm_in mb_fm_in 3 (some .boolean)) (q_rm 0) [.int a, .int b, .int d] S (m_fm_in S a b d) S := by
  refine q_met (cc := mb_fm_in) (maxL := 3) (ret := (some .boolean)) mOk (by decide) rfl (Nat.le_of_ble_eq_true rfl) ?_
  intro p e s m below meth c ls hC hr hlocks hW hS hl
  have hx := hC.1.1
  have hb := hC.1.2.1
  have hl : lv_has ls 3 [(0, .int a), (1, .int b), (2, .int d)] := hl
  refine lv_iload_n hx hb md_fm_in_0 rfl (lv_at hl 0 rfl) ?_
  refine lv_iload_n hx hb md_fm_in_1 rfl (lv_at hl 1 rfl) ?_
  refine lv_icmp_lt (tgt := 14) hx hb md_fm_in_2 (by decide) (fun c_1 => ?_) (fun c_1 => ?_)
  · -- taken
    refine lv_iconst (v := 0) hx hb md_fm_in_14 (by decide) ?_
    have hf : m_fm_in S a b d = 0 := by unfold m_fm_in; rw [if_pos c_1]
    rw [hf]
    exact q_zret hC hr hlocks hW hS (by decide) rfl rfl md_fm_in_15
  · -- not taken
    refine lv_iload_n hx hb md_fm_in_5 rfl (lv_at hl 0 rfl) ?_
    refine lv_iload_n hx hb md_fm_in_6 rfl (lv_at hl 2 rfl) ?_
    refine lv_icmp_gt (tgt := 14) hx hb md_fm_in_7 (by decide) (fun c_2 => ?_) (fun c_2 => ?_)
    · -- taken
      refine lv_iconst (v := 0) hx hb md_fm_in_14 (by decide) ?_
      have hf : m_fm_in S a b d = 0 := by unfold m_fm_in; rw [if_neg c_1, if_pos c_2]
      rw [hf]
      exact q_zret hC hr hlocks hW hS (by decide) rfl rfl md_fm_in_15
    · -- not taken
      refine lv_iconst (v := 1) hx hb md_fm_in_10 (by decide) ?_
      refine lv_goto (tgt := 15) hx hb md_fm_in_11 (by decide) ?_
      have hf : m_fm_in S a b d = 1 := by unfold m_fm_in; rw [if_neg c_1, if_neg c_2]
      rw [hf]
      exact q_zret hC hr hlocks hW hS (by decide) rfl rfl md_fm_in_15
theorem mF_in {S : q_S} {a b d : Int32} (h : ¬ m_fm_in S a b d = 0) : ¬ a < b ∧ ¬ d < a := by
  unfold m_fm_in at h
  split at h
  · exact absurd rfl h
  · split at h
    · exact absurd rfl h
    · exact ⟨by assumption, by assumption⟩
theorem mN_in {S : q_S} {a b d : Int32} : narrow .boolean (.int (m_fm_in S a b d)) = .int (m_fm_in S a b d) := by
  unfold m_fm_in
  repeat' split
  all_goals decide
def m_fm_hasEnded (S : q_S) (i : Nat) : Int32 :=
  if q_i (S 10 0 i) < 5 then
    0
  else
    1
set_option maxRecDepth 100000 in
set_option maxHeartbeats 4000000 in
theorem mC_fm_hasEnded (l : Launch) (G : q_G) (S : q_S) (i : Nat) (hi : i < 6) : q_Mi mX G l my_fm_hasEnded (q_ws (q_gw lw_tbl) my_fm_hasEnded mb_fm_hasEnded 2 (some .boolean)) (q_rm 0) [.ref (q_a mX G 0 0), .int (nI i)] S (m_fm_hasEnded S i) S := by
  refine q_met (cc := mb_fm_hasEnded) (maxL := 2) (ret := (some .boolean)) mOk (by decide) rfl (Nat.le_of_ble_eq_true rfl) ?_
  intro p e s m below meth c ls hC hr hlocks hW hS hl
  have hx := hC.1.1
  have hb := hC.1.2.1
  have hl : lv_has ls 2 [(0, .ref (q_a mX G 0 0)), (1, .int (nI i))] := hl
  refine lv_aload_n hx hb md_fm_hasEnded_0 rfl (lv_at hl 0 rfl) ?_
  refine mg_fm_38 hC hW 0 Nat.one_pos md_fm_hasEnded_1 ?_
  refine lv_iload_n hx hb md_fm_hasEnded_4 rfl (lv_at hl 1 rfl) ?_
  have h_1 : vp_in (nI i) 6 := by have l1 := nI_toInt (n := i) (by omega); rw [vp_in_iff]; omega
  have s_2 : (nI i).toNatClampNeg = i := by have l1 := nI_toInt (n := i) (by omega); apply q_tn; omega
  refine male_10 hC hW h_1 s_2 (rfl) md_fm_hasEnded_5 ?_
  refine lv_iconst (v := 5) hx hb md_fm_hasEnded_6 (by decide) ?_
  refine lv_icmp_lt (tgt := 14) hx hb md_fm_hasEnded_7 (by decide) (fun c_3 => ?_) (fun c_3 => ?_)
  · -- taken
    refine lv_iconst (v := 0) hx hb md_fm_hasEnded_14 (by decide) ?_
    have hf : m_fm_hasEnded S i = 0 := by unfold m_fm_hasEnded; rw [if_pos c_3]
    rw [hf]
    exact q_zret hC hr hlocks hW hS (by decide) rfl rfl md_fm_hasEnded_15
  · -- not taken
    refine lv_iconst (v := 1) hx hb md_fm_hasEnded_10 (by decide) ?_
    refine lv_goto (tgt := 15) hx hb md_fm_hasEnded_11 (by decide) ?_
    have hf : m_fm_hasEnded S i = 1 := by unfold m_fm_hasEnded; rw [if_neg c_3]
    rw [hf]
    exact q_zret hC hr hlocks hW hS (by decide) rfl rfl md_fm_hasEnded_15
def m_fm_left (S : q_S) (i : Nat) : Int32 :=
  (q_i (S 15 0 i)) - (q_i (S 16 0 i))
set_option maxRecDepth 100000 in
set_option maxHeartbeats 4000000 in
theorem mC_fm_left (l : Launch) (G : q_G) (S : q_S) (i : Nat) (hi : i < 6) : q_Mi mX G l my_fm_left (q_ws (q_gw lw_tbl) my_fm_left mb_fm_left 2 (some .int)) (q_rm 0) [.ref (q_a mX G 0 0), .int (nI i)] S (m_fm_left S i) S := by
  refine q_met (cc := mb_fm_left) (maxL := 2) (ret := (some .int)) mOk (by decide) rfl (Nat.le_of_ble_eq_true rfl) ?_
  intro p e s m below meth c ls hC hr hlocks hW hS hl
  have hx := hC.1.1
  have hb := hC.1.2.1
  have hl : lv_has ls 2 [(0, .ref (q_a mX G 0 0)), (1, .int (nI i))] := hl
  refine lv_aload_n hx hb md_fm_left_0 rfl (lv_at hl 0 rfl) ?_
  refine mg_fm_53 hC hW 0 Nat.one_pos md_fm_left_1 ?_
  refine lv_iload_n hx hb md_fm_left_4 rfl (lv_at hl 1 rfl) ?_
  have h_1 : vp_in (nI i) 6 := by have l1 := nI_toInt (n := i) (by omega); rw [vp_in_iff]; omega
  have s_2 : (nI i).toNatClampNeg = i := by have l1 := nI_toInt (n := i) (by omega); apply q_tn; omega
  refine male_15 hC hW h_1 s_2 (rfl) md_fm_left_5 ?_
  refine lv_aload_n hx hb md_fm_left_6 rfl (lv_at hl 0 rfl) ?_
  refine mg_fm_56 hC hW 0 Nat.one_pos md_fm_left_7 ?_
  refine lv_iload_n hx hb md_fm_left_10 rfl (lv_at hl 1 rfl) ?_
  have h_3 : vp_in (nI i) 6 := by have l1 := nI_toInt (n := i) (by omega); rw [vp_in_iff]; omega
  have s_4 : (nI i).toNatClampNeg = i := by have l1 := nI_toInt (n := i) (by omega); apply q_tn; omega
  refine male_16 hC hW h_3 s_4 (rfl) md_fm_left_11 ?_
  refine lv_isub hx hb md_fm_left_12 ?_
  have hf : m_fm_left S i = (q_i (S 15 0 i)) - (q_i (S 16 0 i)) := by unfold m_fm_left; rfl
  rw [hf]
  exact q_iret hC hr hlocks hW hS rfl rfl md_fm_left_13
def m_fm_isThere (S : q_S) (a : Int32) : Int32 :=
  if m_fm_in S a 0 5 = 0 then
    0
  else
    if q_i (S 5 0 a.toNatClampNeg) = 0 then
      0
    else
      1
set_option maxRecDepth 100000 in
set_option maxHeartbeats 4000000 in
theorem mC_fm_isThere (l : Launch) (G : q_G) (S : q_S) (a : Int32)  : q_Mi mX G l my_fm_isThere (q_ws (q_gw lw_tbl) my_fm_isThere mb_fm_isThere 2 (some .boolean)) (q_rm 1) [.ref (q_a mX G 0 0), .int a] S (m_fm_isThere S a) S := by
  refine q_met (cc := mb_fm_isThere) (maxL := 2) (ret := (some .boolean)) mOk (by decide) rfl (Nat.le_of_ble_eq_true rfl) ?_
  intro p e s m below meth c ls hC hr hlocks hW hS hl
  have hx := hC.1.1
  have hb := hC.1.2.1
  have hl : lv_has ls 2 [(0, .ref (q_a mX G 0 0)), (1, .int a)] := hl
  refine lv_iload_n hx hb md_fm_isThere_0 rfl (lv_at hl 1 rfl) ?_
  refine lv_iconst (v := 0) hx hb md_fm_isThere_1 (by decide) ?_
  refine lv_iconst (v := 5) hx hb md_fm_isThere_2 (by decide) ?_
  refine q_calli hC hS (fun _ h => h) (q_runS (rest := []) hC hW (mC_fm_in l G S a 0 5) (mc_fm_111 (q_rm 0) hC.1.2.2.2.2 ⟨Nat.le_of_ble_eq_true rfl, Nat.le_of_ble_eq_true rfl⟩ rfl rfl) rfl hl.1 rfl (Nat.le_of_ble_eq_true rfl) md_fm_isThere_3 ⟨Nat.zero_le _, Nat.zero_le _⟩) (fun H locs hW hS => ?_)
  refine lv_if_eq (tgt := 22) hx hb md_fm_isThere_6 (by decide) (fun c_1 => ?_) (fun c_1 => ?_)
  · -- taken
    refine lv_iconst (v := 0) hx hb md_fm_isThere_22 (by decide) ?_
    have hf : m_fm_isThere S a = 0 := by unfold m_fm_isThere; rw [if_pos c_1]
    rw [hf]
    exact q_zret hC hr hlocks hW hS (by decide) rfl rfl md_fm_isThere_23
  · -- not taken
    refine lv_aload_n hx hb md_fm_isThere_9 rfl (lv_at hl 0 rfl) ?_
    refine mg_fm_22 hC hW 0 Nat.one_pos md_fm_isThere_10 ?_
    refine lv_iload_n hx hb md_fm_isThere_13 rfl (lv_at hl 1 rfl) ?_
    have h_2 : vp_in a 6 := by obtain ⟨f_c_1_0, f_c_1_1⟩ := mF_in c_1; simp only [Int32.lt_iff_toInt_lt, Int32.le_iff_toInt_le, q_n0, q_n1, q_n2, q_n3, q_n4, q_n5, q_n6, q_n7, q_n8, q_n9, q_n10, q_n11, q_n12, q_n13, q_n14, q_n15, q_n20, q_n60, q_n1288] at f_c_1_0 f_c_1_1; have l1 : (0 : Int32).toInt = 0 := rfl; have l2 : (5 : Int32).toInt = 5 := rfl; rw [vp_in_iff]; omega
    refine male_5 hC hW h_2 rfl (rfl) md_fm_isThere_14 ?_
    refine lv_if_eq (tgt := 22) hx hb md_fm_isThere_15 (by decide) (fun c_3 => ?_) (fun c_3 => ?_)
    · -- taken
      refine lv_iconst (v := 0) hx hb md_fm_isThere_22 (by decide) ?_
      have hf : m_fm_isThere S a = 0 := by unfold m_fm_isThere; rw [if_neg c_1, if_pos c_3]
      rw [hf]
      exact q_zret hC hr hlocks hW hS (by decide) rfl rfl md_fm_isThere_23
    · -- not taken
      refine lv_iconst (v := 1) hx hb md_fm_isThere_18 (by decide) ?_
      refine lv_goto (tgt := 23) hx hb md_fm_isThere_19 (by decide) ?_
      have hf : m_fm_isThere S a = 1 := by unfold m_fm_isThere; rw [if_neg c_1, if_neg c_3]
      rw [hf]
      exact q_zret hC hr hlocks hW hS (by decide) rfl rfl md_fm_isThere_23
def m_fm_isGood (S : q_S) (a b d : Int32) : Int32 :=
  if a = 0 then
    m_fm_in S b 0 3
  else
    if a = 1 then
      if m_fm_in S b 0 3 = 0 then
        0
      else
        if m_fm_in S d 0 3 = 0 then
          0
        else
          1
    else
      if a = 2 then
        if m_fm_in S b 0 3 = 0 then
          0
        else
          if m_fm_in S d 0 3 = 0 then
            0
          else
            1
      else
        if a = 3 then
          m_fm_in S b 0 14
        else
          if a = 4 then
            if m_fm_in S b 0 3 = 0 then
              0
            else
              if m_fm_in S d 0 14 = 0 then
                0
              else
                1
          else
            if a = 5 then
              if m_fm_in S b 0 3 = 0 then
                0
              else
                if m_fm_in S d 0 3 = 0 then
                  0
                else
                  1
            else
              if a = 6 then
                m_fm_in S b 0 3
              else
                if a = 7 then
                  if m_fm_in S b 0 3 = 0 then
                    0
                  else
                    if m_fm_in S d 0 3 = 0 then
                      0
                    else
                      1
                else
                  if a = 8 then
                    if m_fm_in S b 0 3 = 0 then
                      0
                    else
                      if m_fm_in S d 0 3 = 0 then
                        0
                      else
                        1
                  else
                    if a = 9 then
                      if a = 9 then
                        1
                      else
                        0
                    else
                      if a = 10 then
                        m_fm_in S b 0 3
                      else
                        if a = 9 then
                          1
                        else
                          0
set_option maxRecDepth 100000 in
set_option maxHeartbeats 4000000 in
theorem mC_fm_isGood (l : Launch) (G : q_G) (S : q_S) (a b d : Int32)  : q_Mi mX G l my_fm_isGood (q_ws (q_gw lw_tbl) my_fm_isGood mb_fm_isGood 3 (some .boolean)) (q_rm 1) [.int a, .int b, .int d] S (m_fm_isGood S a b d) S := by
  refine q_met (cc := mb_fm_isGood) (maxL := 3) (ret := (some .boolean)) mOk (by decide) rfl (Nat.le_of_ble_eq_true rfl) ?_
  intro p e s m below meth c ls hC hr hlocks hW hS hl
  have hx := hC.1.1
  have hb := hC.1.2.1
  have hl : lv_has ls 3 [(0, .int a), (1, .int b), (2, .int d)] := hl
  refine lv_iload_n hx hb md_fm_isGood_0 rfl (lv_at hl 0 rfl) ?_
  by_cases c_1 : a = 0
  · -- case 0
    refine lv_tableIn (off := 59) (tgt := 60) hx hb md_fm_isGood_1 (by rw [c_1]; decide) (by rw [c_1]; decide) (by rw [c_1]; decide) (by decide) ?_
    refine lv_iload_n hx hb md_fm_isGood_60 rfl (lv_at hl 1 rfl) ?_
    refine lv_iconst (v := 0) hx hb md_fm_isGood_61 (by decide) ?_
    refine lv_iconst (v := 3) hx hb md_fm_isGood_62 (by decide) ?_
    refine q_calli hC hS (fun _ h => h) (q_runS (rest := []) hC hW (mC_fm_in l G S b 0 3) (mc_fm_111 (q_rm 0) hC.1.2.2.2.2 ⟨Nat.le_of_ble_eq_true rfl, Nat.le_of_ble_eq_true rfl⟩ rfl rfl) rfl hl.1 rfl (Nat.le_of_ble_eq_true rfl) md_fm_isGood_63 ⟨Nat.zero_le _, Nat.zero_le _⟩) (fun H locs hW hS => ?_)
    have hf : m_fm_isGood S a b d = m_fm_in S b 0 3 := by unfold m_fm_isGood; rw [if_pos c_1]
    rw [hf]
    exact q_zret hC hr hlocks hW hS mN_in rfl rfl md_fm_isGood_66
  · -- others
    by_cases c_2 : a = 1
    · -- case 1
      refine lv_tableIn (off := 66) (tgt := 67) hx hb md_fm_isGood_1 (by rw [c_2]; decide) (by rw [c_2]; decide) (by rw [c_2]; decide) (by decide) ?_
      refine lv_iload_n hx hb md_fm_isGood_67 rfl (lv_at hl 1 rfl) ?_
      refine lv_iconst (v := 0) hx hb md_fm_isGood_68 (by decide) ?_
      refine lv_iconst (v := 3) hx hb md_fm_isGood_69 (by decide) ?_
      refine q_calli hC hS (fun _ h => h) (q_runS (rest := []) hC hW (mC_fm_in l G S b 0 3) (mc_fm_111 (q_rm 0) hC.1.2.2.2.2 ⟨Nat.le_of_ble_eq_true rfl, Nat.le_of_ble_eq_true rfl⟩ rfl rfl) rfl hl.1 rfl (Nat.le_of_ble_eq_true rfl) md_fm_isGood_70 ⟨Nat.zero_le _, Nat.zero_le _⟩) (fun H locs hW hS => ?_)
      refine lv_if_eq (tgt := 89) hx hb md_fm_isGood_73 (by decide) (fun c_3 => ?_) (fun c_3 => ?_)
      · -- taken
        refine lv_iconst (v := 0) hx hb md_fm_isGood_89 (by decide) ?_
        have hf : m_fm_isGood S a b d = 0 := by unfold m_fm_isGood; rw [if_neg c_1, if_pos c_2, if_pos c_3]
        rw [hf]
        exact q_zret hC hr hlocks hW hS (by decide) rfl rfl md_fm_isGood_90
      · -- not taken
        refine lv_iload_n hx hb md_fm_isGood_76 rfl (lv_at hl 2 rfl) ?_
        refine lv_iconst (v := 0) hx hb md_fm_isGood_77 (by decide) ?_
        refine lv_iconst (v := 3) hx hb md_fm_isGood_78 (by decide) ?_
        refine q_calli hC hS (fun _ h => h) (q_runS (rest := []) hC hW (mC_fm_in l G S d 0 3) (mc_fm_111 (q_rm 0) hC.1.2.2.2.2 ⟨Nat.le_of_ble_eq_true rfl, Nat.le_of_ble_eq_true rfl⟩ rfl rfl) rfl hl.1 rfl (Nat.le_of_ble_eq_true rfl) md_fm_isGood_79 ⟨Nat.zero_le _, Nat.zero_le _⟩) (fun H locs hW hS => ?_)
        refine lv_if_eq (tgt := 89) hx hb md_fm_isGood_82 (by decide) (fun c_4 => ?_) (fun c_4 => ?_)
        · -- taken
          refine lv_iconst (v := 0) hx hb md_fm_isGood_89 (by decide) ?_
          have hf : m_fm_isGood S a b d = 0 := by unfold m_fm_isGood; rw [if_neg c_1, if_pos c_2, if_neg c_3, if_pos c_4]
          rw [hf]
          exact q_zret hC hr hlocks hW hS (by decide) rfl rfl md_fm_isGood_90
        · -- not taken
          refine lv_iconst (v := 1) hx hb md_fm_isGood_85 (by decide) ?_
          refine lv_goto (tgt := 90) hx hb md_fm_isGood_86 (by decide) ?_
          have hf : m_fm_isGood S a b d = 1 := by unfold m_fm_isGood; rw [if_neg c_1, if_pos c_2, if_neg c_3, if_neg c_4]
          rw [hf]
          exact q_zret hC hr hlocks hW hS (by decide) rfl rfl md_fm_isGood_90
    · -- others
      by_cases c_5 : a = 2
      · -- case 2
        refine lv_tableIn (off := 66) (tgt := 67) hx hb md_fm_isGood_1 (by rw [c_5]; decide) (by rw [c_5]; decide) (by rw [c_5]; decide) (by decide) ?_
        refine lv_iload_n hx hb md_fm_isGood_67 rfl (lv_at hl 1 rfl) ?_
        refine lv_iconst (v := 0) hx hb md_fm_isGood_68 (by decide) ?_
        refine lv_iconst (v := 3) hx hb md_fm_isGood_69 (by decide) ?_
        refine q_calli hC hS (fun _ h => h) (q_runS (rest := []) hC hW (mC_fm_in l G S b 0 3) (mc_fm_111 (q_rm 0) hC.1.2.2.2.2 ⟨Nat.le_of_ble_eq_true rfl, Nat.le_of_ble_eq_true rfl⟩ rfl rfl) rfl hl.1 rfl (Nat.le_of_ble_eq_true rfl) md_fm_isGood_70 ⟨Nat.zero_le _, Nat.zero_le _⟩) (fun H locs hW hS => ?_)
        refine lv_if_eq (tgt := 89) hx hb md_fm_isGood_73 (by decide) (fun c_6 => ?_) (fun c_6 => ?_)
        · -- taken
          refine lv_iconst (v := 0) hx hb md_fm_isGood_89 (by decide) ?_
          have hf : m_fm_isGood S a b d = 0 := by unfold m_fm_isGood; rw [if_neg c_1, if_neg c_2, if_pos c_5, if_pos c_6]
          rw [hf]
          exact q_zret hC hr hlocks hW hS (by decide) rfl rfl md_fm_isGood_90
        · -- not taken
          refine lv_iload_n hx hb md_fm_isGood_76 rfl (lv_at hl 2 rfl) ?_
          refine lv_iconst (v := 0) hx hb md_fm_isGood_77 (by decide) ?_
          refine lv_iconst (v := 3) hx hb md_fm_isGood_78 (by decide) ?_
          refine q_calli hC hS (fun _ h => h) (q_runS (rest := []) hC hW (mC_fm_in l G S d 0 3) (mc_fm_111 (q_rm 0) hC.1.2.2.2.2 ⟨Nat.le_of_ble_eq_true rfl, Nat.le_of_ble_eq_true rfl⟩ rfl rfl) rfl hl.1 rfl (Nat.le_of_ble_eq_true rfl) md_fm_isGood_79 ⟨Nat.zero_le _, Nat.zero_le _⟩) (fun H locs hW hS => ?_)
          refine lv_if_eq (tgt := 89) hx hb md_fm_isGood_82 (by decide) (fun c_7 => ?_) (fun c_7 => ?_)
          · -- taken
            refine lv_iconst (v := 0) hx hb md_fm_isGood_89 (by decide) ?_
            have hf : m_fm_isGood S a b d = 0 := by unfold m_fm_isGood; rw [if_neg c_1, if_neg c_2, if_pos c_5, if_neg c_6, if_pos c_7]
            rw [hf]
            exact q_zret hC hr hlocks hW hS (by decide) rfl rfl md_fm_isGood_90
          · -- not taken
            refine lv_iconst (v := 1) hx hb md_fm_isGood_85 (by decide) ?_
            refine lv_goto (tgt := 90) hx hb md_fm_isGood_86 (by decide) ?_
            have hf : m_fm_isGood S a b d = 1 := by unfold m_fm_isGood; rw [if_neg c_1, if_neg c_2, if_pos c_5, if_neg c_6, if_neg c_7]
            rw [hf]
            exact q_zret hC hr hlocks hW hS (by decide) rfl rfl md_fm_isGood_90
      · -- others
        by_cases c_8 : a = 3
        · -- case 3
          refine lv_tableIn (off := 90) (tgt := 91) hx hb md_fm_isGood_1 (by rw [c_8]; decide) (by rw [c_8]; decide) (by rw [c_8]; decide) (by decide) ?_
          refine lv_iload_n hx hb md_fm_isGood_91 rfl (lv_at hl 1 rfl) ?_
          refine lv_iconst (v := 0) hx hb md_fm_isGood_92 (by decide) ?_
          refine lv_bipush (v := 14) hx hb md_fm_isGood_93 (by decide) ?_
          refine q_calli hC hS (fun _ h => h) (q_runS (rest := []) hC hW (mC_fm_in l G S b 0 14) (mc_fm_111 (q_rm 0) hC.1.2.2.2.2 ⟨Nat.le_of_ble_eq_true rfl, Nat.le_of_ble_eq_true rfl⟩ rfl rfl) rfl hl.1 rfl (Nat.le_of_ble_eq_true rfl) md_fm_isGood_95 ⟨Nat.zero_le _, Nat.zero_le _⟩) (fun H locs hW hS => ?_)
          have hf : m_fm_isGood S a b d = m_fm_in S b 0 14 := by unfold m_fm_isGood; rw [if_neg c_1, if_neg c_2, if_neg c_5, if_pos c_8]
          rw [hf]
          exact q_zret hC hr hlocks hW hS mN_in rfl rfl md_fm_isGood_98
        · -- others
          by_cases c_9 : a = 4
          · -- case 4
            refine lv_tableIn (off := 98) (tgt := 99) hx hb md_fm_isGood_1 (by rw [c_9]; decide) (by rw [c_9]; decide) (by rw [c_9]; decide) (by decide) ?_
            refine lv_iload_n hx hb md_fm_isGood_99 rfl (lv_at hl 1 rfl) ?_
            refine lv_iconst (v := 0) hx hb md_fm_isGood_100 (by decide) ?_
            refine lv_iconst (v := 3) hx hb md_fm_isGood_101 (by decide) ?_
            refine q_calli hC hS (fun _ h => h) (q_runS (rest := []) hC hW (mC_fm_in l G S b 0 3) (mc_fm_111 (q_rm 0) hC.1.2.2.2.2 ⟨Nat.le_of_ble_eq_true rfl, Nat.le_of_ble_eq_true rfl⟩ rfl rfl) rfl hl.1 rfl (Nat.le_of_ble_eq_true rfl) md_fm_isGood_102 ⟨Nat.zero_le _, Nat.zero_le _⟩) (fun H locs hW hS => ?_)
            refine lv_if_eq (tgt := 122) hx hb md_fm_isGood_105 (by decide) (fun c_10 => ?_) (fun c_10 => ?_)
            · -- taken
              refine lv_iconst (v := 0) hx hb md_fm_isGood_122 (by decide) ?_
              have hf : m_fm_isGood S a b d = 0 := by unfold m_fm_isGood; rw [if_neg c_1, if_neg c_2, if_neg c_5, if_neg c_8, if_pos c_9, if_pos c_10]
              rw [hf]
              exact q_zret hC hr hlocks hW hS (by decide) rfl rfl md_fm_isGood_123
            · -- not taken
              refine lv_iload_n hx hb md_fm_isGood_108 rfl (lv_at hl 2 rfl) ?_
              refine lv_iconst (v := 0) hx hb md_fm_isGood_109 (by decide) ?_
              refine lv_bipush (v := 14) hx hb md_fm_isGood_110 (by decide) ?_
              refine q_calli hC hS (fun _ h => h) (q_runS (rest := []) hC hW (mC_fm_in l G S d 0 14) (mc_fm_111 (q_rm 0) hC.1.2.2.2.2 ⟨Nat.le_of_ble_eq_true rfl, Nat.le_of_ble_eq_true rfl⟩ rfl rfl) rfl hl.1 rfl (Nat.le_of_ble_eq_true rfl) md_fm_isGood_112 ⟨Nat.zero_le _, Nat.zero_le _⟩) (fun H locs hW hS => ?_)
              refine lv_if_eq (tgt := 122) hx hb md_fm_isGood_115 (by decide) (fun c_11 => ?_) (fun c_11 => ?_)
              · -- taken
                refine lv_iconst (v := 0) hx hb md_fm_isGood_122 (by decide) ?_
                have hf : m_fm_isGood S a b d = 0 := by unfold m_fm_isGood; rw [if_neg c_1, if_neg c_2, if_neg c_5, if_neg c_8, if_pos c_9, if_neg c_10, if_pos c_11]
                rw [hf]
                exact q_zret hC hr hlocks hW hS (by decide) rfl rfl md_fm_isGood_123
              · -- not taken
                refine lv_iconst (v := 1) hx hb md_fm_isGood_118 (by decide) ?_
                refine lv_goto (tgt := 123) hx hb md_fm_isGood_119 (by decide) ?_
                have hf : m_fm_isGood S a b d = 1 := by unfold m_fm_isGood; rw [if_neg c_1, if_neg c_2, if_neg c_5, if_neg c_8, if_pos c_9, if_neg c_10, if_neg c_11]
                rw [hf]
                exact q_zret hC hr hlocks hW hS (by decide) rfl rfl md_fm_isGood_123
          · -- others
            by_cases c_12 : a = 5
            · -- case 5
              refine lv_tableIn (off := 66) (tgt := 67) hx hb md_fm_isGood_1 (by rw [c_12]; decide) (by rw [c_12]; decide) (by rw [c_12]; decide) (by decide) ?_
              refine lv_iload_n hx hb md_fm_isGood_67 rfl (lv_at hl 1 rfl) ?_
              refine lv_iconst (v := 0) hx hb md_fm_isGood_68 (by decide) ?_
              refine lv_iconst (v := 3) hx hb md_fm_isGood_69 (by decide) ?_
              refine q_calli hC hS (fun _ h => h) (q_runS (rest := []) hC hW (mC_fm_in l G S b 0 3) (mc_fm_111 (q_rm 0) hC.1.2.2.2.2 ⟨Nat.le_of_ble_eq_true rfl, Nat.le_of_ble_eq_true rfl⟩ rfl rfl) rfl hl.1 rfl (Nat.le_of_ble_eq_true rfl) md_fm_isGood_70 ⟨Nat.zero_le _, Nat.zero_le _⟩) (fun H locs hW hS => ?_)
              refine lv_if_eq (tgt := 89) hx hb md_fm_isGood_73 (by decide) (fun c_13 => ?_) (fun c_13 => ?_)
              · -- taken
                refine lv_iconst (v := 0) hx hb md_fm_isGood_89 (by decide) ?_
                have hf : m_fm_isGood S a b d = 0 := by unfold m_fm_isGood; rw [if_neg c_1, if_neg c_2, if_neg c_5, if_neg c_8, if_neg c_9, if_pos c_12, if_pos c_13]
                rw [hf]
                exact q_zret hC hr hlocks hW hS (by decide) rfl rfl md_fm_isGood_90
              · -- not taken
                refine lv_iload_n hx hb md_fm_isGood_76 rfl (lv_at hl 2 rfl) ?_
                refine lv_iconst (v := 0) hx hb md_fm_isGood_77 (by decide) ?_
                refine lv_iconst (v := 3) hx hb md_fm_isGood_78 (by decide) ?_
                refine q_calli hC hS (fun _ h => h) (q_runS (rest := []) hC hW (mC_fm_in l G S d 0 3) (mc_fm_111 (q_rm 0) hC.1.2.2.2.2 ⟨Nat.le_of_ble_eq_true rfl, Nat.le_of_ble_eq_true rfl⟩ rfl rfl) rfl hl.1 rfl (Nat.le_of_ble_eq_true rfl) md_fm_isGood_79 ⟨Nat.zero_le _, Nat.zero_le _⟩) (fun H locs hW hS => ?_)
                refine lv_if_eq (tgt := 89) hx hb md_fm_isGood_82 (by decide) (fun c_14 => ?_) (fun c_14 => ?_)
                · -- taken
                  refine lv_iconst (v := 0) hx hb md_fm_isGood_89 (by decide) ?_
                  have hf : m_fm_isGood S a b d = 0 := by unfold m_fm_isGood; rw [if_neg c_1, if_neg c_2, if_neg c_5, if_neg c_8, if_neg c_9, if_pos c_12, if_neg c_13, if_pos c_14]
                  rw [hf]
                  exact q_zret hC hr hlocks hW hS (by decide) rfl rfl md_fm_isGood_90
                · -- not taken
                  refine lv_iconst (v := 1) hx hb md_fm_isGood_85 (by decide) ?_
                  refine lv_goto (tgt := 90) hx hb md_fm_isGood_86 (by decide) ?_
                  have hf : m_fm_isGood S a b d = 1 := by unfold m_fm_isGood; rw [if_neg c_1, if_neg c_2, if_neg c_5, if_neg c_8, if_neg c_9, if_pos c_12, if_neg c_13, if_neg c_14]
                  rw [hf]
                  exact q_zret hC hr hlocks hW hS (by decide) rfl rfl md_fm_isGood_90
            · -- others
              by_cases c_15 : a = 6
              · -- case 6
                refine lv_tableIn (off := 59) (tgt := 60) hx hb md_fm_isGood_1 (by rw [c_15]; decide) (by rw [c_15]; decide) (by rw [c_15]; decide) (by decide) ?_
                refine lv_iload_n hx hb md_fm_isGood_60 rfl (lv_at hl 1 rfl) ?_
                refine lv_iconst (v := 0) hx hb md_fm_isGood_61 (by decide) ?_
                refine lv_iconst (v := 3) hx hb md_fm_isGood_62 (by decide) ?_
                refine q_calli hC hS (fun _ h => h) (q_runS (rest := []) hC hW (mC_fm_in l G S b 0 3) (mc_fm_111 (q_rm 0) hC.1.2.2.2.2 ⟨Nat.le_of_ble_eq_true rfl, Nat.le_of_ble_eq_true rfl⟩ rfl rfl) rfl hl.1 rfl (Nat.le_of_ble_eq_true rfl) md_fm_isGood_63 ⟨Nat.zero_le _, Nat.zero_le _⟩) (fun H locs hW hS => ?_)
                have hf : m_fm_isGood S a b d = m_fm_in S b 0 3 := by unfold m_fm_isGood; rw [if_neg c_1, if_neg c_2, if_neg c_5, if_neg c_8, if_neg c_9, if_neg c_12, if_pos c_15]
                rw [hf]
                exact q_zret hC hr hlocks hW hS mN_in rfl rfl md_fm_isGood_66
              · -- others
                by_cases c_16 : a = 7
                · -- case 7
                  refine lv_tableIn (off := 66) (tgt := 67) hx hb md_fm_isGood_1 (by rw [c_16]; decide) (by rw [c_16]; decide) (by rw [c_16]; decide) (by decide) ?_
                  refine lv_iload_n hx hb md_fm_isGood_67 rfl (lv_at hl 1 rfl) ?_
                  refine lv_iconst (v := 0) hx hb md_fm_isGood_68 (by decide) ?_
                  refine lv_iconst (v := 3) hx hb md_fm_isGood_69 (by decide) ?_
                  refine q_calli hC hS (fun _ h => h) (q_runS (rest := []) hC hW (mC_fm_in l G S b 0 3) (mc_fm_111 (q_rm 0) hC.1.2.2.2.2 ⟨Nat.le_of_ble_eq_true rfl, Nat.le_of_ble_eq_true rfl⟩ rfl rfl) rfl hl.1 rfl (Nat.le_of_ble_eq_true rfl) md_fm_isGood_70 ⟨Nat.zero_le _, Nat.zero_le _⟩) (fun H locs hW hS => ?_)
                  refine lv_if_eq (tgt := 89) hx hb md_fm_isGood_73 (by decide) (fun c_17 => ?_) (fun c_17 => ?_)
                  · -- taken
                    refine lv_iconst (v := 0) hx hb md_fm_isGood_89 (by decide) ?_
                    have hf : m_fm_isGood S a b d = 0 := by unfold m_fm_isGood; rw [if_neg c_1, if_neg c_2, if_neg c_5, if_neg c_8, if_neg c_9, if_neg c_12, if_neg c_15, if_pos c_16, if_pos c_17]
                    rw [hf]
                    exact q_zret hC hr hlocks hW hS (by decide) rfl rfl md_fm_isGood_90
                  · -- not taken
                    refine lv_iload_n hx hb md_fm_isGood_76 rfl (lv_at hl 2 rfl) ?_
                    refine lv_iconst (v := 0) hx hb md_fm_isGood_77 (by decide) ?_
                    refine lv_iconst (v := 3) hx hb md_fm_isGood_78 (by decide) ?_
                    refine q_calli hC hS (fun _ h => h) (q_runS (rest := []) hC hW (mC_fm_in l G S d 0 3) (mc_fm_111 (q_rm 0) hC.1.2.2.2.2 ⟨Nat.le_of_ble_eq_true rfl, Nat.le_of_ble_eq_true rfl⟩ rfl rfl) rfl hl.1 rfl (Nat.le_of_ble_eq_true rfl) md_fm_isGood_79 ⟨Nat.zero_le _, Nat.zero_le _⟩) (fun H locs hW hS => ?_)
                    refine lv_if_eq (tgt := 89) hx hb md_fm_isGood_82 (by decide) (fun c_18 => ?_) (fun c_18 => ?_)
                    · -- taken
                      refine lv_iconst (v := 0) hx hb md_fm_isGood_89 (by decide) ?_
                      have hf : m_fm_isGood S a b d = 0 := by unfold m_fm_isGood; rw [if_neg c_1, if_neg c_2, if_neg c_5, if_neg c_8, if_neg c_9, if_neg c_12, if_neg c_15, if_pos c_16, if_neg c_17, if_pos c_18]
                      rw [hf]
                      exact q_zret hC hr hlocks hW hS (by decide) rfl rfl md_fm_isGood_90
                    · -- not taken
                      refine lv_iconst (v := 1) hx hb md_fm_isGood_85 (by decide) ?_
                      refine lv_goto (tgt := 90) hx hb md_fm_isGood_86 (by decide) ?_
                      have hf : m_fm_isGood S a b d = 1 := by unfold m_fm_isGood; rw [if_neg c_1, if_neg c_2, if_neg c_5, if_neg c_8, if_neg c_9, if_neg c_12, if_neg c_15, if_pos c_16, if_neg c_17, if_neg c_18]
                      rw [hf]
                      exact q_zret hC hr hlocks hW hS (by decide) rfl rfl md_fm_isGood_90
                · -- others
                  by_cases c_19 : a = 8
                  · -- case 8
                    refine lv_tableIn (off := 66) (tgt := 67) hx hb md_fm_isGood_1 (by rw [c_19]; decide) (by rw [c_19]; decide) (by rw [c_19]; decide) (by decide) ?_
                    refine lv_iload_n hx hb md_fm_isGood_67 rfl (lv_at hl 1 rfl) ?_
                    refine lv_iconst (v := 0) hx hb md_fm_isGood_68 (by decide) ?_
                    refine lv_iconst (v := 3) hx hb md_fm_isGood_69 (by decide) ?_
                    refine q_calli hC hS (fun _ h => h) (q_runS (rest := []) hC hW (mC_fm_in l G S b 0 3) (mc_fm_111 (q_rm 0) hC.1.2.2.2.2 ⟨Nat.le_of_ble_eq_true rfl, Nat.le_of_ble_eq_true rfl⟩ rfl rfl) rfl hl.1 rfl (Nat.le_of_ble_eq_true rfl) md_fm_isGood_70 ⟨Nat.zero_le _, Nat.zero_le _⟩) (fun H locs hW hS => ?_)
                    refine lv_if_eq (tgt := 89) hx hb md_fm_isGood_73 (by decide) (fun c_20 => ?_) (fun c_20 => ?_)
                    · -- taken
                      refine lv_iconst (v := 0) hx hb md_fm_isGood_89 (by decide) ?_
                      have hf : m_fm_isGood S a b d = 0 := by unfold m_fm_isGood; rw [if_neg c_1, if_neg c_2, if_neg c_5, if_neg c_8, if_neg c_9, if_neg c_12, if_neg c_15, if_neg c_16, if_pos c_19, if_pos c_20]
                      rw [hf]
                      exact q_zret hC hr hlocks hW hS (by decide) rfl rfl md_fm_isGood_90
                    · -- not taken
                      refine lv_iload_n hx hb md_fm_isGood_76 rfl (lv_at hl 2 rfl) ?_
                      refine lv_iconst (v := 0) hx hb md_fm_isGood_77 (by decide) ?_
                      refine lv_iconst (v := 3) hx hb md_fm_isGood_78 (by decide) ?_
                      refine q_calli hC hS (fun _ h => h) (q_runS (rest := []) hC hW (mC_fm_in l G S d 0 3) (mc_fm_111 (q_rm 0) hC.1.2.2.2.2 ⟨Nat.le_of_ble_eq_true rfl, Nat.le_of_ble_eq_true rfl⟩ rfl rfl) rfl hl.1 rfl (Nat.le_of_ble_eq_true rfl) md_fm_isGood_79 ⟨Nat.zero_le _, Nat.zero_le _⟩) (fun H locs hW hS => ?_)
                      refine lv_if_eq (tgt := 89) hx hb md_fm_isGood_82 (by decide) (fun c_21 => ?_) (fun c_21 => ?_)
                      · -- taken
                        refine lv_iconst (v := 0) hx hb md_fm_isGood_89 (by decide) ?_
                        have hf : m_fm_isGood S a b d = 0 := by unfold m_fm_isGood; rw [if_neg c_1, if_neg c_2, if_neg c_5, if_neg c_8, if_neg c_9, if_neg c_12, if_neg c_15, if_neg c_16, if_pos c_19, if_neg c_20, if_pos c_21]
                        rw [hf]
                        exact q_zret hC hr hlocks hW hS (by decide) rfl rfl md_fm_isGood_90
                      · -- not taken
                        refine lv_iconst (v := 1) hx hb md_fm_isGood_85 (by decide) ?_
                        refine lv_goto (tgt := 90) hx hb md_fm_isGood_86 (by decide) ?_
                        have hf : m_fm_isGood S a b d = 1 := by unfold m_fm_isGood; rw [if_neg c_1, if_neg c_2, if_neg c_5, if_neg c_8, if_neg c_9, if_neg c_12, if_neg c_15, if_neg c_16, if_pos c_19, if_neg c_20, if_neg c_21]
                        rw [hf]
                        exact q_zret hC hr hlocks hW hS (by decide) rfl rfl md_fm_isGood_90
                  · -- others
                    by_cases c_22 : a = 9
                    · -- case 9
                      refine lv_tableIn (off := 123) (tgt := 124) hx hb md_fm_isGood_1 (by rw [c_22]; decide) (by rw [c_22]; decide) (by rw [c_22]; decide) (by decide) ?_
                      refine lv_iload_n hx hb md_fm_isGood_124 rfl (lv_at hl 0 rfl) ?_
                      refine lv_bipush (v := 9) hx hb md_fm_isGood_125 (by decide) ?_
                      refine lv_icmp_ne (tgt := 134) hx hb md_fm_isGood_127 (by decide) (fun c_23 => ?_) (fun c_23 => ?_)
                      · -- taken
                        refine lv_iconst (v := 0) hx hb md_fm_isGood_134 (by decide) ?_
                        have hf : m_fm_isGood S a b d = 0 := by unfold m_fm_isGood; rw [if_neg c_1, if_neg c_2, if_neg c_5, if_neg c_8, if_neg c_9, if_neg c_12, if_neg c_15, if_neg c_16, if_neg c_19, if_pos c_22, if_neg c_23]
                        rw [hf]
                        exact q_zret hC hr hlocks hW hS (by decide) rfl rfl md_fm_isGood_135
                      · -- not taken
                        refine lv_iconst (v := 1) hx hb md_fm_isGood_130 (by decide) ?_
                        refine lv_goto (tgt := 135) hx hb md_fm_isGood_131 (by decide) ?_
                        have hf : m_fm_isGood S a b d = 1 := by unfold m_fm_isGood; rw [if_neg c_1, if_neg c_2, if_neg c_5, if_neg c_8, if_neg c_9, if_neg c_12, if_neg c_15, if_neg c_16, if_neg c_19, if_pos c_22, if_pos c_23]
                        rw [hf]
                        exact q_zret hC hr hlocks hW hS (by decide) rfl rfl md_fm_isGood_135
                    · -- others
                      by_cases c_24 : a = 10
                      · -- case 10
                        refine lv_tableIn (off := 59) (tgt := 60) hx hb md_fm_isGood_1 (by rw [c_24]; decide) (by rw [c_24]; decide) (by rw [c_24]; decide) (by decide) ?_
                        refine lv_iload_n hx hb md_fm_isGood_60 rfl (lv_at hl 1 rfl) ?_
                        refine lv_iconst (v := 0) hx hb md_fm_isGood_61 (by decide) ?_
                        refine lv_iconst (v := 3) hx hb md_fm_isGood_62 (by decide) ?_
                        refine q_calli hC hS (fun _ h => h) (q_runS (rest := []) hC hW (mC_fm_in l G S b 0 3) (mc_fm_111 (q_rm 0) hC.1.2.2.2.2 ⟨Nat.le_of_ble_eq_true rfl, Nat.le_of_ble_eq_true rfl⟩ rfl rfl) rfl hl.1 rfl (Nat.le_of_ble_eq_true rfl) md_fm_isGood_63 ⟨Nat.zero_le _, Nat.zero_le _⟩) (fun H locs hW hS => ?_)
                        have hf : m_fm_isGood S a b d = m_fm_in S b 0 3 := by unfold m_fm_isGood; rw [if_neg c_1, if_neg c_2, if_neg c_5, if_neg c_8, if_neg c_9, if_neg c_12, if_neg c_15, if_neg c_16, if_neg c_19, if_neg c_22, if_pos c_24]
                        rw [hf]
                        exact q_zret hC hr hlocks hW hS mN_in rfl rfl md_fm_isGood_66
                      · -- others
                        refine lv_tableOut (tgt := 124) hx hb md_fm_isGood_1 (by have n0 := lv_neT c_1 (a := 0) (by decide); have n1 := lv_neT c_2 (a := 1) (by decide); have n2 := lv_neT c_5 (a := 2) (by decide); have n3 := lv_neT c_8 (a := 3) (by decide); have n4 := lv_neT c_9 (a := 4) (by decide); have n5 := lv_neT c_12 (a := 5) (by decide); have n6 := lv_neT c_15 (a := 6) (by decide); have n7 := lv_neT c_16 (a := 7) (by decide); have n8 := lv_neT c_19 (a := 8) (by decide); have n9 := lv_neT c_22 (a := 9) (by decide); have n10 := lv_neT c_24 (a := 10) (by decide); omega) (by decide) ?_
                        refine lv_iload_n hx hb md_fm_isGood_124 rfl (lv_at hl 0 rfl) ?_
                        refine lv_bipush (v := 9) hx hb md_fm_isGood_125 (by decide) ?_
                        refine lv_icmp_ne (tgt := 134) hx hb md_fm_isGood_127 (by decide) (fun c_25 => ?_) (fun c_25 => ?_)
                        · -- taken
                          refine lv_iconst (v := 0) hx hb md_fm_isGood_134 (by decide) ?_
                          have hf : m_fm_isGood S a b d = 0 := by unfold m_fm_isGood; rw [if_neg c_1, if_neg c_2, if_neg c_5, if_neg c_8, if_neg c_9, if_neg c_12, if_neg c_15, if_neg c_16, if_neg c_19, if_neg c_22, if_neg c_24, if_neg c_25]
                          rw [hf]
                          exact q_zret hC hr hlocks hW hS (by decide) rfl rfl md_fm_isGood_135
                        · -- not taken
                          refine lv_iconst (v := 1) hx hb md_fm_isGood_130 (by decide) ?_
                          refine lv_goto (tgt := 135) hx hb md_fm_isGood_131 (by decide) ?_
                          have hf : m_fm_isGood S a b d = 1 := by unfold m_fm_isGood; rw [if_neg c_1, if_neg c_2, if_neg c_5, if_neg c_8, if_neg c_9, if_neg c_12, if_neg c_15, if_neg c_16, if_neg c_19, if_neg c_22, if_neg c_24, if_pos c_25]
                          rw [hf]
                          exact q_zret hC hr hlocks hW hS (by decide) rfl rfl md_fm_isGood_135
def m_fm_set (S : q_S) (a b d f : Int32) : q_S :=
  q_st (q_st (q_st S 1 0 a.toNatClampNeg (.int b)) 2 0 a.toNatClampNeg (.int d)) 3 0 a.toNatClampNeg (.int f)
set_option maxRecDepth 100000 in
set_option maxHeartbeats 4000000 in
theorem mC_fm_set (l : Launch) (G : q_G) (S : q_S) (a b d f : Int32) (hI : mI S) (ha : 0 ≤ a.toInt ∧ a.toInt ≤ 41) : q_Mv mX G l my_fm_set (q_ws (q_gw lw_tbl) my_fm_set mb_fm_set 5 none) (q_rm 0) [.ref (q_a mX G 0 0), .int a, .int b, .int d, .int f] S (m_fm_set S a b d f) := by
  refine q_met (cc := mb_fm_set) (maxL := 5) (ret := none) mOk (by decide) rfl (Nat.le_of_ble_eq_true rfl) ?_
  intro p e s m below meth c ls hC hr hlocks hW hS hl
  have hx := hC.1.1
  have hb := hC.1.2.1
  have hl : lv_has ls 5 [(0, .ref (q_a mX G 0 0)), (1, .int a), (2, .int b), (3, .int d), (4, .int f)] := hl
  refine lv_aload_n hx hb md_fm_set_0 rfl (lv_at hl 0 rfl) ?_
  refine mg_fm_7 hC hW 0 Nat.one_pos md_fm_set_1 ?_
  refine lv_iload_n hx hb md_fm_set_4 rfl (lv_at hl 1 rfl) ?_
  refine lv_iload_n hx hb md_fm_set_5 rfl (lv_at hl 2 rfl) ?_
  have h_1 : vp_in a 42 := by rw [vp_in_iff]; omega
  refine mase_1 hC hW hS (fun _ h => h) h_1 rfl md_fm_set_6 (fun H locs hW hS => ?_)
  refine lv_aload_n hx hb md_fm_set_7 rfl (lv_at hl 0 rfl) ?_
  refine mg_fm_13 hC hW 0 Nat.one_pos md_fm_set_8 ?_
  refine lv_iload_n hx hb md_fm_set_11 rfl (lv_at hl 1 rfl) ?_
  refine lv_iload_n hx hb md_fm_set_12 rfl (lv_at hl 3 rfl) ?_
  have h_2 : vp_in a 42 := by rw [vp_in_iff]; omega
  refine mase_2 hC hW hS (fun _ h => h) h_2 rfl md_fm_set_13 (fun H locs hW hS => ?_)
  refine lv_aload_n hx hb md_fm_set_14 rfl (lv_at hl 0 rfl) ?_
  refine mg_fm_16 hC hW 0 Nat.one_pos md_fm_set_15 ?_
  refine lv_iload_n hx hb md_fm_set_18 rfl (lv_at hl 1 rfl) ?_
  refine lv_iload hx hb md_fm_set_19 (lv_at hl 4 rfl) ?_
  refine W.eq (g2 := F0 m 21 ls [.int f, .int a, .ref (q_a mX G 3 0)]) rfl ?_
  have h_3 : vp_in a 42 := by rw [vp_in_iff]; omega
  refine mase_3 hC hW hS (fun _ h => h) h_3 rfl md_fm_set_21 (fun H locs hW hS => ?_)
  have hf : m_fm_set S a b d f = q_st (q_st (q_st S 1 0 a.toNatClampNeg (.int b)) 2 0 a.toNatClampNeg (.int d)) 3 0 a.toNatClampNeg (.int f) := by unfold m_fm_set; rfl
  rw [hf]
  exact q_vret hC hr hlocks hW hS rfl md_fm_set_22
set_option maxRecDepth 100000 in
set_option maxHeartbeats 4000000 in
theorem mI_fm_set (S : q_S) (a b d f : Int32) (hI : mI S) (ha : 0 ≤ a.toInt ∧ a.toInt ≤ 41) : mI (m_fm_set S a b d f) := by
  have h_1 : vp_in a 42 := by rw [vp_in_iff]; omega
  have h_2 : vp_in a 42 := by rw [vp_in_iff]; omega
  have h_3 : vp_in a 42 := by rw [vp_in_iff]; omega
  have hf : m_fm_set S a b d f = q_st (q_st (q_st S 1 0 a.toNatClampNeg (.int b)) 2 0 a.toNatClampNeg (.int d)) 3 0 a.toNatClampNeg (.int f) := by unfold m_fm_set; rfl
  rw [hf]
  exact (mIs (mIs (mIs hI rfl) rfl) rfl)
set_option maxRecDepth 100000 in
set_option maxHeartbeats 4000000 in
theorem mK_fm_set (S : q_S) (a b d f : Int32) (x y z : Nat) (h1 : x ≠ 1) (h2 : x ≠ 2) (h3 : x ≠ 3) : (m_fm_set S a b d f) x y z = S x y z := by
  have hf : m_fm_set S a b d f = q_st (q_st (q_st S 1 0 a.toNatClampNeg (.int b)) 2 0 a.toNatClampNeg (.int d)) 3 0 a.toNatClampNeg (.int f) := by unfold m_fm_set; rfl
  rw [hf]
  exact (q_kj h3).trans ((q_kj h2).trans ((q_kj h1)))
