def m_fm_tick_L1 : Nat → q_S → Int32 → Nat → Nat → q_S
  | 0, S, _, _, _ => S
  | n + 1, S, a, t, u =>
    if 6 ≤ nI u then
      S
    else
      if q_i (S 5 0 u) = 0 then
        m_fm_tick_L1 n S a t (u + 1)
      else
        if q_i (S 7 0 u) = 0 then
          m_fm_tick_L1 n S a t (u + 1)
        else
          if (q_i (S 0 0 34)) - (q_i (S 30 0 u)) = 5 then
            m_fm_tick_L1 n (m_fm_wrong S u) a t (u + 1)
          else
            m_fm_tick_L1 n S a t (u + 1)
set_option maxRecDepth 100000 in
set_option maxHeartbeats 4000000 in
theorem mL_fm_tick_L1 (l : Launch) (G : q_G) (a : Int32)  {p : Program} {e : Env} {s : State} {m : MethodId} {below : List Frame} {meth : Method} {c : Code} {Q : State → Prop} (hC : q_C mX G p m c mb_fm_tick 4 s ([.ref (q_a mX G 0 0), .int a] : List Value).toArray (q_ws (q_gw lw_tbl) my_fm_tick mb_fm_tick 4 (some .int)) mR_fm) : ∀ (n : Nat) (S : q_S) (t : Nat) (u : Nat) (H : Heap) (locs : List Loc) (ls : Array Slot), u + n = 7 → u ≤ 6 → t ≤ 20 → mI S → mJ S → mQ S → mZ2 S → q_w mX G s S H → va_S (q_A mX G) s.heap H locs → lv_has ls 4 [(0, .ref (q_a mX G 0 0)), (1, .int a), (2, .int (nI t)), (3, .int (nI u))] → (∀ (H1 : Heap) (locs1 : List Loc) (ls1 : Array Slot), q_w mX G s (m_fm_tick_L1 n S a t u) H1 → va_S (q_A mX G) s.heap H1 locs1 → lv_has ls1 4 [(0, .ref (q_a mX G 0 0)), (1, .int a), (2, .int (nI t))] → W p l e (headSpec (q_ws (q_gw lw_tbl) my_fm_tick mb_fm_tick 4 (some .int)) (q_rm 13)).room s m ([.ref (q_a mX G 0 0), .int a] : List Value).toArray below meth c H1 locs1 0 0 Q (F0 m 81 ls1 [])) → W p l e (headSpec (q_ws (q_gw lw_tbl) my_fm_tick mb_fm_tick 4 (some .int)) (q_rm 13)).room s m ([.ref (q_a mX G 0 0), .int a] : List Value).toArray below meth c H locs 0 0 Q (F0 m 31 ls []) := by
  have hx := hC.1.1
  have hb := hC.1.2.1
  intro n
  induction n with
  | zero =>
    intro S t u H locs ls ht hu hk hI hJ hQ hZ hW hS hl kk
    exfalso
    omega
  | succ n ih =>
    intro S t u H locs ls ht hu hk hI hJ hQ hZ hW hS hl kk
    refine lv_iload_n hx hb md_fm_tick_31 rfl (lv_at hl 3 rfl) ?_
    refine lv_bipush (v := 6) hx hb md_fm_tick_32 (by decide) ?_
    refine lv_icmp_ge (tgt := 81) hx hb md_fm_tick_34 (by decide) (fun c_1 => ?_) (fun c_1 => ?_)
    · -- taken
      have hf : m_fm_tick_L1 (n + 1) S a t u = S := by rw [m_fm_tick_L1, if_pos c_1]
      rw [hf] at kk
      exact kk H locs ls hW hS (lv_sub hl [0, 1, 2] rfl)
    · -- not taken
      refine lv_aload_n hx hb md_fm_tick_37 rfl (lv_at hl 0 rfl) ?_
      refine mg_fm_22 hC hW 0 Nat.one_pos md_fm_tick_38 ?_
      refine lv_iload_n hx hb md_fm_tick_41 rfl (lv_at hl 3 rfl) ?_
      have h_2 : vp_in (nI u) 6 := by simp only [Int32.lt_iff_toInt_lt, Int32.le_iff_toInt_le, q_n0, q_n1, q_n2, q_n3, q_n4, q_n5, q_n6, q_n7, q_n8, q_n9, q_n10, q_n11, q_n12, q_n13, q_n14, q_n15, q_n20, q_n60, q_n1288] at c_1; have l1 := nI_toInt (n := u) (by omega); have l2 : (6 : Int32).toInt = 6 := rfl; rw [vp_in_iff]; omega
      have s_3 : (nI u).toNatClampNeg = u := by simp only [Int32.lt_iff_toInt_lt, Int32.le_iff_toInt_le, q_n0, q_n1, q_n2, q_n3, q_n4, q_n5, q_n6, q_n7, q_n8, q_n9, q_n10, q_n11, q_n12, q_n13, q_n14, q_n15, q_n20, q_n60, q_n1288] at c_1; have l1 := nI_toInt (n := u) (by omega); have l2 : (6 : Int32).toInt = 6 := rfl; apply q_tn; omega
      refine male_5 hC hW h_2 s_3 (rfl) md_fm_tick_42 ?_
      refine lv_if_eq (tgt := 75) hx hb md_fm_tick_43 (by decide) (fun c_4 => ?_) (fun c_4 => ?_)
      · -- taken
        refine lv_iinc (v := nI u + 1) (lv' := [(3, .int (nI u + 1)), (0, .ref (q_a mX G 0 0)), (1, .int a), (2, .int (nI t))]) hx hb md_fm_tick_75 hl (k := 3) rfl rfl (by decide) rfl (fun ls hl => ?_)
        refine lv_goto (tgt := 31) hx hb md_fm_tick_78 (by decide) ?_
        have hf : m_fm_tick_L1 (n + 1) S a t u = m_fm_tick_L1 n S a t (u + 1) := by rw [m_fm_tick_L1, if_neg c_1, if_pos c_4]
        rw [hf] at kk
        have hl2 : lv_has ls 4 [(0, .ref (q_a mX G 0 0)), (1, .int a), (2, .int (nI t)), (3, .int (nI (u + 1)))] := by rw [← nI_1 u]; exact lv_sub hl [1, 2, 3, 0] rfl
        exact ih S t (u + 1) _ _ ls (by have n_t := nI_toInt (n := t) (by omega); have m_t := q_nT (n := t) (by omega); have n_u := nI_toInt (n := u) (by omega); have m_u := q_nT (n := u) (by omega); simp only [Int32.lt_iff_toInt_lt, Int32.le_iff_toInt_le, q_n0, q_n1, q_n2, q_n3, q_n4, q_n5, q_n6, q_n7, q_n8, q_n9, q_n10, q_n11, q_n12, q_n13, q_n14, q_n15, q_n20, q_n60, q_n1288] at c_1; omega) (by have n_t := nI_toInt (n := t) (by omega); have m_t := q_nT (n := t) (by omega); have n_u := nI_toInt (n := u) (by omega); have m_u := q_nT (n := u) (by omega); simp only [Int32.lt_iff_toInt_lt, Int32.le_iff_toInt_le, q_n0, q_n1, q_n2, q_n3, q_n4, q_n5, q_n6, q_n7, q_n8, q_n9, q_n10, q_n11, q_n12, q_n13, q_n14, q_n15, q_n20, q_n60, q_n1288] at c_1; omega) (by have n_t := nI_toInt (n := t) (by omega); have m_t := q_nT (n := t) (by omega); have n_u := nI_toInt (n := u) (by omega); have m_u := q_nT (n := u) (by omega); simp only [Int32.lt_iff_toInt_lt, Int32.le_iff_toInt_le, q_n0, q_n1, q_n2, q_n3, q_n4, q_n5, q_n6, q_n7, q_n8, q_n9, q_n10, q_n11, q_n12, q_n13, q_n14, q_n15, q_n20, q_n60, q_n1288] at c_1; omega) hI hJ hQ hZ hW hS hl2 kk
      · -- not taken
        refine lv_aload_n hx hb md_fm_tick_46 rfl (lv_at hl 0 rfl) ?_
        refine mg_fm_29 hC hW 0 Nat.one_pos md_fm_tick_47 ?_
        refine lv_iload_n hx hb md_fm_tick_50 rfl (lv_at hl 3 rfl) ?_
        have h_5 : vp_in (nI u) 6 := by have e_c_4 := lv_neT c_4 (a := 0) (by decide); simp only [Int32.lt_iff_toInt_lt, Int32.le_iff_toInt_le, q_n0, q_n1, q_n2, q_n3, q_n4, q_n5, q_n6, q_n7, q_n8, q_n9, q_n10, q_n11, q_n12, q_n13, q_n14, q_n15, q_n20, q_n60, q_n1288] at c_1; have l1 := nI_toInt (n := u) (by omega); have l2 : (6 : Int32).toInt = 6 := rfl; rw [vp_in_iff]; omega
        have s_6 : (nI u).toNatClampNeg = u := by have e_c_4 := lv_neT c_4 (a := 0) (by decide); simp only [Int32.lt_iff_toInt_lt, Int32.le_iff_toInt_le, q_n0, q_n1, q_n2, q_n3, q_n4, q_n5, q_n6, q_n7, q_n8, q_n9, q_n10, q_n11, q_n12, q_n13, q_n14, q_n15, q_n20, q_n60, q_n1288] at c_1; have l1 := nI_toInt (n := u) (by omega); have l2 : (6 : Int32).toInt = 6 := rfl; apply q_tn; omega
        refine male_7 hC hW h_5 s_6 (rfl) md_fm_tick_51 ?_
        refine lv_if_eq (tgt := 75) hx hb md_fm_tick_52 (by decide) (fun c_7 => ?_) (fun c_7 => ?_)
        · -- taken
          refine lv_iinc (v := nI u + 1) (lv' := [(3, .int (nI u + 1)), (0, .ref (q_a mX G 0 0)), (1, .int a), (2, .int (nI t))]) hx hb md_fm_tick_75 hl (k := 3) rfl rfl (by decide) rfl (fun ls hl => ?_)
          refine lv_goto (tgt := 31) hx hb md_fm_tick_78 (by decide) ?_
          have hf : m_fm_tick_L1 (n + 1) S a t u = m_fm_tick_L1 n S a t (u + 1) := by rw [m_fm_tick_L1, if_neg c_1, if_neg c_4, if_pos c_7]
          rw [hf] at kk
          have hl2 : lv_has ls 4 [(0, .ref (q_a mX G 0 0)), (1, .int a), (2, .int (nI t)), (3, .int (nI (u + 1)))] := by rw [← nI_1 u]; exact lv_sub hl [1, 2, 3, 0] rfl
          exact ih S t (u + 1) _ _ ls (by have n_t := nI_toInt (n := t) (by omega); have m_t := q_nT (n := t) (by omega); have n_u := nI_toInt (n := u) (by omega); have m_u := q_nT (n := u) (by omega); simp only [Int32.lt_iff_toInt_lt, Int32.le_iff_toInt_le, q_n0, q_n1, q_n2, q_n3, q_n4, q_n5, q_n6, q_n7, q_n8, q_n9, q_n10, q_n11, q_n12, q_n13, q_n14, q_n15, q_n20, q_n60, q_n1288] at c_1; omega) (by have n_t := nI_toInt (n := t) (by omega); have m_t := q_nT (n := t) (by omega); have n_u := nI_toInt (n := u) (by omega); have m_u := q_nT (n := u) (by omega); simp only [Int32.lt_iff_toInt_lt, Int32.le_iff_toInt_le, q_n0, q_n1, q_n2, q_n3, q_n4, q_n5, q_n6, q_n7, q_n8, q_n9, q_n10, q_n11, q_n12, q_n13, q_n14, q_n15, q_n20, q_n60, q_n1288] at c_1; omega) (by have n_t := nI_toInt (n := t) (by omega); have m_t := q_nT (n := t) (by omega); have n_u := nI_toInt (n := u) (by omega); have m_u := q_nT (n := u) (by omega); simp only [Int32.lt_iff_toInt_lt, Int32.le_iff_toInt_le, q_n0, q_n1, q_n2, q_n3, q_n4, q_n5, q_n6, q_n7, q_n8, q_n9, q_n10, q_n11, q_n12, q_n13, q_n14, q_n15, q_n20, q_n60, q_n1288] at c_1; omega) hI hJ hQ hZ hW hS hl2 kk
        · -- not taken
          refine lv_aload_n hx hb md_fm_tick_55 rfl (lv_at hl 0 rfl) ?_
          refine mg_fm_136 hC hW 0 Nat.one_pos (rfl) md_fm_tick_56 ?_
          refine lv_aload_n hx hb md_fm_tick_59 rfl (lv_at hl 0 rfl) ?_
          refine mg_fm_99 hC hW 0 Nat.one_pos md_fm_tick_60 ?_
          refine lv_iload_n hx hb md_fm_tick_63 rfl (lv_at hl 3 rfl) ?_
          have h_8 : vp_in (nI u) 6 := by have e_c_4 := lv_neT c_4 (a := 0) (by decide); have e_c_7 := lv_neT c_7 (a := 0) (by decide); simp only [Int32.lt_iff_toInt_lt, Int32.le_iff_toInt_le, q_n0, q_n1, q_n2, q_n3, q_n4, q_n5, q_n6, q_n7, q_n8, q_n9, q_n10, q_n11, q_n12, q_n13, q_n14, q_n15, q_n20, q_n60, q_n1288] at c_1; have l1 := nI_toInt (n := u) (by omega); have l2 : (6 : Int32).toInt = 6 := rfl; rw [vp_in_iff]; omega
          have s_9 : (nI u).toNatClampNeg = u := by have e_c_4 := lv_neT c_4 (a := 0) (by decide); have e_c_7 := lv_neT c_7 (a := 0) (by decide); simp only [Int32.lt_iff_toInt_lt, Int32.le_iff_toInt_le, q_n0, q_n1, q_n2, q_n3, q_n4, q_n5, q_n6, q_n7, q_n8, q_n9, q_n10, q_n11, q_n12, q_n13, q_n14, q_n15, q_n20, q_n60, q_n1288] at c_1; have l1 := nI_toInt (n := u) (by omega); have l2 : (6 : Int32).toInt = 6 := rfl; apply q_tn; omega
          refine male_30 hC hW h_8 s_9 (rfl) md_fm_tick_64 ?_
          refine lv_isub hx hb md_fm_tick_65 ?_
          refine lv_iconst (v := 5) hx hb md_fm_tick_66 (by decide) ?_
          refine lv_icmp_ne (tgt := 75) hx hb md_fm_tick_67 (by decide) (fun c_10 => ?_) (fun c_10 => ?_)
          · -- taken
            refine lv_iinc (v := nI u + 1) (lv' := [(3, .int (nI u + 1)), (0, .ref (q_a mX G 0 0)), (1, .int a), (2, .int (nI t))]) hx hb md_fm_tick_75 hl (k := 3) rfl rfl (by decide) rfl (fun ls hl => ?_)
            refine lv_goto (tgt := 31) hx hb md_fm_tick_78 (by decide) ?_
            have hf : m_fm_tick_L1 (n + 1) S a t u = m_fm_tick_L1 n S a t (u + 1) := by rw [m_fm_tick_L1, if_neg c_1, if_neg c_4, if_neg c_7, if_neg c_10]
            rw [hf] at kk
            have hl2 : lv_has ls 4 [(0, .ref (q_a mX G 0 0)), (1, .int a), (2, .int (nI t)), (3, .int (nI (u + 1)))] := by rw [← nI_1 u]; exact lv_sub hl [1, 2, 3, 0] rfl
            exact ih S t (u + 1) _ _ ls (by have n_t := nI_toInt (n := t) (by omega); have m_t := q_nT (n := t) (by omega); have n_u := nI_toInt (n := u) (by omega); have m_u := q_nT (n := u) (by omega); simp only [Int32.lt_iff_toInt_lt, Int32.le_iff_toInt_le, q_n0, q_n1, q_n2, q_n3, q_n4, q_n5, q_n6, q_n7, q_n8, q_n9, q_n10, q_n11, q_n12, q_n13, q_n14, q_n15, q_n20, q_n60, q_n1288] at c_1; omega) (by have n_t := nI_toInt (n := t) (by omega); have m_t := q_nT (n := t) (by omega); have n_u := nI_toInt (n := u) (by omega); have m_u := q_nT (n := u) (by omega); simp only [Int32.lt_iff_toInt_lt, Int32.le_iff_toInt_le, q_n0, q_n1, q_n2, q_n3, q_n4, q_n5, q_n6, q_n7, q_n8, q_n9, q_n10, q_n11, q_n12, q_n13, q_n14, q_n15, q_n20, q_n60, q_n1288] at c_1; omega) (by have n_t := nI_toInt (n := t) (by omega); have m_t := q_nT (n := t) (by omega); have n_u := nI_toInt (n := u) (by omega); have m_u := q_nT (n := u) (by omega); simp only [Int32.lt_iff_toInt_lt, Int32.le_iff_toInt_le, q_n0, q_n1, q_n2, q_n3, q_n4, q_n5, q_n6, q_n7, q_n8, q_n9, q_n10, q_n11, q_n12, q_n13, q_n14, q_n15, q_n20, q_n60, q_n1288] at c_1; omega) hI hJ hQ hZ hW hS hl2 kk
          · -- not taken
            refine lv_aload_n hx hb md_fm_tick_70 rfl (lv_at hl 0 rfl) ?_
            refine lv_iload_n hx hb md_fm_tick_71 rfl (lv_at hl 3 rfl) ?_
            have h_11 : u < 6 := by have e_c_4 := lv_neT c_4 (a := 0) (by decide); have e_c_7 := lv_neT c_7 (a := 0) (by decide); simp only [Int32.lt_iff_toInt_lt, Int32.le_iff_toInt_le, q_n0, q_n1, q_n2, q_n3, q_n4, q_n5, q_n6, q_n7, q_n8, q_n9, q_n10, q_n11, q_n12, q_n13, q_n14, q_n15, q_n20, q_n60, q_n1288] at c_1; have l1 := nI_toInt (n := u) (by omega); have l2 : (6 : Int32).toInt = 6 := rfl; omega
            refine q_callv hC hS (fun _ h => h) (q_runV (rest := []) hC hW (mC_fm_wrong l G S u h_11 hI hJ hQ (hZ u h_11 c_4) c_7) (mc_fm_201 (q_rm 12) hC.1.2.2.2.2 ⟨Nat.le_of_ble_eq_true rfl, Nat.le_of_ble_eq_true rfl⟩ rfl rfl) Nat.one_pos rfl rfl rfl hl.1 rfl (Nat.le_of_ble_eq_true rfl) md_fm_tick_72 ⟨Nat.zero_le _, Nat.zero_le _⟩) (fun H locs hW hS => ?_)
            refine lv_iinc (v := nI u + 1) (lv' := [(3, .int (nI u + 1)), (0, .ref (q_a mX G 0 0)), (1, .int a), (2, .int (nI t))]) hx hb md_fm_tick_75 hl (k := 3) rfl rfl (by decide) rfl (fun ls hl => ?_)
            refine lv_goto (tgt := 31) hx hb md_fm_tick_78 (by decide) ?_
            have hf : m_fm_tick_L1 (n + 1) S a t u = m_fm_tick_L1 n (m_fm_wrong S u) a t (u + 1) := by rw [m_fm_tick_L1, if_neg c_1, if_neg c_4, if_neg c_7, if_pos c_10]
            rw [hf] at kk
            have hl2 : lv_has ls 4 [(0, .ref (q_a mX G 0 0)), (1, .int a), (2, .int (nI t)), (3, .int (nI (u + 1)))] := by rw [← nI_1 u]; exact lv_sub hl [1, 2, 3, 0] rfl
            have hI_12 : mI (m_fm_wrong S u) := (mI_fm_wrong S u h_11 hI hJ hQ (hZ u h_11 c_4) c_7)
            have hJ_13 : mJ (m_fm_wrong S u) := mJ_eq hJ (fun k => (mK_fm_wrong S u 1 0 k (by decide) (by decide) (by decide) (by decide) (by decide) (by decide) (by decide) (by decide) (by decide) (by decide) (by decide) (by decide) (by decide) (by decide) (by decide) (by decide) (by decide) (by decide) (by decide) (by decide) (by decide) (by decide) (by decide) (by decide) (by decide) (by decide) (by decide))) (fun k => (mK_fm_wrong S u 2 0 k (by decide) (by decide) (by decide) (by decide) (by decide) (by decide) (by decide) (by decide) (by decide) (by decide) (by decide) (by decide) (by decide) (by decide) (by decide) (by decide) (by decide) (by decide) (by decide) (by decide) (by decide) (by decide) (by decide) (by decide) (by decide) (by decide) (by decide))) (fun k => (mK_fm_wrong S u 3 0 k (by decide) (by decide) (by decide) (by decide) (by decide) (by decide) (by decide) (by decide) (by decide) (by decide) (by decide) (by decide) (by decide) (by decide) (by decide) (by decide) (by decide) (by decide) (by decide) (by decide) (by decide) (by decide) (by decide) (by decide) (by decide) (by decide) (by decide))) (fun k => (mK_fm_wrong S u 4 0 k (by decide) (by decide) (by decide) (by decide) (by decide) (by decide) (by decide) (by decide) (by decide) (by decide) (by decide) (by decide) (by decide) (by decide) (by decide) (by decide) (by decide) (by decide) (by decide) (by decide) (by decide) (by decide) (by decide) (by decide) (by decide) (by decide) (by decide)))
            have hQ_14 : mQ (m_fm_wrong S u) := (mQ_fm_wrong S u h_11 hI hJ hQ (hZ u h_11 c_4) c_7)
            exact ih (m_fm_wrong S u) t (u + 1) _ _ ls (by have n_t := nI_toInt (n := t) (by omega); have m_t := q_nT (n := t) (by omega); have n_u := nI_toInt (n := u) (by omega); have m_u := q_nT (n := u) (by omega); simp only [Int32.lt_iff_toInt_lt, Int32.le_iff_toInt_le, q_n0, q_n1, q_n2, q_n3, q_n4, q_n5, q_n6, q_n7, q_n8, q_n9, q_n10, q_n11, q_n12, q_n13, q_n14, q_n15, q_n20, q_n60, q_n1288] at c_1; omega) (by have n_t := nI_toInt (n := t) (by omega); have m_t := q_nT (n := t) (by omega); have n_u := nI_toInt (n := u) (by omega); have m_u := q_nT (n := u) (by omega); simp only [Int32.lt_iff_toInt_lt, Int32.le_iff_toInt_le, q_n0, q_n1, q_n2, q_n3, q_n4, q_n5, q_n6, q_n7, q_n8, q_n9, q_n10, q_n11, q_n12, q_n13, q_n14, q_n15, q_n20, q_n60, q_n1288] at c_1; omega) (by have n_t := nI_toInt (n := t) (by omega); have m_t := q_nT (n := t) (by omega); have n_u := nI_toInt (n := u) (by omega); have m_u := q_nT (n := u) (by omega); simp only [Int32.lt_iff_toInt_lt, Int32.le_iff_toInt_le, q_n0, q_n1, q_n2, q_n3, q_n4, q_n5, q_n6, q_n7, q_n8, q_n9, q_n10, q_n11, q_n12, q_n13, q_n14, q_n15, q_n20, q_n60, q_n1288] at c_1; omega) hI_12 hJ_13 hQ_14 (mZ2_wrong h_11 hI hJ hQ hZ c_4 c_7) hW hS hl2 kk
set_option maxRecDepth 100000 in
set_option maxHeartbeats 4000000 in
theorem mK_fm_tick_L1 : ∀ (n : Nat) (S : q_S) (a : Int32) (t : Nat) (u : Nat) (x y z : Nat) (h0 : x ≠ 0) (h6 : x ≠ 6) (h7 : x ≠ 7) (h8 : x ≠ 8) (h10 : x ≠ 10) (h11 : x ≠ 11) (h12 : x ≠ 12) (h13 : x ≠ 13) (h14 : x ≠ 14) (h15 : x ≠ 15) (h16 : x ≠ 16) (h17 : x ≠ 17) (h18 : x ≠ 18) (h19 : x ≠ 19) (h20 : x ≠ 20) (h21 : x ≠ 21) (h22 : x ≠ 22) (h23 : x ≠ 23) (h24 : x ≠ 24) (h25 : x ≠ 25) (h26 : x ≠ 26) (h27 : x ≠ 27) (h28 : x ≠ 28) (h29 : x ≠ 29) (h31 : x ≠ 31) (h32 : x ≠ 32) (h33 : x ≠ 33), (m_fm_tick_L1 n S a t u) x y z = S x y z := by
  intro n
  induction n with
  | zero => intro S a t u x y z h0 h6 h7 h8 h10 h11 h12 h13 h14 h15 h16 h17 h18 h19 h20 h21 h22 h23 h24 h25 h26 h27 h28 h29 h31 h32 h33; rfl
  | succ n ih =>
    intro S a t u x y z h0 h6 h7 h8 h10 h11 h12 h13 h14 h15 h16 h17 h18 h19 h20 h21 h22 h23 h24 h25 h26 h27 h28 h29 h31 h32 h33
    by_cases c_1 : 6 ≤ nI u
    · -- yes
      have hf : m_fm_tick_L1 (n + 1) S a t u = S := by rw [m_fm_tick_L1, if_pos c_1]
      rw [hf]
    · -- no
      by_cases c_4 : q_i (S 5 0 u) = 0
      · -- yes
        have hf : m_fm_tick_L1 (n + 1) S a t u = m_fm_tick_L1 n S a t (u + 1) := by rw [m_fm_tick_L1, if_neg c_1, if_pos c_4]
        rw [hf]
        exact (ih S a t (u + 1) x y z h0 h6 h7 h8 h10 h11 h12 h13 h14 h15 h16 h17 h18 h19 h20 h21 h22 h23 h24 h25 h26 h27 h28 h29 h31 h32 h33).trans (rfl)
      · -- no
        by_cases c_7 : q_i (S 7 0 u) = 0
        · -- yes
          have hf : m_fm_tick_L1 (n + 1) S a t u = m_fm_tick_L1 n S a t (u + 1) := by rw [m_fm_tick_L1, if_neg c_1, if_neg c_4, if_pos c_7]
          rw [hf]
          exact (ih S a t (u + 1) x y z h0 h6 h7 h8 h10 h11 h12 h13 h14 h15 h16 h17 h18 h19 h20 h21 h22 h23 h24 h25 h26 h27 h28 h29 h31 h32 h33).trans (rfl)
        · -- no
          by_cases c_10 : (q_i (S 0 0 34)) - (q_i (S 30 0 u)) = 5
          · -- yes
            have hf : m_fm_tick_L1 (n + 1) S a t u = m_fm_tick_L1 n (m_fm_wrong S u) a t (u + 1) := by rw [m_fm_tick_L1, if_neg c_1, if_neg c_4, if_neg c_7, if_pos c_10]
            rw [hf]
            exact (ih (m_fm_wrong S u) a t (u + 1) x y z h0 h6 h7 h8 h10 h11 h12 h13 h14 h15 h16 h17 h18 h19 h20 h21 h22 h23 h24 h25 h26 h27 h28 h29 h31 h32 h33).trans (((mK_fm_wrong S u x y z h0 h6 h7 h8 h10 h11 h12 h13 h14 h15 h16 h17 h18 h19 h20 h21 h22 h23 h24 h25 h26 h27 h28 h29 h31 h32 h33)))
          · -- no
            have hf : m_fm_tick_L1 (n + 1) S a t u = m_fm_tick_L1 n S a t (u + 1) := by rw [m_fm_tick_L1, if_neg c_1, if_neg c_4, if_neg c_7, if_neg c_10]
            rw [hf]
            exact (ih S a t (u + 1) x y z h0 h6 h7 h8 h10 h11 h12 h13 h14 h15 h16 h17 h18 h19 h20 h21 h22 h23 h24 h25 h26 h27 h28 h29 h31 h32 h33).trans (rfl)
set_option maxRecDepth 100000 in
set_option maxHeartbeats 4000000 in
theorem mI_fm_tick_L1 (a : Int32)  : ∀ (n : Nat) (S : q_S) (t : Nat) (u : Nat), u + n = 7 → u ≤ 6 → t ≤ 20 → mI S → mJ S → mQ S → mZ2 S → mI (m_fm_tick_L1 n S a t u) := by
  intro n
  induction n with
  | zero =>
    intro S t u ht hu hk hI hJ hQ hZ
    exfalso
    omega
  | succ n ih =>
    intro S t u ht hu hk hI hJ hQ hZ
    by_cases c_1 : 6 ≤ nI u
    · -- yes
      have hf : m_fm_tick_L1 (n + 1) S a t u = S := by rw [m_fm_tick_L1, if_pos c_1]
      rw [hf]
      exact hI
    · -- no
      by_cases c_4 : q_i (S 5 0 u) = 0
      · -- yes
        have h_2 : vp_in (nI u) 6 := by simp only [Int32.lt_iff_toInt_lt, Int32.le_iff_toInt_le, q_n0, q_n1, q_n2, q_n3, q_n4, q_n5, q_n6, q_n7, q_n8, q_n9, q_n10, q_n11, q_n12, q_n13, q_n14, q_n15, q_n20, q_n60, q_n1288] at c_1; have l1 := nI_toInt (n := u) (by omega); have l2 : (6 : Int32).toInt = 6 := rfl; rw [vp_in_iff]; omega
        have s_3 : (nI u).toNatClampNeg = u := by simp only [Int32.lt_iff_toInt_lt, Int32.le_iff_toInt_le, q_n0, q_n1, q_n2, q_n3, q_n4, q_n5, q_n6, q_n7, q_n8, q_n9, q_n10, q_n11, q_n12, q_n13, q_n14, q_n15, q_n20, q_n60, q_n1288] at c_1; have l1 := nI_toInt (n := u) (by omega); have l2 : (6 : Int32).toInt = 6 := rfl; apply q_tn; omega
        have hf : m_fm_tick_L1 (n + 1) S a t u = m_fm_tick_L1 n S a t (u + 1) := by rw [m_fm_tick_L1, if_neg c_1, if_pos c_4]
        rw [hf]
        exact ih S t (u + 1) (by have n_t := nI_toInt (n := t) (by omega); have m_t := q_nT (n := t) (by omega); have n_u := nI_toInt (n := u) (by omega); have m_u := q_nT (n := u) (by omega); simp only [Int32.lt_iff_toInt_lt, Int32.le_iff_toInt_le, q_n0, q_n1, q_n2, q_n3, q_n4, q_n5, q_n6, q_n7, q_n8, q_n9, q_n10, q_n11, q_n12, q_n13, q_n14, q_n15, q_n20, q_n60, q_n1288] at c_1; omega) (by have n_t := nI_toInt (n := t) (by omega); have m_t := q_nT (n := t) (by omega); have n_u := nI_toInt (n := u) (by omega); have m_u := q_nT (n := u) (by omega); simp only [Int32.lt_iff_toInt_lt, Int32.le_iff_toInt_le, q_n0, q_n1, q_n2, q_n3, q_n4, q_n5, q_n6, q_n7, q_n8, q_n9, q_n10, q_n11, q_n12, q_n13, q_n14, q_n15, q_n20, q_n60, q_n1288] at c_1; omega) (by have n_t := nI_toInt (n := t) (by omega); have m_t := q_nT (n := t) (by omega); have n_u := nI_toInt (n := u) (by omega); have m_u := q_nT (n := u) (by omega); simp only [Int32.lt_iff_toInt_lt, Int32.le_iff_toInt_le, q_n0, q_n1, q_n2, q_n3, q_n4, q_n5, q_n6, q_n7, q_n8, q_n9, q_n10, q_n11, q_n12, q_n13, q_n14, q_n15, q_n20, q_n60, q_n1288] at c_1; omega) hI hJ hQ hZ
      · -- no
        by_cases c_7 : q_i (S 7 0 u) = 0
        · -- yes
          have h_2 : vp_in (nI u) 6 := by simp only [Int32.lt_iff_toInt_lt, Int32.le_iff_toInt_le, q_n0, q_n1, q_n2, q_n3, q_n4, q_n5, q_n6, q_n7, q_n8, q_n9, q_n10, q_n11, q_n12, q_n13, q_n14, q_n15, q_n20, q_n60, q_n1288] at c_1; have l1 := nI_toInt (n := u) (by omega); have l2 : (6 : Int32).toInt = 6 := rfl; rw [vp_in_iff]; omega
          have s_3 : (nI u).toNatClampNeg = u := by simp only [Int32.lt_iff_toInt_lt, Int32.le_iff_toInt_le, q_n0, q_n1, q_n2, q_n3, q_n4, q_n5, q_n6, q_n7, q_n8, q_n9, q_n10, q_n11, q_n12, q_n13, q_n14, q_n15, q_n20, q_n60, q_n1288] at c_1; have l1 := nI_toInt (n := u) (by omega); have l2 : (6 : Int32).toInt = 6 := rfl; apply q_tn; omega
          have h_5 : vp_in (nI u) 6 := by have e_c_4 := lv_neT c_4 (a := 0) (by decide); simp only [Int32.lt_iff_toInt_lt, Int32.le_iff_toInt_le, q_n0, q_n1, q_n2, q_n3, q_n4, q_n5, q_n6, q_n7, q_n8, q_n9, q_n10, q_n11, q_n12, q_n13, q_n14, q_n15, q_n20, q_n60, q_n1288] at c_1; have l1 := nI_toInt (n := u) (by omega); have l2 : (6 : Int32).toInt = 6 := rfl; rw [vp_in_iff]; omega
          have s_6 : (nI u).toNatClampNeg = u := by have e_c_4 := lv_neT c_4 (a := 0) (by decide); simp only [Int32.lt_iff_toInt_lt, Int32.le_iff_toInt_le, q_n0, q_n1, q_n2, q_n3, q_n4, q_n5, q_n6, q_n7, q_n8, q_n9, q_n10, q_n11, q_n12, q_n13, q_n14, q_n15, q_n20, q_n60, q_n1288] at c_1; have l1 := nI_toInt (n := u) (by omega); have l2 : (6 : Int32).toInt = 6 := rfl; apply q_tn; omega
          have hf : m_fm_tick_L1 (n + 1) S a t u = m_fm_tick_L1 n S a t (u + 1) := by rw [m_fm_tick_L1, if_neg c_1, if_neg c_4, if_pos c_7]
          rw [hf]
          exact ih S t (u + 1) (by have n_t := nI_toInt (n := t) (by omega); have m_t := q_nT (n := t) (by omega); have n_u := nI_toInt (n := u) (by omega); have m_u := q_nT (n := u) (by omega); simp only [Int32.lt_iff_toInt_lt, Int32.le_iff_toInt_le, q_n0, q_n1, q_n2, q_n3, q_n4, q_n5, q_n6, q_n7, q_n8, q_n9, q_n10, q_n11, q_n12, q_n13, q_n14, q_n15, q_n20, q_n60, q_n1288] at c_1; omega) (by have n_t := nI_toInt (n := t) (by omega); have m_t := q_nT (n := t) (by omega); have n_u := nI_toInt (n := u) (by omega); have m_u := q_nT (n := u) (by omega); simp only [Int32.lt_iff_toInt_lt, Int32.le_iff_toInt_le, q_n0, q_n1, q_n2, q_n3, q_n4, q_n5, q_n6, q_n7, q_n8, q_n9, q_n10, q_n11, q_n12, q_n13, q_n14, q_n15, q_n20, q_n60, q_n1288] at c_1; omega) (by have n_t := nI_toInt (n := t) (by omega); have m_t := q_nT (n := t) (by omega); have n_u := nI_toInt (n := u) (by omega); have m_u := q_nT (n := u) (by omega); simp only [Int32.lt_iff_toInt_lt, Int32.le_iff_toInt_le, q_n0, q_n1, q_n2, q_n3, q_n4, q_n5, q_n6, q_n7, q_n8, q_n9, q_n10, q_n11, q_n12, q_n13, q_n14, q_n15, q_n20, q_n60, q_n1288] at c_1; omega) hI hJ hQ hZ
        · -- no
          by_cases c_10 : (q_i (S 0 0 34)) - (q_i (S 30 0 u)) = 5
          · -- yes
            have h_2 : vp_in (nI u) 6 := by simp only [Int32.lt_iff_toInt_lt, Int32.le_iff_toInt_le, q_n0, q_n1, q_n2, q_n3, q_n4, q_n5, q_n6, q_n7, q_n8, q_n9, q_n10, q_n11, q_n12, q_n13, q_n14, q_n15, q_n20, q_n60, q_n1288] at c_1; have l1 := nI_toInt (n := u) (by omega); have l2 : (6 : Int32).toInt = 6 := rfl; rw [vp_in_iff]; omega
            have s_3 : (nI u).toNatClampNeg = u := by simp only [Int32.lt_iff_toInt_lt, Int32.le_iff_toInt_le, q_n0, q_n1, q_n2, q_n3, q_n4, q_n5, q_n6, q_n7, q_n8, q_n9, q_n10, q_n11, q_n12, q_n13, q_n14, q_n15, q_n20, q_n60, q_n1288] at c_1; have l1 := nI_toInt (n := u) (by omega); have l2 : (6 : Int32).toInt = 6 := rfl; apply q_tn; omega
            have h_5 : vp_in (nI u) 6 := by have e_c_4 := lv_neT c_4 (a := 0) (by decide); simp only [Int32.lt_iff_toInt_lt, Int32.le_iff_toInt_le, q_n0, q_n1, q_n2, q_n3, q_n4, q_n5, q_n6, q_n7, q_n8, q_n9, q_n10, q_n11, q_n12, q_n13, q_n14, q_n15, q_n20, q_n60, q_n1288] at c_1; have l1 := nI_toInt (n := u) (by omega); have l2 : (6 : Int32).toInt = 6 := rfl; rw [vp_in_iff]; omega
            have s_6 : (nI u).toNatClampNeg = u := by have e_c_4 := lv_neT c_4 (a := 0) (by decide); simp only [Int32.lt_iff_toInt_lt, Int32.le_iff_toInt_le, q_n0, q_n1, q_n2, q_n3, q_n4, q_n5, q_n6, q_n7, q_n8, q_n9, q_n10, q_n11, q_n12, q_n13, q_n14, q_n15, q_n20, q_n60, q_n1288] at c_1; have l1 := nI_toInt (n := u) (by omega); have l2 : (6 : Int32).toInt = 6 := rfl; apply q_tn; omega
            have h_8 : vp_in (nI u) 6 := by have e_c_4 := lv_neT c_4 (a := 0) (by decide); have e_c_7 := lv_neT c_7 (a := 0) (by decide); simp only [Int32.lt_iff_toInt_lt, Int32.le_iff_toInt_le, q_n0, q_n1, q_n2, q_n3, q_n4, q_n5, q_n6, q_n7, q_n8, q_n9, q_n10, q_n11, q_n12, q_n13, q_n14, q_n15, q_n20, q_n60, q_n1288] at c_1; have l1 := nI_toInt (n := u) (by omega); have l2 : (6 : Int32).toInt = 6 := rfl; rw [vp_in_iff]; omega
            have s_9 : (nI u).toNatClampNeg = u := by have e_c_4 := lv_neT c_4 (a := 0) (by decide); have e_c_7 := lv_neT c_7 (a := 0) (by decide); simp only [Int32.lt_iff_toInt_lt, Int32.le_iff_toInt_le, q_n0, q_n1, q_n2, q_n3, q_n4, q_n5, q_n6, q_n7, q_n8, q_n9, q_n10, q_n11, q_n12, q_n13, q_n14, q_n15, q_n20, q_n60, q_n1288] at c_1; have l1 := nI_toInt (n := u) (by omega); have l2 : (6 : Int32).toInt = 6 := rfl; apply q_tn; omega
            have h_11 : u < 6 := by have e_c_4 := lv_neT c_4 (a := 0) (by decide); have e_c_7 := lv_neT c_7 (a := 0) (by decide); simp only [Int32.lt_iff_toInt_lt, Int32.le_iff_toInt_le, q_n0, q_n1, q_n2, q_n3, q_n4, q_n5, q_n6, q_n7, q_n8, q_n9, q_n10, q_n11, q_n12, q_n13, q_n14, q_n15, q_n20, q_n60, q_n1288] at c_1; have l1 := nI_toInt (n := u) (by omega); have l2 : (6 : Int32).toInt = 6 := rfl; omega
            have hI_12 : mI (m_fm_wrong S u) := (mI_fm_wrong S u h_11 hI hJ hQ (hZ u h_11 c_4) c_7)
            have hJ_13 : mJ (m_fm_wrong S u) := mJ_eq hJ (fun k => (mK_fm_wrong S u 1 0 k (by decide) (by decide) (by decide) (by decide) (by decide) (by decide) (by decide) (by decide) (by decide) (by decide) (by decide) (by decide) (by decide) (by decide) (by decide) (by decide) (by decide) (by decide) (by decide) (by decide) (by decide) (by decide) (by decide) (by decide) (by decide) (by decide) (by decide))) (fun k => (mK_fm_wrong S u 2 0 k (by decide) (by decide) (by decide) (by decide) (by decide) (by decide) (by decide) (by decide) (by decide) (by decide) (by decide) (by decide) (by decide) (by decide) (by decide) (by decide) (by decide) (by decide) (by decide) (by decide) (by decide) (by decide) (by decide) (by decide) (by decide) (by decide) (by decide))) (fun k => (mK_fm_wrong S u 3 0 k (by decide) (by decide) (by decide) (by decide) (by decide) (by decide) (by decide) (by decide) (by decide) (by decide) (by decide) (by decide) (by decide) (by decide) (by decide) (by decide) (by decide) (by decide) (by decide) (by decide) (by decide) (by decide) (by decide) (by decide) (by decide) (by decide) (by decide))) (fun k => (mK_fm_wrong S u 4 0 k (by decide) (by decide) (by decide) (by decide) (by decide) (by decide) (by decide) (by decide) (by decide) (by decide) (by decide) (by decide) (by decide) (by decide) (by decide) (by decide) (by decide) (by decide) (by decide) (by decide) (by decide) (by decide) (by decide) (by decide) (by decide) (by decide) (by decide)))
            have hQ_14 : mQ (m_fm_wrong S u) := (mQ_fm_wrong S u h_11 hI hJ hQ (hZ u h_11 c_4) c_7)
            have hf : m_fm_tick_L1 (n + 1) S a t u = m_fm_tick_L1 n (m_fm_wrong S u) a t (u + 1) := by rw [m_fm_tick_L1, if_neg c_1, if_neg c_4, if_neg c_7, if_pos c_10]
            rw [hf]
            have hI_907 : mI (m_fm_wrong S u) := (mI_fm_wrong S u h_11 hI hJ hQ (hZ u h_11 c_4) c_7)
            have hJ_908 : mJ (m_fm_wrong S u) := mJ_eq hJ (fun k => (mK_fm_wrong S u 1 0 k (by decide) (by decide) (by decide) (by decide) (by decide) (by decide) (by decide) (by decide) (by decide) (by decide) (by decide) (by decide) (by decide) (by decide) (by decide) (by decide) (by decide) (by decide) (by decide) (by decide) (by decide) (by decide) (by decide) (by decide) (by decide) (by decide) (by decide))) (fun k => (mK_fm_wrong S u 2 0 k (by decide) (by decide) (by decide) (by decide) (by decide) (by decide) (by decide) (by decide) (by decide) (by decide) (by decide) (by decide) (by decide) (by decide) (by decide) (by decide) (by decide) (by decide) (by decide) (by decide) (by decide) (by decide) (by decide) (by decide) (by decide) (by decide) (by decide))) (fun k => (mK_fm_wrong S u 3 0 k (by decide) (by decide) (by decide) (by decide) (by decide) (by decide) (by decide) (by decide) (by decide) (by decide) (by decide) (by decide) (by decide) (by decide) (by decide) (by decide) (by decide) (by decide) (by decide) (by decide) (by decide) (by decide) (by decide) (by decide) (by decide) (by decide) (by decide))) (fun k => (mK_fm_wrong S u 4 0 k (by decide) (by decide) (by decide) (by decide) (by decide) (by decide) (by decide) (by decide) (by decide) (by decide) (by decide) (by decide) (by decide) (by decide) (by decide) (by decide) (by decide) (by decide) (by decide) (by decide) (by decide) (by decide) (by decide) (by decide) (by decide) (by decide) (by decide)))
            have hQ_909 : mQ (m_fm_wrong S u) := (mQ_fm_wrong S u h_11 hI hJ hQ (hZ u h_11 c_4) c_7)
            exact ih (m_fm_wrong S u) t (u + 1) (by have n_t := nI_toInt (n := t) (by omega); have m_t := q_nT (n := t) (by omega); have n_u := nI_toInt (n := u) (by omega); have m_u := q_nT (n := u) (by omega); simp only [Int32.lt_iff_toInt_lt, Int32.le_iff_toInt_le, q_n0, q_n1, q_n2, q_n3, q_n4, q_n5, q_n6, q_n7, q_n8, q_n9, q_n10, q_n11, q_n12, q_n13, q_n14, q_n15, q_n20, q_n60, q_n1288] at c_1; omega) (by have n_t := nI_toInt (n := t) (by omega); have m_t := q_nT (n := t) (by omega); have n_u := nI_toInt (n := u) (by omega); have m_u := q_nT (n := u) (by omega); simp only [Int32.lt_iff_toInt_lt, Int32.le_iff_toInt_le, q_n0, q_n1, q_n2, q_n3, q_n4, q_n5, q_n6, q_n7, q_n8, q_n9, q_n10, q_n11, q_n12, q_n13, q_n14, q_n15, q_n20, q_n60, q_n1288] at c_1; omega) (by have n_t := nI_toInt (n := t) (by omega); have m_t := q_nT (n := t) (by omega); have n_u := nI_toInt (n := u) (by omega); have m_u := q_nT (n := u) (by omega); simp only [Int32.lt_iff_toInt_lt, Int32.le_iff_toInt_le, q_n0, q_n1, q_n2, q_n3, q_n4, q_n5, q_n6, q_n7, q_n8, q_n9, q_n10, q_n11, q_n12, q_n13, q_n14, q_n15, q_n20, q_n60, q_n1288] at c_1; omega) hI_907 hJ_908 hQ_909 (mZ2_wrong h_11 hI hJ hQ hZ c_4 c_7)
          · -- no
            have h_2 : vp_in (nI u) 6 := by simp only [Int32.lt_iff_toInt_lt, Int32.le_iff_toInt_le, q_n0, q_n1, q_n2, q_n3, q_n4, q_n5, q_n6, q_n7, q_n8, q_n9, q_n10, q_n11, q_n12, q_n13, q_n14, q_n15, q_n20, q_n60, q_n1288] at c_1; have l1 := nI_toInt (n := u) (by omega); have l2 : (6 : Int32).toInt = 6 := rfl; rw [vp_in_iff]; omega
            have s_3 : (nI u).toNatClampNeg = u := by simp only [Int32.lt_iff_toInt_lt, Int32.le_iff_toInt_le, q_n0, q_n1, q_n2, q_n3, q_n4, q_n5, q_n6, q_n7, q_n8, q_n9, q_n10, q_n11, q_n12, q_n13, q_n14, q_n15, q_n20, q_n60, q_n1288] at c_1; have l1 := nI_toInt (n := u) (by omega); have l2 : (6 : Int32).toInt = 6 := rfl; apply q_tn; omega
            have h_5 : vp_in (nI u) 6 := by have e_c_4 := lv_neT c_4 (a := 0) (by decide); simp only [Int32.lt_iff_toInt_lt, Int32.le_iff_toInt_le, q_n0, q_n1, q_n2, q_n3, q_n4, q_n5, q_n6, q_n7, q_n8, q_n9, q_n10, q_n11, q_n12, q_n13, q_n14, q_n15, q_n20, q_n60, q_n1288] at c_1; have l1 := nI_toInt (n := u) (by omega); have l2 : (6 : Int32).toInt = 6 := rfl; rw [vp_in_iff]; omega
            have s_6 : (nI u).toNatClampNeg = u := by have e_c_4 := lv_neT c_4 (a := 0) (by decide); simp only [Int32.lt_iff_toInt_lt, Int32.le_iff_toInt_le, q_n0, q_n1, q_n2, q_n3, q_n4, q_n5, q_n6, q_n7, q_n8, q_n9, q_n10, q_n11, q_n12, q_n13, q_n14, q_n15, q_n20, q_n60, q_n1288] at c_1; have l1 := nI_toInt (n := u) (by omega); have l2 : (6 : Int32).toInt = 6 := rfl; apply q_tn; omega
            have h_8 : vp_in (nI u) 6 := by have e_c_4 := lv_neT c_4 (a := 0) (by decide); have e_c_7 := lv_neT c_7 (a := 0) (by decide); simp only [Int32.lt_iff_toInt_lt, Int32.le_iff_toInt_le, q_n0, q_n1, q_n2, q_n3, q_n4, q_n5, q_n6, q_n7, q_n8, q_n9, q_n10, q_n11, q_n12, q_n13, q_n14, q_n15, q_n20, q_n60, q_n1288] at c_1; have l1 := nI_toInt (n := u) (by omega); have l2 : (6 : Int32).toInt = 6 := rfl; rw [vp_in_iff]; omega
            have s_9 : (nI u).toNatClampNeg = u := by have e_c_4 := lv_neT c_4 (a := 0) (by decide); have e_c_7 := lv_neT c_7 (a := 0) (by decide); simp only [Int32.lt_iff_toInt_lt, Int32.le_iff_toInt_le, q_n0, q_n1, q_n2, q_n3, q_n4, q_n5, q_n6, q_n7, q_n8, q_n9, q_n10, q_n11, q_n12, q_n13, q_n14, q_n15, q_n20, q_n60, q_n1288] at c_1; have l1 := nI_toInt (n := u) (by omega); have l2 : (6 : Int32).toInt = 6 := rfl; apply q_tn; omega
            have hf : m_fm_tick_L1 (n + 1) S a t u = m_fm_tick_L1 n S a t (u + 1) := by rw [m_fm_tick_L1, if_neg c_1, if_neg c_4, if_neg c_7, if_neg c_10]
            rw [hf]
            exact ih S t (u + 1) (by have n_t := nI_toInt (n := t) (by omega); have m_t := q_nT (n := t) (by omega); have n_u := nI_toInt (n := u) (by omega); have m_u := q_nT (n := u) (by omega); simp only [Int32.lt_iff_toInt_lt, Int32.le_iff_toInt_le, q_n0, q_n1, q_n2, q_n3, q_n4, q_n5, q_n6, q_n7, q_n8, q_n9, q_n10, q_n11, q_n12, q_n13, q_n14, q_n15, q_n20, q_n60, q_n1288] at c_1; omega) (by have n_t := nI_toInt (n := t) (by omega); have m_t := q_nT (n := t) (by omega); have n_u := nI_toInt (n := u) (by omega); have m_u := q_nT (n := u) (by omega); simp only [Int32.lt_iff_toInt_lt, Int32.le_iff_toInt_le, q_n0, q_n1, q_n2, q_n3, q_n4, q_n5, q_n6, q_n7, q_n8, q_n9, q_n10, q_n11, q_n12, q_n13, q_n14, q_n15, q_n20, q_n60, q_n1288] at c_1; omega) (by have n_t := nI_toInt (n := t) (by omega); have m_t := q_nT (n := t) (by omega); have n_u := nI_toInt (n := u) (by omega); have m_u := q_nT (n := u) (by omega); simp only [Int32.lt_iff_toInt_lt, Int32.le_iff_toInt_le, q_n0, q_n1, q_n2, q_n3, q_n4, q_n5, q_n6, q_n7, q_n8, q_n9, q_n10, q_n11, q_n12, q_n13, q_n14, q_n15, q_n20, q_n60, q_n1288] at c_1; omega) hI hJ hQ hZ
def m_fm_tick_L2 : Nat → q_S → Int32 → Nat → Nat → q_S
  | 0, S, _, _, _ => S
  | n + 1, S, a, t, u =>
    if 6 ≤ nI u then
      S
    else
      if q_i (S 5 0 u) = 0 then
        m_fm_tick_L2 n S a t (u + 1)
      else
        if q_i (S 10 0 u) = 2 then
          if 0 < lg_cmp (q_l (S 26 0 u)) (Int32.toInt64 (q_i (S 0 0 34))) then
            m_fm_tick_L2 n S a t (u + 1)
          else
            m_fm_tick_L2 n (m_fm_write S u 6 0 0) a t (u + 1)
        else
          m_fm_tick_L2 n S a t (u + 1)
set_option maxRecDepth 100000 in
set_option maxHeartbeats 4000000 in
theorem mL_fm_tick_L2 (l : Launch) (G : q_G) (a : Int32)  {p : Program} {e : Env} {s : State} {m : MethodId} {below : List Frame} {meth : Method} {c : Code} {Q : State → Prop} (hC : q_C mX G p m c mb_fm_tick 4 s ([.ref (q_a mX G 0 0), .int a] : List Value).toArray (q_ws (q_gw lw_tbl) my_fm_tick mb_fm_tick 4 (some .int)) mR_fm) : ∀ (n : Nat) (S : q_S) (t : Nat) (u : Nat) (H : Heap) (locs : List Loc) (ls : Array Slot), u + n = 7 → u ≤ 6 → t ≤ 20 → mI S → mJ S → mQ S → mZ2 S → q_w mX G s S H → va_S (q_A mX G) s.heap H locs → lv_has ls 4 [(0, .ref (q_a mX G 0 0)), (1, .int a), (2, .int (nI t)), (3, .int (nI u))] → (∀ (H1 : Heap) (locs1 : List Loc) (ls1 : Array Slot), q_w mX G s (m_fm_tick_L2 n S a t u) H1 → va_S (q_A mX G) s.heap H1 locs1 → lv_has ls1 4 [(0, .ref (q_a mX G 0 0)), (1, .int a), (2, .int (nI t))] → W p l e (headSpec (q_ws (q_gw lw_tbl) my_fm_tick mb_fm_tick 4 (some .int)) (q_rm 13)).room s m ([.ref (q_a mX G 0 0), .int a] : List Value).toArray below meth c H1 locs1 0 0 Q (F0 m 138 ls1 [])) → W p l e (headSpec (q_ws (q_gw lw_tbl) my_fm_tick mb_fm_tick 4 (some .int)) (q_rm 13)).room s m ([.ref (q_a mX G 0 0), .int a] : List Value).toArray below meth c H locs 0 0 Q (F0 m 83 ls []) := by
  have hx := hC.1.1
  have hb := hC.1.2.1
  intro n
  induction n with
  | zero =>
    intro S t u H locs ls ht hu hk hI hJ hQ hZ hW hS hl kk
    exfalso
    omega
  | succ n ih =>
    intro S t u H locs ls ht hu hk hI hJ hQ hZ hW hS hl kk
    refine lv_iload_n hx hb md_fm_tick_83 rfl (lv_at hl 3 rfl) ?_
    refine lv_bipush (v := 6) hx hb md_fm_tick_84 (by decide) ?_
    refine lv_icmp_ge (tgt := 138) hx hb md_fm_tick_86 (by decide) (fun c_1 => ?_) (fun c_1 => ?_)
    · -- taken
      have hf : m_fm_tick_L2 (n + 1) S a t u = S := by rw [m_fm_tick_L2, if_pos c_1]
      rw [hf] at kk
      exact kk H locs ls hW hS (lv_sub hl [0, 1, 2] rfl)
    · -- not taken
      refine lv_aload_n hx hb md_fm_tick_89 rfl (lv_at hl 0 rfl) ?_
      refine mg_fm_22 hC hW 0 Nat.one_pos md_fm_tick_90 ?_
      refine lv_iload_n hx hb md_fm_tick_93 rfl (lv_at hl 3 rfl) ?_
      have h_2 : vp_in (nI u) 6 := by simp only [Int32.lt_iff_toInt_lt, Int32.le_iff_toInt_le, q_n0, q_n1, q_n2, q_n3, q_n4, q_n5, q_n6, q_n7, q_n8, q_n9, q_n10, q_n11, q_n12, q_n13, q_n14, q_n15, q_n20, q_n60, q_n1288] at c_1; have l1 := nI_toInt (n := u) (by omega); have l2 : (6 : Int32).toInt = 6 := rfl; rw [vp_in_iff]; omega
      have s_3 : (nI u).toNatClampNeg = u := by simp only [Int32.lt_iff_toInt_lt, Int32.le_iff_toInt_le, q_n0, q_n1, q_n2, q_n3, q_n4, q_n5, q_n6, q_n7, q_n8, q_n9, q_n10, q_n11, q_n12, q_n13, q_n14, q_n15, q_n20, q_n60, q_n1288] at c_1; have l1 := nI_toInt (n := u) (by omega); have l2 : (6 : Int32).toInt = 6 := rfl; apply q_tn; omega
      refine male_5 hC hW h_2 s_3 (rfl) md_fm_tick_94 ?_
      refine lv_if_eq (tgt := 132) hx hb md_fm_tick_95 (by decide) (fun c_4 => ?_) (fun c_4 => ?_)
      · -- taken
        refine lv_iinc (v := nI u + 1) (lv' := [(3, .int (nI u + 1)), (0, .ref (q_a mX G 0 0)), (1, .int a), (2, .int (nI t))]) hx hb md_fm_tick_132 hl (k := 3) rfl rfl (by decide) rfl (fun ls hl => ?_)
        refine lv_goto (tgt := 83) hx hb md_fm_tick_135 (by decide) ?_
        have hf : m_fm_tick_L2 (n + 1) S a t u = m_fm_tick_L2 n S a t (u + 1) := by rw [m_fm_tick_L2, if_neg c_1, if_pos c_4]
        rw [hf] at kk
        have hl2 : lv_has ls 4 [(0, .ref (q_a mX G 0 0)), (1, .int a), (2, .int (nI t)), (3, .int (nI (u + 1)))] := by rw [← nI_1 u]; exact lv_sub hl [1, 2, 3, 0] rfl
        exact ih S t (u + 1) _ _ ls (by have n_t := nI_toInt (n := t) (by omega); have m_t := q_nT (n := t) (by omega); have n_u := nI_toInt (n := u) (by omega); have m_u := q_nT (n := u) (by omega); simp only [Int32.lt_iff_toInt_lt, Int32.le_iff_toInt_le, q_n0, q_n1, q_n2, q_n3, q_n4, q_n5, q_n6, q_n7, q_n8, q_n9, q_n10, q_n11, q_n12, q_n13, q_n14, q_n15, q_n20, q_n60, q_n1288] at c_1; omega) (by have n_t := nI_toInt (n := t) (by omega); have m_t := q_nT (n := t) (by omega); have n_u := nI_toInt (n := u) (by omega); have m_u := q_nT (n := u) (by omega); simp only [Int32.lt_iff_toInt_lt, Int32.le_iff_toInt_le, q_n0, q_n1, q_n2, q_n3, q_n4, q_n5, q_n6, q_n7, q_n8, q_n9, q_n10, q_n11, q_n12, q_n13, q_n14, q_n15, q_n20, q_n60, q_n1288] at c_1; omega) (by have n_t := nI_toInt (n := t) (by omega); have m_t := q_nT (n := t) (by omega); have n_u := nI_toInt (n := u) (by omega); have m_u := q_nT (n := u) (by omega); simp only [Int32.lt_iff_toInt_lt, Int32.le_iff_toInt_le, q_n0, q_n1, q_n2, q_n3, q_n4, q_n5, q_n6, q_n7, q_n8, q_n9, q_n10, q_n11, q_n12, q_n13, q_n14, q_n15, q_n20, q_n60, q_n1288] at c_1; omega) hI hJ hQ hZ hW hS hl2 kk
      · -- not taken
        refine lv_aload_n hx hb md_fm_tick_98 rfl (lv_at hl 0 rfl) ?_
        refine mg_fm_38 hC hW 0 Nat.one_pos md_fm_tick_99 ?_
        refine lv_iload_n hx hb md_fm_tick_102 rfl (lv_at hl 3 rfl) ?_
        have h_5 : vp_in (nI u) 6 := by have e_c_4 := lv_neT c_4 (a := 0) (by decide); simp only [Int32.lt_iff_toInt_lt, Int32.le_iff_toInt_le, q_n0, q_n1, q_n2, q_n3, q_n4, q_n5, q_n6, q_n7, q_n8, q_n9, q_n10, q_n11, q_n12, q_n13, q_n14, q_n15, q_n20, q_n60, q_n1288] at c_1; have l1 := nI_toInt (n := u) (by omega); have l2 : (6 : Int32).toInt = 6 := rfl; rw [vp_in_iff]; omega
        have s_6 : (nI u).toNatClampNeg = u := by have e_c_4 := lv_neT c_4 (a := 0) (by decide); simp only [Int32.lt_iff_toInt_lt, Int32.le_iff_toInt_le, q_n0, q_n1, q_n2, q_n3, q_n4, q_n5, q_n6, q_n7, q_n8, q_n9, q_n10, q_n11, q_n12, q_n13, q_n14, q_n15, q_n20, q_n60, q_n1288] at c_1; have l1 := nI_toInt (n := u) (by omega); have l2 : (6 : Int32).toInt = 6 := rfl; apply q_tn; omega
        refine male_10 hC hW h_5 s_6 (rfl) md_fm_tick_103 ?_
        refine lv_iconst (v := 2) hx hb md_fm_tick_104 (by decide) ?_
        refine lv_icmp_ne (tgt := 132) hx hb md_fm_tick_105 (by decide) (fun c_7 => ?_) (fun c_7 => ?_)
        · -- taken
          refine lv_iinc (v := nI u + 1) (lv' := [(3, .int (nI u + 1)), (0, .ref (q_a mX G 0 0)), (1, .int a), (2, .int (nI t))]) hx hb md_fm_tick_132 hl (k := 3) rfl rfl (by decide) rfl (fun ls hl => ?_)
          refine lv_goto (tgt := 83) hx hb md_fm_tick_135 (by decide) ?_
          have hf : m_fm_tick_L2 (n + 1) S a t u = m_fm_tick_L2 n S a t (u + 1) := by rw [m_fm_tick_L2, if_neg c_1, if_neg c_4, if_neg c_7]
          rw [hf] at kk
          have hl2 : lv_has ls 4 [(0, .ref (q_a mX G 0 0)), (1, .int a), (2, .int (nI t)), (3, .int (nI (u + 1)))] := by rw [← nI_1 u]; exact lv_sub hl [1, 2, 3, 0] rfl
          exact ih S t (u + 1) _ _ ls (by have n_t := nI_toInt (n := t) (by omega); have m_t := q_nT (n := t) (by omega); have n_u := nI_toInt (n := u) (by omega); have m_u := q_nT (n := u) (by omega); simp only [Int32.lt_iff_toInt_lt, Int32.le_iff_toInt_le, q_n0, q_n1, q_n2, q_n3, q_n4, q_n5, q_n6, q_n7, q_n8, q_n9, q_n10, q_n11, q_n12, q_n13, q_n14, q_n15, q_n20, q_n60, q_n1288] at c_1; omega) (by have n_t := nI_toInt (n := t) (by omega); have m_t := q_nT (n := t) (by omega); have n_u := nI_toInt (n := u) (by omega); have m_u := q_nT (n := u) (by omega); simp only [Int32.lt_iff_toInt_lt, Int32.le_iff_toInt_le, q_n0, q_n1, q_n2, q_n3, q_n4, q_n5, q_n6, q_n7, q_n8, q_n9, q_n10, q_n11, q_n12, q_n13, q_n14, q_n15, q_n20, q_n60, q_n1288] at c_1; omega) (by have n_t := nI_toInt (n := t) (by omega); have m_t := q_nT (n := t) (by omega); have n_u := nI_toInt (n := u) (by omega); have m_u := q_nT (n := u) (by omega); simp only [Int32.lt_iff_toInt_lt, Int32.le_iff_toInt_le, q_n0, q_n1, q_n2, q_n3, q_n4, q_n5, q_n6, q_n7, q_n8, q_n9, q_n10, q_n11, q_n12, q_n13, q_n14, q_n15, q_n20, q_n60, q_n1288] at c_1; omega) hI hJ hQ hZ hW hS hl2 kk
        · -- not taken
          refine lv_aload_n hx hb md_fm_tick_108 rfl (lv_at hl 0 rfl) ?_
          refine mg_fm_86 hC hW 0 Nat.one_pos md_fm_tick_109 ?_
          refine lv_iload_n hx hb md_fm_tick_112 rfl (lv_at hl 3 rfl) ?_
          have h_8 : vp_in (nI u) 6 := by have e_c_4 := lv_neT c_4 (a := 0) (by decide); have e_c_7 : (q_i (S 10 0 u)).toInt = 2 := (by rw [c_7]; rfl); simp only [Int32.lt_iff_toInt_lt, Int32.le_iff_toInt_le, q_n0, q_n1, q_n2, q_n3, q_n4, q_n5, q_n6, q_n7, q_n8, q_n9, q_n10, q_n11, q_n12, q_n13, q_n14, q_n15, q_n20, q_n60, q_n1288] at c_1; have l1 := nI_toInt (n := u) (by omega); have l2 : (6 : Int32).toInt = 6 := rfl; rw [vp_in_iff]; omega
          have s_9 : (nI u).toNatClampNeg = u := by have e_c_4 := lv_neT c_4 (a := 0) (by decide); have e_c_7 : (q_i (S 10 0 u)).toInt = 2 := (by rw [c_7]; rfl); simp only [Int32.lt_iff_toInt_lt, Int32.le_iff_toInt_le, q_n0, q_n1, q_n2, q_n3, q_n4, q_n5, q_n6, q_n7, q_n8, q_n9, q_n10, q_n11, q_n12, q_n13, q_n14, q_n15, q_n20, q_n60, q_n1288] at c_1; have l1 := nI_toInt (n := u) (by omega); have l2 : (6 : Int32).toInt = 6 := rfl; apply q_tn; omega
          refine male_26 hC hW h_8 s_9 (rfl) md_fm_tick_113 ?_
          refine lv_aload_n hx hb md_fm_tick_114 rfl (lv_at hl 0 rfl) ?_
          refine mg_fm_136 hC hW 0 Nat.one_pos (rfl) md_fm_tick_115 ?_
          refine lv_i2l (v := Int32.toInt64 (q_i (S 0 0 34))) hx hb md_fm_tick_118 rfl ?_
          refine W.lcmp hx hb md_fm_tick_119 ?_
          refine lv_if_gt (tgt := 132) hx hb md_fm_tick_120 (by decide) (fun c_10 => ?_) (fun c_10 => ?_)
          · -- taken
            refine lv_iinc (v := nI u + 1) (lv' := [(3, .int (nI u + 1)), (0, .ref (q_a mX G 0 0)), (1, .int a), (2, .int (nI t))]) hx hb md_fm_tick_132 hl (k := 3) rfl rfl (by decide) rfl (fun ls hl => ?_)
            refine lv_goto (tgt := 83) hx hb md_fm_tick_135 (by decide) ?_
            have hf : m_fm_tick_L2 (n + 1) S a t u = m_fm_tick_L2 n S a t (u + 1) := by rw [m_fm_tick_L2, if_neg c_1, if_neg c_4, if_pos c_7, if_pos c_10]
            rw [hf] at kk
            have hl2 : lv_has ls 4 [(0, .ref (q_a mX G 0 0)), (1, .int a), (2, .int (nI t)), (3, .int (nI (u + 1)))] := by rw [← nI_1 u]; exact lv_sub hl [1, 2, 3, 0] rfl
            exact ih S t (u + 1) _ _ ls (by have n_t := nI_toInt (n := t) (by omega); have m_t := q_nT (n := t) (by omega); have n_u := nI_toInt (n := u) (by omega); have m_u := q_nT (n := u) (by omega); simp only [Int32.lt_iff_toInt_lt, Int32.le_iff_toInt_le, q_n0, q_n1, q_n2, q_n3, q_n4, q_n5, q_n6, q_n7, q_n8, q_n9, q_n10, q_n11, q_n12, q_n13, q_n14, q_n15, q_n20, q_n60, q_n1288] at c_1 c_10; omega) (by have n_t := nI_toInt (n := t) (by omega); have m_t := q_nT (n := t) (by omega); have n_u := nI_toInt (n := u) (by omega); have m_u := q_nT (n := u) (by omega); simp only [Int32.lt_iff_toInt_lt, Int32.le_iff_toInt_le, q_n0, q_n1, q_n2, q_n3, q_n4, q_n5, q_n6, q_n7, q_n8, q_n9, q_n10, q_n11, q_n12, q_n13, q_n14, q_n15, q_n20, q_n60, q_n1288] at c_1 c_10; omega) (by have n_t := nI_toInt (n := t) (by omega); have m_t := q_nT (n := t) (by omega); have n_u := nI_toInt (n := u) (by omega); have m_u := q_nT (n := u) (by omega); simp only [Int32.lt_iff_toInt_lt, Int32.le_iff_toInt_le, q_n0, q_n1, q_n2, q_n3, q_n4, q_n5, q_n6, q_n7, q_n8, q_n9, q_n10, q_n11, q_n12, q_n13, q_n14, q_n15, q_n20, q_n60, q_n1288] at c_1 c_10; omega) hI hJ hQ hZ hW hS hl2 kk
          · -- not taken
            refine lv_aload_n hx hb md_fm_tick_123 rfl (lv_at hl 0 rfl) ?_
            refine lv_iload_n hx hb md_fm_tick_124 rfl (lv_at hl 3 rfl) ?_
            refine lv_bipush (v := 6) hx hb md_fm_tick_125 (by decide) ?_
            refine lv_iconst (v := 0) hx hb md_fm_tick_127 (by decide) ?_
            refine lv_iconst (v := 0) hx hb md_fm_tick_128 (by decide) ?_
            have h_11 : u < 6 := by have e_c_4 := lv_neT c_4 (a := 0) (by decide); have e_c_7 : (q_i (S 10 0 u)).toInt = 2 := (by rw [c_7]; rfl); simp only [Int32.lt_iff_toInt_lt, Int32.le_iff_toInt_le, q_n0, q_n1, q_n2, q_n3, q_n4, q_n5, q_n6, q_n7, q_n8, q_n9, q_n10, q_n11, q_n12, q_n13, q_n14, q_n15, q_n20, q_n60, q_n1288] at c_1; have l1 := nI_toInt (n := u) (by omega); have l2 : (6 : Int32).toInt = 6 := rfl; omega
            refine q_callv hC hS (fun _ h => h) (q_runV (rest := []) hC hW (mC_fm_write l G S u 6 0 0 h_11 hI hJ (hZ u h_11 c_4).2.1 hQ (hZ u h_11 c_4).1 (hZ u h_11 c_4).2.2) (mc_fm_198 (q_rm 11) hC.1.2.2.2.2 ⟨Nat.le_of_ble_eq_true rfl, Nat.le_of_ble_eq_true rfl⟩ rfl rfl) Nat.one_pos rfl rfl rfl hl.1 rfl (Nat.le_of_ble_eq_true rfl) md_fm_tick_129 ⟨Nat.zero_le _, Nat.zero_le _⟩) (fun H locs hW hS => ?_)
            refine lv_iinc (v := nI u + 1) (lv' := [(3, .int (nI u + 1)), (0, .ref (q_a mX G 0 0)), (1, .int a), (2, .int (nI t))]) hx hb md_fm_tick_132 hl (k := 3) rfl rfl (by decide) rfl (fun ls hl => ?_)
            refine lv_goto (tgt := 83) hx hb md_fm_tick_135 (by decide) ?_
            have hf : m_fm_tick_L2 (n + 1) S a t u = m_fm_tick_L2 n (m_fm_write S u 6 0 0) a t (u + 1) := by rw [m_fm_tick_L2, if_neg c_1, if_neg c_4, if_pos c_7, if_neg c_10]
            rw [hf] at kk
            have hl2 : lv_has ls 4 [(0, .ref (q_a mX G 0 0)), (1, .int a), (2, .int (nI t)), (3, .int (nI (u + 1)))] := by rw [← nI_1 u]; exact lv_sub hl [1, 2, 3, 0] rfl
            have hI_12 : mI (m_fm_write S u 6 0 0) := (mI_fm_write S u 6 0 0 h_11 hI hJ (hZ u h_11 c_4).2.1 hQ (hZ u h_11 c_4).1 (hZ u h_11 c_4).2.2)
            have hJ_13 : mJ (m_fm_write S u 6 0 0) := mJ_eq hJ (fun k => (mK_fm_write S u 6 0 0 1 0 k (by decide) (by decide) (by decide) (by decide) (by decide) (by decide) (by decide) (by decide) (by decide) (by decide) (by decide) (by decide) (by decide) (by decide) (by decide) (by decide) (by decide) (by decide) (by decide) (by decide) (by decide) (by decide) (by decide) (by decide) (by decide) (by decide) (by decide))) (fun k => (mK_fm_write S u 6 0 0 2 0 k (by decide) (by decide) (by decide) (by decide) (by decide) (by decide) (by decide) (by decide) (by decide) (by decide) (by decide) (by decide) (by decide) (by decide) (by decide) (by decide) (by decide) (by decide) (by decide) (by decide) (by decide) (by decide) (by decide) (by decide) (by decide) (by decide) (by decide))) (fun k => (mK_fm_write S u 6 0 0 3 0 k (by decide) (by decide) (by decide) (by decide) (by decide) (by decide) (by decide) (by decide) (by decide) (by decide) (by decide) (by decide) (by decide) (by decide) (by decide) (by decide) (by decide) (by decide) (by decide) (by decide) (by decide) (by decide) (by decide) (by decide) (by decide) (by decide) (by decide))) (fun k => (mK_fm_write S u 6 0 0 4 0 k (by decide) (by decide) (by decide) (by decide) (by decide) (by decide) (by decide) (by decide) (by decide) (by decide) (by decide) (by decide) (by decide) (by decide) (by decide) (by decide) (by decide) (by decide) (by decide) (by decide) (by decide) (by decide) (by decide) (by decide) (by decide) (by decide) (by decide)))
            have hQ_14 : mQ (m_fm_write S u 6 0 0) := (mQ_fm_write S u 6 0 0 h_11 hI hJ (hZ u h_11 c_4).2.1 hQ (hZ u h_11 c_4).1 (hZ u h_11 c_4).2.2)
            exact ih (m_fm_write S u 6 0 0) t (u + 1) _ _ ls (by have n_t := nI_toInt (n := t) (by omega); have m_t := q_nT (n := t) (by omega); have n_u := nI_toInt (n := u) (by omega); have m_u := q_nT (n := u) (by omega); simp only [Int32.lt_iff_toInt_lt, Int32.le_iff_toInt_le, q_n0, q_n1, q_n2, q_n3, q_n4, q_n5, q_n6, q_n7, q_n8, q_n9, q_n10, q_n11, q_n12, q_n13, q_n14, q_n15, q_n20, q_n60, q_n1288] at c_1 c_10; omega) (by have n_t := nI_toInt (n := t) (by omega); have m_t := q_nT (n := t) (by omega); have n_u := nI_toInt (n := u) (by omega); have m_u := q_nT (n := u) (by omega); simp only [Int32.lt_iff_toInt_lt, Int32.le_iff_toInt_le, q_n0, q_n1, q_n2, q_n3, q_n4, q_n5, q_n6, q_n7, q_n8, q_n9, q_n10, q_n11, q_n12, q_n13, q_n14, q_n15, q_n20, q_n60, q_n1288] at c_1 c_10; omega) (by have n_t := nI_toInt (n := t) (by omega); have m_t := q_nT (n := t) (by omega); have n_u := nI_toInt (n := u) (by omega); have m_u := q_nT (n := u) (by omega); simp only [Int32.lt_iff_toInt_lt, Int32.le_iff_toInt_le, q_n0, q_n1, q_n2, q_n3, q_n4, q_n5, q_n6, q_n7, q_n8, q_n9, q_n10, q_n11, q_n12, q_n13, q_n14, q_n15, q_n20, q_n60, q_n1288] at c_1 c_10; omega) hI_12 hJ_13 hQ_14 (mZ2_write h_11 hI hJ hQ hZ c_4 6 0 0) hW hS hl2 kk
set_option maxRecDepth 100000 in
set_option maxHeartbeats 4000000 in
theorem mK_fm_tick_L2 : ∀ (n : Nat) (S : q_S) (a : Int32) (t : Nat) (u : Nat) (x y z : Nat) (h0 : x ≠ 0) (h6 : x ≠ 6) (h7 : x ≠ 7) (h8 : x ≠ 8) (h10 : x ≠ 10) (h11 : x ≠ 11) (h12 : x ≠ 12) (h13 : x ≠ 13) (h14 : x ≠ 14) (h15 : x ≠ 15) (h16 : x ≠ 16) (h17 : x ≠ 17) (h18 : x ≠ 18) (h19 : x ≠ 19) (h20 : x ≠ 20) (h21 : x ≠ 21) (h22 : x ≠ 22) (h23 : x ≠ 23) (h24 : x ≠ 24) (h25 : x ≠ 25) (h26 : x ≠ 26) (h27 : x ≠ 27) (h28 : x ≠ 28) (h29 : x ≠ 29) (h31 : x ≠ 31) (h32 : x ≠ 32) (h33 : x ≠ 33), (m_fm_tick_L2 n S a t u) x y z = S x y z := by
  intro n
  induction n with
  | zero => intro S a t u x y z h0 h6 h7 h8 h10 h11 h12 h13 h14 h15 h16 h17 h18 h19 h20 h21 h22 h23 h24 h25 h26 h27 h28 h29 h31 h32 h33; rfl
  | succ n ih =>
    intro S a t u x y z h0 h6 h7 h8 h10 h11 h12 h13 h14 h15 h16 h17 h18 h19 h20 h21 h22 h23 h24 h25 h26 h27 h28 h29 h31 h32 h33
    by_cases c_1 : 6 ≤ nI u
    · -- yes
      have hf : m_fm_tick_L2 (n + 1) S a t u = S := by rw [m_fm_tick_L2, if_pos c_1]
      rw [hf]
    · -- no
      by_cases c_4 : q_i (S 5 0 u) = 0
      · -- yes
        have hf : m_fm_tick_L2 (n + 1) S a t u = m_fm_tick_L2 n S a t (u + 1) := by rw [m_fm_tick_L2, if_neg c_1, if_pos c_4]
        rw [hf]
        exact (ih S a t (u + 1) x y z h0 h6 h7 h8 h10 h11 h12 h13 h14 h15 h16 h17 h18 h19 h20 h21 h22 h23 h24 h25 h26 h27 h28 h29 h31 h32 h33).trans (rfl)
      · -- no
        by_cases c_7 : q_i (S 10 0 u) = 2
        · -- yes
          by_cases c_10 : 0 < lg_cmp (q_l (S 26 0 u)) (Int32.toInt64 (q_i (S 0 0 34)))
          · -- yes
            have hf : m_fm_tick_L2 (n + 1) S a t u = m_fm_tick_L2 n S a t (u + 1) := by rw [m_fm_tick_L2, if_neg c_1, if_neg c_4, if_pos c_7, if_pos c_10]
            rw [hf]
            exact (ih S a t (u + 1) x y z h0 h6 h7 h8 h10 h11 h12 h13 h14 h15 h16 h17 h18 h19 h20 h21 h22 h23 h24 h25 h26 h27 h28 h29 h31 h32 h33).trans (rfl)
          · -- no
            have hf : m_fm_tick_L2 (n + 1) S a t u = m_fm_tick_L2 n (m_fm_write S u 6 0 0) a t (u + 1) := by rw [m_fm_tick_L2, if_neg c_1, if_neg c_4, if_pos c_7, if_neg c_10]
            rw [hf]
            exact (ih (m_fm_write S u 6 0 0) a t (u + 1) x y z h0 h6 h7 h8 h10 h11 h12 h13 h14 h15 h16 h17 h18 h19 h20 h21 h22 h23 h24 h25 h26 h27 h28 h29 h31 h32 h33).trans (((mK_fm_write S u 6 0 0 x y z h0 h6 h7 h8 h10 h11 h12 h13 h14 h15 h16 h17 h18 h19 h20 h21 h22 h23 h24 h25 h26 h27 h28 h29 h31 h32 h33)))
        · -- no
          have hf : m_fm_tick_L2 (n + 1) S a t u = m_fm_tick_L2 n S a t (u + 1) := by rw [m_fm_tick_L2, if_neg c_1, if_neg c_4, if_neg c_7]
          rw [hf]
          exact (ih S a t (u + 1) x y z h0 h6 h7 h8 h10 h11 h12 h13 h14 h15 h16 h17 h18 h19 h20 h21 h22 h23 h24 h25 h26 h27 h28 h29 h31 h32 h33).trans (rfl)
set_option maxRecDepth 100000 in
set_option maxHeartbeats 4000000 in
theorem mI_fm_tick_L2 (a : Int32)  : ∀ (n : Nat) (S : q_S) (t : Nat) (u : Nat), u + n = 7 → u ≤ 6 → t ≤ 20 → mI S → mJ S → mQ S → mZ2 S → mI (m_fm_tick_L2 n S a t u) := by
  intro n
  induction n with
  | zero =>
    intro S t u ht hu hk hI hJ hQ hZ
    exfalso
    omega
  | succ n ih =>
    intro S t u ht hu hk hI hJ hQ hZ
    by_cases c_1 : 6 ≤ nI u
    · -- yes
      have hf : m_fm_tick_L2 (n + 1) S a t u = S := by rw [m_fm_tick_L2, if_pos c_1]
      rw [hf]
      exact hI
    · -- no
      by_cases c_4 : q_i (S 5 0 u) = 0
      · -- yes
        have h_2 : vp_in (nI u) 6 := by simp only [Int32.lt_iff_toInt_lt, Int32.le_iff_toInt_le, q_n0, q_n1, q_n2, q_n3, q_n4, q_n5, q_n6, q_n7, q_n8, q_n9, q_n10, q_n11, q_n12, q_n13, q_n14, q_n15, q_n20, q_n60, q_n1288] at c_1; have l1 := nI_toInt (n := u) (by omega); have l2 : (6 : Int32).toInt = 6 := rfl; rw [vp_in_iff]; omega
        have s_3 : (nI u).toNatClampNeg = u := by simp only [Int32.lt_iff_toInt_lt, Int32.le_iff_toInt_le, q_n0, q_n1, q_n2, q_n3, q_n4, q_n5, q_n6, q_n7, q_n8, q_n9, q_n10, q_n11, q_n12, q_n13, q_n14, q_n15, q_n20, q_n60, q_n1288] at c_1; have l1 := nI_toInt (n := u) (by omega); have l2 : (6 : Int32).toInt = 6 := rfl; apply q_tn; omega
        have hf : m_fm_tick_L2 (n + 1) S a t u = m_fm_tick_L2 n S a t (u + 1) := by rw [m_fm_tick_L2, if_neg c_1, if_pos c_4]
        rw [hf]
        exact ih S t (u + 1) (by have n_t := nI_toInt (n := t) (by omega); have m_t := q_nT (n := t) (by omega); have n_u := nI_toInt (n := u) (by omega); have m_u := q_nT (n := u) (by omega); simp only [Int32.lt_iff_toInt_lt, Int32.le_iff_toInt_le, q_n0, q_n1, q_n2, q_n3, q_n4, q_n5, q_n6, q_n7, q_n8, q_n9, q_n10, q_n11, q_n12, q_n13, q_n14, q_n15, q_n20, q_n60, q_n1288] at c_1; omega) (by have n_t := nI_toInt (n := t) (by omega); have m_t := q_nT (n := t) (by omega); have n_u := nI_toInt (n := u) (by omega); have m_u := q_nT (n := u) (by omega); simp only [Int32.lt_iff_toInt_lt, Int32.le_iff_toInt_le, q_n0, q_n1, q_n2, q_n3, q_n4, q_n5, q_n6, q_n7, q_n8, q_n9, q_n10, q_n11, q_n12, q_n13, q_n14, q_n15, q_n20, q_n60, q_n1288] at c_1; omega) (by have n_t := nI_toInt (n := t) (by omega); have m_t := q_nT (n := t) (by omega); have n_u := nI_toInt (n := u) (by omega); have m_u := q_nT (n := u) (by omega); simp only [Int32.lt_iff_toInt_lt, Int32.le_iff_toInt_le, q_n0, q_n1, q_n2, q_n3, q_n4, q_n5, q_n6, q_n7, q_n8, q_n9, q_n10, q_n11, q_n12, q_n13, q_n14, q_n15, q_n20, q_n60, q_n1288] at c_1; omega) hI hJ hQ hZ
      · -- no
        by_cases c_7 : q_i (S 10 0 u) = 2
        · -- yes
          by_cases c_10 : 0 < lg_cmp (q_l (S 26 0 u)) (Int32.toInt64 (q_i (S 0 0 34)))
          · -- yes
            have h_2 : vp_in (nI u) 6 := by simp only [Int32.lt_iff_toInt_lt, Int32.le_iff_toInt_le, q_n0, q_n1, q_n2, q_n3, q_n4, q_n5, q_n6, q_n7, q_n8, q_n9, q_n10, q_n11, q_n12, q_n13, q_n14, q_n15, q_n20, q_n60, q_n1288] at c_1; have l1 := nI_toInt (n := u) (by omega); have l2 : (6 : Int32).toInt = 6 := rfl; rw [vp_in_iff]; omega
            have s_3 : (nI u).toNatClampNeg = u := by simp only [Int32.lt_iff_toInt_lt, Int32.le_iff_toInt_le, q_n0, q_n1, q_n2, q_n3, q_n4, q_n5, q_n6, q_n7, q_n8, q_n9, q_n10, q_n11, q_n12, q_n13, q_n14, q_n15, q_n20, q_n60, q_n1288] at c_1; have l1 := nI_toInt (n := u) (by omega); have l2 : (6 : Int32).toInt = 6 := rfl; apply q_tn; omega
            have h_5 : vp_in (nI u) 6 := by have e_c_4 := lv_neT c_4 (a := 0) (by decide); simp only [Int32.lt_iff_toInt_lt, Int32.le_iff_toInt_le, q_n0, q_n1, q_n2, q_n3, q_n4, q_n5, q_n6, q_n7, q_n8, q_n9, q_n10, q_n11, q_n12, q_n13, q_n14, q_n15, q_n20, q_n60, q_n1288] at c_1; have l1 := nI_toInt (n := u) (by omega); have l2 : (6 : Int32).toInt = 6 := rfl; rw [vp_in_iff]; omega
            have s_6 : (nI u).toNatClampNeg = u := by have e_c_4 := lv_neT c_4 (a := 0) (by decide); simp only [Int32.lt_iff_toInt_lt, Int32.le_iff_toInt_le, q_n0, q_n1, q_n2, q_n3, q_n4, q_n5, q_n6, q_n7, q_n8, q_n9, q_n10, q_n11, q_n12, q_n13, q_n14, q_n15, q_n20, q_n60, q_n1288] at c_1; have l1 := nI_toInt (n := u) (by omega); have l2 : (6 : Int32).toInt = 6 := rfl; apply q_tn; omega
            have h_8 : vp_in (nI u) 6 := by have e_c_4 := lv_neT c_4 (a := 0) (by decide); have e_c_7 : (q_i (S 10 0 u)).toInt = 2 := (by rw [c_7]; rfl); simp only [Int32.lt_iff_toInt_lt, Int32.le_iff_toInt_le, q_n0, q_n1, q_n2, q_n3, q_n4, q_n5, q_n6, q_n7, q_n8, q_n9, q_n10, q_n11, q_n12, q_n13, q_n14, q_n15, q_n20, q_n60, q_n1288] at c_1; have l1 := nI_toInt (n := u) (by omega); have l2 : (6 : Int32).toInt = 6 := rfl; rw [vp_in_iff]; omega
            have s_9 : (nI u).toNatClampNeg = u := by have e_c_4 := lv_neT c_4 (a := 0) (by decide); have e_c_7 : (q_i (S 10 0 u)).toInt = 2 := (by rw [c_7]; rfl); simp only [Int32.lt_iff_toInt_lt, Int32.le_iff_toInt_le, q_n0, q_n1, q_n2, q_n3, q_n4, q_n5, q_n6, q_n7, q_n8, q_n9, q_n10, q_n11, q_n12, q_n13, q_n14, q_n15, q_n20, q_n60, q_n1288] at c_1; have l1 := nI_toInt (n := u) (by omega); have l2 : (6 : Int32).toInt = 6 := rfl; apply q_tn; omega
            have hf : m_fm_tick_L2 (n + 1) S a t u = m_fm_tick_L2 n S a t (u + 1) := by rw [m_fm_tick_L2, if_neg c_1, if_neg c_4, if_pos c_7, if_pos c_10]
            rw [hf]
            exact ih S t (u + 1) (by have n_t := nI_toInt (n := t) (by omega); have m_t := q_nT (n := t) (by omega); have n_u := nI_toInt (n := u) (by omega); have m_u := q_nT (n := u) (by omega); simp only [Int32.lt_iff_toInt_lt, Int32.le_iff_toInt_le, q_n0, q_n1, q_n2, q_n3, q_n4, q_n5, q_n6, q_n7, q_n8, q_n9, q_n10, q_n11, q_n12, q_n13, q_n14, q_n15, q_n20, q_n60, q_n1288] at c_1 c_10; omega) (by have n_t := nI_toInt (n := t) (by omega); have m_t := q_nT (n := t) (by omega); have n_u := nI_toInt (n := u) (by omega); have m_u := q_nT (n := u) (by omega); simp only [Int32.lt_iff_toInt_lt, Int32.le_iff_toInt_le, q_n0, q_n1, q_n2, q_n3, q_n4, q_n5, q_n6, q_n7, q_n8, q_n9, q_n10, q_n11, q_n12, q_n13, q_n14, q_n15, q_n20, q_n60, q_n1288] at c_1 c_10; omega) (by have n_t := nI_toInt (n := t) (by omega); have m_t := q_nT (n := t) (by omega); have n_u := nI_toInt (n := u) (by omega); have m_u := q_nT (n := u) (by omega); simp only [Int32.lt_iff_toInt_lt, Int32.le_iff_toInt_le, q_n0, q_n1, q_n2, q_n3, q_n4, q_n5, q_n6, q_n7, q_n8, q_n9, q_n10, q_n11, q_n12, q_n13, q_n14, q_n15, q_n20, q_n60, q_n1288] at c_1 c_10; omega) hI hJ hQ hZ
          · -- no
            have h_2 : vp_in (nI u) 6 := by simp only [Int32.lt_iff_toInt_lt, Int32.le_iff_toInt_le, q_n0, q_n1, q_n2, q_n3, q_n4, q_n5, q_n6, q_n7, q_n8, q_n9, q_n10, q_n11, q_n12, q_n13, q_n14, q_n15, q_n20, q_n60, q_n1288] at c_1; have l1 := nI_toInt (n := u) (by omega); have l2 : (6 : Int32).toInt = 6 := rfl; rw [vp_in_iff]; omega
            have s_3 : (nI u).toNatClampNeg = u := by simp only [Int32.lt_iff_toInt_lt, Int32.le_iff_toInt_le, q_n0, q_n1, q_n2, q_n3, q_n4, q_n5, q_n6, q_n7, q_n8, q_n9, q_n10, q_n11, q_n12, q_n13, q_n14, q_n15, q_n20, q_n60, q_n1288] at c_1; have l1 := nI_toInt (n := u) (by omega); have l2 : (6 : Int32).toInt = 6 := rfl; apply q_tn; omega
            have h_5 : vp_in (nI u) 6 := by have e_c_4 := lv_neT c_4 (a := 0) (by decide); simp only [Int32.lt_iff_toInt_lt, Int32.le_iff_toInt_le, q_n0, q_n1, q_n2, q_n3, q_n4, q_n5, q_n6, q_n7, q_n8, q_n9, q_n10, q_n11, q_n12, q_n13, q_n14, q_n15, q_n20, q_n60, q_n1288] at c_1; have l1 := nI_toInt (n := u) (by omega); have l2 : (6 : Int32).toInt = 6 := rfl; rw [vp_in_iff]; omega
            have s_6 : (nI u).toNatClampNeg = u := by have e_c_4 := lv_neT c_4 (a := 0) (by decide); simp only [Int32.lt_iff_toInt_lt, Int32.le_iff_toInt_le, q_n0, q_n1, q_n2, q_n3, q_n4, q_n5, q_n6, q_n7, q_n8, q_n9, q_n10, q_n11, q_n12, q_n13, q_n14, q_n15, q_n20, q_n60, q_n1288] at c_1; have l1 := nI_toInt (n := u) (by omega); have l2 : (6 : Int32).toInt = 6 := rfl; apply q_tn; omega
            have h_8 : vp_in (nI u) 6 := by have e_c_4 := lv_neT c_4 (a := 0) (by decide); have e_c_7 : (q_i (S 10 0 u)).toInt = 2 := (by rw [c_7]; rfl); simp only [Int32.lt_iff_toInt_lt, Int32.le_iff_toInt_le, q_n0, q_n1, q_n2, q_n3, q_n4, q_n5, q_n6, q_n7, q_n8, q_n9, q_n10, q_n11, q_n12, q_n13, q_n14, q_n15, q_n20, q_n60, q_n1288] at c_1; have l1 := nI_toInt (n := u) (by omega); have l2 : (6 : Int32).toInt = 6 := rfl; rw [vp_in_iff]; omega
            have s_9 : (nI u).toNatClampNeg = u := by have e_c_4 := lv_neT c_4 (a := 0) (by decide); have e_c_7 : (q_i (S 10 0 u)).toInt = 2 := (by rw [c_7]; rfl); simp only [Int32.lt_iff_toInt_lt, Int32.le_iff_toInt_le, q_n0, q_n1, q_n2, q_n3, q_n4, q_n5, q_n6, q_n7, q_n8, q_n9, q_n10, q_n11, q_n12, q_n13, q_n14, q_n15, q_n20, q_n60, q_n1288] at c_1; have l1 := nI_toInt (n := u) (by omega); have l2 : (6 : Int32).toInt = 6 := rfl; apply q_tn; omega
            have h_11 : u < 6 := by have e_c_4 := lv_neT c_4 (a := 0) (by decide); have e_c_7 : (q_i (S 10 0 u)).toInt = 2 := (by rw [c_7]; rfl); simp only [Int32.lt_iff_toInt_lt, Int32.le_iff_toInt_le, q_n0, q_n1, q_n2, q_n3, q_n4, q_n5, q_n6, q_n7, q_n8, q_n9, q_n10, q_n11, q_n12, q_n13, q_n14, q_n15, q_n20, q_n60, q_n1288] at c_1; have l1 := nI_toInt (n := u) (by omega); have l2 : (6 : Int32).toInt = 6 := rfl; omega
            have hI_12 : mI (m_fm_write S u 6 0 0) := (mI_fm_write S u 6 0 0 h_11 hI hJ (hZ u h_11 c_4).2.1 hQ (hZ u h_11 c_4).1 (hZ u h_11 c_4).2.2)
            have hJ_13 : mJ (m_fm_write S u 6 0 0) := mJ_eq hJ (fun k => (mK_fm_write S u 6 0 0 1 0 k (by decide) (by decide) (by decide) (by decide) (by decide) (by decide) (by decide) (by decide) (by decide) (by decide) (by decide) (by decide) (by decide) (by decide) (by decide) (by decide) (by decide) (by decide) (by decide) (by decide) (by decide) (by decide) (by decide) (by decide) (by decide) (by decide) (by decide))) (fun k => (mK_fm_write S u 6 0 0 2 0 k (by decide) (by decide) (by decide) (by decide) (by decide) (by decide) (by decide) (by decide) (by decide) (by decide) (by decide) (by decide) (by decide) (by decide) (by decide) (by decide) (by decide) (by decide) (by decide) (by decide) (by decide) (by decide) (by decide) (by decide) (by decide) (by decide) (by decide))) (fun k => (mK_fm_write S u 6 0 0 3 0 k (by decide) (by decide) (by decide) (by decide) (by decide) (by decide) (by decide) (by decide) (by decide) (by decide) (by decide) (by decide) (by decide) (by decide) (by decide) (by decide) (by decide) (by decide) (by decide) (by decide) (by decide) (by decide) (by decide) (by decide) (by decide) (by decide) (by decide))) (fun k => (mK_fm_write S u 6 0 0 4 0 k (by decide) (by decide) (by decide) (by decide) (by decide) (by decide) (by decide) (by decide) (by decide) (by decide) (by decide) (by decide) (by decide) (by decide) (by decide) (by decide) (by decide) (by decide) (by decide) (by decide) (by decide) (by decide) (by decide) (by decide) (by decide) (by decide) (by decide)))
            have hQ_14 : mQ (m_fm_write S u 6 0 0) := (mQ_fm_write S u 6 0 0 h_11 hI hJ (hZ u h_11 c_4).2.1 hQ (hZ u h_11 c_4).1 (hZ u h_11 c_4).2.2)
            have hf : m_fm_tick_L2 (n + 1) S a t u = m_fm_tick_L2 n (m_fm_write S u 6 0 0) a t (u + 1) := by rw [m_fm_tick_L2, if_neg c_1, if_neg c_4, if_pos c_7, if_neg c_10]
            rw [hf]
            have hI_907 : mI (m_fm_write S u 6 0 0) := (mI_fm_write S u 6 0 0 h_11 hI hJ (hZ u h_11 c_4).2.1 hQ (hZ u h_11 c_4).1 (hZ u h_11 c_4).2.2)
            have hJ_908 : mJ (m_fm_write S u 6 0 0) := mJ_eq hJ (fun k => (mK_fm_write S u 6 0 0 1 0 k (by decide) (by decide) (by decide) (by decide) (by decide) (by decide) (by decide) (by decide) (by decide) (by decide) (by decide) (by decide) (by decide) (by decide) (by decide) (by decide) (by decide) (by decide) (by decide) (by decide) (by decide) (by decide) (by decide) (by decide) (by decide) (by decide) (by decide))) (fun k => (mK_fm_write S u 6 0 0 2 0 k (by decide) (by decide) (by decide) (by decide) (by decide) (by decide) (by decide) (by decide) (by decide) (by decide) (by decide) (by decide) (by decide) (by decide) (by decide) (by decide) (by decide) (by decide) (by decide) (by decide) (by decide) (by decide) (by decide) (by decide) (by decide) (by decide) (by decide))) (fun k => (mK_fm_write S u 6 0 0 3 0 k (by decide) (by decide) (by decide) (by decide) (by decide) (by decide) (by decide) (by decide) (by decide) (by decide) (by decide) (by decide) (by decide) (by decide) (by decide) (by decide) (by decide) (by decide) (by decide) (by decide) (by decide) (by decide) (by decide) (by decide) (by decide) (by decide) (by decide))) (fun k => (mK_fm_write S u 6 0 0 4 0 k (by decide) (by decide) (by decide) (by decide) (by decide) (by decide) (by decide) (by decide) (by decide) (by decide) (by decide) (by decide) (by decide) (by decide) (by decide) (by decide) (by decide) (by decide) (by decide) (by decide) (by decide) (by decide) (by decide) (by decide) (by decide) (by decide) (by decide)))
            have hQ_909 : mQ (m_fm_write S u 6 0 0) := (mQ_fm_write S u 6 0 0 h_11 hI hJ (hZ u h_11 c_4).2.1 hQ (hZ u h_11 c_4).1 (hZ u h_11 c_4).2.2)
            exact ih (m_fm_write S u 6 0 0) t (u + 1) (by have n_t := nI_toInt (n := t) (by omega); have m_t := q_nT (n := t) (by omega); have n_u := nI_toInt (n := u) (by omega); have m_u := q_nT (n := u) (by omega); simp only [Int32.lt_iff_toInt_lt, Int32.le_iff_toInt_le, q_n0, q_n1, q_n2, q_n3, q_n4, q_n5, q_n6, q_n7, q_n8, q_n9, q_n10, q_n11, q_n12, q_n13, q_n14, q_n15, q_n20, q_n60, q_n1288] at c_1 c_10; omega) (by have n_t := nI_toInt (n := t) (by omega); have m_t := q_nT (n := t) (by omega); have n_u := nI_toInt (n := u) (by omega); have m_u := q_nT (n := u) (by omega); simp only [Int32.lt_iff_toInt_lt, Int32.le_iff_toInt_le, q_n0, q_n1, q_n2, q_n3, q_n4, q_n5, q_n6, q_n7, q_n8, q_n9, q_n10, q_n11, q_n12, q_n13, q_n14, q_n15, q_n20, q_n60, q_n1288] at c_1 c_10; omega) (by have n_t := nI_toInt (n := t) (by omega); have m_t := q_nT (n := t) (by omega); have n_u := nI_toInt (n := u) (by omega); have m_u := q_nT (n := u) (by omega); simp only [Int32.lt_iff_toInt_lt, Int32.le_iff_toInt_le, q_n0, q_n1, q_n2, q_n3, q_n4, q_n5, q_n6, q_n7, q_n8, q_n9, q_n10, q_n11, q_n12, q_n13, q_n14, q_n15, q_n20, q_n60, q_n1288] at c_1 c_10; omega) hI_907 hJ_908 hQ_909 (mZ2_write h_11 hI hJ hQ hZ c_4 6 0 0)
        · -- no
          have h_2 : vp_in (nI u) 6 := by simp only [Int32.lt_iff_toInt_lt, Int32.le_iff_toInt_le, q_n0, q_n1, q_n2, q_n3, q_n4, q_n5, q_n6, q_n7, q_n8, q_n9, q_n10, q_n11, q_n12, q_n13, q_n14, q_n15, q_n20, q_n60, q_n1288] at c_1; have l1 := nI_toInt (n := u) (by omega); have l2 : (6 : Int32).toInt = 6 := rfl; rw [vp_in_iff]; omega
          have s_3 : (nI u).toNatClampNeg = u := by simp only [Int32.lt_iff_toInt_lt, Int32.le_iff_toInt_le, q_n0, q_n1, q_n2, q_n3, q_n4, q_n5, q_n6, q_n7, q_n8, q_n9, q_n10, q_n11, q_n12, q_n13, q_n14, q_n15, q_n20, q_n60, q_n1288] at c_1; have l1 := nI_toInt (n := u) (by omega); have l2 : (6 : Int32).toInt = 6 := rfl; apply q_tn; omega
          have h_5 : vp_in (nI u) 6 := by have e_c_4 := lv_neT c_4 (a := 0) (by decide); simp only [Int32.lt_iff_toInt_lt, Int32.le_iff_toInt_le, q_n0, q_n1, q_n2, q_n3, q_n4, q_n5, q_n6, q_n7, q_n8, q_n9, q_n10, q_n11, q_n12, q_n13, q_n14, q_n15, q_n20, q_n60, q_n1288] at c_1; have l1 := nI_toInt (n := u) (by omega); have l2 : (6 : Int32).toInt = 6 := rfl; rw [vp_in_iff]; omega
          have s_6 : (nI u).toNatClampNeg = u := by have e_c_4 := lv_neT c_4 (a := 0) (by decide); simp only [Int32.lt_iff_toInt_lt, Int32.le_iff_toInt_le, q_n0, q_n1, q_n2, q_n3, q_n4, q_n5, q_n6, q_n7, q_n8, q_n9, q_n10, q_n11, q_n12, q_n13, q_n14, q_n15, q_n20, q_n60, q_n1288] at c_1; have l1 := nI_toInt (n := u) (by omega); have l2 : (6 : Int32).toInt = 6 := rfl; apply q_tn; omega
          have hf : m_fm_tick_L2 (n + 1) S a t u = m_fm_tick_L2 n S a t (u + 1) := by rw [m_fm_tick_L2, if_neg c_1, if_neg c_4, if_neg c_7]
          rw [hf]
          exact ih S t (u + 1) (by have n_t := nI_toInt (n := t) (by omega); have m_t := q_nT (n := t) (by omega); have n_u := nI_toInt (n := u) (by omega); have m_u := q_nT (n := u) (by omega); simp only [Int32.lt_iff_toInt_lt, Int32.le_iff_toInt_le, q_n0, q_n1, q_n2, q_n3, q_n4, q_n5, q_n6, q_n7, q_n8, q_n9, q_n10, q_n11, q_n12, q_n13, q_n14, q_n15, q_n20, q_n60, q_n1288] at c_1; omega) (by have n_t := nI_toInt (n := t) (by omega); have m_t := q_nT (n := t) (by omega); have n_u := nI_toInt (n := u) (by omega); have m_u := q_nT (n := u) (by omega); simp only [Int32.lt_iff_toInt_lt, Int32.le_iff_toInt_le, q_n0, q_n1, q_n2, q_n3, q_n4, q_n5, q_n6, q_n7, q_n8, q_n9, q_n10, q_n11, q_n12, q_n13, q_n14, q_n15, q_n20, q_n60, q_n1288] at c_1; omega) (by have n_t := nI_toInt (n := t) (by omega); have m_t := q_nT (n := t) (by omega); have n_u := nI_toInt (n := u) (by omega); have m_u := q_nT (n := u) (by omega); simp only [Int32.lt_iff_toInt_lt, Int32.le_iff_toInt_le, q_n0, q_n1, q_n2, q_n3, q_n4, q_n5, q_n6, q_n7, q_n8, q_n9, q_n10, q_n11, q_n12, q_n13, q_n14, q_n15, q_n20, q_n60, q_n1288] at c_1; omega) hI hJ hQ hZ
