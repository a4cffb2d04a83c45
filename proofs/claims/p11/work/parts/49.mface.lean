theorem mF_isT {S : q_S} {a : Int32} (h : ¬ m_fm_isThere S a = 0) : ¬ a < 0 ∧ ¬ 5 < a := by
  unfold m_fm_isThere at h
  split at h
  · exact absurd rfl h
  · rename_i q
    exact mF_in q
theorem mF_isT2 {S : q_S} {a : Int32} (h : ¬ m_fm_isThere S a = 0) : ¬ q_i (S 5 0 a.toNatClampNeg) = 0 := by
  unfold m_fm_isThere at h
  split at h
  · exact absurd rfl h
  · split at h
    · exact absurd rfl h
    · assumption
def m_fm_forgetAll_L0 : Nat → q_S → Int32 → Nat → q_S
  | 0, S, _, _ => S
  | n + 1, S, a, t =>
    if 6 ≤ nI t then
      S
    else
      if q_i (S 5 0 t) = 0 then
        m_fm_forgetAll_L0 n S a (t + 1)
      else
        if q_i (S 9 0 t) = a then
          if 5 ≤ q_i (S 10 0 t) then
            m_fm_forgetAll_L0 n S a (t + 1)
          else
            m_fm_forgetAll_L0 n (q_st S 6 0 t (.int 1)) a (t + 1)
        else
          m_fm_forgetAll_L0 n S a (t + 1)
set_option maxRecDepth 100000 in
set_option maxHeartbeats 4000000 in
theorem mL_fm_forgetAll_L0 (l : Launch) (G : q_G) (a : Int32)  {p : Program} {e : Env} {s : State} {m : MethodId} {below : List Frame} {meth : Method} {c : Code} (hC : q_C mX G p m c mb_fm_forgetAll 3 s ([.ref (q_a mX G 0 0), .int a] : List Value).toArray (q_ws (q_gw lw_tbl) my_fm_forgetAll mb_fm_forgetAll 3 none) mR_fm) (hr : meth.sig.returnType = none) (hlocks : meth.locks = false) : ∀ (n : Nat) (S : q_S) (t : Nat) (H : Heap) (locs : List Loc) (ls : Array Slot), t + n = 7 → t ≤ 6 → mI S → q_w mX G s S H → va_S (q_A mX G) s.heap H locs → lv_has ls 3 [(0, .ref (q_a mX G 0 0)), (1, .int a), (2, .int (nI t))] → W p l e (headSpec (q_ws (q_gw lw_tbl) my_fm_forgetAll mb_fm_forgetAll 3 none) (q_rm 0)).room s m ([.ref (q_a mX G 0 0), .int a] : List Value).toArray below meth c H locs 0 0 (MQ below (va_Qv (fun (u : q_S) => u = m_fm_forgetAll_L0 n S a t) (q_P mX G) (q_A mX G)) ([.ref (q_a mX G 0 0), .int a] : List Value).toArray s 0 0 (q_A mX G)) (F0 m 2 ls []) := by
  have hx := hC.1.1
  have hb := hC.1.2.1
  intro n
  induction n with
  | zero =>
    intro S t H locs ls ht hu hI hW hS hl
    exfalso
    omega
  | succ n ih =>
    intro S t H locs ls ht hu hI hW hS hl
    refine lv_iload_n hx hb md_fm_forgetAll_2 rfl (lv_at hl 2 rfl) ?_
    refine lv_bipush (v := 6) hx hb md_fm_forgetAll_3 (by decide) ?_
    refine lv_icmp_ge (tgt := 50) hx hb md_fm_forgetAll_5 (by decide) (fun c_1 => ?_) (fun c_1 => ?_)
    · -- taken
      have hf : m_fm_forgetAll_L0 (n + 1) S a t = S := by rw [m_fm_forgetAll_L0, if_pos c_1]
      rw [hf]
      exact q_vret hC hr hlocks hW hS rfl md_fm_forgetAll_50
    · -- not taken
      refine lv_aload_n hx hb md_fm_forgetAll_8 rfl (lv_at hl 0 rfl) ?_
      refine mg_fm_22 hC hW 0 Nat.one_pos md_fm_forgetAll_9 ?_
      refine lv_iload_n hx hb md_fm_forgetAll_12 rfl (lv_at hl 2 rfl) ?_
      have h_2 : vp_in (nI t) 6 := by simp only [Int32.lt_iff_toInt_lt, Int32.le_iff_toInt_le, q_n0, q_n1, q_n2, q_n3, q_n4, q_n5, q_n6, q_n7, q_n8, q_n9, q_n10, q_n11, q_n12, q_n13, q_n14, q_n15, q_n20, q_n60, q_n1288] at c_1; have l1 := nI_toInt (n := t) (by omega); have l2 : (6 : Int32).toInt = 6 := rfl; rw [vp_in_iff]; omega
      have s_3 : (nI t).toNatClampNeg = t := by simp only [Int32.lt_iff_toInt_lt, Int32.le_iff_toInt_le, q_n0, q_n1, q_n2, q_n3, q_n4, q_n5, q_n6, q_n7, q_n8, q_n9, q_n10, q_n11, q_n12, q_n13, q_n14, q_n15, q_n20, q_n60, q_n1288] at c_1; have l1 := nI_toInt (n := t) (by omega); have l2 : (6 : Int32).toInt = 6 := rfl; apply q_tn; omega
      refine male_5 hC hW h_2 s_3 (rfl) md_fm_forgetAll_13 ?_
      refine lv_if_eq (tgt := 44) hx hb md_fm_forgetAll_14 (by decide) (fun c_4 => ?_) (fun c_4 => ?_)
      · -- taken
        refine lv_iinc (v := nI t + 1) (lv' := [(2, .int (nI t + 1)), (0, .ref (q_a mX G 0 0)), (1, .int a)]) hx hb md_fm_forgetAll_44 hl (k := 2) rfl rfl (by decide) rfl (fun ls hl => ?_)
        refine lv_goto (tgt := 2) hx hb md_fm_forgetAll_47 (by decide) ?_
        have hf : m_fm_forgetAll_L0 (n + 1) S a t = m_fm_forgetAll_L0 n S a (t + 1) := by rw [m_fm_forgetAll_L0, if_neg c_1, if_pos c_4]
        rw [hf]
        have hl2 : lv_has ls 3 [(0, .ref (q_a mX G 0 0)), (1, .int a), (2, .int (nI (t + 1)))] := by rw [← nI_1 t]; exact lv_sub hl [1, 2, 0] rfl
        exact ih S (t + 1) _ _ ls (by have n_t := nI_toInt (n := t) (by omega); have m_t := q_nT (n := t) (by omega); simp only [Int32.lt_iff_toInt_lt, Int32.le_iff_toInt_le, q_n0, q_n1, q_n2, q_n3, q_n4, q_n5, q_n6, q_n7, q_n8, q_n9, q_n10, q_n11, q_n12, q_n13, q_n14, q_n15, q_n20, q_n60, q_n1288] at c_1; omega) (by have n_t := nI_toInt (n := t) (by omega); have m_t := q_nT (n := t) (by omega); simp only [Int32.lt_iff_toInt_lt, Int32.le_iff_toInt_le, q_n0, q_n1, q_n2, q_n3, q_n4, q_n5, q_n6, q_n7, q_n8, q_n9, q_n10, q_n11, q_n12, q_n13, q_n14, q_n15, q_n20, q_n60, q_n1288] at c_1; omega) hI hW hS hl2
      · -- not taken
        refine lv_aload_n hx hb md_fm_forgetAll_17 rfl (lv_at hl 0 rfl) ?_
        refine mg_fm_35 hC hW 0 Nat.one_pos md_fm_forgetAll_18 ?_
        refine lv_iload_n hx hb md_fm_forgetAll_21 rfl (lv_at hl 2 rfl) ?_
        have h_5 : vp_in (nI t) 6 := by have e_c_4 := lv_neT c_4 (a := 0) (by decide); simp only [Int32.lt_iff_toInt_lt, Int32.le_iff_toInt_le, q_n0, q_n1, q_n2, q_n3, q_n4, q_n5, q_n6, q_n7, q_n8, q_n9, q_n10, q_n11, q_n12, q_n13, q_n14, q_n15, q_n20, q_n60, q_n1288] at c_1; have l1 := nI_toInt (n := t) (by omega); have l2 : (6 : Int32).toInt = 6 := rfl; rw [vp_in_iff]; omega
        have s_6 : (nI t).toNatClampNeg = t := by have e_c_4 := lv_neT c_4 (a := 0) (by decide); simp only [Int32.lt_iff_toInt_lt, Int32.le_iff_toInt_le, q_n0, q_n1, q_n2, q_n3, q_n4, q_n5, q_n6, q_n7, q_n8, q_n9, q_n10, q_n11, q_n12, q_n13, q_n14, q_n15, q_n20, q_n60, q_n1288] at c_1; have l1 := nI_toInt (n := t) (by omega); have l2 : (6 : Int32).toInt = 6 := rfl; apply q_tn; omega
        refine male_9 hC hW h_5 s_6 (rfl) md_fm_forgetAll_22 ?_
        refine lv_iload_n hx hb md_fm_forgetAll_23 rfl (lv_at hl 1 rfl) ?_
        refine lv_icmp_ne (tgt := 44) hx hb md_fm_forgetAll_24 (by decide) (fun c_7 => ?_) (fun c_7 => ?_)
        · -- taken
          refine lv_iinc (v := nI t + 1) (lv' := [(2, .int (nI t + 1)), (0, .ref (q_a mX G 0 0)), (1, .int a)]) hx hb md_fm_forgetAll_44 hl (k := 2) rfl rfl (by decide) rfl (fun ls hl => ?_)
          refine lv_goto (tgt := 2) hx hb md_fm_forgetAll_47 (by decide) ?_
          have hf : m_fm_forgetAll_L0 (n + 1) S a t = m_fm_forgetAll_L0 n S a (t + 1) := by rw [m_fm_forgetAll_L0, if_neg c_1, if_neg c_4, if_neg c_7]
          rw [hf]
          have hl2 : lv_has ls 3 [(0, .ref (q_a mX G 0 0)), (1, .int a), (2, .int (nI (t + 1)))] := by rw [← nI_1 t]; exact lv_sub hl [1, 2, 0] rfl
          exact ih S (t + 1) _ _ ls (by have b1 : 0 ≤ (q_i (S 9 0 t)).toInt ∧ (q_i (S 9 0 t)).toInt ≤ 2 := hI 9 0 t; have n_t := nI_toInt (n := t) (by omega); have m_t := q_nT (n := t) (by omega); simp only [Int32.lt_iff_toInt_lt, Int32.le_iff_toInt_le, q_n0, q_n1, q_n2, q_n3, q_n4, q_n5, q_n6, q_n7, q_n8, q_n9, q_n10, q_n11, q_n12, q_n13, q_n14, q_n15, q_n20, q_n60, q_n1288] at c_1; omega) (by have b1 : 0 ≤ (q_i (S 9 0 t)).toInt ∧ (q_i (S 9 0 t)).toInt ≤ 2 := hI 9 0 t; have n_t := nI_toInt (n := t) (by omega); have m_t := q_nT (n := t) (by omega); simp only [Int32.lt_iff_toInt_lt, Int32.le_iff_toInt_le, q_n0, q_n1, q_n2, q_n3, q_n4, q_n5, q_n6, q_n7, q_n8, q_n9, q_n10, q_n11, q_n12, q_n13, q_n14, q_n15, q_n20, q_n60, q_n1288] at c_1; omega) hI hW hS hl2
        · -- not taken
          refine lv_aload_n hx hb md_fm_forgetAll_27 rfl (lv_at hl 0 rfl) ?_
          refine mg_fm_38 hC hW 0 Nat.one_pos md_fm_forgetAll_28 ?_
          refine lv_iload_n hx hb md_fm_forgetAll_31 rfl (lv_at hl 2 rfl) ?_
          have h_8 : vp_in (nI t) 6 := by have e_c_4 := lv_neT c_4 (a := 0) (by decide); have e_c_7 : (q_i (S 9 0 t)).toInt = (a).toInt := (by rw [c_7]); simp only [Int32.lt_iff_toInt_lt, Int32.le_iff_toInt_le, q_n0, q_n1, q_n2, q_n3, q_n4, q_n5, q_n6, q_n7, q_n8, q_n9, q_n10, q_n11, q_n12, q_n13, q_n14, q_n15, q_n20, q_n60, q_n1288] at c_1; have l1 := nI_toInt (n := t) (by omega); have l2 : (6 : Int32).toInt = 6 := rfl; have l3 : 0 ≤ (q_i (S 9 0 t)).toInt ∧ (q_i (S 9 0 t)).toInt ≤ 2 := hI 9 0 t; rw [vp_in_iff]; omega
          have s_9 : (nI t).toNatClampNeg = t := by have e_c_4 := lv_neT c_4 (a := 0) (by decide); have e_c_7 : (q_i (S 9 0 t)).toInt = (a).toInt := (by rw [c_7]); simp only [Int32.lt_iff_toInt_lt, Int32.le_iff_toInt_le, q_n0, q_n1, q_n2, q_n3, q_n4, q_n5, q_n6, q_n7, q_n8, q_n9, q_n10, q_n11, q_n12, q_n13, q_n14, q_n15, q_n20, q_n60, q_n1288] at c_1; have l1 := nI_toInt (n := t) (by omega); have l2 : (6 : Int32).toInt = 6 := rfl; have l3 : 0 ≤ (q_i (S 9 0 t)).toInt ∧ (q_i (S 9 0 t)).toInt ≤ 2 := hI 9 0 t; apply q_tn; omega
          refine male_10 hC hW h_8 s_9 (rfl) md_fm_forgetAll_32 ?_
          refine lv_iconst (v := 5) hx hb md_fm_forgetAll_33 (by decide) ?_
          refine lv_icmp_ge (tgt := 44) hx hb md_fm_forgetAll_34 (by decide) (fun c_10 => ?_) (fun c_10 => ?_)
          · -- taken
            refine lv_iinc (v := nI t + 1) (lv' := [(2, .int (nI t + 1)), (0, .ref (q_a mX G 0 0)), (1, .int a)]) hx hb md_fm_forgetAll_44 hl (k := 2) rfl rfl (by decide) rfl (fun ls hl => ?_)
            refine lv_goto (tgt := 2) hx hb md_fm_forgetAll_47 (by decide) ?_
            have hf : m_fm_forgetAll_L0 (n + 1) S a t = m_fm_forgetAll_L0 n S a (t + 1) := by rw [m_fm_forgetAll_L0, if_neg c_1, if_neg c_4, if_pos c_7, if_pos c_10]
            rw [hf]
            have hl2 : lv_has ls 3 [(0, .ref (q_a mX G 0 0)), (1, .int a), (2, .int (nI (t + 1)))] := by rw [← nI_1 t]; exact lv_sub hl [1, 2, 0] rfl
            exact ih S (t + 1) _ _ ls (by have b1 : 0 ≤ (q_i (S 9 0 t)).toInt ∧ (q_i (S 9 0 t)).toInt ≤ 2 := hI 9 0 t; have n_t := nI_toInt (n := t) (by omega); have m_t := q_nT (n := t) (by omega); simp only [Int32.lt_iff_toInt_lt, Int32.le_iff_toInt_le, q_n0, q_n1, q_n2, q_n3, q_n4, q_n5, q_n6, q_n7, q_n8, q_n9, q_n10, q_n11, q_n12, q_n13, q_n14, q_n15, q_n20, q_n60, q_n1288] at c_1 c_10; omega) (by have b1 : 0 ≤ (q_i (S 9 0 t)).toInt ∧ (q_i (S 9 0 t)).toInt ≤ 2 := hI 9 0 t; have n_t := nI_toInt (n := t) (by omega); have m_t := q_nT (n := t) (by omega); simp only [Int32.lt_iff_toInt_lt, Int32.le_iff_toInt_le, q_n0, q_n1, q_n2, q_n3, q_n4, q_n5, q_n6, q_n7, q_n8, q_n9, q_n10, q_n11, q_n12, q_n13, q_n14, q_n15, q_n20, q_n60, q_n1288] at c_1 c_10; omega) hI hW hS hl2
          · -- not taken
            refine lv_aload_n hx hb md_fm_forgetAll_37 rfl (lv_at hl 0 rfl) ?_
            refine mg_fm_26 hC hW 0 Nat.one_pos md_fm_forgetAll_38 ?_
            refine lv_iload_n hx hb md_fm_forgetAll_41 rfl (lv_at hl 2 rfl) ?_
            refine lv_iconst (v := 1) hx hb md_fm_forgetAll_42 (by decide) ?_
            have h_11 : vp_in (nI t) 6 := by have e_c_4 := lv_neT c_4 (a := 0) (by decide); have e_c_7 : (q_i (S 9 0 t)).toInt = (a).toInt := (by rw [c_7]); simp only [Int32.lt_iff_toInt_lt, Int32.le_iff_toInt_le, q_n0, q_n1, q_n2, q_n3, q_n4, q_n5, q_n6, q_n7, q_n8, q_n9, q_n10, q_n11, q_n12, q_n13, q_n14, q_n15, q_n20, q_n60, q_n1288] at c_1 c_10; have l1 := nI_toInt (n := t) (by omega); have l2 : (6 : Int32).toInt = 6 := rfl; have l3 : 0 ≤ (q_i (S 9 0 t)).toInt ∧ (q_i (S 9 0 t)).toInt ≤ 2 := hI 9 0 t; have l4 : (5 : Int32).toInt = 5 := rfl; rw [vp_in_iff]; omega
            have s_12 : (nI t).toNatClampNeg = t := by have e_c_4 := lv_neT c_4 (a := 0) (by decide); have e_c_7 : (q_i (S 9 0 t)).toInt = (a).toInt := (by rw [c_7]); simp only [Int32.lt_iff_toInt_lt, Int32.le_iff_toInt_le, q_n0, q_n1, q_n2, q_n3, q_n4, q_n5, q_n6, q_n7, q_n8, q_n9, q_n10, q_n11, q_n12, q_n13, q_n14, q_n15, q_n20, q_n60, q_n1288] at c_1 c_10; have l1 := nI_toInt (n := t) (by omega); have l2 : (6 : Int32).toInt = 6 := rfl; have l3 : 0 ≤ (q_i (S 9 0 t)).toInt ∧ (q_i (S 9 0 t)).toInt ≤ 2 := hI 9 0 t; have l4 : (5 : Int32).toInt = 5 := rfl; apply q_tn; omega
            refine mase_6 hC hW hS (fun _ h => h) h_11 s_12 (by decide) md_fm_forgetAll_43 (fun H locs hW hS => ?_)
            refine lv_iinc (v := nI t + 1) (lv' := [(2, .int (nI t + 1)), (0, .ref (q_a mX G 0 0)), (1, .int a)]) hx hb md_fm_forgetAll_44 hl (k := 2) rfl rfl (by decide) rfl (fun ls hl => ?_)
            refine lv_goto (tgt := 2) hx hb md_fm_forgetAll_47 (by decide) ?_
            have hf : m_fm_forgetAll_L0 (n + 1) S a t = m_fm_forgetAll_L0 n (q_st S 6 0 t (.int 1)) a (t + 1) := by rw [m_fm_forgetAll_L0, if_neg c_1, if_neg c_4, if_pos c_7, if_neg c_10]
            rw [hf]
            have hl2 : lv_has ls 3 [(0, .ref (q_a mX G 0 0)), (1, .int a), (2, .int (nI (t + 1)))] := by rw [← nI_1 t]; exact lv_sub hl [1, 2, 0] rfl
            have hI_13 : mI (q_st S 6 0 t (.int 1)) := (mIs hI rfl)
            exact ih (q_st S 6 0 t (.int 1)) (t + 1) _ _ ls (by have b1 : 0 ≤ (q_i (S 9 0 t)).toInt ∧ (q_i (S 9 0 t)).toInt ≤ 2 := hI 9 0 t; have n_t := nI_toInt (n := t) (by omega); have m_t := q_nT (n := t) (by omega); simp only [Int32.lt_iff_toInt_lt, Int32.le_iff_toInt_le, q_n0, q_n1, q_n2, q_n3, q_n4, q_n5, q_n6, q_n7, q_n8, q_n9, q_n10, q_n11, q_n12, q_n13, q_n14, q_n15, q_n20, q_n60, q_n1288] at c_1 c_10; omega) (by have b1 : 0 ≤ (q_i (S 9 0 t)).toInt ∧ (q_i (S 9 0 t)).toInt ≤ 2 := hI 9 0 t; have n_t := nI_toInt (n := t) (by omega); have m_t := q_nT (n := t) (by omega); simp only [Int32.lt_iff_toInt_lt, Int32.le_iff_toInt_le, q_n0, q_n1, q_n2, q_n3, q_n4, q_n5, q_n6, q_n7, q_n8, q_n9, q_n10, q_n11, q_n12, q_n13, q_n14, q_n15, q_n20, q_n60, q_n1288] at c_1 c_10; omega) hI_13 hW hS hl2
set_option maxRecDepth 100000 in
set_option maxHeartbeats 4000000 in
theorem mK_fm_forgetAll_L0 : ∀ (n : Nat) (S : q_S) (a : Int32) (t : Nat) (x y z : Nat) (h6 : x ≠ 6), (m_fm_forgetAll_L0 n S a t) x y z = S x y z := by
  intro n
  induction n with
  | zero => intro S a t x y z h6; rfl
  | succ n ih =>
    intro S a t x y z h6
    by_cases c_1 : 6 ≤ nI t
    · -- yes
      have hf : m_fm_forgetAll_L0 (n + 1) S a t = S := by rw [m_fm_forgetAll_L0, if_pos c_1]
      rw [hf]
    · -- no
      by_cases c_4 : q_i (S 5 0 t) = 0
      · -- yes
        have hf : m_fm_forgetAll_L0 (n + 1) S a t = m_fm_forgetAll_L0 n S a (t + 1) := by rw [m_fm_forgetAll_L0, if_neg c_1, if_pos c_4]
        rw [hf]
        exact (ih S a (t + 1) x y z h6).trans (rfl)
      · -- no
        by_cases c_7 : q_i (S 9 0 t) = a
        · -- yes
          by_cases c_10 : 5 ≤ q_i (S 10 0 t)
          · -- yes
            have hf : m_fm_forgetAll_L0 (n + 1) S a t = m_fm_forgetAll_L0 n S a (t + 1) := by rw [m_fm_forgetAll_L0, if_neg c_1, if_neg c_4, if_pos c_7, if_pos c_10]
            rw [hf]
            exact (ih S a (t + 1) x y z h6).trans (rfl)
          · -- no
            have hf : m_fm_forgetAll_L0 (n + 1) S a t = m_fm_forgetAll_L0 n (q_st S 6 0 t (.int 1)) a (t + 1) := by rw [m_fm_forgetAll_L0, if_neg c_1, if_neg c_4, if_pos c_7, if_neg c_10]
            rw [hf]
            exact (ih (q_st S 6 0 t (.int 1)) a (t + 1) x y z h6).trans ((q_kj h6))
        · -- no
          have hf : m_fm_forgetAll_L0 (n + 1) S a t = m_fm_forgetAll_L0 n S a (t + 1) := by rw [m_fm_forgetAll_L0, if_neg c_1, if_neg c_4, if_neg c_7]
          rw [hf]
          exact (ih S a (t + 1) x y z h6).trans (rfl)
set_option maxRecDepth 100000 in
set_option maxHeartbeats 4000000 in
theorem mI_fm_forgetAll_L0 (a : Int32)  : ∀ (n : Nat) (S : q_S) (t : Nat), t + n = 7 → t ≤ 6 → mI S → mI (m_fm_forgetAll_L0 n S a t) := by
  intro n
  induction n with
  | zero =>
    intro S t ht hu hI
    exfalso
    omega
  | succ n ih =>
    intro S t ht hu hI
    by_cases c_1 : 6 ≤ nI t
    · -- yes
      have hf : m_fm_forgetAll_L0 (n + 1) S a t = S := by rw [m_fm_forgetAll_L0, if_pos c_1]
      rw [hf]
      exact hI
    · -- no
      by_cases c_4 : q_i (S 5 0 t) = 0
      · -- yes
        have h_2 : vp_in (nI t) 6 := by simp only [Int32.lt_iff_toInt_lt, Int32.le_iff_toInt_le, q_n0, q_n1, q_n2, q_n3, q_n4, q_n5, q_n6, q_n7, q_n8, q_n9, q_n10, q_n11, q_n12, q_n13, q_n14, q_n15, q_n20, q_n60, q_n1288] at c_1; have l1 := nI_toInt (n := t) (by omega); have l2 : (6 : Int32).toInt = 6 := rfl; rw [vp_in_iff]; omega
        have s_3 : (nI t).toNatClampNeg = t := by simp only [Int32.lt_iff_toInt_lt, Int32.le_iff_toInt_le, q_n0, q_n1, q_n2, q_n3, q_n4, q_n5, q_n6, q_n7, q_n8, q_n9, q_n10, q_n11, q_n12, q_n13, q_n14, q_n15, q_n20, q_n60, q_n1288] at c_1; have l1 := nI_toInt (n := t) (by omega); have l2 : (6 : Int32).toInt = 6 := rfl; apply q_tn; omega
        have hf : m_fm_forgetAll_L0 (n + 1) S a t = m_fm_forgetAll_L0 n S a (t + 1) := by rw [m_fm_forgetAll_L0, if_neg c_1, if_pos c_4]
        rw [hf]
        exact ih S (t + 1) (by have n_t := nI_toInt (n := t) (by omega); have m_t := q_nT (n := t) (by omega); simp only [Int32.lt_iff_toInt_lt, Int32.le_iff_toInt_le, q_n0, q_n1, q_n2, q_n3, q_n4, q_n5, q_n6, q_n7, q_n8, q_n9, q_n10, q_n11, q_n12, q_n13, q_n14, q_n15, q_n20, q_n60, q_n1288] at c_1; omega) (by have n_t := nI_toInt (n := t) (by omega); have m_t := q_nT (n := t) (by omega); simp only [Int32.lt_iff_toInt_lt, Int32.le_iff_toInt_le, q_n0, q_n1, q_n2, q_n3, q_n4, q_n5, q_n6, q_n7, q_n8, q_n9, q_n10, q_n11, q_n12, q_n13, q_n14, q_n15, q_n20, q_n60, q_n1288] at c_1; omega) hI
      · -- no
        by_cases c_7 : q_i (S 9 0 t) = a
        · -- yes
          by_cases c_10 : 5 ≤ q_i (S 10 0 t)
          · -- yes
            have h_2 : vp_in (nI t) 6 := by simp only [Int32.lt_iff_toInt_lt, Int32.le_iff_toInt_le, q_n0, q_n1, q_n2, q_n3, q_n4, q_n5, q_n6, q_n7, q_n8, q_n9, q_n10, q_n11, q_n12, q_n13, q_n14, q_n15, q_n20, q_n60, q_n1288] at c_1; have l1 := nI_toInt (n := t) (by omega); have l2 : (6 : Int32).toInt = 6 := rfl; rw [vp_in_iff]; omega
            have s_3 : (nI t).toNatClampNeg = t := by simp only [Int32.lt_iff_toInt_lt, Int32.le_iff_toInt_le, q_n0, q_n1, q_n2, q_n3, q_n4, q_n5, q_n6, q_n7, q_n8, q_n9, q_n10, q_n11, q_n12, q_n13, q_n14, q_n15, q_n20, q_n60, q_n1288] at c_1; have l1 := nI_toInt (n := t) (by omega); have l2 : (6 : Int32).toInt = 6 := rfl; apply q_tn; omega
            have h_5 : vp_in (nI t) 6 := by have e_c_4 := lv_neT c_4 (a := 0) (by decide); simp only [Int32.lt_iff_toInt_lt, Int32.le_iff_toInt_le, q_n0, q_n1, q_n2, q_n3, q_n4, q_n5, q_n6, q_n7, q_n8, q_n9, q_n10, q_n11, q_n12, q_n13, q_n14, q_n15, q_n20, q_n60, q_n1288] at c_1; have l1 := nI_toInt (n := t) (by omega); have l2 : (6 : Int32).toInt = 6 := rfl; rw [vp_in_iff]; omega
            have s_6 : (nI t).toNatClampNeg = t := by have e_c_4 := lv_neT c_4 (a := 0) (by decide); simp only [Int32.lt_iff_toInt_lt, Int32.le_iff_toInt_le, q_n0, q_n1, q_n2, q_n3, q_n4, q_n5, q_n6, q_n7, q_n8, q_n9, q_n10, q_n11, q_n12, q_n13, q_n14, q_n15, q_n20, q_n60, q_n1288] at c_1; have l1 := nI_toInt (n := t) (by omega); have l2 : (6 : Int32).toInt = 6 := rfl; apply q_tn; omega
            have h_8 : vp_in (nI t) 6 := by have e_c_4 := lv_neT c_4 (a := 0) (by decide); have e_c_7 : (q_i (S 9 0 t)).toInt = (a).toInt := (by rw [c_7]); simp only [Int32.lt_iff_toInt_lt, Int32.le_iff_toInt_le, q_n0, q_n1, q_n2, q_n3, q_n4, q_n5, q_n6, q_n7, q_n8, q_n9, q_n10, q_n11, q_n12, q_n13, q_n14, q_n15, q_n20, q_n60, q_n1288] at c_1; have l1 := nI_toInt (n := t) (by omega); have l2 : (6 : Int32).toInt = 6 := rfl; have l3 : 0 ≤ (q_i (S 9 0 t)).toInt ∧ (q_i (S 9 0 t)).toInt ≤ 2 := hI 9 0 t; rw [vp_in_iff]; omega
            have s_9 : (nI t).toNatClampNeg = t := by have e_c_4 := lv_neT c_4 (a := 0) (by decide); have e_c_7 : (q_i (S 9 0 t)).toInt = (a).toInt := (by rw [c_7]); simp only [Int32.lt_iff_toInt_lt, Int32.le_iff_toInt_le, q_n0, q_n1, q_n2, q_n3, q_n4, q_n5, q_n6, q_n7, q_n8, q_n9, q_n10, q_n11, q_n12, q_n13, q_n14, q_n15, q_n20, q_n60, q_n1288] at c_1; have l1 := nI_toInt (n := t) (by omega); have l2 : (6 : Int32).toInt = 6 := rfl; have l3 : 0 ≤ (q_i (S 9 0 t)).toInt ∧ (q_i (S 9 0 t)).toInt ≤ 2 := hI 9 0 t; apply q_tn; omega
            have hf : m_fm_forgetAll_L0 (n + 1) S a t = m_fm_forgetAll_L0 n S a (t + 1) := by rw [m_fm_forgetAll_L0, if_neg c_1, if_neg c_4, if_pos c_7, if_pos c_10]
            rw [hf]
            exact ih S (t + 1) (by have b1 : 0 ≤ (q_i (S 9 0 t)).toInt ∧ (q_i (S 9 0 t)).toInt ≤ 2 := hI 9 0 t; have n_t := nI_toInt (n := t) (by omega); have m_t := q_nT (n := t) (by omega); simp only [Int32.lt_iff_toInt_lt, Int32.le_iff_toInt_le, q_n0, q_n1, q_n2, q_n3, q_n4, q_n5, q_n6, q_n7, q_n8, q_n9, q_n10, q_n11, q_n12, q_n13, q_n14, q_n15, q_n20, q_n60, q_n1288] at c_1 c_10; omega) (by have b1 : 0 ≤ (q_i (S 9 0 t)).toInt ∧ (q_i (S 9 0 t)).toInt ≤ 2 := hI 9 0 t; have n_t := nI_toInt (n := t) (by omega); have m_t := q_nT (n := t) (by omega); simp only [Int32.lt_iff_toInt_lt, Int32.le_iff_toInt_le, q_n0, q_n1, q_n2, q_n3, q_n4, q_n5, q_n6, q_n7, q_n8, q_n9, q_n10, q_n11, q_n12, q_n13, q_n14, q_n15, q_n20, q_n60, q_n1288] at c_1 c_10; omega) hI
          · -- no
            have h_2 : vp_in (nI t) 6 := by simp only [Int32.lt_iff_toInt_lt, Int32.le_iff_toInt_le, q_n0, q_n1, q_n2, q_n3, q_n4, q_n5, q_n6, q_n7, q_n8, q_n9, q_n10, q_n11, q_n12, q_n13, q_n14, q_n15, q_n20, q_n60, q_n1288] at c_1; have l1 := nI_toInt (n := t) (by omega); have l2 : (6 : Int32).toInt = 6 := rfl; rw [vp_in_iff]; omega
            have s_3 : (nI t).toNatClampNeg = t := by simp only [Int32.lt_iff_toInt_lt, Int32.le_iff_toInt_le, q_n0, q_n1, q_n2, q_n3, q_n4, q_n5, q_n6, q_n7, q_n8, q_n9, q_n10, q_n11, q_n12, q_n13, q_n14, q_n15, q_n20, q_n60, q_n1288] at c_1; have l1 := nI_toInt (n := t) (by omega); have l2 : (6 : Int32).toInt = 6 := rfl; apply q_tn; omega
            have h_5 : vp_in (nI t) 6 := by have e_c_4 := lv_neT c_4 (a := 0) (by decide); simp only [Int32.lt_iff_toInt_lt, Int32.le_iff_toInt_le, q_n0, q_n1, q_n2, q_n3, q_n4, q_n5, q_n6, q_n7, q_n8, q_n9, q_n10, q_n11, q_n12, q_n13, q_n14, q_n15, q_n20, q_n60, q_n1288] at c_1; have l1 := nI_toInt (n := t) (by omega); have l2 : (6 : Int32).toInt = 6 := rfl; rw [vp_in_iff]; omega
            have s_6 : (nI t).toNatClampNeg = t := by have e_c_4 := lv_neT c_4 (a := 0) (by decide); simp only [Int32.lt_iff_toInt_lt, Int32.le_iff_toInt_le, q_n0, q_n1, q_n2, q_n3, q_n4, q_n5, q_n6, q_n7, q_n8, q_n9, q_n10, q_n11, q_n12, q_n13, q_n14, q_n15, q_n20, q_n60, q_n1288] at c_1; have l1 := nI_toInt (n := t) (by omega); have l2 : (6 : Int32).toInt = 6 := rfl; apply q_tn; omega
            have h_8 : vp_in (nI t) 6 := by have e_c_4 := lv_neT c_4 (a := 0) (by decide); have e_c_7 : (q_i (S 9 0 t)).toInt = (a).toInt := (by rw [c_7]); simp only [Int32.lt_iff_toInt_lt, Int32.le_iff_toInt_le, q_n0, q_n1, q_n2, q_n3, q_n4, q_n5, q_n6, q_n7, q_n8, q_n9, q_n10, q_n11, q_n12, q_n13, q_n14, q_n15, q_n20, q_n60, q_n1288] at c_1; have l1 := nI_toInt (n := t) (by omega); have l2 : (6 : Int32).toInt = 6 := rfl; have l3 : 0 ≤ (q_i (S 9 0 t)).toInt ∧ (q_i (S 9 0 t)).toInt ≤ 2 := hI 9 0 t; rw [vp_in_iff]; omega
            have s_9 : (nI t).toNatClampNeg = t := by have e_c_4 := lv_neT c_4 (a := 0) (by decide); have e_c_7 : (q_i (S 9 0 t)).toInt = (a).toInt := (by rw [c_7]); simp only [Int32.lt_iff_toInt_lt, Int32.le_iff_toInt_le, q_n0, q_n1, q_n2, q_n3, q_n4, q_n5, q_n6, q_n7, q_n8, q_n9, q_n10, q_n11, q_n12, q_n13, q_n14, q_n15, q_n20, q_n60, q_n1288] at c_1; have l1 := nI_toInt (n := t) (by omega); have l2 : (6 : Int32).toInt = 6 := rfl; have l3 : 0 ≤ (q_i (S 9 0 t)).toInt ∧ (q_i (S 9 0 t)).toInt ≤ 2 := hI 9 0 t; apply q_tn; omega
            have h_11 : vp_in (nI t) 6 := by have e_c_4 := lv_neT c_4 (a := 0) (by decide); have e_c_7 : (q_i (S 9 0 t)).toInt = (a).toInt := (by rw [c_7]); simp only [Int32.lt_iff_toInt_lt, Int32.le_iff_toInt_le, q_n0, q_n1, q_n2, q_n3, q_n4, q_n5, q_n6, q_n7, q_n8, q_n9, q_n10, q_n11, q_n12, q_n13, q_n14, q_n15, q_n20, q_n60, q_n1288] at c_1 c_10; have l1 := nI_toInt (n := t) (by omega); have l2 : (6 : Int32).toInt = 6 := rfl; have l3 : 0 ≤ (q_i (S 9 0 t)).toInt ∧ (q_i (S 9 0 t)).toInt ≤ 2 := hI 9 0 t; have l4 : (5 : Int32).toInt = 5 := rfl; rw [vp_in_iff]; omega
            have s_12 : (nI t).toNatClampNeg = t := by have e_c_4 := lv_neT c_4 (a := 0) (by decide); have e_c_7 : (q_i (S 9 0 t)).toInt = (a).toInt := (by rw [c_7]); simp only [Int32.lt_iff_toInt_lt, Int32.le_iff_toInt_le, q_n0, q_n1, q_n2, q_n3, q_n4, q_n5, q_n6, q_n7, q_n8, q_n9, q_n10, q_n11, q_n12, q_n13, q_n14, q_n15, q_n20, q_n60, q_n1288] at c_1 c_10; have l1 := nI_toInt (n := t) (by omega); have l2 : (6 : Int32).toInt = 6 := rfl; have l3 : 0 ≤ (q_i (S 9 0 t)).toInt ∧ (q_i (S 9 0 t)).toInt ≤ 2 := hI 9 0 t; have l4 : (5 : Int32).toInt = 5 := rfl; apply q_tn; omega
            have hI_13 : mI (q_st S 6 0 t (.int 1)) := (mIs hI rfl)
            have hf : m_fm_forgetAll_L0 (n + 1) S a t = m_fm_forgetAll_L0 n (q_st S 6 0 t (.int 1)) a (t + 1) := by rw [m_fm_forgetAll_L0, if_neg c_1, if_neg c_4, if_pos c_7, if_neg c_10]
            rw [hf]
            have hI_907 : mI (q_st S 6 0 t (.int 1)) := (mIs hI rfl)
            exact ih (q_st S 6 0 t (.int 1)) (t + 1) (by have b1 : 0 ≤ (q_i (S 9 0 t)).toInt ∧ (q_i (S 9 0 t)).toInt ≤ 2 := hI 9 0 t; have n_t := nI_toInt (n := t) (by omega); have m_t := q_nT (n := t) (by omega); simp only [Int32.lt_iff_toInt_lt, Int32.le_iff_toInt_le, q_n0, q_n1, q_n2, q_n3, q_n4, q_n5, q_n6, q_n7, q_n8, q_n9, q_n10, q_n11, q_n12, q_n13, q_n14, q_n15, q_n20, q_n60, q_n1288] at c_1 c_10; omega) (by have b1 : 0 ≤ (q_i (S 9 0 t)).toInt ∧ (q_i (S 9 0 t)).toInt ≤ 2 := hI 9 0 t; have n_t := nI_toInt (n := t) (by omega); have m_t := q_nT (n := t) (by omega); simp only [Int32.lt_iff_toInt_lt, Int32.le_iff_toInt_le, q_n0, q_n1, q_n2, q_n3, q_n4, q_n5, q_n6, q_n7, q_n8, q_n9, q_n10, q_n11, q_n12, q_n13, q_n14, q_n15, q_n20, q_n60, q_n1288] at c_1 c_10; omega) hI_907
        · -- no
          have h_2 : vp_in (nI t) 6 := by simp only [Int32.lt_iff_toInt_lt, Int32.le_iff_toInt_le, q_n0, q_n1, q_n2, q_n3, q_n4, q_n5, q_n6, q_n7, q_n8, q_n9, q_n10, q_n11, q_n12, q_n13, q_n14, q_n15, q_n20, q_n60, q_n1288] at c_1; have l1 := nI_toInt (n := t) (by omega); have l2 : (6 : Int32).toInt = 6 := rfl; rw [vp_in_iff]; omega
          have s_3 : (nI t).toNatClampNeg = t := by simp only [Int32.lt_iff_toInt_lt, Int32.le_iff_toInt_le, q_n0, q_n1, q_n2, q_n3, q_n4, q_n5, q_n6, q_n7, q_n8, q_n9, q_n10, q_n11, q_n12, q_n13, q_n14, q_n15, q_n20, q_n60, q_n1288] at c_1; have l1 := nI_toInt (n := t) (by omega); have l2 : (6 : Int32).toInt = 6 := rfl; apply q_tn; omega
          have h_5 : vp_in (nI t) 6 := by have e_c_4 := lv_neT c_4 (a := 0) (by decide); simp only [Int32.lt_iff_toInt_lt, Int32.le_iff_toInt_le, q_n0, q_n1, q_n2, q_n3, q_n4, q_n5, q_n6, q_n7, q_n8, q_n9, q_n10, q_n11, q_n12, q_n13, q_n14, q_n15, q_n20, q_n60, q_n1288] at c_1; have l1 := nI_toInt (n := t) (by omega); have l2 : (6 : Int32).toInt = 6 := rfl; rw [vp_in_iff]; omega
          have s_6 : (nI t).toNatClampNeg = t := by have e_c_4 := lv_neT c_4 (a := 0) (by decide); simp only [Int32.lt_iff_toInt_lt, Int32.le_iff_toInt_le, q_n0, q_n1, q_n2, q_n3, q_n4, q_n5, q_n6, q_n7, q_n8, q_n9, q_n10, q_n11, q_n12, q_n13, q_n14, q_n15, q_n20, q_n60, q_n1288] at c_1; have l1 := nI_toInt (n := t) (by omega); have l2 : (6 : Int32).toInt = 6 := rfl; apply q_tn; omega
          have hf : m_fm_forgetAll_L0 (n + 1) S a t = m_fm_forgetAll_L0 n S a (t + 1) := by rw [m_fm_forgetAll_L0, if_neg c_1, if_neg c_4, if_neg c_7]
          rw [hf]
          exact ih S (t + 1) (by have b1 : 0 ≤ (q_i (S 9 0 t)).toInt ∧ (q_i (S 9 0 t)).toInt ≤ 2 := hI 9 0 t; have n_t := nI_toInt (n := t) (by omega); have m_t := q_nT (n := t) (by omega); simp only [Int32.lt_iff_toInt_lt, Int32.le_iff_toInt_le, q_n0, q_n1, q_n2, q_n3, q_n4, q_n5, q_n6, q_n7, q_n8, q_n9, q_n10, q_n11, q_n12, q_n13, q_n14, q_n15, q_n20, q_n60, q_n1288] at c_1; omega) (by have b1 : 0 ≤ (q_i (S 9 0 t)).toInt ∧ (q_i (S 9 0 t)).toInt ≤ 2 := hI 9 0 t; have n_t := nI_toInt (n := t) (by omega); have m_t := q_nT (n := t) (by omega); simp only [Int32.lt_iff_toInt_lt, Int32.le_iff_toInt_le, q_n0, q_n1, q_n2, q_n3, q_n4, q_n5, q_n6, q_n7, q_n8, q_n9, q_n10, q_n11, q_n12, q_n13, q_n14, q_n15, q_n20, q_n60, q_n1288] at c_1; omega) hI
def m_fm_forgetAll (S : q_S) (a : Int32) : q_S :=
  m_fm_forgetAll_L0 7 S a 0
set_option maxRecDepth 100000 in
set_option maxHeartbeats 4000000 in
theorem mC_fm_forgetAll (l : Launch) (G : q_G) (S : q_S) (a : Int32) (hI : mI S) : q_Mv mX G l my_fm_forgetAll (q_ws (q_gw lw_tbl) my_fm_forgetAll mb_fm_forgetAll 3 none) (q_rm 0) [.ref (q_a mX G 0 0), .int a] S (m_fm_forgetAll S a) := by
  refine q_met (cc := mb_fm_forgetAll) (maxL := 3) (ret := none) mOk (by decide) rfl (Nat.le_of_ble_eq_true rfl) ?_
  intro p e s m below meth c ls hC hr hlocks hW hS hl
  have hx := hC.1.1
  have hb := hC.1.2.1
  have hl : lv_has ls 3 [(0, .ref (q_a mX G 0 0)), (1, .int a)] := hl
  refine lv_iconst (v := 0) hx hb md_fm_forgetAll_0 (by decide) ?_
  refine lv_istore_n (lv' := [(2, .int 0), (0, .ref (q_a mX G 0 0)), (1, .int a)]) hx hb md_fm_forgetAll_1 rfl hl (by decide) rfl (fun ls hl => ?_)
  have hf : m_fm_forgetAll S a = m_fm_forgetAll_L0 7 S a 0 := by unfold m_fm_forgetAll; rfl
  rw [hf]
  have hl2 : lv_has ls 3 [(0, .ref (q_a mX G 0 0)), (1, .int a), (2, .int (nI 0))] := by rw [(show nI 0 = 0 from rfl)]; exact lv_sub hl [1, 2, 0] rfl
  exact mL_fm_forgetAll_L0 l G a  hC hr hlocks 7 S 0 _ _ ls (by omega) (by omega) hI hW hS hl2
set_option maxRecDepth 100000 in
set_option maxHeartbeats 4000000 in
theorem mI_fm_forgetAll (S : q_S) (a : Int32) (hI : mI S) : mI (m_fm_forgetAll S a) := by
  have hf : m_fm_forgetAll S a = m_fm_forgetAll_L0 7 S a 0 := by unfold m_fm_forgetAll; rfl
  rw [hf]
  exact mI_fm_forgetAll_L0 a  7 S 0 (by omega) (by omega) hI
set_option maxRecDepth 100000 in
set_option maxHeartbeats 4000000 in
theorem mK_fm_forgetAll (S : q_S) (a : Int32) (x y z : Nat) (h6 : x ≠ 6) : (m_fm_forgetAll S a) x y z = S x y z := by
  have hf : m_fm_forgetAll S a = m_fm_forgetAll_L0 7 S a 0 := by unfold m_fm_forgetAll; rfl
  rw [hf]
  exact (mK_fm_forgetAll_L0 7 S a 0 x y z h6).trans (rfl)
def m_fm_add (S : q_S) (a b d f : Int32) : Int32 × q_S :=
  if m_fm_in S a 0 2 = 0 then
    ((-1), S)
  else
    if m_fm_isGood S b d f = 0 then
      ((-1), S)
    else
      if q_i (S 4 0 a.toNatClampNeg) = 14 then
        ((-3), S)
      else
        (((q_i (S 4 0 a.toNatClampNeg)) + 1) - 1, m_fm_forgetAll (q_st (m_fm_set S ((14 * a) + (q_i (S 4 0 a.toNatClampNeg))) b d f) 4 0 a.toNatClampNeg (.int ((q_i (S 4 0 a.toNatClampNeg)) + 1))) a)
set_option maxRecDepth 100000 in
set_option maxHeartbeats 4000000 in
theorem mC_fm_add (l : Launch) (G : q_G) (S : q_S) (a b d f : Int32) (hI : mI S) : q_Mi mX G l my_fm_add (q_ws (q_gw lw_tbl) my_fm_add mb_fm_add 6 (some .int)) (q_rm 2) [.ref (q_a mX G 0 0), .int a, .int b, .int d, .int f] S (m_fm_add S a b d f).1 (m_fm_add S a b d f).2 := by
  refine q_met (cc := mb_fm_add) (maxL := 6) (ret := (some .int)) mOk (by decide) rfl (Nat.le_of_ble_eq_true rfl) ?_
  intro p e s m below meth c ls hC hr hlocks hW hS hl
  have hx := hC.1.1
  have hb := hC.1.2.1
  have hl : lv_has ls 6 [(0, .ref (q_a mX G 0 0)), (1, .int a), (2, .int b), (3, .int d), (4, .int f)] := hl
  refine lv_iload_n hx hb md_fm_add_0 rfl (lv_at hl 2 rfl) ?_
  refine lv_iload_n hx hb md_fm_add_1 rfl (lv_at hl 3 rfl) ?_
  refine lv_iload hx hb md_fm_add_2 (lv_at hl 4 rfl) ?_
  refine q_calli hC hS (fun _ h => h) (q_runS (rest := []) hC hW (mC_fm_isGood l G S b d f) (mc_fm_115 (q_rm 1) hC.1.2.2.2.2 ⟨Nat.le_of_ble_eq_true rfl, Nat.le_of_ble_eq_true rfl⟩ rfl rfl) rfl hl.1 rfl (Nat.le_of_ble_eq_true rfl) md_fm_add_4 ⟨Nat.zero_le _, Nat.zero_le _⟩) (fun H locs hW hS => ?_)
  refine lv_istore (lv' := [(5, .int (m_fm_isGood S b d f)), (0, .ref (q_a mX G 0 0)), (1, .int a), (2, .int b), (3, .int d), (4, .int f)]) hx hb md_fm_add_7 hl (by decide) rfl (fun ls hl => ?_)
  refine lv_iload_n hx hb md_fm_add_9 rfl (lv_at hl 2 rfl) ?_
  refine lv_iconst (v := 0) hx hb md_fm_add_10 (by decide) ?_
  refine lv_iconst (v := 2) hx hb md_fm_add_11 (by decide) ?_
  refine q_calli hC hS (fun _ h => h) (q_runS (rest := []) hC hW (mC_fm_in l G S a 0 2) (mc_fm_111 (q_rm 0) hC.1.2.2.2.2 ⟨Nat.le_of_ble_eq_true rfl, Nat.le_of_ble_eq_true rfl⟩ rfl rfl) rfl hl.1 rfl (Nat.le_of_ble_eq_true rfl) md_fm_add_12 ⟨Nat.zero_le _, Nat.zero_le _⟩) (fun H locs hW hS => ?_)
  refine lv_if_eq (tgt := 23) hx hb md_fm_add_15 (by decide) (fun c_1 => ?_) (fun c_1 => ?_)
  · -- taken
    refine lv_iconst (v := (-1)) hx hb md_fm_add_23 (by decide) ?_
    have hf : m_fm_add S a b d f = ((-1), S) := by unfold m_fm_add; rw [if_pos c_1]
    rw [hf]
    exact q_iret hC hr hlocks hW hS rfl rfl md_fm_add_24
  · -- not taken
    refine lv_iload hx hb md_fm_add_18 (lv_at hl 0 rfl) ?_
    refine lv_if_ne (tgt := 25) hx hb md_fm_add_20 (by decide) (fun c_2 => ?_) (fun c_2 => ?_)
    · -- taken
      refine lv_aload_n hx hb md_fm_add_25 rfl (lv_at hl 1 rfl) ?_
      refine mg_fm_19 hC hW 0 Nat.one_pos md_fm_add_26 ?_
      refine lv_iload_n hx hb md_fm_add_29 rfl (lv_at hl 2 rfl) ?_
      have h_3 : vp_in a 3 := by obtain ⟨f_c_1_0, f_c_1_1⟩ := mF_in c_1; have e_c_2 := lv_neT c_2 (a := 0) (by decide); simp only [Int32.lt_iff_toInt_lt, Int32.le_iff_toInt_le, q_n0, q_n1, q_n2, q_n3, q_n4, q_n5, q_n6, q_n7, q_n8, q_n9, q_n10, q_n11, q_n12, q_n13, q_n14, q_n15, q_n20, q_n60, q_n1288] at f_c_1_0 f_c_1_1; have l1 : (0 : Int32).toInt = 0 := rfl; have l2 : (2 : Int32).toInt = 2 := rfl; rw [vp_in_iff]; omega
      refine male_4 hC hW h_3 rfl (rfl) md_fm_add_30 ?_
      refine lv_bipush (v := 14) hx hb md_fm_add_31 (by decide) ?_
      refine lv_icmp_ne (tgt := 39) hx hb md_fm_add_33 (by decide) (fun c_4 => ?_) (fun c_4 => ?_)
      · -- taken
        refine lv_aload_n hx hb md_fm_add_39 rfl (lv_at hl 1 rfl) ?_
        refine lv_bipush (v := 14) hx hb md_fm_add_40 (by decide) ?_
        refine lv_iload_n hx hb md_fm_add_42 rfl (lv_at hl 2 rfl) ?_
        refine lv_imul hx hb md_fm_add_43 ?_
        refine lv_aload_n hx hb md_fm_add_44 rfl (lv_at hl 1 rfl) ?_
        refine mg_fm_19 hC hW 0 Nat.one_pos md_fm_add_45 ?_
        refine lv_iload_n hx hb md_fm_add_48 rfl (lv_at hl 2 rfl) ?_
        have h_5 : vp_in a 3 := by obtain ⟨f_c_1_0, f_c_1_1⟩ := mF_in c_1; have e_c_2 := lv_neT c_2 (a := 0) (by decide); have e_c_4 := lv_neT c_4 (a := 14) (by decide); simp only [Int32.lt_iff_toInt_lt, Int32.le_iff_toInt_le, q_n0, q_n1, q_n2, q_n3, q_n4, q_n5, q_n6, q_n7, q_n8, q_n9, q_n10, q_n11, q_n12, q_n13, q_n14, q_n15, q_n20, q_n60, q_n1288] at f_c_1_0 f_c_1_1; have l1 : (0 : Int32).toInt = 0 := rfl; have l2 : (2 : Int32).toInt = 2 := rfl; have l3 : 0 ≤ (q_i (S 4 0 a.toNatClampNeg)).toInt ∧ (q_i (S 4 0 a.toNatClampNeg)).toInt ≤ 14 := hI 4 0 a.toNatClampNeg; rw [vp_in_iff]; omega
        refine male_4 hC hW h_5 rfl (rfl) md_fm_add_49 ?_
        refine lv_iadd hx hb md_fm_add_50 ?_
        refine lv_iload_n hx hb md_fm_add_51 rfl (lv_at hl 3 rfl) ?_
        refine lv_iload_n hx hb md_fm_add_52 rfl (lv_at hl 4 rfl) ?_
        refine lv_iload hx hb md_fm_add_53 (lv_at hl 5 rfl) ?_
        refine q_callv hC hS (fun _ h => h) (q_runV (rest := []) hC hW (mC_fm_set l G S ((14 * a) + (q_i (S 4 0 a.toNatClampNeg))) b d f hI (by obtain ⟨f_c_1_0, f_c_1_1⟩ := mF_in c_1; have e_c_2 := lv_neT c_2 (a := 0) (by decide); have e_c_4 := lv_neT c_4 (a := 14) (by decide); simp only [Int32.lt_iff_toInt_lt, Int32.le_iff_toInt_le, q_n0, q_n1, q_n2, q_n3, q_n4, q_n5, q_n6, q_n7, q_n8, q_n9, q_n10, q_n11, q_n12, q_n13, q_n14, q_n15, q_n20, q_n60, q_n1288] at f_c_1_0 f_c_1_1; have l1 : 0 ≤ (q_i (S 4 0 a.toNatClampNeg)).toInt ∧ (q_i (S 4 0 a.toNatClampNeg)).toInt ≤ 14 := hI 4 0 a.toNatClampNeg; have l2 : (1 : Int32).toInt = 1 := rfl; have l3 := q_subI (x := q_i (S 4 0 a.toNatClampNeg)) (y := 1) (by omega); have l4 : (14 : Int32).toInt = 14 := rfl; have l5 := q_mulI (c := 14) (x := a) (k := 14) rfl (by omega); have l6 := q_addI (x := 14 * a) (y := q_i (S 4 0 a.toNatClampNeg)) (by omega); have l7 : (0 : Int32).toInt = 0 := rfl; have l8 : (2 : Int32).toInt = 2 := rfl; omega)) (mc_fm_118 (q_rm 0) hC.1.2.2.2.2 ⟨Nat.le_of_ble_eq_true rfl, Nat.le_of_ble_eq_true rfl⟩ rfl rfl) Nat.one_pos rfl rfl rfl hl.1 rfl (Nat.le_of_ble_eq_true rfl) md_fm_add_55 ⟨Nat.zero_le _, Nat.zero_le _⟩) (fun H locs hW hS => ?_)
        refine lv_aload_n hx hb md_fm_add_58 rfl (lv_at hl 1 rfl) ?_
        refine W.eq (g2 := F0 m 59 ls [.ref (q_a mX G 0 0)]) rfl ?_
        refine mg_fm_19 hC hW 0 Nat.one_pos md_fm_add_59 ?_
        refine lv_iload_n hx hb md_fm_add_62 rfl (lv_at hl 2 rfl) ?_
        refine lv_dup2_11 hx hb md_fm_add_63 rfl rfl ?_
        have h_6 : vp_in a 3 := by obtain ⟨f_c_1_0, f_c_1_1⟩ := mF_in c_1; have e_c_2 := lv_neT c_2 (a := 0) (by decide); have e_c_4 := lv_neT c_4 (a := 14) (by decide); simp only [Int32.lt_iff_toInt_lt, Int32.le_iff_toInt_le, q_n0, q_n1, q_n2, q_n3, q_n4, q_n5, q_n6, q_n7, q_n8, q_n9, q_n10, q_n11, q_n12, q_n13, q_n14, q_n15, q_n20, q_n60, q_n1288] at f_c_1_0 f_c_1_1; have l1 : (0 : Int32).toInt = 0 := rfl; have l2 : (2 : Int32).toInt = 2 := rfl; have l3 : 0 ≤ (q_i (S 4 0 a.toNatClampNeg)).toInt ∧ (q_i (S 4 0 a.toNatClampNeg)).toInt ≤ 14 := hI 4 0 a.toNatClampNeg; rw [vp_in_iff]; omega
        refine male_4 hC hW h_6 rfl (q_kc (mK_fm_set S ((14 * a) + (q_i (S 4 0 a.toNatClampNeg))) b d f _ _ _ (by decide) (by decide) (by decide)) (rfl)) md_fm_add_64 ?_
        refine lv_iconst (v := 1) hx hb md_fm_add_65 (by decide) ?_
        refine lv_iadd hx hb md_fm_add_66 ?_
        have h_7 : vp_in a 3 := by obtain ⟨f_c_1_0, f_c_1_1⟩ := mF_in c_1; have e_c_2 := lv_neT c_2 (a := 0) (by decide); have e_c_4 := lv_neT c_4 (a := 14) (by decide); simp only [Int32.lt_iff_toInt_lt, Int32.le_iff_toInt_le, q_n0, q_n1, q_n2, q_n3, q_n4, q_n5, q_n6, q_n7, q_n8, q_n9, q_n10, q_n11, q_n12, q_n13, q_n14, q_n15, q_n20, q_n60, q_n1288] at f_c_1_0 f_c_1_1; have l1 : (0 : Int32).toInt = 0 := rfl; have l2 : (2 : Int32).toInt = 2 := rfl; have l3 : 0 ≤ (q_i (S 4 0 a.toNatClampNeg)).toInt ∧ (q_i (S 4 0 a.toNatClampNeg)).toInt ≤ 14 := hI 4 0 a.toNatClampNeg; rw [vp_in_iff]; omega
        refine mase_4 hC hW hS (fun _ h => h) h_7 rfl md_fm_add_67 (fun H locs hW hS => ?_)
        refine lv_aload_n hx hb md_fm_add_68 rfl (lv_at hl 1 rfl) ?_
        refine lv_iload_n hx hb md_fm_add_69 rfl (lv_at hl 2 rfl) ?_
        have hI_8 : mI (q_st (m_fm_set S ((14 * a) + (q_i (S 4 0 a.toNatClampNeg))) b d f) 4 0 a.toNatClampNeg (.int ((q_i (S 4 0 a.toNatClampNeg)) + 1))) := (mI_st (mI_fm_set S ((14 * a) + (q_i (S 4 0 a.toNatClampNeg))) b d f hI (by obtain ⟨f_c_1_0, f_c_1_1⟩ := mF_in c_1; have e_c_2 := lv_neT c_2 (a := 0) (by decide); have e_c_4 := lv_neT c_4 (a := 14) (by decide); simp only [Int32.lt_iff_toInt_lt, Int32.le_iff_toInt_le, q_n0, q_n1, q_n2, q_n3, q_n4, q_n5, q_n6, q_n7, q_n8, q_n9, q_n10, q_n11, q_n12, q_n13, q_n14, q_n15, q_n20, q_n60, q_n1288] at f_c_1_0 f_c_1_1; have l1 : 0 ≤ (q_i (S 4 0 a.toNatClampNeg)).toInt ∧ (q_i (S 4 0 a.toNatClampNeg)).toInt ≤ 14 := hI 4 0 a.toNatClampNeg; have l2 : (1 : Int32).toInt = 1 := rfl; have l3 := q_subI (x := q_i (S 4 0 a.toNatClampNeg)) (y := 1) (by omega); have l4 : (14 : Int32).toInt = 14 := rfl; have l5 := q_mulI (c := 14) (x := a) (k := 14) rfl (by omega); have l6 := q_addI (x := 14 * a) (y := q_i (S 4 0 a.toNatClampNeg)) (by omega); have l7 : (0 : Int32).toInt = 0 := rfl; have l8 : (2 : Int32).toInt = 2 := rfl; omega)) (by obtain ⟨f_c_1_0, f_c_1_1⟩ := mF_in c_1; have e_c_2 := lv_neT c_2 (a := 0) (by decide); have e_c_4 := lv_neT c_4 (a := 14) (by decide); simp only [Int32.lt_iff_toInt_lt, Int32.le_iff_toInt_le, q_n0, q_n1, q_n2, q_n3, q_n4, q_n5, q_n6, q_n7, q_n8, q_n9, q_n10, q_n11, q_n12, q_n13, q_n14, q_n15, q_n20, q_n60, q_n1288] at f_c_1_0 f_c_1_1; have l1 : 0 ≤ (q_i (S 4 0 a.toNatClampNeg)).toInt ∧ (q_i (S 4 0 a.toNatClampNeg)).toInt ≤ 14 := hI 4 0 a.toNatClampNeg; have l2 : (1 : Int32).toInt = 1 := rfl; have l3 := q_addI (x := q_i (S 4 0 a.toNatClampNeg)) (y := 1) (by omega); have l4 : (0 : Int32).toInt = 0 := rfl; have l5 : (2 : Int32).toInt = 2 := rfl; show 0 ≤ ((q_i (S 4 0 a.toNatClampNeg)) + 1).toInt ∧ ((q_i (S 4 0 a.toNatClampNeg)) + 1).toInt ≤ 14; omega))
        refine q_callv hC hS (fun _ h => h) (q_runV (rest := []) hC hW (mC_fm_forgetAll l G (q_st (m_fm_set S ((14 * a) + (q_i (S 4 0 a.toNatClampNeg))) b d f) 4 0 a.toNatClampNeg (.int ((q_i (S 4 0 a.toNatClampNeg)) + 1))) a hI_8) (mc_fm_122 (q_rm 0) hC.1.2.2.2.2 ⟨Nat.le_of_ble_eq_true rfl, Nat.le_of_ble_eq_true rfl⟩ rfl rfl) Nat.one_pos rfl rfl rfl hl.1 rfl (Nat.le_of_ble_eq_true rfl) md_fm_add_70 ⟨Nat.zero_le _, Nat.zero_le _⟩) (fun H locs hW hS => ?_)
        refine lv_aload_n hx hb md_fm_add_73 rfl (lv_at hl 1 rfl) ?_
        refine mg_fm_19 hC hW 0 Nat.one_pos md_fm_add_74 ?_
        refine lv_iload_n hx hb md_fm_add_77 rfl (lv_at hl 2 rfl) ?_
        have h_9 : vp_in a 3 := by obtain ⟨f_c_1_0, f_c_1_1⟩ := mF_in c_1; have e_c_2 := lv_neT c_2 (a := 0) (by decide); have e_c_4 := lv_neT c_4 (a := 14) (by decide); simp only [Int32.lt_iff_toInt_lt, Int32.le_iff_toInt_le, q_n0, q_n1, q_n2, q_n3, q_n4, q_n5, q_n6, q_n7, q_n8, q_n9, q_n10, q_n11, q_n12, q_n13, q_n14, q_n15, q_n20, q_n60, q_n1288] at f_c_1_0 f_c_1_1; have l1 : (0 : Int32).toInt = 0 := rfl; have l2 : (2 : Int32).toInt = 2 := rfl; have l3 : 0 ≤ (q_i (S 4 0 a.toNatClampNeg)).toInt ∧ (q_i (S 4 0 a.toNatClampNeg)).toInt ≤ 14 := hI 4 0 a.toNatClampNeg; rw [vp_in_iff]; omega
        refine male_4 hC hW h_9 rfl (q_kc (mK_fm_forgetAll (q_st (m_fm_set S ((14 * a) + (q_i (S 4 0 a.toNatClampNeg))) b d f) 4 0 a.toNatClampNeg (.int ((q_i (S 4 0 a.toNatClampNeg)) + 1))) a _ _ _ (by decide)) (q_ss)) md_fm_add_78 ?_
        refine W.eq (g2 := F0 m 79 ls [.int ((q_i (S 4 0 a.toNatClampNeg)) + 1)]) rfl ?_
        refine lv_iconst (v := 1) hx hb md_fm_add_79 (by decide) ?_
        refine lv_isub hx hb md_fm_add_80 ?_
        have hf : m_fm_add S a b d f = (((q_i (S 4 0 a.toNatClampNeg)) + 1) - 1, m_fm_forgetAll (q_st (m_fm_set S ((14 * a) + (q_i (S 4 0 a.toNatClampNeg))) b d f) 4 0 a.toNatClampNeg (.int ((q_i (S 4 0 a.toNatClampNeg)) + 1))) a) := by unfold m_fm_add; rw [if_neg c_1, if_neg c_2, if_neg c_4]
        rw [hf]
        exact q_iret hC hr hlocks hW hS rfl rfl md_fm_add_81
      · -- not taken
        refine lv_bipush (v := (-3)) hx hb md_fm_add_36 (by decide) ?_
        have hf : m_fm_add S a b d f = ((-3), S) := by unfold m_fm_add; rw [if_neg c_1, if_neg c_2, if_pos c_4]
        rw [hf]
        exact q_iret hC hr hlocks hW hS rfl rfl md_fm_add_38
    · -- not taken
      refine lv_iconst (v := (-1)) hx hb md_fm_add_23 (by decide) ?_
      have hf : m_fm_add S a b d f = ((-1), S) := by unfold m_fm_add; rw [if_neg c_1, if_pos c_2]
      rw [hf]
      exact q_iret hC hr hlocks hW hS rfl rfl md_fm_add_24
set_option maxRecDepth 100000 in
set_option maxHeartbeats 4000000 in
theorem mI_fm_add (S : q_S) (a b d f : Int32) (hI : mI S) : mI ((m_fm_add S a b d f).2) := by
  by_cases c_1 : m_fm_in S a 0 2 = 0
  · -- yes
    have hf : m_fm_add S a b d f = ((-1), S) := by unfold m_fm_add; rw [if_pos c_1]
    rw [hf]
    exact hI
  · -- no
    by_cases c_2 : m_fm_isGood S b d f = 0
    · -- yes
      have hf : m_fm_add S a b d f = ((-1), S) := by unfold m_fm_add; rw [if_neg c_1, if_pos c_2]
      rw [hf]
      exact hI
    · -- no
      by_cases c_4 : q_i (S 4 0 a.toNatClampNeg) = 14
      · -- yes
        have h_3 : vp_in a 3 := by obtain ⟨f_c_1_0, f_c_1_1⟩ := mF_in c_1; have e_c_2 := lv_neT c_2 (a := 0) (by decide); simp only [Int32.lt_iff_toInt_lt, Int32.le_iff_toInt_le, q_n0, q_n1, q_n2, q_n3, q_n4, q_n5, q_n6, q_n7, q_n8, q_n9, q_n10, q_n11, q_n12, q_n13, q_n14, q_n15, q_n20, q_n60, q_n1288] at f_c_1_0 f_c_1_1; have l1 : (0 : Int32).toInt = 0 := rfl; have l2 : (2 : Int32).toInt = 2 := rfl; rw [vp_in_iff]; omega
        have hf : m_fm_add S a b d f = ((-3), S) := by unfold m_fm_add; rw [if_neg c_1, if_neg c_2, if_pos c_4]
        rw [hf]
        exact hI
      · -- no
        have h_3 : vp_in a 3 := by obtain ⟨f_c_1_0, f_c_1_1⟩ := mF_in c_1; have e_c_2 := lv_neT c_2 (a := 0) (by decide); simp only [Int32.lt_iff_toInt_lt, Int32.le_iff_toInt_le, q_n0, q_n1, q_n2, q_n3, q_n4, q_n5, q_n6, q_n7, q_n8, q_n9, q_n10, q_n11, q_n12, q_n13, q_n14, q_n15, q_n20, q_n60, q_n1288] at f_c_1_0 f_c_1_1; have l1 : (0 : Int32).toInt = 0 := rfl; have l2 : (2 : Int32).toInt = 2 := rfl; rw [vp_in_iff]; omega
        have h_5 : vp_in a 3 := by obtain ⟨f_c_1_0, f_c_1_1⟩ := mF_in c_1; have e_c_2 := lv_neT c_2 (a := 0) (by decide); have e_c_4 := lv_neT c_4 (a := 14) (by decide); simp only [Int32.lt_iff_toInt_lt, Int32.le_iff_toInt_le, q_n0, q_n1, q_n2, q_n3, q_n4, q_n5, q_n6, q_n7, q_n8, q_n9, q_n10, q_n11, q_n12, q_n13, q_n14, q_n15, q_n20, q_n60, q_n1288] at f_c_1_0 f_c_1_1; have l1 : (0 : Int32).toInt = 0 := rfl; have l2 : (2 : Int32).toInt = 2 := rfl; have l3 : 0 ≤ (q_i (S 4 0 a.toNatClampNeg)).toInt ∧ (q_i (S 4 0 a.toNatClampNeg)).toInt ≤ 14 := hI 4 0 a.toNatClampNeg; rw [vp_in_iff]; omega
        have h_6 : vp_in a 3 := by obtain ⟨f_c_1_0, f_c_1_1⟩ := mF_in c_1; have e_c_2 := lv_neT c_2 (a := 0) (by decide); have e_c_4 := lv_neT c_4 (a := 14) (by decide); simp only [Int32.lt_iff_toInt_lt, Int32.le_iff_toInt_le, q_n0, q_n1, q_n2, q_n3, q_n4, q_n5, q_n6, q_n7, q_n8, q_n9, q_n10, q_n11, q_n12, q_n13, q_n14, q_n15, q_n20, q_n60, q_n1288] at f_c_1_0 f_c_1_1; have l1 : (0 : Int32).toInt = 0 := rfl; have l2 : (2 : Int32).toInt = 2 := rfl; have l3 : 0 ≤ (q_i (S 4 0 a.toNatClampNeg)).toInt ∧ (q_i (S 4 0 a.toNatClampNeg)).toInt ≤ 14 := hI 4 0 a.toNatClampNeg; rw [vp_in_iff]; omega
        have h_7 : vp_in a 3 := by obtain ⟨f_c_1_0, f_c_1_1⟩ := mF_in c_1; have e_c_2 := lv_neT c_2 (a := 0) (by decide); have e_c_4 := lv_neT c_4 (a := 14) (by decide); simp only [Int32.lt_iff_toInt_lt, Int32.le_iff_toInt_le, q_n0, q_n1, q_n2, q_n3, q_n4, q_n5, q_n6, q_n7, q_n8, q_n9, q_n10, q_n11, q_n12, q_n13, q_n14, q_n15, q_n20, q_n60, q_n1288] at f_c_1_0 f_c_1_1; have l1 : (0 : Int32).toInt = 0 := rfl; have l2 : (2 : Int32).toInt = 2 := rfl; have l3 : 0 ≤ (q_i (S 4 0 a.toNatClampNeg)).toInt ∧ (q_i (S 4 0 a.toNatClampNeg)).toInt ≤ 14 := hI 4 0 a.toNatClampNeg; rw [vp_in_iff]; omega
        have hI_8 : mI (q_st (m_fm_set S ((14 * a) + (q_i (S 4 0 a.toNatClampNeg))) b d f) 4 0 a.toNatClampNeg (.int ((q_i (S 4 0 a.toNatClampNeg)) + 1))) := (mI_st (mI_fm_set S ((14 * a) + (q_i (S 4 0 a.toNatClampNeg))) b d f hI (by obtain ⟨f_c_1_0, f_c_1_1⟩ := mF_in c_1; have e_c_2 := lv_neT c_2 (a := 0) (by decide); have e_c_4 := lv_neT c_4 (a := 14) (by decide); simp only [Int32.lt_iff_toInt_lt, Int32.le_iff_toInt_le, q_n0, q_n1, q_n2, q_n3, q_n4, q_n5, q_n6, q_n7, q_n8, q_n9, q_n10, q_n11, q_n12, q_n13, q_n14, q_n15, q_n20, q_n60, q_n1288] at f_c_1_0 f_c_1_1; have l1 : 0 ≤ (q_i (S 4 0 a.toNatClampNeg)).toInt ∧ (q_i (S 4 0 a.toNatClampNeg)).toInt ≤ 14 := hI 4 0 a.toNatClampNeg; have l2 : (1 : Int32).toInt = 1 := rfl; have l3 := q_subI (x := q_i (S 4 0 a.toNatClampNeg)) (y := 1) (by omega); have l4 : (14 : Int32).toInt = 14 := rfl; have l5 := q_mulI (c := 14) (x := a) (k := 14) rfl (by omega); have l6 := q_addI (x := 14 * a) (y := q_i (S 4 0 a.toNatClampNeg)) (by omega); have l7 : (0 : Int32).toInt = 0 := rfl; have l8 : (2 : Int32).toInt = 2 := rfl; omega)) (by obtain ⟨f_c_1_0, f_c_1_1⟩ := mF_in c_1; have e_c_2 := lv_neT c_2 (a := 0) (by decide); have e_c_4 := lv_neT c_4 (a := 14) (by decide); simp only [Int32.lt_iff_toInt_lt, Int32.le_iff_toInt_le, q_n0, q_n1, q_n2, q_n3, q_n4, q_n5, q_n6, q_n7, q_n8, q_n9, q_n10, q_n11, q_n12, q_n13, q_n14, q_n15, q_n20, q_n60, q_n1288] at f_c_1_0 f_c_1_1; have l1 : 0 ≤ (q_i (S 4 0 a.toNatClampNeg)).toInt ∧ (q_i (S 4 0 a.toNatClampNeg)).toInt ≤ 14 := hI 4 0 a.toNatClampNeg; have l2 : (1 : Int32).toInt = 1 := rfl; have l3 := q_addI (x := q_i (S 4 0 a.toNatClampNeg)) (y := 1) (by omega); have l4 : (0 : Int32).toInt = 0 := rfl; have l5 : (2 : Int32).toInt = 2 := rfl; show 0 ≤ ((q_i (S 4 0 a.toNatClampNeg)) + 1).toInt ∧ ((q_i (S 4 0 a.toNatClampNeg)) + 1).toInt ≤ 14; omega))
        have h_9 : vp_in a 3 := by obtain ⟨f_c_1_0, f_c_1_1⟩ := mF_in c_1; have e_c_2 := lv_neT c_2 (a := 0) (by decide); have e_c_4 := lv_neT c_4 (a := 14) (by decide); simp only [Int32.lt_iff_toInt_lt, Int32.le_iff_toInt_le, q_n0, q_n1, q_n2, q_n3, q_n4, q_n5, q_n6, q_n7, q_n8, q_n9, q_n10, q_n11, q_n12, q_n13, q_n14, q_n15, q_n20, q_n60, q_n1288] at f_c_1_0 f_c_1_1; have l1 : (0 : Int32).toInt = 0 := rfl; have l2 : (2 : Int32).toInt = 2 := rfl; have l3 : 0 ≤ (q_i (S 4 0 a.toNatClampNeg)).toInt ∧ (q_i (S 4 0 a.toNatClampNeg)).toInt ≤ 14 := hI 4 0 a.toNatClampNeg; rw [vp_in_iff]; omega
        have hf : m_fm_add S a b d f = (((q_i (S 4 0 a.toNatClampNeg)) + 1) - 1, m_fm_forgetAll (q_st (m_fm_set S ((14 * a) + (q_i (S 4 0 a.toNatClampNeg))) b d f) 4 0 a.toNatClampNeg (.int ((q_i (S 4 0 a.toNatClampNeg)) + 1))) a) := by unfold m_fm_add; rw [if_neg c_1, if_neg c_2, if_neg c_4]
        rw [hf]
        exact (mI_fm_forgetAll (q_st (m_fm_set S ((14 * a) + (q_i (S 4 0 a.toNatClampNeg))) b d f) 4 0 a.toNatClampNeg (.int ((q_i (S 4 0 a.toNatClampNeg)) + 1))) a hI_8)
set_option maxRecDepth 100000 in
set_option maxHeartbeats 4000000 in
theorem mK_fm_add (S : q_S) (a b d f : Int32) (x y z : Nat) (h1 : x ≠ 1) (h2 : x ≠ 2) (h3 : x ≠ 3) (h4 : x ≠ 4) (h6 : x ≠ 6) : (m_fm_add S a b d f).2 x y z = S x y z := by
  by_cases c_1 : m_fm_in S a 0 2 = 0
  · -- yes
    have hf : m_fm_add S a b d f = ((-1), S) := by unfold m_fm_add; rw [if_pos c_1]
    rw [hf]
  · -- no
    by_cases c_2 : m_fm_isGood S b d f = 0
    · -- yes
      have hf : m_fm_add S a b d f = ((-1), S) := by unfold m_fm_add; rw [if_neg c_1, if_pos c_2]
      rw [hf]
    · -- no
      by_cases c_4 : q_i (S 4 0 a.toNatClampNeg) = 14
      · -- yes
        have hf : m_fm_add S a b d f = ((-3), S) := by unfold m_fm_add; rw [if_neg c_1, if_neg c_2, if_pos c_4]
        rw [hf]
      · -- no
        have hf : m_fm_add S a b d f = (((q_i (S 4 0 a.toNatClampNeg)) + 1) - 1, m_fm_forgetAll (q_st (m_fm_set S ((14 * a) + (q_i (S 4 0 a.toNatClampNeg))) b d f) 4 0 a.toNatClampNeg (.int ((q_i (S 4 0 a.toNatClampNeg)) + 1))) a) := by unfold m_fm_add; rw [if_neg c_1, if_neg c_2, if_neg c_4]
        rw [hf]
        exact ((mK_fm_forgetAll (q_st (m_fm_set S ((14 * a) + (q_i (S 4 0 a.toNatClampNeg))) b d f) 4 0 a.toNatClampNeg (.int ((q_i (S 4 0 a.toNatClampNeg)) + 1))) a x y z h6)).trans ((q_kj h4).trans (((mK_fm_set S ((14 * a) + (q_i (S 4 0 a.toNatClampNeg))) b d f x y z h1 h2 h3))))
def m_fm_change (S : q_S) (a b d f g : Int32) : Int32 × q_S :=
  if m_fm_in S a 0 2 = 0 then
    (0, S)
  else
    if m_fm_isGood S d f g = 0 then
      (0, S)
    else
      if m_fm_in S b 0 ((q_i (S 4 0 a.toNatClampNeg)) - 1) = 0 then
        (0, S)
      else
        (1, m_fm_forgetAll (m_fm_set S ((14 * a) + b) d f g) a)
set_option maxRecDepth 100000 in
set_option maxHeartbeats 4000000 in
theorem mC_fm_change (l : Launch) (G : q_G) (S : q_S) (a b d f g : Int32) (hI : mI S) : q_Mi mX G l my_fm_change (q_ws (q_gw lw_tbl) my_fm_change mb_fm_change 7 (some .boolean)) (q_rm 2) [.ref (q_a mX G 0 0), .int a, .int b, .int d, .int f, .int g] S (m_fm_change S a b d f g).1 (m_fm_change S a b d f g).2 := by
  refine q_met (cc := mb_fm_change) (maxL := 7) (ret := (some .boolean)) mOk (by decide) rfl (Nat.le_of_ble_eq_true rfl) ?_
  intro p e s m below meth c ls hC hr hlocks hW hS hl
  have hx := hC.1.1
  have hb := hC.1.2.1
  have hl : lv_has ls 7 [(0, .ref (q_a mX G 0 0)), (1, .int a), (2, .int b), (3, .int d), (4, .int f), (5, .int g)] := hl
  refine lv_iload_n hx hb md_fm_change_0 rfl (lv_at hl 3 rfl) ?_
  refine lv_iload hx hb md_fm_change_1 (lv_at hl 4 rfl) ?_
  refine lv_iload hx hb md_fm_change_3 (lv_at hl 5 rfl) ?_
  refine q_calli hC hS (fun _ h => h) (q_runS (rest := []) hC hW (mC_fm_isGood l G S d f g) (mc_fm_115 (q_rm 1) hC.1.2.2.2.2 ⟨Nat.le_of_ble_eq_true rfl, Nat.le_of_ble_eq_true rfl⟩ rfl rfl) rfl hl.1 rfl (Nat.le_of_ble_eq_true rfl) md_fm_change_5 ⟨Nat.zero_le _, Nat.zero_le _⟩) (fun H locs hW hS => ?_)
  refine lv_istore (lv' := [(6, .int (m_fm_isGood S d f g)), (0, .ref (q_a mX G 0 0)), (1, .int a), (2, .int b), (3, .int d), (4, .int f), (5, .int g)]) hx hb md_fm_change_8 hl (by decide) rfl (fun ls hl => ?_)
  refine lv_iload_n hx hb md_fm_change_10 rfl (lv_at hl 2 rfl) ?_
  refine lv_iconst (v := 0) hx hb md_fm_change_11 (by decide) ?_
  refine lv_iconst (v := 2) hx hb md_fm_change_12 (by decide) ?_
  refine q_calli hC hS (fun _ h => h) (q_runS (rest := []) hC hW (mC_fm_in l G S a 0 2) (mc_fm_111 (q_rm 0) hC.1.2.2.2.2 ⟨Nat.le_of_ble_eq_true rfl, Nat.le_of_ble_eq_true rfl⟩ rfl rfl) rfl hl.1 rfl (Nat.le_of_ble_eq_true rfl) md_fm_change_13 ⟨Nat.zero_le _, Nat.zero_le _⟩) (fun H locs hW hS => ?_)
  refine lv_if_eq (tgt := 40) hx hb md_fm_change_16 (by decide) (fun c_1 => ?_) (fun c_1 => ?_)
  · -- taken
    refine lv_iconst (v := 0) hx hb md_fm_change_40 (by decide) ?_
    have hf : m_fm_change S a b d f g = (0, S) := by unfold m_fm_change; rw [if_pos c_1]
    rw [hf]
    exact q_zret hC hr hlocks hW hS (by decide) rfl rfl md_fm_change_41
  · -- not taken
    refine lv_iload hx hb md_fm_change_19 (lv_at hl 0 rfl) ?_
    refine lv_if_eq (tgt := 40) hx hb md_fm_change_21 (by decide) (fun c_2 => ?_) (fun c_2 => ?_)
    · -- taken
      refine lv_iconst (v := 0) hx hb md_fm_change_40 (by decide) ?_
      have hf : m_fm_change S a b d f g = (0, S) := by unfold m_fm_change; rw [if_neg c_1, if_pos c_2]
      rw [hf]
      exact q_zret hC hr hlocks hW hS (by decide) rfl rfl md_fm_change_41
    · -- not taken
      refine lv_iload_n hx hb md_fm_change_24 rfl (lv_at hl 3 rfl) ?_
      refine lv_iconst (v := 0) hx hb md_fm_change_25 (by decide) ?_
      refine lv_aload_n hx hb md_fm_change_26 rfl (lv_at hl 1 rfl) ?_
      refine mg_fm_19 hC hW 0 Nat.one_pos md_fm_change_27 ?_
      refine lv_iload_n hx hb md_fm_change_30 rfl (lv_at hl 2 rfl) ?_
      have h_3 : vp_in a 3 := by obtain ⟨f_c_1_0, f_c_1_1⟩ := mF_in c_1; have e_c_2 := lv_neT c_2 (a := 0) (by decide); simp only [Int32.lt_iff_toInt_lt, Int32.le_iff_toInt_le, q_n0, q_n1, q_n2, q_n3, q_n4, q_n5, q_n6, q_n7, q_n8, q_n9, q_n10, q_n11, q_n12, q_n13, q_n14, q_n15, q_n20, q_n60, q_n1288] at f_c_1_0 f_c_1_1; have l1 : (0 : Int32).toInt = 0 := rfl; have l2 : (2 : Int32).toInt = 2 := rfl; rw [vp_in_iff]; omega
      refine male_4 hC hW h_3 rfl (rfl) md_fm_change_31 ?_
      refine lv_iconst (v := 1) hx hb md_fm_change_32 (by decide) ?_
      refine lv_isub hx hb md_fm_change_33 ?_
      refine q_calli hC hS (fun _ h => h) (q_runS (rest := []) hC hW (mC_fm_in l G S b 0 ((q_i (S 4 0 a.toNatClampNeg)) - 1)) (mc_fm_111 (q_rm 0) hC.1.2.2.2.2 ⟨Nat.le_of_ble_eq_true rfl, Nat.le_of_ble_eq_true rfl⟩ rfl rfl) rfl hl.1 rfl (Nat.le_of_ble_eq_true rfl) md_fm_change_34 ⟨Nat.zero_le _, Nat.zero_le _⟩) (fun H locs hW hS => ?_)
      refine lv_if_ne (tgt := 42) hx hb md_fm_change_37 (by decide) (fun c_4 => ?_) (fun c_4 => ?_)
      · -- taken
        refine lv_aload_n hx hb md_fm_change_42 rfl (lv_at hl 1 rfl) ?_
        refine lv_bipush (v := 14) hx hb md_fm_change_43 (by decide) ?_
        refine lv_iload_n hx hb md_fm_change_45 rfl (lv_at hl 2 rfl) ?_
        refine lv_imul hx hb md_fm_change_46 ?_
        refine lv_iload_n hx hb md_fm_change_47 rfl (lv_at hl 3 rfl) ?_
        refine lv_iadd hx hb md_fm_change_48 ?_
        refine lv_iload_n hx hb md_fm_change_49 rfl (lv_at hl 4 rfl) ?_
        refine lv_iload hx hb md_fm_change_50 (lv_at hl 5 rfl) ?_
        refine lv_iload hx hb md_fm_change_52 (lv_at hl 6 rfl) ?_
        refine q_callv hC hS (fun _ h => h) (q_runV (rest := []) hC hW (mC_fm_set l G S ((14 * a) + b) d f g hI (by obtain ⟨f_c_1_0, f_c_1_1⟩ := mF_in c_1; have e_c_2 := lv_neT c_2 (a := 0) (by decide); obtain ⟨f_c_4_0, f_c_4_1⟩ := mF_in c_4; simp only [Int32.lt_iff_toInt_lt, Int32.le_iff_toInt_le, q_n0, q_n1, q_n2, q_n3, q_n4, q_n5, q_n6, q_n7, q_n8, q_n9, q_n10, q_n11, q_n12, q_n13, q_n14, q_n15, q_n20, q_n60, q_n1288] at f_c_1_0 f_c_1_1 f_c_4_0 f_c_4_1; have l1 : 0 ≤ (q_i (S 4 0 a.toNatClampNeg)).toInt ∧ (q_i (S 4 0 a.toNatClampNeg)).toInt ≤ 14 := hI 4 0 a.toNatClampNeg; have l2 : (1 : Int32).toInt = 1 := rfl; have l3 := q_subI (x := q_i (S 4 0 a.toNatClampNeg)) (y := 1) (by omega); have l4 : (14 : Int32).toInt = 14 := rfl; have l5 := q_mulI (c := 14) (x := a) (k := 14) rfl (by omega); have l6 := q_addI (x := 14 * a) (y := b) (by omega); have l7 : (0 : Int32).toInt = 0 := rfl; have l8 : (2 : Int32).toInt = 2 := rfl; omega)) (mc_fm_118 (q_rm 0) hC.1.2.2.2.2 ⟨Nat.le_of_ble_eq_true rfl, Nat.le_of_ble_eq_true rfl⟩ rfl rfl) Nat.one_pos rfl rfl rfl hl.1 rfl (Nat.le_of_ble_eq_true rfl) md_fm_change_54 ⟨Nat.zero_le _, Nat.zero_le _⟩) (fun H locs hW hS => ?_)
        refine lv_aload_n hx hb md_fm_change_57 rfl (lv_at hl 1 rfl) ?_
        refine lv_iload_n hx hb md_fm_change_58 rfl (lv_at hl 2 rfl) ?_
        have hI_5 : mI (m_fm_set S ((14 * a) + b) d f g) := (mI_fm_set S ((14 * a) + b) d f g hI (by obtain ⟨f_c_1_0, f_c_1_1⟩ := mF_in c_1; have e_c_2 := lv_neT c_2 (a := 0) (by decide); obtain ⟨f_c_4_0, f_c_4_1⟩ := mF_in c_4; simp only [Int32.lt_iff_toInt_lt, Int32.le_iff_toInt_le, q_n0, q_n1, q_n2, q_n3, q_n4, q_n5, q_n6, q_n7, q_n8, q_n9, q_n10, q_n11, q_n12, q_n13, q_n14, q_n15, q_n20, q_n60, q_n1288] at f_c_1_0 f_c_1_1 f_c_4_0 f_c_4_1; have l1 : 0 ≤ (q_i (S 4 0 a.toNatClampNeg)).toInt ∧ (q_i (S 4 0 a.toNatClampNeg)).toInt ≤ 14 := hI 4 0 a.toNatClampNeg; have l2 : (1 : Int32).toInt = 1 := rfl; have l3 := q_subI (x := q_i (S 4 0 a.toNatClampNeg)) (y := 1) (by omega); have l4 : (14 : Int32).toInt = 14 := rfl; have l5 := q_mulI (c := 14) (x := a) (k := 14) rfl (by omega); have l6 := q_addI (x := 14 * a) (y := b) (by omega); have l7 : (0 : Int32).toInt = 0 := rfl; have l8 : (2 : Int32).toInt = 2 := rfl; omega))
        refine q_callv hC hS (fun _ h => h) (q_runV (rest := []) hC hW (mC_fm_forgetAll l G (m_fm_set S ((14 * a) + b) d f g) a hI_5) (mc_fm_122 (q_rm 0) hC.1.2.2.2.2 ⟨Nat.le_of_ble_eq_true rfl, Nat.le_of_ble_eq_true rfl⟩ rfl rfl) Nat.one_pos rfl rfl rfl hl.1 rfl (Nat.le_of_ble_eq_true rfl) md_fm_change_59 ⟨Nat.zero_le _, Nat.zero_le _⟩) (fun H locs hW hS => ?_)
        refine lv_iconst (v := 1) hx hb md_fm_change_62 (by decide) ?_
        refine W.eq (g2 := F0 m 63 ls [.int 1]) rfl ?_
        have hf : m_fm_change S a b d f g = (1, m_fm_forgetAll (m_fm_set S ((14 * a) + b) d f g) a) := by unfold m_fm_change; rw [if_neg c_1, if_neg c_2, if_neg c_4]
        rw [hf]
        exact q_zret hC hr hlocks hW hS (by decide) rfl rfl md_fm_change_63
      · -- not taken
        refine lv_iconst (v := 0) hx hb md_fm_change_40 (by decide) ?_
        have hf : m_fm_change S a b d f g = (0, S) := by unfold m_fm_change; rw [if_neg c_1, if_neg c_2, if_pos c_4]
        rw [hf]
        exact q_zret hC hr hlocks hW hS (by decide) rfl rfl md_fm_change_41
set_option maxRecDepth 100000 in
set_option maxHeartbeats 4000000 in
theorem mI_fm_change (S : q_S) (a b d f g : Int32) (hI : mI S) : mI ((m_fm_change S a b d f g).2) := by
  by_cases c_1 : m_fm_in S a 0 2 = 0
  · -- yes
    have hf : m_fm_change S a b d f g = (0, S) := by unfold m_fm_change; rw [if_pos c_1]
    rw [hf]
    exact hI
  · -- no
    by_cases c_2 : m_fm_isGood S d f g = 0
    · -- yes
      have hf : m_fm_change S a b d f g = (0, S) := by unfold m_fm_change; rw [if_neg c_1, if_pos c_2]
      rw [hf]
      exact hI
    · -- no
      by_cases c_4 : m_fm_in S b 0 ((q_i (S 4 0 a.toNatClampNeg)) - 1) = 0
      · -- yes
        have h_3 : vp_in a 3 := by obtain ⟨f_c_1_0, f_c_1_1⟩ := mF_in c_1; have e_c_2 := lv_neT c_2 (a := 0) (by decide); simp only [Int32.lt_iff_toInt_lt, Int32.le_iff_toInt_le, q_n0, q_n1, q_n2, q_n3, q_n4, q_n5, q_n6, q_n7, q_n8, q_n9, q_n10, q_n11, q_n12, q_n13, q_n14, q_n15, q_n20, q_n60, q_n1288] at f_c_1_0 f_c_1_1; have l1 : (0 : Int32).toInt = 0 := rfl; have l2 : (2 : Int32).toInt = 2 := rfl; rw [vp_in_iff]; omega
        have hf : m_fm_change S a b d f g = (0, S) := by unfold m_fm_change; rw [if_neg c_1, if_neg c_2, if_pos c_4]
        rw [hf]
        exact hI
      · -- no
        have h_3 : vp_in a 3 := by obtain ⟨f_c_1_0, f_c_1_1⟩ := mF_in c_1; have e_c_2 := lv_neT c_2 (a := 0) (by decide); simp only [Int32.lt_iff_toInt_lt, Int32.le_iff_toInt_le, q_n0, q_n1, q_n2, q_n3, q_n4, q_n5, q_n6, q_n7, q_n8, q_n9, q_n10, q_n11, q_n12, q_n13, q_n14, q_n15, q_n20, q_n60, q_n1288] at f_c_1_0 f_c_1_1; have l1 : (0 : Int32).toInt = 0 := rfl; have l2 : (2 : Int32).toInt = 2 := rfl; rw [vp_in_iff]; omega
        have hI_5 : mI (m_fm_set S ((14 * a) + b) d f g) := (mI_fm_set S ((14 * a) + b) d f g hI (by obtain ⟨f_c_1_0, f_c_1_1⟩ := mF_in c_1; have e_c_2 := lv_neT c_2 (a := 0) (by decide); obtain ⟨f_c_4_0, f_c_4_1⟩ := mF_in c_4; simp only [Int32.lt_iff_toInt_lt, Int32.le_iff_toInt_le, q_n0, q_n1, q_n2, q_n3, q_n4, q_n5, q_n6, q_n7, q_n8, q_n9, q_n10, q_n11, q_n12, q_n13, q_n14, q_n15, q_n20, q_n60, q_n1288] at f_c_1_0 f_c_1_1 f_c_4_0 f_c_4_1; have l1 : 0 ≤ (q_i (S 4 0 a.toNatClampNeg)).toInt ∧ (q_i (S 4 0 a.toNatClampNeg)).toInt ≤ 14 := hI 4 0 a.toNatClampNeg; have l2 : (1 : Int32).toInt = 1 := rfl; have l3 := q_subI (x := q_i (S 4 0 a.toNatClampNeg)) (y := 1) (by omega); have l4 : (14 : Int32).toInt = 14 := rfl; have l5 := q_mulI (c := 14) (x := a) (k := 14) rfl (by omega); have l6 := q_addI (x := 14 * a) (y := b) (by omega); have l7 : (0 : Int32).toInt = 0 := rfl; have l8 : (2 : Int32).toInt = 2 := rfl; omega))
        have hf : m_fm_change S a b d f g = (1, m_fm_forgetAll (m_fm_set S ((14 * a) + b) d f g) a) := by unfold m_fm_change; rw [if_neg c_1, if_neg c_2, if_neg c_4]
        rw [hf]
        exact (mI_fm_forgetAll (m_fm_set S ((14 * a) + b) d f g) a hI_5)
set_option maxRecDepth 100000 in
set_option maxHeartbeats 4000000 in
theorem mK_fm_change (S : q_S) (a b d f g : Int32) (x y z : Nat) (h1 : x ≠ 1) (h2 : x ≠ 2) (h3 : x ≠ 3) (h6 : x ≠ 6) : (m_fm_change S a b d f g).2 x y z = S x y z := by
  by_cases c_1 : m_fm_in S a 0 2 = 0
  · -- yes
    have hf : m_fm_change S a b d f g = (0, S) := by unfold m_fm_change; rw [if_pos c_1]
    rw [hf]
  · -- no
    by_cases c_2 : m_fm_isGood S d f g = 0
    · -- yes
      have hf : m_fm_change S a b d f g = (0, S) := by unfold m_fm_change; rw [if_neg c_1, if_pos c_2]
      rw [hf]
    · -- no
      by_cases c_4 : m_fm_in S b 0 ((q_i (S 4 0 a.toNatClampNeg)) - 1) = 0
      · -- yes
        have hf : m_fm_change S a b d f g = (0, S) := by unfold m_fm_change; rw [if_neg c_1, if_neg c_2, if_pos c_4]
        rw [hf]
      · -- no
        have hf : m_fm_change S a b d f g = (1, m_fm_forgetAll (m_fm_set S ((14 * a) + b) d f g) a) := by unfold m_fm_change; rw [if_neg c_1, if_neg c_2, if_neg c_4]
        rw [hf]
        exact ((mK_fm_forgetAll (m_fm_set S ((14 * a) + b) d f g) a x y z h6)).trans (((mK_fm_set S ((14 * a) + b) d f g x y z h1 h2 h3)))
def m_fm_remove (S : q_S) (a : Int32) : Int32 × q_S :=
  if m_fm_isThere S a = 0 then
    (0, S)
  else
    (1, m_fm_noTask (q_st S 5 0 a.toNatClampNeg (.int 0)) a.toNatClampNeg)
set_option maxRecDepth 100000 in
set_option maxHeartbeats 4000000 in
theorem mC_fm_remove (l : Launch) (G : q_G) (S : q_S) (a : Int32) (hI : mI S) : q_Mi mX G l my_fm_remove (q_ws (q_gw lw_tbl) my_fm_remove mb_fm_remove 2 (some .boolean)) (q_rm 2) [.ref (q_a mX G 0 0), .int a] S (m_fm_remove S a).1 (m_fm_remove S a).2 := by
  refine q_met (cc := mb_fm_remove) (maxL := 2) (ret := (some .boolean)) mOk (by decide) rfl (Nat.le_of_ble_eq_true rfl) ?_
  intro p e s m below meth c ls hC hr hlocks hW hS hl
  have hx := hC.1.1
  have hb := hC.1.2.1
  have hl : lv_has ls 2 [(0, .ref (q_a mX G 0 0)), (1, .int a)] := hl
  refine lv_aload_n hx hb md_fm_remove_0 rfl (lv_at hl 0 rfl) ?_
  refine lv_iload_n hx hb md_fm_remove_1 rfl (lv_at hl 1 rfl) ?_
  refine q_calli hC hS (fun _ h => h) (q_runV (rest := []) hC hW (mC_fm_isThere l G S a) (mc_fm_195 (q_rm 1) hC.1.2.2.2.2 ⟨Nat.le_of_ble_eq_true rfl, Nat.le_of_ble_eq_true rfl⟩ rfl rfl) Nat.one_pos rfl rfl rfl hl.1 rfl (Nat.le_of_ble_eq_true rfl) md_fm_remove_2 ⟨Nat.zero_le _, Nat.zero_le _⟩) (fun H locs hW hS => ?_)
  refine lv_if_ne (tgt := 10) hx hb md_fm_remove_5 (by decide) (fun c_1 => ?_) (fun c_1 => ?_)
  · -- taken
    refine lv_aload_n hx hb md_fm_remove_10 rfl (lv_at hl 0 rfl) ?_
    refine mg_fm_22 hC hW 0 Nat.one_pos md_fm_remove_11 ?_
    refine lv_iload_n hx hb md_fm_remove_14 rfl (lv_at hl 1 rfl) ?_
    refine lv_iconst (v := 0) hx hb md_fm_remove_15 (by decide) ?_
    have h_2 : vp_in a 6 := by obtain ⟨f_c_1_0, f_c_1_1⟩ := mF_isT c_1; simp only [Int32.lt_iff_toInt_lt, Int32.le_iff_toInt_le, q_n0, q_n1, q_n2, q_n3, q_n4, q_n5, q_n6, q_n7, q_n8, q_n9, q_n10, q_n11, q_n12, q_n13, q_n14, q_n15, q_n20, q_n60, q_n1288] at f_c_1_0 f_c_1_1; rw [vp_in_iff]; omega
    refine mase_5 hC hW hS (fun _ h => h) h_2 rfl (by decide) md_fm_remove_16 (fun H locs hW hS => ?_)
    refine lv_aload_n hx hb md_fm_remove_17 rfl (lv_at hl 0 rfl) ?_
    refine lv_iload_n hx hb md_fm_remove_18 rfl (lv_at hl 1 rfl) ?_
    have g_4 : ¬ a < 0 := by obtain ⟨f_c_1_0, f_c_1_1⟩ := mF_isT c_1; simp only [Int32.lt_iff_toInt_lt, Int32.le_iff_toInt_le, q_n0, q_n1, q_n2, q_n3, q_n4, q_n5, q_n6, q_n7, q_n8, q_n9, q_n10, q_n11, q_n12, q_n13, q_n14, q_n15, q_n20, q_n60, q_n1288] at f_c_1_0 f_c_1_1; rw [Int32.lt_iff_toInt_lt]; show ¬ _ < (0 : Int); omega
    have h_3 : a.toNatClampNeg < 6 := by obtain ⟨f_c_1_0, f_c_1_1⟩ := mF_isT c_1; simp only [Int32.lt_iff_toInt_lt, Int32.le_iff_toInt_le, q_n0, q_n1, q_n2, q_n3, q_n4, q_n5, q_n6, q_n7, q_n8, q_n9, q_n10, q_n11, q_n12, q_n13, q_n14, q_n15, q_n20, q_n60, q_n1288] at f_c_1_0 f_c_1_1; have cc := q_cl g_4; omega
    have hI_5 : mI (q_st S 5 0 a.toNatClampNeg (.int 0)) := (mIs hI rfl)
    refine q_callv hC hS (fun _ h => h) (q_runV (rest := []) hC hW (mC_fm_noTask l G (q_st S 5 0 a.toNatClampNeg (.int 0)) a.toNatClampNeg h_3 hI_5) (mc_fm_133 (q_rm 1) hC.1.2.2.2.2 ⟨Nat.le_of_ble_eq_true rfl, Nat.le_of_ble_eq_true rfl⟩ rfl rfl) Nat.one_pos rfl rfl rfl hl.1 (by rw [q_nn g_4]; rfl) (Nat.le_of_ble_eq_true rfl) md_fm_remove_19 ⟨Nat.zero_le _, Nat.zero_le _⟩) (fun H locs hW hS => ?_)
    refine lv_iconst (v := 1) hx hb md_fm_remove_22 (by decide) ?_
    have hf : m_fm_remove S a = (1, m_fm_noTask (q_st S 5 0 a.toNatClampNeg (.int 0)) a.toNatClampNeg) := by unfold m_fm_remove; rw [if_neg c_1]
    rw [hf]
    exact q_zret hC hr hlocks hW hS (by decide) rfl rfl md_fm_remove_23
  · -- not taken
    refine lv_iconst (v := 0) hx hb md_fm_remove_8 (by decide) ?_
    have hf : m_fm_remove S a = (0, S) := by unfold m_fm_remove; rw [if_pos c_1]
    rw [hf]
    exact q_zret hC hr hlocks hW hS (by decide) rfl rfl md_fm_remove_9
set_option maxRecDepth 100000 in
set_option maxHeartbeats 4000000 in
theorem mI_fm_remove (S : q_S) (a : Int32) (hI : mI S) : mI ((m_fm_remove S a).2) := by
  by_cases c_1 : m_fm_isThere S a = 0
  · -- yes
    have hf : m_fm_remove S a = (0, S) := by unfold m_fm_remove; rw [if_pos c_1]
    rw [hf]
    exact hI
  · -- no
    have h_2 : vp_in a 6 := by obtain ⟨f_c_1_0, f_c_1_1⟩ := mF_isT c_1; simp only [Int32.lt_iff_toInt_lt, Int32.le_iff_toInt_le, q_n0, q_n1, q_n2, q_n3, q_n4, q_n5, q_n6, q_n7, q_n8, q_n9, q_n10, q_n11, q_n12, q_n13, q_n14, q_n15, q_n20, q_n60, q_n1288] at f_c_1_0 f_c_1_1; rw [vp_in_iff]; omega
    have g_4 : ¬ a < 0 := by obtain ⟨f_c_1_0, f_c_1_1⟩ := mF_isT c_1; simp only [Int32.lt_iff_toInt_lt, Int32.le_iff_toInt_le, q_n0, q_n1, q_n2, q_n3, q_n4, q_n5, q_n6, q_n7, q_n8, q_n9, q_n10, q_n11, q_n12, q_n13, q_n14, q_n15, q_n20, q_n60, q_n1288] at f_c_1_0 f_c_1_1; rw [Int32.lt_iff_toInt_lt]; show ¬ _ < (0 : Int); omega
    have h_3 : a.toNatClampNeg < 6 := by obtain ⟨f_c_1_0, f_c_1_1⟩ := mF_isT c_1; simp only [Int32.lt_iff_toInt_lt, Int32.le_iff_toInt_le, q_n0, q_n1, q_n2, q_n3, q_n4, q_n5, q_n6, q_n7, q_n8, q_n9, q_n10, q_n11, q_n12, q_n13, q_n14, q_n15, q_n20, q_n60, q_n1288] at f_c_1_0 f_c_1_1; have cc := q_cl g_4; omega
    have hI_5 : mI (q_st S 5 0 a.toNatClampNeg (.int 0)) := (mIs hI rfl)
    have hf : m_fm_remove S a = (1, m_fm_noTask (q_st S 5 0 a.toNatClampNeg (.int 0)) a.toNatClampNeg) := by unfold m_fm_remove; rw [if_neg c_1]
    rw [hf]
    exact (mI_fm_noTask (q_st S 5 0 a.toNatClampNeg (.int 0)) a.toNatClampNeg h_3 hI_5)
set_option maxRecDepth 100000 in
set_option maxHeartbeats 4000000 in
theorem mK_fm_remove (S : q_S) (a : Int32) (x y z : Nat) (h0 : x ≠ 0) (h5 : x ≠ 5) (h7 : x ≠ 7) (h8 : x ≠ 8) (h29 : x ≠ 29) (h32 : x ≠ 32) : (m_fm_remove S a).2 x y z = S x y z := by
  by_cases c_1 : m_fm_isThere S a = 0
  · -- yes
    have hf : m_fm_remove S a = (0, S) := by unfold m_fm_remove; rw [if_pos c_1]
    rw [hf]
  · -- no
    have hf : m_fm_remove S a = (1, m_fm_noTask (q_st S 5 0 a.toNatClampNeg (.int 0)) a.toNatClampNeg) := by unfold m_fm_remove; rw [if_neg c_1]
    rw [hf]
    exact ((mK_fm_noTask (q_st S 5 0 a.toNatClampNeg (.int 0)) a.toNatClampNeg x y z h0 h7 h8 h29 h32)).trans ((q_kj h5))
def m_fm_forget (S : q_S) (a : Int32) : Int32 × q_S :=
  if m_fm_isThere S a = 0 then
    (0, S)
  else
    if m_fm_hasEnded S a.toNatClampNeg = 0 then
      if q_i (S 6 0 a.toNatClampNeg) = 0 then
        (1, q_st S 6 0 a.toNatClampNeg (.int 1))
      else
        (0, S)
    else
      (0, S)
set_option maxRecDepth 100000 in
set_option maxHeartbeats 4000000 in
theorem mC_fm_forget (l : Launch) (G : q_G) (S : q_S) (a : Int32) (hI : mI S) : q_Mi mX G l my_fm_forget (q_ws (q_gw lw_tbl) my_fm_forget mb_fm_forget 2 (some .boolean)) (q_rm 2) [.ref (q_a mX G 0 0), .int a] S (m_fm_forget S a).1 (m_fm_forget S a).2 := by
  refine q_met (cc := mb_fm_forget) (maxL := 2) (ret := (some .boolean)) mOk (by decide) rfl (Nat.le_of_ble_eq_true rfl) ?_
  intro p e s m below meth c ls hC hr hlocks hW hS hl
  have hx := hC.1.1
  have hb := hC.1.2.1
  have hl : lv_has ls 2 [(0, .ref (q_a mX G 0 0)), (1, .int a)] := hl
  refine lv_aload_n hx hb md_fm_forget_0 rfl (lv_at hl 0 rfl) ?_
  refine lv_iload_n hx hb md_fm_forget_1 rfl (lv_at hl 1 rfl) ?_
  refine q_calli hC hS (fun _ h => h) (q_runV (rest := []) hC hW (mC_fm_isThere l G S a) (mc_fm_195 (q_rm 1) hC.1.2.2.2.2 ⟨Nat.le_of_ble_eq_true rfl, Nat.le_of_ble_eq_true rfl⟩ rfl rfl) Nat.one_pos rfl rfl rfl hl.1 rfl (Nat.le_of_ble_eq_true rfl) md_fm_forget_2 ⟨Nat.zero_le _, Nat.zero_le _⟩) (fun H locs hW hS => ?_)
  refine lv_if_eq (tgt := 25) hx hb md_fm_forget_5 (by decide) (fun c_1 => ?_) (fun c_1 => ?_)
  · -- taken
    refine lv_iconst (v := 0) hx hb md_fm_forget_25 (by decide) ?_
    have hf : m_fm_forget S a = (0, S) := by unfold m_fm_forget; rw [if_pos c_1]
    rw [hf]
    exact q_zret hC hr hlocks hW hS (by decide) rfl rfl md_fm_forget_26
  · -- not taken
    refine lv_aload_n hx hb md_fm_forget_8 rfl (lv_at hl 0 rfl) ?_
    refine lv_iload_n hx hb md_fm_forget_9 rfl (lv_at hl 1 rfl) ?_
    have g_3 : ¬ a < 0 := by obtain ⟨f_c_1_0, f_c_1_1⟩ := mF_isT c_1; simp only [Int32.lt_iff_toInt_lt, Int32.le_iff_toInt_le, q_n0, q_n1, q_n2, q_n3, q_n4, q_n5, q_n6, q_n7, q_n8, q_n9, q_n10, q_n11, q_n12, q_n13, q_n14, q_n15, q_n20, q_n60, q_n1288] at f_c_1_0 f_c_1_1; rw [Int32.lt_iff_toInt_lt]; show ¬ _ < (0 : Int); omega
    have h_2 : a.toNatClampNeg < 6 := by obtain ⟨f_c_1_0, f_c_1_1⟩ := mF_isT c_1; simp only [Int32.lt_iff_toInt_lt, Int32.le_iff_toInt_le, q_n0, q_n1, q_n2, q_n3, q_n4, q_n5, q_n6, q_n7, q_n8, q_n9, q_n10, q_n11, q_n12, q_n13, q_n14, q_n15, q_n20, q_n60, q_n1288] at f_c_1_0 f_c_1_1; have cc := q_cl g_3; omega
    refine q_calli hC hS (fun _ h => h) (q_runV (rest := []) hC hW (mC_fm_hasEnded l G S a.toNatClampNeg h_2) (mc_fm_191 (q_rm 0) hC.1.2.2.2.2 ⟨Nat.le_of_ble_eq_true rfl, Nat.le_of_ble_eq_true rfl⟩ rfl rfl) Nat.one_pos rfl rfl rfl hl.1 (by rw [q_nn g_3]; rfl) (Nat.le_of_ble_eq_true rfl) md_fm_forget_10 ⟨Nat.zero_le _, Nat.zero_le _⟩) (fun H locs hW hS => ?_)
    refine lv_if_ne (tgt := 25) hx hb md_fm_forget_13 (by decide) (fun c_4 => ?_) (fun c_4 => ?_)
    · -- taken
      refine lv_iconst (v := 0) hx hb md_fm_forget_25 (by decide) ?_
      have hf : m_fm_forget S a = (0, S) := by unfold m_fm_forget; rw [if_neg c_1, if_neg c_4]
      rw [hf]
      exact q_zret hC hr hlocks hW hS (by decide) rfl rfl md_fm_forget_26
    · -- not taken
      refine lv_aload_n hx hb md_fm_forget_16 rfl (lv_at hl 0 rfl) ?_
      refine mg_fm_26 hC hW 0 Nat.one_pos md_fm_forget_17 ?_
      refine lv_iload_n hx hb md_fm_forget_20 rfl (lv_at hl 1 rfl) ?_
      have h_5 : vp_in a 6 := by obtain ⟨f_c_1_0, f_c_1_1⟩ := mF_isT c_1; have e_c_4 : (m_fm_hasEnded S a.toNatClampNeg).toInt = 0 := (by rw [c_4]; rfl); simp only [Int32.lt_iff_toInt_lt, Int32.le_iff_toInt_le, q_n0, q_n1, q_n2, q_n3, q_n4, q_n5, q_n6, q_n7, q_n8, q_n9, q_n10, q_n11, q_n12, q_n13, q_n14, q_n15, q_n20, q_n60, q_n1288] at f_c_1_0 f_c_1_1; rw [vp_in_iff]; omega
      refine male_6 hC hW h_5 rfl (rfl) md_fm_forget_21 ?_
      refine lv_if_eq (tgt := 27) hx hb md_fm_forget_22 (by decide) (fun c_6 => ?_) (fun c_6 => ?_)
      · -- taken
        refine lv_aload_n hx hb md_fm_forget_27 rfl (lv_at hl 0 rfl) ?_
        refine mg_fm_26 hC hW 0 Nat.one_pos md_fm_forget_28 ?_
        refine lv_iload_n hx hb md_fm_forget_31 rfl (lv_at hl 1 rfl) ?_
        refine lv_iconst (v := 1) hx hb md_fm_forget_32 (by decide) ?_
        have h_7 : vp_in a 6 := by obtain ⟨f_c_1_0, f_c_1_1⟩ := mF_isT c_1; have e_c_4 : (m_fm_hasEnded S a.toNatClampNeg).toInt = 0 := (by rw [c_4]; rfl); have e_c_6 : (q_i (S 6 0 a.toNatClampNeg)).toInt = 0 := (by rw [c_6]; rfl); simp only [Int32.lt_iff_toInt_lt, Int32.le_iff_toInt_le, q_n0, q_n1, q_n2, q_n3, q_n4, q_n5, q_n6, q_n7, q_n8, q_n9, q_n10, q_n11, q_n12, q_n13, q_n14, q_n15, q_n20, q_n60, q_n1288] at f_c_1_0 f_c_1_1; rw [vp_in_iff]; omega
        refine mase_6 hC hW hS (fun _ h => h) h_7 rfl (by decide) md_fm_forget_33 (fun H locs hW hS => ?_)
        refine lv_iconst (v := 1) hx hb md_fm_forget_34 (by decide) ?_
        have hf : m_fm_forget S a = (1, q_st S 6 0 a.toNatClampNeg (.int 1)) := by unfold m_fm_forget; rw [if_neg c_1, if_pos c_4, if_pos c_6]
        rw [hf]
        exact q_zret hC hr hlocks hW hS (by decide) rfl rfl md_fm_forget_35
      · -- not taken
        refine lv_iconst (v := 0) hx hb md_fm_forget_25 (by decide) ?_
        have hf : m_fm_forget S a = (0, S) := by unfold m_fm_forget; rw [if_neg c_1, if_pos c_4, if_neg c_6]
        rw [hf]
        exact q_zret hC hr hlocks hW hS (by decide) rfl rfl md_fm_forget_26
set_option maxRecDepth 100000 in
set_option maxHeartbeats 4000000 in
theorem mI_fm_forget (S : q_S) (a : Int32) (hI : mI S) : mI ((m_fm_forget S a).2) := by
  by_cases c_1 : m_fm_isThere S a = 0
  · -- yes
    have hf : m_fm_forget S a = (0, S) := by unfold m_fm_forget; rw [if_pos c_1]
    rw [hf]
    exact hI
  · -- no
    by_cases c_4 : m_fm_hasEnded S a.toNatClampNeg = 0
    · -- yes
      by_cases c_6 : q_i (S 6 0 a.toNatClampNeg) = 0
      · -- yes
        have g_3 : ¬ a < 0 := by obtain ⟨f_c_1_0, f_c_1_1⟩ := mF_isT c_1; simp only [Int32.lt_iff_toInt_lt, Int32.le_iff_toInt_le, q_n0, q_n1, q_n2, q_n3, q_n4, q_n5, q_n6, q_n7, q_n8, q_n9, q_n10, q_n11, q_n12, q_n13, q_n14, q_n15, q_n20, q_n60, q_n1288] at f_c_1_0 f_c_1_1; rw [Int32.lt_iff_toInt_lt]; show ¬ _ < (0 : Int); omega
        have h_2 : a.toNatClampNeg < 6 := by obtain ⟨f_c_1_0, f_c_1_1⟩ := mF_isT c_1; simp only [Int32.lt_iff_toInt_lt, Int32.le_iff_toInt_le, q_n0, q_n1, q_n2, q_n3, q_n4, q_n5, q_n6, q_n7, q_n8, q_n9, q_n10, q_n11, q_n12, q_n13, q_n14, q_n15, q_n20, q_n60, q_n1288] at f_c_1_0 f_c_1_1; have cc := q_cl g_3; omega
        have h_5 : vp_in a 6 := by obtain ⟨f_c_1_0, f_c_1_1⟩ := mF_isT c_1; have e_c_4 : (m_fm_hasEnded S a.toNatClampNeg).toInt = 0 := (by rw [c_4]; rfl); simp only [Int32.lt_iff_toInt_lt, Int32.le_iff_toInt_le, q_n0, q_n1, q_n2, q_n3, q_n4, q_n5, q_n6, q_n7, q_n8, q_n9, q_n10, q_n11, q_n12, q_n13, q_n14, q_n15, q_n20, q_n60, q_n1288] at f_c_1_0 f_c_1_1; rw [vp_in_iff]; omega
        have h_7 : vp_in a 6 := by obtain ⟨f_c_1_0, f_c_1_1⟩ := mF_isT c_1; have e_c_4 : (m_fm_hasEnded S a.toNatClampNeg).toInt = 0 := (by rw [c_4]; rfl); have e_c_6 : (q_i (S 6 0 a.toNatClampNeg)).toInt = 0 := (by rw [c_6]; rfl); simp only [Int32.lt_iff_toInt_lt, Int32.le_iff_toInt_le, q_n0, q_n1, q_n2, q_n3, q_n4, q_n5, q_n6, q_n7, q_n8, q_n9, q_n10, q_n11, q_n12, q_n13, q_n14, q_n15, q_n20, q_n60, q_n1288] at f_c_1_0 f_c_1_1; rw [vp_in_iff]; omega
        have hf : m_fm_forget S a = (1, q_st S 6 0 a.toNatClampNeg (.int 1)) := by unfold m_fm_forget; rw [if_neg c_1, if_pos c_4, if_pos c_6]
        rw [hf]
        exact (mIs hI rfl)
      · -- no
        have g_3 : ¬ a < 0 := by obtain ⟨f_c_1_0, f_c_1_1⟩ := mF_isT c_1; simp only [Int32.lt_iff_toInt_lt, Int32.le_iff_toInt_le, q_n0, q_n1, q_n2, q_n3, q_n4, q_n5, q_n6, q_n7, q_n8, q_n9, q_n10, q_n11, q_n12, q_n13, q_n14, q_n15, q_n20, q_n60, q_n1288] at f_c_1_0 f_c_1_1; rw [Int32.lt_iff_toInt_lt]; show ¬ _ < (0 : Int); omega
        have h_2 : a.toNatClampNeg < 6 := by obtain ⟨f_c_1_0, f_c_1_1⟩ := mF_isT c_1; simp only [Int32.lt_iff_toInt_lt, Int32.le_iff_toInt_le, q_n0, q_n1, q_n2, q_n3, q_n4, q_n5, q_n6, q_n7, q_n8, q_n9, q_n10, q_n11, q_n12, q_n13, q_n14, q_n15, q_n20, q_n60, q_n1288] at f_c_1_0 f_c_1_1; have cc := q_cl g_3; omega
        have h_5 : vp_in a 6 := by obtain ⟨f_c_1_0, f_c_1_1⟩ := mF_isT c_1; have e_c_4 : (m_fm_hasEnded S a.toNatClampNeg).toInt = 0 := (by rw [c_4]; rfl); simp only [Int32.lt_iff_toInt_lt, Int32.le_iff_toInt_le, q_n0, q_n1, q_n2, q_n3, q_n4, q_n5, q_n6, q_n7, q_n8, q_n9, q_n10, q_n11, q_n12, q_n13, q_n14, q_n15, q_n20, q_n60, q_n1288] at f_c_1_0 f_c_1_1; rw [vp_in_iff]; omega
        have hf : m_fm_forget S a = (0, S) := by unfold m_fm_forget; rw [if_neg c_1, if_pos c_4, if_neg c_6]
        rw [hf]
        exact hI
    · -- no
      have g_3 : ¬ a < 0 := by obtain ⟨f_c_1_0, f_c_1_1⟩ := mF_isT c_1; simp only [Int32.lt_iff_toInt_lt, Int32.le_iff_toInt_le, q_n0, q_n1, q_n2, q_n3, q_n4, q_n5, q_n6, q_n7, q_n8, q_n9, q_n10, q_n11, q_n12, q_n13, q_n14, q_n15, q_n20, q_n60, q_n1288] at f_c_1_0 f_c_1_1; rw [Int32.lt_iff_toInt_lt]; show ¬ _ < (0 : Int); omega
      have h_2 : a.toNatClampNeg < 6 := by obtain ⟨f_c_1_0, f_c_1_1⟩ := mF_isT c_1; simp only [Int32.lt_iff_toInt_lt, Int32.le_iff_toInt_le, q_n0, q_n1, q_n2, q_n3, q_n4, q_n5, q_n6, q_n7, q_n8, q_n9, q_n10, q_n11, q_n12, q_n13, q_n14, q_n15, q_n20, q_n60, q_n1288] at f_c_1_0 f_c_1_1; have cc := q_cl g_3; omega
      have hf : m_fm_forget S a = (0, S) := by unfold m_fm_forget; rw [if_neg c_1, if_neg c_4]
      rw [hf]
      exact hI
set_option maxRecDepth 100000 in
set_option maxHeartbeats 4000000 in
theorem mK_fm_forget (S : q_S) (a : Int32) (x y z : Nat) (h6 : x ≠ 6) : (m_fm_forget S a).2 x y z = S x y z := by
  by_cases c_1 : m_fm_isThere S a = 0
  · -- yes
    have hf : m_fm_forget S a = (0, S) := by unfold m_fm_forget; rw [if_pos c_1]
    rw [hf]
  · -- no
    by_cases c_4 : m_fm_hasEnded S a.toNatClampNeg = 0
    · -- yes
      by_cases c_6 : q_i (S 6 0 a.toNatClampNeg) = 0
      · -- yes
        have hf : m_fm_forget S a = (1, q_st S 6 0 a.toNatClampNeg (.int 1)) := by unfold m_fm_forget; rw [if_neg c_1, if_pos c_4, if_pos c_6]
        rw [hf]
        exact (q_kj h6)
      · -- no
        have hf : m_fm_forget S a = (0, S) := by unfold m_fm_forget; rw [if_neg c_1, if_pos c_4, if_neg c_6]
        rw [hf]
    · -- no
      have hf : m_fm_forget S a = (0, S) := by unfold m_fm_forget; rw [if_neg c_1, if_neg c_4]
      rw [hf]
