theorem mF_left {S : q_S} (hI : mI S) (i : Nat) : (m_fm_left S i).toInt = (q_i (S 15 0 i)).toInt - (q_i (S 16 0 i)).toInt := by
  have b1 : 0 ≤ (q_i (S 15 0 i)).toInt ∧ (q_i (S 15 0 i)).toInt ≤ 20 := hI 15 0 i
  have b2 : 0 ≤ (q_i (S 16 0 i)).toInt ∧ (q_i (S 16 0 i)).toInt ≤ 20 := hI 16 0 i
  exact q_subI (by omega)
def m_fm_leaveLine_L0 : Nat → q_S → Int32 → Nat → Nat → q_S
  | 0, S, _, _, _ => S
  | n + 1, S, a, v, t =>
    if q_i (S 0 0 33) ≤ nI t then
      q_st S 0 0 33 (.int (nI v))
    else
      if q_i (S 32 0 t) = a then
        m_fm_leaveLine_L0 n S a v (t + 1)
      else
        m_fm_leaveLine_L0 n (q_st S 32 0 v (.int (q_i (S 32 0 t)))) a (v + 1) (t + 1)
set_option maxRecDepth 100000 in
set_option maxHeartbeats 4000000 in
theorem mL_fm_leaveLine_L0 (l : Launch) (G : q_G) (a : Int32)  {p : Program} {e : Env} {s : State} {m : MethodId} {below : List Frame} {meth : Method} {c : Code} (hC : q_C mX G p m c mb_fm_leaveLine 4 s ([.ref (q_a mX G 0 0), .int a] : List Value).toArray (q_ws (q_gw lw_tbl) my_fm_leaveLine mb_fm_leaveLine 4 none) mR_fm) (hr : meth.sig.returnType = none) (hlocks : meth.locks = false) : ∀ (n : Nat) (S : q_S) (v : Nat) (t : Nat) (H : Heap) (locs : List Loc) (ls : Array Slot), t + n = 7 → t ≤ 6 → v ≤ t → mI S → q_w mX G s S H → va_S (q_A mX G) s.heap H locs → lv_has ls 4 [(0, .ref (q_a mX G 0 0)), (1, .int a), (2, .int (nI v)), (3, .int (nI t))] → W p l e (headSpec (q_ws (q_gw lw_tbl) my_fm_leaveLine mb_fm_leaveLine 4 none) (q_rm 0)).room s m ([.ref (q_a mX G 0 0), .int a] : List Value).toArray below meth c H locs 0 0 (MQ below (va_Qv (fun (u : q_S) => u = m_fm_leaveLine_L0 n S a v t) (q_P mX G) (q_A mX G)) ([.ref (q_a mX G 0 0), .int a] : List Value).toArray s 0 0 (q_A mX G)) (F0 m 4 ls []) := by
  have hx := hC.1.1
  have hb := hC.1.2.1
  intro n
  induction n with
  | zero =>
    intro S v t H locs ls ht hu hv hI hW hS hl
    exfalso
    omega
  | succ n ih =>
    intro S v t H locs ls ht hu hv hI hW hS hl
    refine lv_iload_n hx hb md_fm_leaveLine_4 rfl (lv_at hl 3 rfl) ?_
    refine lv_aload_n hx hb md_fm_leaveLine_5 rfl (lv_at hl 0 rfl) ?_
    refine mg_fm_126 hC hW 0 Nat.one_pos (rfl) md_fm_leaveLine_6 ?_
    refine lv_icmp_ge (tgt := 46) hx hb md_fm_leaveLine_9 (by decide) (fun c_1 => ?_) (fun c_1 => ?_)
    · -- taken
      refine lv_aload_n hx hb md_fm_leaveLine_46 rfl (lv_at hl 0 rfl) ?_
      refine lv_iload_n hx hb md_fm_leaveLine_47 rfl (lv_at hl 2 rfl) ?_
      refine mg_fm_126p hC hW hS (fun _ h => h) 0 Nat.one_pos md_fm_leaveLine_48 (fun H locs hW hS => ?_)
      have hf : m_fm_leaveLine_L0 (n + 1) S a v t = q_st S 0 0 33 (.int (nI v)) := by rw [m_fm_leaveLine_L0, if_pos c_1]
      rw [hf]
      exact q_vret hC hr hlocks hW hS rfl md_fm_leaveLine_51
    · -- not taken
      refine lv_aload_n hx hb md_fm_leaveLine_12 rfl (lv_at hl 0 rfl) ?_
      refine mg_fm_105 hC hW 0 Nat.one_pos md_fm_leaveLine_13 ?_
      refine lv_iload_n hx hb md_fm_leaveLine_16 rfl (lv_at hl 3 rfl) ?_
      have h_2 : vp_in (nI t) 6 := by simp only [Int32.lt_iff_toInt_lt, Int32.le_iff_toInt_le, q_n0, q_n1, q_n2, q_n3, q_n4, q_n5, q_n6, q_n7, q_n8, q_n9, q_n10, q_n11, q_n12, q_n13, q_n14, q_n15, q_n20, q_n60, q_n1288] at c_1; have l1 := nI_toInt (n := t) (by omega); have l2 : 0 ≤ (q_i (S 0 0 33)).toInt ∧ (q_i (S 0 0 33)).toInt ≤ 6 := hI 0 0 33; rw [vp_in_iff]; omega
      have s_3 : (nI t).toNatClampNeg = t := by simp only [Int32.lt_iff_toInt_lt, Int32.le_iff_toInt_le, q_n0, q_n1, q_n2, q_n3, q_n4, q_n5, q_n6, q_n7, q_n8, q_n9, q_n10, q_n11, q_n12, q_n13, q_n14, q_n15, q_n20, q_n60, q_n1288] at c_1; have l1 := nI_toInt (n := t) (by omega); have l2 : 0 ≤ (q_i (S 0 0 33)).toInt ∧ (q_i (S 0 0 33)).toInt ≤ 6 := hI 0 0 33; apply q_tn; omega
      refine male_32 hC hW h_2 s_3 (rfl) md_fm_leaveLine_17 ?_
      refine lv_iload_n hx hb md_fm_leaveLine_18 rfl (lv_at hl 1 rfl) ?_
      refine lv_icmp_ne (tgt := 25) hx hb md_fm_leaveLine_19 (by decide) (fun c_4 => ?_) (fun c_4 => ?_)
      · -- taken
        refine lv_aload_n hx hb md_fm_leaveLine_25 rfl (lv_at hl 0 rfl) ?_
        refine mg_fm_105 hC hW 0 Nat.one_pos md_fm_leaveLine_26 ?_
        refine lv_iload_n hx hb md_fm_leaveLine_29 rfl (lv_at hl 2 rfl) ?_
        refine lv_aload_n hx hb md_fm_leaveLine_30 rfl (lv_at hl 0 rfl) ?_
        refine mg_fm_105 hC hW 0 Nat.one_pos md_fm_leaveLine_31 ?_
        refine lv_iload_n hx hb md_fm_leaveLine_34 rfl (lv_at hl 3 rfl) ?_
        have h_5 : vp_in (nI t) 6 := by simp only [Int32.lt_iff_toInt_lt, Int32.le_iff_toInt_le, q_n0, q_n1, q_n2, q_n3, q_n4, q_n5, q_n6, q_n7, q_n8, q_n9, q_n10, q_n11, q_n12, q_n13, q_n14, q_n15, q_n20, q_n60, q_n1288] at c_1; have l1 := nI_toInt (n := t) (by omega); have l2 : 0 ≤ (q_i (S 0 0 33)).toInt ∧ (q_i (S 0 0 33)).toInt ≤ 6 := hI 0 0 33; rw [vp_in_iff]; omega
        have s_6 : (nI t).toNatClampNeg = t := by simp only [Int32.lt_iff_toInt_lt, Int32.le_iff_toInt_le, q_n0, q_n1, q_n2, q_n3, q_n4, q_n5, q_n6, q_n7, q_n8, q_n9, q_n10, q_n11, q_n12, q_n13, q_n14, q_n15, q_n20, q_n60, q_n1288] at c_1; have l1 := nI_toInt (n := t) (by omega); have l2 : 0 ≤ (q_i (S 0 0 33)).toInt ∧ (q_i (S 0 0 33)).toInt ≤ 6 := hI 0 0 33; apply q_tn; omega
        refine male_32 hC hW h_5 s_6 (rfl) md_fm_leaveLine_35 ?_
        have h_7 : vp_in (nI v) 6 := by simp only [Int32.lt_iff_toInt_lt, Int32.le_iff_toInt_le, q_n0, q_n1, q_n2, q_n3, q_n4, q_n5, q_n6, q_n7, q_n8, q_n9, q_n10, q_n11, q_n12, q_n13, q_n14, q_n15, q_n20, q_n60, q_n1288] at c_1; have l1 := nI_toInt (n := v) (by omega); have l2 : 0 ≤ (q_i (S 0 0 33)).toInt ∧ (q_i (S 0 0 33)).toInt ≤ 6 := hI 0 0 33; have l3 := nI_toInt (n := t) (by omega); rw [vp_in_iff]; omega
        have s_8 : (nI v).toNatClampNeg = v := by simp only [Int32.lt_iff_toInt_lt, Int32.le_iff_toInt_le, q_n0, q_n1, q_n2, q_n3, q_n4, q_n5, q_n6, q_n7, q_n8, q_n9, q_n10, q_n11, q_n12, q_n13, q_n14, q_n15, q_n20, q_n60, q_n1288] at c_1; have l1 := nI_toInt (n := v) (by omega); have l2 : 0 ≤ (q_i (S 0 0 33)).toInt ∧ (q_i (S 0 0 33)).toInt ≤ 6 := hI 0 0 33; have l3 := nI_toInt (n := t) (by omega); apply q_tn; omega
        refine mase_32 hC hW hS (fun _ h => h) h_7 s_8 md_fm_leaveLine_36 (fun H locs hW hS => ?_)
        refine lv_iinc (v := nI v + 1) (lv' := [(2, .int (nI v + 1)), (0, .ref (q_a mX G 0 0)), (1, .int a), (3, .int (nI t))]) hx hb md_fm_leaveLine_37 hl (k := 2) rfl rfl (by decide) rfl (fun ls hl => ?_)
        refine lv_iinc (v := nI t + 1) (lv' := [(3, .int (nI t + 1)), (2, .int (nI v + 1)), (0, .ref (q_a mX G 0 0)), (1, .int a)]) hx hb md_fm_leaveLine_40 hl (k := 3) rfl rfl (by decide) rfl (fun ls hl => ?_)
        refine lv_goto (tgt := 4) hx hb md_fm_leaveLine_43 (by decide) ?_
        have hf : m_fm_leaveLine_L0 (n + 1) S a v t = m_fm_leaveLine_L0 n (q_st S 32 0 v (.int (q_i (S 32 0 t)))) a (v + 1) (t + 1) := by rw [m_fm_leaveLine_L0, if_neg c_1, if_neg c_4]
        rw [hf]
        have hl2 : lv_has ls 4 [(0, .ref (q_a mX G 0 0)), (1, .int a), (2, .int (nI (v + 1))), (3, .int (nI (t + 1)))] := by rw [← nI_1 v, ← nI_1 t]; exact lv_sub hl [2, 3, 1, 0] rfl
        have hI_9 : mI (q_st S 32 0 v (.int (q_i (S 32 0 t)))) := (mI_st hI (by simp only [Int32.lt_iff_toInt_lt, Int32.le_iff_toInt_le, q_n0, q_n1, q_n2, q_n3, q_n4, q_n5, q_n6, q_n7, q_n8, q_n9, q_n10, q_n11, q_n12, q_n13, q_n14, q_n15, q_n20, q_n60, q_n1288] at c_1; have l1 : 0 ≤ (q_i (S 32 0 t)).toInt ∧ (q_i (S 32 0 t)).toInt ≤ 5 := hI 32 0 t; have l2 : 0 ≤ (q_i (S 0 0 33)).toInt ∧ (q_i (S 0 0 33)).toInt ≤ 6 := hI 0 0 33; have l3 := nI_toInt (n := t) (by omega); show 0 ≤ (q_i (S 32 0 t)).toInt ∧ (q_i (S 32 0 t)).toInt ≤ 5; omega))
        exact ih (q_st S 32 0 v (.int (q_i (S 32 0 t)))) (v + 1) (t + 1) _ _ ls (by have b1 : 0 ≤ (q_i (S 0 0 33)).toInt ∧ (q_i (S 0 0 33)).toInt ≤ 6 := hI 0 0 33; have b2 : 0 ≤ (q_i (S 32 0 t)).toInt ∧ (q_i (S 32 0 t)).toInt ≤ 5 := hI 32 0 t; have n_v := nI_toInt (n := v) (by omega); have m_v := q_nT (n := v) (by omega); have n_t := nI_toInt (n := t) (by omega); have m_t := q_nT (n := t) (by omega); simp only [Int32.lt_iff_toInt_lt, Int32.le_iff_toInt_le, q_n0, q_n1, q_n2, q_n3, q_n4, q_n5, q_n6, q_n7, q_n8, q_n9, q_n10, q_n11, q_n12, q_n13, q_n14, q_n15, q_n20, q_n60, q_n1288] at c_1; omega) (by have b1 : 0 ≤ (q_i (S 0 0 33)).toInt ∧ (q_i (S 0 0 33)).toInt ≤ 6 := hI 0 0 33; have b2 : 0 ≤ (q_i (S 32 0 t)).toInt ∧ (q_i (S 32 0 t)).toInt ≤ 5 := hI 32 0 t; have n_v := nI_toInt (n := v) (by omega); have m_v := q_nT (n := v) (by omega); have n_t := nI_toInt (n := t) (by omega); have m_t := q_nT (n := t) (by omega); simp only [Int32.lt_iff_toInt_lt, Int32.le_iff_toInt_le, q_n0, q_n1, q_n2, q_n3, q_n4, q_n5, q_n6, q_n7, q_n8, q_n9, q_n10, q_n11, q_n12, q_n13, q_n14, q_n15, q_n20, q_n60, q_n1288] at c_1; omega) (by have b1 : 0 ≤ (q_i (S 0 0 33)).toInt ∧ (q_i (S 0 0 33)).toInt ≤ 6 := hI 0 0 33; have b2 : 0 ≤ (q_i (S 32 0 t)).toInt ∧ (q_i (S 32 0 t)).toInt ≤ 5 := hI 32 0 t; have n_v := nI_toInt (n := v) (by omega); have m_v := q_nT (n := v) (by omega); have n_t := nI_toInt (n := t) (by omega); have m_t := q_nT (n := t) (by omega); simp only [Int32.lt_iff_toInt_lt, Int32.le_iff_toInt_le, q_n0, q_n1, q_n2, q_n3, q_n4, q_n5, q_n6, q_n7, q_n8, q_n9, q_n10, q_n11, q_n12, q_n13, q_n14, q_n15, q_n20, q_n60, q_n1288] at c_1; omega) hI_9 hW hS hl2
      · -- not taken
        refine lv_goto (tgt := 40) hx hb md_fm_leaveLine_22 (by decide) ?_
        refine lv_iinc (v := nI t + 1) (lv' := [(3, .int (nI t + 1)), (0, .ref (q_a mX G 0 0)), (1, .int a), (2, .int (nI v))]) hx hb md_fm_leaveLine_40 hl (k := 3) rfl rfl (by decide) rfl (fun ls hl => ?_)
        refine lv_goto (tgt := 4) hx hb md_fm_leaveLine_43 (by decide) ?_
        have hf : m_fm_leaveLine_L0 (n + 1) S a v t = m_fm_leaveLine_L0 n S a v (t + 1) := by rw [m_fm_leaveLine_L0, if_neg c_1, if_pos c_4]
        rw [hf]
        have hl2 : lv_has ls 4 [(0, .ref (q_a mX G 0 0)), (1, .int a), (2, .int (nI v)), (3, .int (nI (t + 1)))] := by rw [← nI_1 t]; exact lv_sub hl [1, 2, 3, 0] rfl
        exact ih S v (t + 1) _ _ ls (by have b1 : 0 ≤ (q_i (S 0 0 33)).toInt ∧ (q_i (S 0 0 33)).toInt ≤ 6 := hI 0 0 33; have b2 : 0 ≤ (q_i (S 32 0 t)).toInt ∧ (q_i (S 32 0 t)).toInt ≤ 5 := hI 32 0 t; have n_v := nI_toInt (n := v) (by omega); have m_v := q_nT (n := v) (by omega); have n_t := nI_toInt (n := t) (by omega); have m_t := q_nT (n := t) (by omega); simp only [Int32.lt_iff_toInt_lt, Int32.le_iff_toInt_le, q_n0, q_n1, q_n2, q_n3, q_n4, q_n5, q_n6, q_n7, q_n8, q_n9, q_n10, q_n11, q_n12, q_n13, q_n14, q_n15, q_n20, q_n60, q_n1288] at c_1; omega) (by have b1 : 0 ≤ (q_i (S 0 0 33)).toInt ∧ (q_i (S 0 0 33)).toInt ≤ 6 := hI 0 0 33; have b2 : 0 ≤ (q_i (S 32 0 t)).toInt ∧ (q_i (S 32 0 t)).toInt ≤ 5 := hI 32 0 t; have n_v := nI_toInt (n := v) (by omega); have m_v := q_nT (n := v) (by omega); have n_t := nI_toInt (n := t) (by omega); have m_t := q_nT (n := t) (by omega); simp only [Int32.lt_iff_toInt_lt, Int32.le_iff_toInt_le, q_n0, q_n1, q_n2, q_n3, q_n4, q_n5, q_n6, q_n7, q_n8, q_n9, q_n10, q_n11, q_n12, q_n13, q_n14, q_n15, q_n20, q_n60, q_n1288] at c_1; omega) (by have b1 : 0 ≤ (q_i (S 0 0 33)).toInt ∧ (q_i (S 0 0 33)).toInt ≤ 6 := hI 0 0 33; have b2 : 0 ≤ (q_i (S 32 0 t)).toInt ∧ (q_i (S 32 0 t)).toInt ≤ 5 := hI 32 0 t; have n_v := nI_toInt (n := v) (by omega); have m_v := q_nT (n := v) (by omega); have n_t := nI_toInt (n := t) (by omega); have m_t := q_nT (n := t) (by omega); simp only [Int32.lt_iff_toInt_lt, Int32.le_iff_toInt_le, q_n0, q_n1, q_n2, q_n3, q_n4, q_n5, q_n6, q_n7, q_n8, q_n9, q_n10, q_n11, q_n12, q_n13, q_n14, q_n15, q_n20, q_n60, q_n1288] at c_1; omega) hI hW hS hl2
set_option maxRecDepth 100000 in
set_option maxHeartbeats 4000000 in
theorem mK_fm_leaveLine_L0 : ∀ (n : Nat) (S : q_S) (a : Int32) (v : Nat) (t : Nat) (x y z : Nat) (h0 : x ≠ 0) (h32 : x ≠ 32), (m_fm_leaveLine_L0 n S a v t) x y z = S x y z := by
  intro n
  induction n with
  | zero => intro S a v t x y z h0 h32; rfl
  | succ n ih =>
    intro S a v t x y z h0 h32
    by_cases c_1 : q_i (S 0 0 33) ≤ nI t
    · -- yes
      have hf : m_fm_leaveLine_L0 (n + 1) S a v t = q_st S 0 0 33 (.int (nI v)) := by rw [m_fm_leaveLine_L0, if_pos c_1]
      rw [hf]
      exact (q_kj h0)
    · -- no
      by_cases c_4 : q_i (S 32 0 t) = a
      · -- yes
        have hf : m_fm_leaveLine_L0 (n + 1) S a v t = m_fm_leaveLine_L0 n S a v (t + 1) := by rw [m_fm_leaveLine_L0, if_neg c_1, if_pos c_4]
        rw [hf]
        exact (ih S a v (t + 1) x y z h0 h32).trans (rfl)
      · -- no
        have hf : m_fm_leaveLine_L0 (n + 1) S a v t = m_fm_leaveLine_L0 n (q_st S 32 0 v (.int (q_i (S 32 0 t)))) a (v + 1) (t + 1) := by rw [m_fm_leaveLine_L0, if_neg c_1, if_neg c_4]
        rw [hf]
        exact (ih (q_st S 32 0 v (.int (q_i (S 32 0 t)))) a (v + 1) (t + 1) x y z h0 h32).trans ((q_kj h32))
set_option maxRecDepth 100000 in
set_option maxHeartbeats 4000000 in
theorem mI_fm_leaveLine_L0 (a : Int32)  : ∀ (n : Nat) (S : q_S) (v : Nat) (t : Nat), t + n = 7 → t ≤ 6 → v ≤ t → mI S → mI (m_fm_leaveLine_L0 n S a v t) := by
  intro n
  induction n with
  | zero =>
    intro S v t ht hu hv hI
    exfalso
    omega
  | succ n ih =>
    intro S v t ht hu hv hI
    by_cases c_1 : q_i (S 0 0 33) ≤ nI t
    · -- yes
      have hf : m_fm_leaveLine_L0 (n + 1) S a v t = q_st S 0 0 33 (.int (nI v)) := by rw [m_fm_leaveLine_L0, if_pos c_1]
      rw [hf]
      exact (mI_st hI (by simp only [Int32.lt_iff_toInt_lt, Int32.le_iff_toInt_le, q_n0, q_n1, q_n2, q_n3, q_n4, q_n5, q_n6, q_n7, q_n8, q_n9, q_n10, q_n11, q_n12, q_n13, q_n14, q_n15, q_n20, q_n60, q_n1288] at c_1; have l1 := nI_toInt (n := v) (by omega); have l2 : 0 ≤ (q_i (S 0 0 33)).toInt ∧ (q_i (S 0 0 33)).toInt ≤ 6 := hI 0 0 33; have l3 := nI_toInt (n := t) (by omega); show 0 ≤ (nI v).toInt ∧ (nI v).toInt ≤ 6; omega))
    · -- no
      by_cases c_4 : q_i (S 32 0 t) = a
      · -- yes
        have h_2 : vp_in (nI t) 6 := by simp only [Int32.lt_iff_toInt_lt, Int32.le_iff_toInt_le, q_n0, q_n1, q_n2, q_n3, q_n4, q_n5, q_n6, q_n7, q_n8, q_n9, q_n10, q_n11, q_n12, q_n13, q_n14, q_n15, q_n20, q_n60, q_n1288] at c_1; have l1 := nI_toInt (n := t) (by omega); have l2 : 0 ≤ (q_i (S 0 0 33)).toInt ∧ (q_i (S 0 0 33)).toInt ≤ 6 := hI 0 0 33; rw [vp_in_iff]; omega
        have s_3 : (nI t).toNatClampNeg = t := by simp only [Int32.lt_iff_toInt_lt, Int32.le_iff_toInt_le, q_n0, q_n1, q_n2, q_n3, q_n4, q_n5, q_n6, q_n7, q_n8, q_n9, q_n10, q_n11, q_n12, q_n13, q_n14, q_n15, q_n20, q_n60, q_n1288] at c_1; have l1 := nI_toInt (n := t) (by omega); have l2 : 0 ≤ (q_i (S 0 0 33)).toInt ∧ (q_i (S 0 0 33)).toInt ≤ 6 := hI 0 0 33; apply q_tn; omega
        have hf : m_fm_leaveLine_L0 (n + 1) S a v t = m_fm_leaveLine_L0 n S a v (t + 1) := by rw [m_fm_leaveLine_L0, if_neg c_1, if_pos c_4]
        rw [hf]
        exact ih S v (t + 1) (by have b1 : 0 ≤ (q_i (S 0 0 33)).toInt ∧ (q_i (S 0 0 33)).toInt ≤ 6 := hI 0 0 33; have b2 : 0 ≤ (q_i (S 32 0 t)).toInt ∧ (q_i (S 32 0 t)).toInt ≤ 5 := hI 32 0 t; have n_v := nI_toInt (n := v) (by omega); have m_v := q_nT (n := v) (by omega); have n_t := nI_toInt (n := t) (by omega); have m_t := q_nT (n := t) (by omega); simp only [Int32.lt_iff_toInt_lt, Int32.le_iff_toInt_le, q_n0, q_n1, q_n2, q_n3, q_n4, q_n5, q_n6, q_n7, q_n8, q_n9, q_n10, q_n11, q_n12, q_n13, q_n14, q_n15, q_n20, q_n60, q_n1288] at c_1; omega) (by have b1 : 0 ≤ (q_i (S 0 0 33)).toInt ∧ (q_i (S 0 0 33)).toInt ≤ 6 := hI 0 0 33; have b2 : 0 ≤ (q_i (S 32 0 t)).toInt ∧ (q_i (S 32 0 t)).toInt ≤ 5 := hI 32 0 t; have n_v := nI_toInt (n := v) (by omega); have m_v := q_nT (n := v) (by omega); have n_t := nI_toInt (n := t) (by omega); have m_t := q_nT (n := t) (by omega); simp only [Int32.lt_iff_toInt_lt, Int32.le_iff_toInt_le, q_n0, q_n1, q_n2, q_n3, q_n4, q_n5, q_n6, q_n7, q_n8, q_n9, q_n10, q_n11, q_n12, q_n13, q_n14, q_n15, q_n20, q_n60, q_n1288] at c_1; omega) (by have b1 : 0 ≤ (q_i (S 0 0 33)).toInt ∧ (q_i (S 0 0 33)).toInt ≤ 6 := hI 0 0 33; have b2 : 0 ≤ (q_i (S 32 0 t)).toInt ∧ (q_i (S 32 0 t)).toInt ≤ 5 := hI 32 0 t; have n_v := nI_toInt (n := v) (by omega); have m_v := q_nT (n := v) (by omega); have n_t := nI_toInt (n := t) (by omega); have m_t := q_nT (n := t) (by omega); simp only [Int32.lt_iff_toInt_lt, Int32.le_iff_toInt_le, q_n0, q_n1, q_n2, q_n3, q_n4, q_n5, q_n6, q_n7, q_n8, q_n9, q_n10, q_n11, q_n12, q_n13, q_n14, q_n15, q_n20, q_n60, q_n1288] at c_1; omega) hI
      · -- no
        have h_2 : vp_in (nI t) 6 := by simp only [Int32.lt_iff_toInt_lt, Int32.le_iff_toInt_le, q_n0, q_n1, q_n2, q_n3, q_n4, q_n5, q_n6, q_n7, q_n8, q_n9, q_n10, q_n11, q_n12, q_n13, q_n14, q_n15, q_n20, q_n60, q_n1288] at c_1; have l1 := nI_toInt (n := t) (by omega); have l2 : 0 ≤ (q_i (S 0 0 33)).toInt ∧ (q_i (S 0 0 33)).toInt ≤ 6 := hI 0 0 33; rw [vp_in_iff]; omega
        have s_3 : (nI t).toNatClampNeg = t := by simp only [Int32.lt_iff_toInt_lt, Int32.le_iff_toInt_le, q_n0, q_n1, q_n2, q_n3, q_n4, q_n5, q_n6, q_n7, q_n8, q_n9, q_n10, q_n11, q_n12, q_n13, q_n14, q_n15, q_n20, q_n60, q_n1288] at c_1; have l1 := nI_toInt (n := t) (by omega); have l2 : 0 ≤ (q_i (S 0 0 33)).toInt ∧ (q_i (S 0 0 33)).toInt ≤ 6 := hI 0 0 33; apply q_tn; omega
        have h_5 : vp_in (nI t) 6 := by simp only [Int32.lt_iff_toInt_lt, Int32.le_iff_toInt_le, q_n0, q_n1, q_n2, q_n3, q_n4, q_n5, q_n6, q_n7, q_n8, q_n9, q_n10, q_n11, q_n12, q_n13, q_n14, q_n15, q_n20, q_n60, q_n1288] at c_1; have l1 := nI_toInt (n := t) (by omega); have l2 : 0 ≤ (q_i (S 0 0 33)).toInt ∧ (q_i (S 0 0 33)).toInt ≤ 6 := hI 0 0 33; rw [vp_in_iff]; omega
        have s_6 : (nI t).toNatClampNeg = t := by simp only [Int32.lt_iff_toInt_lt, Int32.le_iff_toInt_le, q_n0, q_n1, q_n2, q_n3, q_n4, q_n5, q_n6, q_n7, q_n8, q_n9, q_n10, q_n11, q_n12, q_n13, q_n14, q_n15, q_n20, q_n60, q_n1288] at c_1; have l1 := nI_toInt (n := t) (by omega); have l2 : 0 ≤ (q_i (S 0 0 33)).toInt ∧ (q_i (S 0 0 33)).toInt ≤ 6 := hI 0 0 33; apply q_tn; omega
        have h_7 : vp_in (nI v) 6 := by simp only [Int32.lt_iff_toInt_lt, Int32.le_iff_toInt_le, q_n0, q_n1, q_n2, q_n3, q_n4, q_n5, q_n6, q_n7, q_n8, q_n9, q_n10, q_n11, q_n12, q_n13, q_n14, q_n15, q_n20, q_n60, q_n1288] at c_1; have l1 := nI_toInt (n := v) (by omega); have l2 : 0 ≤ (q_i (S 0 0 33)).toInt ∧ (q_i (S 0 0 33)).toInt ≤ 6 := hI 0 0 33; have l3 := nI_toInt (n := t) (by omega); rw [vp_in_iff]; omega
        have s_8 : (nI v).toNatClampNeg = v := by simp only [Int32.lt_iff_toInt_lt, Int32.le_iff_toInt_le, q_n0, q_n1, q_n2, q_n3, q_n4, q_n5, q_n6, q_n7, q_n8, q_n9, q_n10, q_n11, q_n12, q_n13, q_n14, q_n15, q_n20, q_n60, q_n1288] at c_1; have l1 := nI_toInt (n := v) (by omega); have l2 : 0 ≤ (q_i (S 0 0 33)).toInt ∧ (q_i (S 0 0 33)).toInt ≤ 6 := hI 0 0 33; have l3 := nI_toInt (n := t) (by omega); apply q_tn; omega
        have hI_9 : mI (q_st S 32 0 v (.int (q_i (S 32 0 t)))) := (mI_st hI (by simp only [Int32.lt_iff_toInt_lt, Int32.le_iff_toInt_le, q_n0, q_n1, q_n2, q_n3, q_n4, q_n5, q_n6, q_n7, q_n8, q_n9, q_n10, q_n11, q_n12, q_n13, q_n14, q_n15, q_n20, q_n60, q_n1288] at c_1; have l1 : 0 ≤ (q_i (S 32 0 t)).toInt ∧ (q_i (S 32 0 t)).toInt ≤ 5 := hI 32 0 t; have l2 : 0 ≤ (q_i (S 0 0 33)).toInt ∧ (q_i (S 0 0 33)).toInt ≤ 6 := hI 0 0 33; have l3 := nI_toInt (n := t) (by omega); show 0 ≤ (q_i (S 32 0 t)).toInt ∧ (q_i (S 32 0 t)).toInt ≤ 5; omega))
        have hf : m_fm_leaveLine_L0 (n + 1) S a v t = m_fm_leaveLine_L0 n (q_st S 32 0 v (.int (q_i (S 32 0 t)))) a (v + 1) (t + 1) := by rw [m_fm_leaveLine_L0, if_neg c_1, if_neg c_4]
        rw [hf]
        have hI_905 : mI (q_st S 32 0 v (.int (q_i (S 32 0 t)))) := (mI_st hI (by simp only [Int32.lt_iff_toInt_lt, Int32.le_iff_toInt_le, q_n0, q_n1, q_n2, q_n3, q_n4, q_n5, q_n6, q_n7, q_n8, q_n9, q_n10, q_n11, q_n12, q_n13, q_n14, q_n15, q_n20, q_n60, q_n1288] at c_1; have l1 : 0 ≤ (q_i (S 32 0 t)).toInt ∧ (q_i (S 32 0 t)).toInt ≤ 5 := hI 32 0 t; have l2 : 0 ≤ (q_i (S 0 0 33)).toInt ∧ (q_i (S 0 0 33)).toInt ≤ 6 := hI 0 0 33; have l3 := nI_toInt (n := t) (by omega); show 0 ≤ (q_i (S 32 0 t)).toInt ∧ (q_i (S 32 0 t)).toInt ≤ 5; omega))
        exact ih (q_st S 32 0 v (.int (q_i (S 32 0 t)))) (v + 1) (t + 1) (by have b1 : 0 ≤ (q_i (S 0 0 33)).toInt ∧ (q_i (S 0 0 33)).toInt ≤ 6 := hI 0 0 33; have b2 : 0 ≤ (q_i (S 32 0 t)).toInt ∧ (q_i (S 32 0 t)).toInt ≤ 5 := hI 32 0 t; have n_v := nI_toInt (n := v) (by omega); have m_v := q_nT (n := v) (by omega); have n_t := nI_toInt (n := t) (by omega); have m_t := q_nT (n := t) (by omega); simp only [Int32.lt_iff_toInt_lt, Int32.le_iff_toInt_le, q_n0, q_n1, q_n2, q_n3, q_n4, q_n5, q_n6, q_n7, q_n8, q_n9, q_n10, q_n11, q_n12, q_n13, q_n14, q_n15, q_n20, q_n60, q_n1288] at c_1; omega) (by have b1 : 0 ≤ (q_i (S 0 0 33)).toInt ∧ (q_i (S 0 0 33)).toInt ≤ 6 := hI 0 0 33; have b2 : 0 ≤ (q_i (S 32 0 t)).toInt ∧ (q_i (S 32 0 t)).toInt ≤ 5 := hI 32 0 t; have n_v := nI_toInt (n := v) (by omega); have m_v := q_nT (n := v) (by omega); have n_t := nI_toInt (n := t) (by omega); have m_t := q_nT (n := t) (by omega); simp only [Int32.lt_iff_toInt_lt, Int32.le_iff_toInt_le, q_n0, q_n1, q_n2, q_n3, q_n4, q_n5, q_n6, q_n7, q_n8, q_n9, q_n10, q_n11, q_n12, q_n13, q_n14, q_n15, q_n20, q_n60, q_n1288] at c_1; omega) (by have b1 : 0 ≤ (q_i (S 0 0 33)).toInt ∧ (q_i (S 0 0 33)).toInt ≤ 6 := hI 0 0 33; have b2 : 0 ≤ (q_i (S 32 0 t)).toInt ∧ (q_i (S 32 0 t)).toInt ≤ 5 := hI 32 0 t; have n_v := nI_toInt (n := v) (by omega); have m_v := q_nT (n := v) (by omega); have n_t := nI_toInt (n := t) (by omega); have m_t := q_nT (n := t) (by omega); simp only [Int32.lt_iff_toInt_lt, Int32.le_iff_toInt_le, q_n0, q_n1, q_n2, q_n3, q_n4, q_n5, q_n6, q_n7, q_n8, q_n9, q_n10, q_n11, q_n12, q_n13, q_n14, q_n15, q_n20, q_n60, q_n1288] at c_1; omega) hI_905
def m_fm_leaveLine (S : q_S) (a : Int32) : q_S :=
  m_fm_leaveLine_L0 7 S a 0 0
set_option maxRecDepth 100000 in
set_option maxHeartbeats 4000000 in
theorem mC_fm_leaveLine (l : Launch) (G : q_G) (S : q_S) (a : Int32) (hI : mI S) : q_Mv mX G l my_fm_leaveLine (q_ws (q_gw lw_tbl) my_fm_leaveLine mb_fm_leaveLine 4 none) (q_rm 0) [.ref (q_a mX G 0 0), .int a] S (m_fm_leaveLine S a) := by
  refine q_met (cc := mb_fm_leaveLine) (maxL := 4) (ret := none) mOk (by decide) rfl (Nat.le_of_ble_eq_true rfl) ?_
  intro p e s m below meth c ls hC hr hlocks hW hS hl
  have hx := hC.1.1
  have hb := hC.1.2.1
  have hl : lv_has ls 4 [(0, .ref (q_a mX G 0 0)), (1, .int a)] := hl
  refine lv_iconst (v := 0) hx hb md_fm_leaveLine_0 (by decide) ?_
  refine lv_istore_n (lv' := [(2, .int 0), (0, .ref (q_a mX G 0 0)), (1, .int a)]) hx hb md_fm_leaveLine_1 rfl hl (by decide) rfl (fun ls hl => ?_)
  refine lv_iconst (v := 0) hx hb md_fm_leaveLine_2 (by decide) ?_
  refine lv_istore_n (lv' := [(3, .int 0), (2, .int 0), (0, .ref (q_a mX G 0 0)), (1, .int a)]) hx hb md_fm_leaveLine_3 rfl hl (by decide) rfl (fun ls hl => ?_)
  have hf : m_fm_leaveLine S a = m_fm_leaveLine_L0 7 S a 0 0 := by unfold m_fm_leaveLine; rfl
  rw [hf]
  have hl2 : lv_has ls 4 [(0, .ref (q_a mX G 0 0)), (1, .int a), (2, .int (nI 0)), (3, .int (nI 0))] := by rw [(show nI 0 = 0 from rfl)]; exact lv_sub hl [2, 3, 1, 0] rfl
  exact mL_fm_leaveLine_L0 l G a  hC hr hlocks 7 S 0 0 _ _ ls (by omega) (by omega) (by omega) hI hW hS hl2
set_option maxRecDepth 100000 in
set_option maxHeartbeats 4000000 in
theorem mI_fm_leaveLine (S : q_S) (a : Int32) (hI : mI S) : mI (m_fm_leaveLine S a) := by
  have hf : m_fm_leaveLine S a = m_fm_leaveLine_L0 7 S a 0 0 := by unfold m_fm_leaveLine; rfl
  rw [hf]
  exact mI_fm_leaveLine_L0 a  7 S 0 0 (by omega) (by omega) (by omega) hI
set_option maxRecDepth 100000 in
set_option maxHeartbeats 4000000 in
theorem mK_fm_leaveLine (S : q_S) (a : Int32) (x y z : Nat) (h0 : x ≠ 0) (h32 : x ≠ 32) : (m_fm_leaveLine S a) x y z = S x y z := by
  have hf : m_fm_leaveLine S a = m_fm_leaveLine_L0 7 S a 0 0 := by unfold m_fm_leaveLine; rfl
  rw [hf]
  exact (mK_fm_leaveLine_L0 7 S a 0 0 x y z h0 h32).trans (rfl)
def m_fm_noTask (S : q_S) (i : Nat) : q_S :=
  m_fm_leaveLine (q_st (q_st (q_st S 8 0 i (.int 0)) 7 0 i (.int 0)) 29 0 i (.int 0)) (nI i)
set_option maxRecDepth 100000 in
set_option maxHeartbeats 4000000 in
theorem mC_fm_noTask (l : Launch) (G : q_G) (S : q_S) (i : Nat) (hi : i < 6) (hI : mI S) : q_Mv mX G l my_fm_noTask (q_ws (q_gw lw_tbl) my_fm_noTask mb_fm_noTask 2 none) (q_rm 1) [.ref (q_a mX G 0 0), .int (nI i)] S (m_fm_noTask S i) := by
  refine q_met (cc := mb_fm_noTask) (maxL := 2) (ret := none) mOk (by decide) rfl (Nat.le_of_ble_eq_true rfl) ?_
  intro p e s m below meth c ls hC hr hlocks hW hS hl
  have hx := hC.1.1
  have hb := hC.1.2.1
  have hl : lv_has ls 2 [(0, .ref (q_a mX G 0 0)), (1, .int (nI i))] := hl
  refine lv_aload_n hx hb md_fm_noTask_0 rfl (lv_at hl 0 rfl) ?_
  refine mg_fm_32 hC hW 0 Nat.one_pos md_fm_noTask_1 ?_
  refine lv_iload_n hx hb md_fm_noTask_4 rfl (lv_at hl 1 rfl) ?_
  refine lv_iconst (v := 0) hx hb md_fm_noTask_5 (by decide) ?_
  have h_1 : vp_in (nI i) 6 := by have l1 := nI_toInt (n := i) (by omega); rw [vp_in_iff]; omega
  have s_2 : (nI i).toNatClampNeg = i := by have l1 := nI_toInt (n := i) (by omega); apply q_tn; omega
  refine mase_8 hC hW hS (fun _ h => h) h_1 s_2 (by decide) md_fm_noTask_6 (fun H locs hW hS => ?_)
  refine lv_aload_n hx hb md_fm_noTask_7 rfl (lv_at hl 0 rfl) ?_
  refine mg_fm_29 hC hW 0 Nat.one_pos md_fm_noTask_8 ?_
  refine lv_iload_n hx hb md_fm_noTask_11 rfl (lv_at hl 1 rfl) ?_
  refine lv_iconst (v := 0) hx hb md_fm_noTask_12 (by decide) ?_
  have h_3 : vp_in (nI i) 6 := by have l1 := nI_toInt (n := i) (by omega); rw [vp_in_iff]; omega
  have s_4 : (nI i).toNatClampNeg = i := by have l1 := nI_toInt (n := i) (by omega); apply q_tn; omega
  refine mase_7 hC hW hS (fun _ h => h) h_3 s_4 (by decide) md_fm_noTask_13 (fun H locs hW hS => ?_)
  refine lv_aload_n hx hb md_fm_noTask_14 rfl (lv_at hl 0 rfl) ?_
  refine mg_fm_96 hC hW 0 Nat.one_pos md_fm_noTask_15 ?_
  refine lv_iload_n hx hb md_fm_noTask_18 rfl (lv_at hl 1 rfl) ?_
  refine lv_iconst (v := 0) hx hb md_fm_noTask_19 (by decide) ?_
  refine W.eq (g2 := F0 m 20 ls [.int 0, .int (nI i), .ref (q_a mX G 29 0)]) rfl ?_
  have h_5 : vp_in (nI i) 6 := by have l1 := nI_toInt (n := i) (by omega); rw [vp_in_iff]; omega
  have s_6 : (nI i).toNatClampNeg = i := by have l1 := nI_toInt (n := i) (by omega); apply q_tn; omega
  refine mase_29 hC hW hS (fun _ h => h) h_5 s_6 md_fm_noTask_20 (fun H locs hW hS => ?_)
  refine lv_aload_n hx hb md_fm_noTask_21 rfl (lv_at hl 0 rfl) ?_
  refine lv_iload_n hx hb md_fm_noTask_22 rfl (lv_at hl 1 rfl) ?_
  have hI_7 : mI (q_st (q_st (q_st S 8 0 i (.int 0)) 7 0 i (.int 0)) 29 0 i (.int 0)) := (mIs (mIs (mIs hI rfl) rfl) rfl)
  refine q_callv hC hS (fun _ h => h) (q_runV (rest := []) hC hW (mC_fm_leaveLine l G (q_st (q_st (q_st S 8 0 i (.int 0)) 7 0 i (.int 0)) 29 0 i (.int 0)) (nI i) hI_7) (mc_fm_130 (q_rm 0) hC.1.2.2.2.2 ⟨Nat.le_of_ble_eq_true rfl, Nat.le_of_ble_eq_true rfl⟩ rfl rfl) Nat.one_pos rfl rfl rfl hl.1 rfl (Nat.le_of_ble_eq_true rfl) md_fm_noTask_23 ⟨Nat.zero_le _, Nat.zero_le _⟩) (fun H locs hW hS => ?_)
  have hf : m_fm_noTask S i = m_fm_leaveLine (q_st (q_st (q_st S 8 0 i (.int 0)) 7 0 i (.int 0)) 29 0 i (.int 0)) (nI i) := by unfold m_fm_noTask; rfl
  rw [hf]
  exact q_vret hC hr hlocks hW hS rfl md_fm_noTask_26
set_option maxRecDepth 100000 in
set_option maxHeartbeats 4000000 in
theorem mI_fm_noTask (S : q_S) (i : Nat) (hi : i < 6) (hI : mI S) : mI (m_fm_noTask S i) := by
  have h_1 : vp_in (nI i) 6 := by have l1 := nI_toInt (n := i) (by omega); rw [vp_in_iff]; omega
  have s_2 : (nI i).toNatClampNeg = i := by have l1 := nI_toInt (n := i) (by omega); apply q_tn; omega
  have h_3 : vp_in (nI i) 6 := by have l1 := nI_toInt (n := i) (by omega); rw [vp_in_iff]; omega
  have s_4 : (nI i).toNatClampNeg = i := by have l1 := nI_toInt (n := i) (by omega); apply q_tn; omega
  have h_5 : vp_in (nI i) 6 := by have l1 := nI_toInt (n := i) (by omega); rw [vp_in_iff]; omega
  have s_6 : (nI i).toNatClampNeg = i := by have l1 := nI_toInt (n := i) (by omega); apply q_tn; omega
  have hI_7 : mI (q_st (q_st (q_st S 8 0 i (.int 0)) 7 0 i (.int 0)) 29 0 i (.int 0)) := (mIs (mIs (mIs hI rfl) rfl) rfl)
  have hf : m_fm_noTask S i = m_fm_leaveLine (q_st (q_st (q_st S 8 0 i (.int 0)) 7 0 i (.int 0)) 29 0 i (.int 0)) (nI i) := by unfold m_fm_noTask; rfl
  rw [hf]
  exact (mI_fm_leaveLine (q_st (q_st (q_st S 8 0 i (.int 0)) 7 0 i (.int 0)) 29 0 i (.int 0)) (nI i) hI_7)
set_option maxRecDepth 100000 in
set_option maxHeartbeats 4000000 in
theorem mK_fm_noTask (S : q_S) (i : Nat) (x y z : Nat) (h0 : x ≠ 0) (h7 : x ≠ 7) (h8 : x ≠ 8) (h29 : x ≠ 29) (h32 : x ≠ 32) : (m_fm_noTask S i) x y z = S x y z := by
  have hf : m_fm_noTask S i = m_fm_leaveLine (q_st (q_st (q_st S 8 0 i (.int 0)) 7 0 i (.int 0)) 29 0 i (.int 0)) (nI i) := by unfold m_fm_noTask; rfl
  rw [hf]
  exact ((mK_fm_leaveLine (q_st (q_st (q_st S 8 0 i (.int 0)) 7 0 i (.int 0)) 29 0 i (.int 0)) (nI i) x y z h0 h32)).trans ((q_kj h29).trans ((q_kj h7).trans ((q_kj h8))))
def m_fm_newTask (S : q_S) (i : Nat) (a : Int32) : q_S :=
  q_st (q_st (q_st (q_st (q_st (m_fm_noTask S i) 8 0 i (.int 1)) 28 0 i (.int a)) 31 0 i (.int (q_i ((m_fm_noTask S i) 0 0 34)))) 32 0 ((q_i ((m_fm_noTask S i) 0 0 33)).toNatClampNeg) (.int (nI i))) 0 0 33 (.int ((q_i ((m_fm_noTask S i) 0 0 33)) + 1))
set_option maxRecDepth 100000 in
set_option maxHeartbeats 4000000 in
theorem mC_fm_newTask (l : Launch) (G : q_G) (S : q_S) (i : Nat) (a : Int32) (hi : i < 6) (hI : mI S) (hq : (q_i ((m_fm_noTask S i) 0 0 33)).toInt ≤ 5) : q_Mv mX G l my_fm_newTask (q_ws (q_gw lw_tbl) my_fm_newTask mb_fm_newTask 3 none) (q_rm 2) [.ref (q_a mX G 0 0), .int (nI i), .int a] S (m_fm_newTask S i a) := by
  refine q_met (cc := mb_fm_newTask) (maxL := 3) (ret := none) mOk (by decide) rfl (Nat.le_of_ble_eq_true rfl) ?_
  intro p e s m below meth c ls hC hr hlocks hW hS hl
  have hx := hC.1.1
  have hb := hC.1.2.1
  have hl : lv_has ls 3 [(0, .ref (q_a mX G 0 0)), (1, .int (nI i)), (2, .int a)] := hl
  refine lv_aload_n hx hb md_fm_newTask_0 rfl (lv_at hl 0 rfl) ?_
  refine lv_iload_n hx hb md_fm_newTask_1 rfl (lv_at hl 1 rfl) ?_
  refine q_callv hC hS (fun _ h => h) (q_runV (rest := []) hC hW (mC_fm_noTask l G S i hi hI) (mc_fm_133 (q_rm 1) hC.1.2.2.2.2 ⟨Nat.le_of_ble_eq_true rfl, Nat.le_of_ble_eq_true rfl⟩ rfl rfl) Nat.one_pos rfl rfl rfl hl.1 rfl (Nat.le_of_ble_eq_true rfl) md_fm_newTask_2 ⟨Nat.zero_le _, Nat.zero_le _⟩) (fun H locs hW hS => ?_)
  refine lv_aload_n hx hb md_fm_newTask_5 rfl (lv_at hl 0 rfl) ?_
  refine mg_fm_32 hC hW 0 Nat.one_pos md_fm_newTask_6 ?_
  refine lv_iload_n hx hb md_fm_newTask_9 rfl (lv_at hl 1 rfl) ?_
  refine lv_iconst (v := 1) hx hb md_fm_newTask_10 (by decide) ?_
  have h_1 : vp_in (nI i) 6 := by have l1 := nI_toInt (n := i) (by omega); rw [vp_in_iff]; omega
  have s_2 : (nI i).toNatClampNeg = i := by have l1 := nI_toInt (n := i) (by omega); apply q_tn; omega
  refine mase_8 hC hW hS (fun _ h => h) h_1 s_2 (by decide) md_fm_newTask_11 (fun H locs hW hS => ?_)
  refine lv_aload_n hx hb md_fm_newTask_12 rfl (lv_at hl 0 rfl) ?_
  refine mg_fm_93 hC hW 0 Nat.one_pos md_fm_newTask_13 ?_
  refine lv_iload_n hx hb md_fm_newTask_16 rfl (lv_at hl 1 rfl) ?_
  refine lv_iload_n hx hb md_fm_newTask_17 rfl (lv_at hl 2 rfl) ?_
  have h_3 : vp_in (nI i) 6 := by have l1 := nI_toInt (n := i) (by omega); rw [vp_in_iff]; omega
  have s_4 : (nI i).toNatClampNeg = i := by have l1 := nI_toInt (n := i) (by omega); apply q_tn; omega
  refine mase_28 hC hW hS (fun _ h => h) h_3 s_4 md_fm_newTask_18 (fun H locs hW hS => ?_)
  refine lv_aload_n hx hb md_fm_newTask_19 rfl (lv_at hl 0 rfl) ?_
  refine W.eq (g2 := F0 m 20 ls [.ref (q_a mX G 0 0)]) rfl ?_
  refine mg_fm_102 hC hW 0 Nat.one_pos md_fm_newTask_20 ?_
  refine lv_iload_n hx hb md_fm_newTask_23 rfl (lv_at hl 1 rfl) ?_
  refine lv_aload_n hx hb md_fm_newTask_24 rfl (lv_at hl 0 rfl) ?_
  refine mg_fm_136 hC hW 0 Nat.one_pos (q_sj (by decide) (q_sj (by decide) (rfl))) md_fm_newTask_25 ?_
  have h_5 : vp_in (nI i) 6 := by have l1 := nI_toInt (n := i) (by omega); rw [vp_in_iff]; omega
  have s_6 : (nI i).toNatClampNeg = i := by have l1 := nI_toInt (n := i) (by omega); apply q_tn; omega
  refine mase_31 hC hW hS (fun _ h => h) h_5 s_6 md_fm_newTask_28 (fun H locs hW hS => ?_)
  refine lv_aload_n hx hb md_fm_newTask_29 rfl (lv_at hl 0 rfl) ?_
  refine mg_fm_105 hC hW 0 Nat.one_pos md_fm_newTask_30 ?_
  refine lv_aload_n hx hb md_fm_newTask_33 rfl (lv_at hl 0 rfl) ?_
  refine mg_fm_126 hC hW 0 Nat.one_pos (q_sj (by decide) (q_sj (by decide) (q_sj (by decide) (rfl)))) md_fm_newTask_34 ?_
  refine lv_iload_n hx hb md_fm_newTask_37 rfl (lv_at hl 1 rfl) ?_
  have h_7 : vp_in (q_i ((m_fm_noTask S i) 0 0 33)) 6 := by have l1 : 0 ≤ (q_i ((m_fm_noTask S i) 0 0 33)).toInt ∧ (q_i ((m_fm_noTask S i) 0 0 33)).toInt ≤ 6 := (mI_fm_noTask S i hi hI) 0 0 33; rw [vp_in_iff]; omega
  refine mase_32 hC hW hS (fun _ h => h) h_7 rfl md_fm_newTask_38 (fun H locs hW hS => ?_)
  refine lv_aload_n hx hb md_fm_newTask_39 rfl (lv_at hl 0 rfl) ?_
  refine lv_dup hx hb md_fm_newTask_40 rfl ?_
  refine mg_fm_126 hC hW 0 Nat.one_pos (q_sj (by decide) (q_sj (by decide) (q_sj (by decide) (q_sj (by decide) (rfl))))) md_fm_newTask_41 ?_
  refine W.eq (g2 := F0 m 44 ls [.int (q_i ((m_fm_noTask S i) 0 0 33)), .ref (q_a mX G 0 0)]) rfl ?_
  refine lv_iconst (v := 1) hx hb md_fm_newTask_44 (by decide) ?_
  refine lv_iadd hx hb md_fm_newTask_45 ?_
  refine mg_fm_126p hC hW hS (fun _ h => h) 0 Nat.one_pos md_fm_newTask_46 (fun H locs hW hS => ?_)
  have hf : m_fm_newTask S i a = q_st (q_st (q_st (q_st (q_st (m_fm_noTask S i) 8 0 i (.int 1)) 28 0 i (.int a)) 31 0 i (.int (q_i ((m_fm_noTask S i) 0 0 34)))) 32 0 ((q_i ((m_fm_noTask S i) 0 0 33)).toNatClampNeg) (.int (nI i))) 0 0 33 (.int ((q_i ((m_fm_noTask S i) 0 0 33)) + 1)) := by unfold m_fm_newTask; rfl
  rw [hf]
  exact q_vret hC hr hlocks hW hS rfl md_fm_newTask_49
set_option maxRecDepth 100000 in
set_option maxHeartbeats 4000000 in
theorem mI_fm_newTask (S : q_S) (i : Nat) (a : Int32) (hi : i < 6) (hI : mI S) (hq : (q_i ((m_fm_noTask S i) 0 0 33)).toInt ≤ 5) : mI (m_fm_newTask S i a) := by
  have h_1 : vp_in (nI i) 6 := by have l1 := nI_toInt (n := i) (by omega); rw [vp_in_iff]; omega
  have s_2 : (nI i).toNatClampNeg = i := by have l1 := nI_toInt (n := i) (by omega); apply q_tn; omega
  have h_3 : vp_in (nI i) 6 := by have l1 := nI_toInt (n := i) (by omega); rw [vp_in_iff]; omega
  have s_4 : (nI i).toNatClampNeg = i := by have l1 := nI_toInt (n := i) (by omega); apply q_tn; omega
  have h_5 : vp_in (nI i) 6 := by have l1 := nI_toInt (n := i) (by omega); rw [vp_in_iff]; omega
  have s_6 : (nI i).toNatClampNeg = i := by have l1 := nI_toInt (n := i) (by omega); apply q_tn; omega
  have h_7 : vp_in (q_i ((m_fm_noTask S i) 0 0 33)) 6 := by have l1 : 0 ≤ (q_i ((m_fm_noTask S i) 0 0 33)).toInt ∧ (q_i ((m_fm_noTask S i) 0 0 33)).toInt ≤ 6 := (mI_fm_noTask S i hi hI) 0 0 33; rw [vp_in_iff]; omega
  have hf : m_fm_newTask S i a = q_st (q_st (q_st (q_st (q_st (m_fm_noTask S i) 8 0 i (.int 1)) 28 0 i (.int a)) 31 0 i (.int (q_i ((m_fm_noTask S i) 0 0 34)))) 32 0 ((q_i ((m_fm_noTask S i) 0 0 33)).toNatClampNeg) (.int (nI i))) 0 0 33 (.int ((q_i ((m_fm_noTask S i) 0 0 33)) + 1)) := by unfold m_fm_newTask; rfl
  rw [hf]
  exact (mI_st (mI_st (mIs (mIs (mIs (mI_fm_noTask S i hi hI) rfl) rfl) rfl) (by have l1 := nI_toInt (n := i) (by omega); show 0 ≤ (nI i).toInt ∧ (nI i).toInt ≤ 5; omega)) (by have l1 : 0 ≤ (q_i ((m_fm_noTask S i) 0 0 33)).toInt ∧ (q_i ((m_fm_noTask S i) 0 0 33)).toInt ≤ 6 := (mI_fm_noTask S i hi hI) 0 0 33; have l2 : (1 : Int32).toInt = 1 := rfl; have l3 := q_addI (x := q_i ((m_fm_noTask S i) 0 0 33)) (y := 1) (by omega); show 0 ≤ ((q_i ((m_fm_noTask S i) 0 0 33)) + 1).toInt ∧ ((q_i ((m_fm_noTask S i) 0 0 33)) + 1).toInt ≤ 6; omega))
set_option maxRecDepth 100000 in
set_option maxHeartbeats 4000000 in
theorem mK_fm_newTask (S : q_S) (i : Nat) (a : Int32) (x y z : Nat) (h0 : x ≠ 0) (h7 : x ≠ 7) (h8 : x ≠ 8) (h28 : x ≠ 28) (h29 : x ≠ 29) (h31 : x ≠ 31) (h32 : x ≠ 32) : (m_fm_newTask S i a) x y z = S x y z := by
  have hf : m_fm_newTask S i a = q_st (q_st (q_st (q_st (q_st (m_fm_noTask S i) 8 0 i (.int 1)) 28 0 i (.int a)) 31 0 i (.int (q_i ((m_fm_noTask S i) 0 0 34)))) 32 0 ((q_i ((m_fm_noTask S i) 0 0 33)).toNatClampNeg) (.int (nI i))) 0 0 33 (.int ((q_i ((m_fm_noTask S i) 0 0 33)) + 1)) := by unfold m_fm_newTask; rfl
  rw [hf]
  exact (q_kj h0).trans ((q_kj h32).trans ((q_kj h31).trans ((q_kj h28).trans ((q_kj h8).trans (((mK_fm_noTask S i x y z h0 h7 h8 h29 h32)))))))
