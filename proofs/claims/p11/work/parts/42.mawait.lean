def m_fm_await_L1 : Nat → q_S → Nat → Int32 → Int32 → Int32 → Nat → q_S
  | 0, S, _, _, _, _, _ => S
  | n + 1, S, i, a, b, v, u =>
    if q_i (S 23 0 i) ≤ nI u then
      S
    else
      m_fm_await_L1 n (q_st (q_st S 24 0 (4 * i + u) (.int (q_i (S 24 0 (4 * i + u + 1))))) 25 0 (4 * i + u) (.int (q_i (S 25 0 (4 * i + u + 1))))) i a b v (u + 1)
set_option maxRecDepth 100000 in
set_option maxHeartbeats 4000000 in
theorem mL_fm_await_L1 (l : Launch) (G : q_G) (i : Nat) (a b : Int32) (hi : i < 6) (hto : 0 ≤ b.toInt ∧ b.toInt ≤ 3) {p : Program} {e : Env} {s : State} {m : MethodId} {below : List Frame} {meth : Method} {c : Code} {Q : State → Prop} (hC : q_C mX G p m c mb_fm_await 8 s ([.ref (q_a mX G 0 0), .int (nI i), .int a, .int b] : List Value).toArray (q_ws (q_gw lw_tbl) my_fm_await mb_fm_await 8 none) mR_fm) : ∀ (n : Nat) (S : q_S) (v : Int32) (u : Nat) (H : Heap) (locs : List Loc) (ls : Array Slot), u + n ≥ 5 → u ≤ 4 → (q_i (S 23 0 i)).toInt ≤ 3 → mI S → q_w mX G s S H → va_S (q_A mX G) s.heap H locs → lv_has ls 8 [(0, .ref (q_a mX G 0 0)), (1, .int (nI i)), (3, .int b), (5, .int v), (7, .int (nI u))] → (∀ (H1 : Heap) (locs1 : List Loc) (ls1 : Array Slot), q_w mX G s (m_fm_await_L1 n S i a b v u) H1 → va_S (q_A mX G) s.heap H1 locs1 → lv_has ls1 8 [(0, .ref (q_a mX G 0 0)), (1, .int (nI i)), (3, .int b), (5, .int v)] → W p l e (headSpec (q_ws (q_gw lw_tbl) my_fm_await mb_fm_await 8 none) (q_rm 5)).room s m ([.ref (q_a mX G 0 0), .int (nI i), .int a, .int b] : List Value).toArray below meth c H1 locs1 0 0 Q (F0 m 158 ls1 [])) → W p l e (headSpec (q_ws (q_gw lw_tbl) my_fm_await mb_fm_await 8 none) (q_rm 5)).room s m ([.ref (q_a mX G 0 0), .int (nI i), .int a, .int b] : List Value).toArray below meth c H locs 0 0 Q (F0 m 93 ls []) := by
  have hx := hC.1.1
  have hb := hC.1.2.1
  intro n
  induction n with
  | zero =>
    intro S v u H locs ls ht hu hk hI hW hS hl kk
    exfalso
    omega
  | succ n ih =>
    intro S v u H locs ls ht hu hk hI hW hS hl kk
    refine lv_iload hx hb md_fm_await_93 (lv_at hl 4 rfl) ?_
    refine lv_aload_n hx hb md_fm_await_95 rfl (lv_at hl 0 rfl) ?_
    refine mg_fm_77 hC hW 0 Nat.one_pos md_fm_await_96 ?_
    refine lv_iload_n hx hb md_fm_await_99 rfl (lv_at hl 1 rfl) ?_
    have h_1 : vp_in (nI i) 6 := by have l1 := nI_toInt (n := i) (by omega); rw [vp_in_iff]; omega
    have s_2 : (nI i).toNatClampNeg = i := by have l1 := nI_toInt (n := i) (by omega); apply q_tn; omega
    refine male_23 hC hW h_1 s_2 (rfl) md_fm_await_100 ?_
    refine lv_icmp_ge (tgt := 158) hx hb md_fm_await_101 (by decide) (fun c_3 => ?_) (fun c_3 => ?_)
    · -- taken
      have hf : m_fm_await_L1 (n + 1) S i a b v u = S := by rw [m_fm_await_L1, if_pos c_3]
      rw [hf] at kk
      exact kk H locs ls hW hS (lv_sub hl [0, 1, 2, 3] rfl)
    · -- not taken
      refine lv_aload_n hx hb md_fm_await_104 rfl (lv_at hl 0 rfl) ?_
      refine mg_fm_80 hC hW 0 Nat.one_pos md_fm_await_105 ?_
      refine lv_iconst (v := 4) hx hb md_fm_await_108 (by decide) ?_
      refine lv_iload_n hx hb md_fm_await_109 rfl (lv_at hl 1 rfl) ?_
      refine lv_imul hx hb md_fm_await_110 ?_
      refine lv_iload hx hb md_fm_await_111 (lv_at hl 4 rfl) ?_
      refine lv_iadd hx hb md_fm_await_113 ?_
      refine lv_aload_n hx hb md_fm_await_114 rfl (lv_at hl 0 rfl) ?_
      refine mg_fm_80 hC hW 0 Nat.one_pos md_fm_await_115 ?_
      refine lv_iconst (v := 4) hx hb md_fm_await_118 (by decide) ?_
      refine lv_iload_n hx hb md_fm_await_119 rfl (lv_at hl 1 rfl) ?_
      refine lv_imul hx hb md_fm_await_120 ?_
      refine lv_iload hx hb md_fm_await_121 (lv_at hl 4 rfl) ?_
      refine lv_iadd hx hb md_fm_await_123 ?_
      refine W.eq (g2 := F0 m 124 ls [.int ((4 * (nI i)) + (nI u)), .ref (q_a mX G 24 0), .int ((4 * (nI i)) + (nI u)), .ref (q_a mX G 24 0)]) rfl ?_
      refine lv_iconst (v := 1) hx hb md_fm_await_124 (by decide) ?_
      refine lv_iadd hx hb md_fm_await_125 ?_
      have h_4 : vp_in (((4 * (nI i)) + (nI u)) + 1) 24 := by simp only [Int32.lt_iff_toInt_lt, Int32.le_iff_toInt_le, q_n0, q_n1, q_n2, q_n3, q_n4, q_n5, q_n6, q_n7, q_n8, q_n9, q_n10, q_n11, q_n12, q_n13, q_n14, q_n15, q_n20, q_n60, q_n1288] at c_3; have l1 : (4 : Int32).toInt = 4 := rfl; have l2 := nI_toInt (n := i) (by omega); have l3 := q_mulI (c := 4) (x := nI i) (k := 4) rfl (by omega); have l4 := nI_toInt (n := u) (by omega); have l5 := q_addI (x := 4 * (nI i)) (y := nI u) (by omega); have l6 : (1 : Int32).toInt = 1 := rfl; have l7 := q_addI (x := (4 * (nI i)) + (nI u)) (y := 1) (by omega); have l8 : 0 ≤ (q_i (S 23 0 i)).toInt ∧ (q_i (S 23 0 i)).toInt ≤ 4 := hI 23 0 i; rw [vp_in_iff]; omega
      have s_5 : (((4 * (nI i)) + (nI u)) + 1).toNatClampNeg = 4 * i + u + 1 := by simp only [Int32.lt_iff_toInt_lt, Int32.le_iff_toInt_le, q_n0, q_n1, q_n2, q_n3, q_n4, q_n5, q_n6, q_n7, q_n8, q_n9, q_n10, q_n11, q_n12, q_n13, q_n14, q_n15, q_n20, q_n60, q_n1288] at c_3; have l1 : (4 : Int32).toInt = 4 := rfl; have l2 := nI_toInt (n := i) (by omega); have l3 := q_mulI (c := 4) (x := nI i) (k := 4) rfl (by omega); have l4 := nI_toInt (n := u) (by omega); have l5 := q_addI (x := 4 * (nI i)) (y := nI u) (by omega); have l6 : (1 : Int32).toInt = 1 := rfl; have l7 := q_addI (x := (4 * (nI i)) + (nI u)) (y := 1) (by omega); have l8 : 0 ≤ (q_i (S 23 0 i)).toInt ∧ (q_i (S 23 0 i)).toInt ≤ 4 := hI 23 0 i; apply q_tn; omega
      refine male_24 hC hW h_4 s_5 (rfl) md_fm_await_126 ?_
      have h_6 : vp_in ((4 * (nI i)) + (nI u)) 24 := by simp only [Int32.lt_iff_toInt_lt, Int32.le_iff_toInt_le, q_n0, q_n1, q_n2, q_n3, q_n4, q_n5, q_n6, q_n7, q_n8, q_n9, q_n10, q_n11, q_n12, q_n13, q_n14, q_n15, q_n20, q_n60, q_n1288] at c_3; have l1 : (4 : Int32).toInt = 4 := rfl; have l2 := nI_toInt (n := i) (by omega); have l3 := q_mulI (c := 4) (x := nI i) (k := 4) rfl (by omega); have l4 := nI_toInt (n := u) (by omega); have l5 := q_addI (x := 4 * (nI i)) (y := nI u) (by omega); have l6 : 0 ≤ (q_i (S 23 0 i)).toInt ∧ (q_i (S 23 0 i)).toInt ≤ 4 := hI 23 0 i; rw [vp_in_iff]; omega
      have s_7 : ((4 * (nI i)) + (nI u)).toNatClampNeg = 4 * i + u := by simp only [Int32.lt_iff_toInt_lt, Int32.le_iff_toInt_le, q_n0, q_n1, q_n2, q_n3, q_n4, q_n5, q_n6, q_n7, q_n8, q_n9, q_n10, q_n11, q_n12, q_n13, q_n14, q_n15, q_n20, q_n60, q_n1288] at c_3; have l1 : (4 : Int32).toInt = 4 := rfl; have l2 := nI_toInt (n := i) (by omega); have l3 := q_mulI (c := 4) (x := nI i) (k := 4) rfl (by omega); have l4 := nI_toInt (n := u) (by omega); have l5 := q_addI (x := 4 * (nI i)) (y := nI u) (by omega); have l6 : 0 ≤ (q_i (S 23 0 i)).toInt ∧ (q_i (S 23 0 i)).toInt ≤ 4 := hI 23 0 i; apply q_tn; omega
      refine mase_24 hC hW hS (fun _ h => h) h_6 s_7 md_fm_await_127 (fun H locs hW hS => ?_)
      refine lv_aload_n hx hb md_fm_await_128 rfl (lv_at hl 0 rfl) ?_
      refine mg_fm_83 hC hW 0 Nat.one_pos md_fm_await_129 ?_
      refine lv_iconst (v := 4) hx hb md_fm_await_132 (by decide) ?_
      refine lv_iload_n hx hb md_fm_await_133 rfl (lv_at hl 1 rfl) ?_
      refine lv_imul hx hb md_fm_await_134 ?_
      refine lv_iload hx hb md_fm_await_135 (lv_at hl 4 rfl) ?_
      refine lv_iadd hx hb md_fm_await_137 ?_
      refine lv_aload_n hx hb md_fm_await_138 rfl (lv_at hl 0 rfl) ?_
      refine mg_fm_83 hC hW 0 Nat.one_pos md_fm_await_139 ?_
      refine lv_iconst (v := 4) hx hb md_fm_await_142 (by decide) ?_
      refine W.eq (g2 := F0 m 143 ls [.int 4, .ref (q_a mX G 25 0), .int ((4 * (nI i)) + (nI u)), .ref (q_a mX G 25 0)]) rfl ?_
      refine lv_iload_n hx hb md_fm_await_143 rfl (lv_at hl 1 rfl) ?_
      refine lv_imul hx hb md_fm_await_144 ?_
      refine lv_iload hx hb md_fm_await_145 (lv_at hl 4 rfl) ?_
      refine lv_iadd hx hb md_fm_await_147 ?_
      refine lv_iconst (v := 1) hx hb md_fm_await_148 (by decide) ?_
      refine lv_iadd hx hb md_fm_await_149 ?_
      have h_8 : vp_in (((4 * (nI i)) + (nI u)) + 1) 24 := by simp only [Int32.lt_iff_toInt_lt, Int32.le_iff_toInt_le, q_n0, q_n1, q_n2, q_n3, q_n4, q_n5, q_n6, q_n7, q_n8, q_n9, q_n10, q_n11, q_n12, q_n13, q_n14, q_n15, q_n20, q_n60, q_n1288] at c_3; have l1 : (4 : Int32).toInt = 4 := rfl; have l2 := nI_toInt (n := i) (by omega); have l3 := q_mulI (c := 4) (x := nI i) (k := 4) rfl (by omega); have l4 := nI_toInt (n := u) (by omega); have l5 := q_addI (x := 4 * (nI i)) (y := nI u) (by omega); have l6 : (1 : Int32).toInt = 1 := rfl; have l7 := q_addI (x := (4 * (nI i)) + (nI u)) (y := 1) (by omega); have l8 : 0 ≤ (q_i (S 23 0 i)).toInt ∧ (q_i (S 23 0 i)).toInt ≤ 4 := hI 23 0 i; rw [vp_in_iff]; omega
      have s_9 : (((4 * (nI i)) + (nI u)) + 1).toNatClampNeg = 4 * i + u + 1 := by simp only [Int32.lt_iff_toInt_lt, Int32.le_iff_toInt_le, q_n0, q_n1, q_n2, q_n3, q_n4, q_n5, q_n6, q_n7, q_n8, q_n9, q_n10, q_n11, q_n12, q_n13, q_n14, q_n15, q_n20, q_n60, q_n1288] at c_3; have l1 : (4 : Int32).toInt = 4 := rfl; have l2 := nI_toInt (n := i) (by omega); have l3 := q_mulI (c := 4) (x := nI i) (k := 4) rfl (by omega); have l4 := nI_toInt (n := u) (by omega); have l5 := q_addI (x := 4 * (nI i)) (y := nI u) (by omega); have l6 : (1 : Int32).toInt = 1 := rfl; have l7 := q_addI (x := (4 * (nI i)) + (nI u)) (y := 1) (by omega); have l8 : 0 ≤ (q_i (S 23 0 i)).toInt ∧ (q_i (S 23 0 i)).toInt ≤ 4 := hI 23 0 i; apply q_tn; omega
      refine male_25 hC hW h_8 s_9 (q_sj (by decide) (rfl)) md_fm_await_150 ?_
      have h_10 : vp_in ((4 * (nI i)) + (nI u)) 24 := by simp only [Int32.lt_iff_toInt_lt, Int32.le_iff_toInt_le, q_n0, q_n1, q_n2, q_n3, q_n4, q_n5, q_n6, q_n7, q_n8, q_n9, q_n10, q_n11, q_n12, q_n13, q_n14, q_n15, q_n20, q_n60, q_n1288] at c_3; have l1 : (4 : Int32).toInt = 4 := rfl; have l2 := nI_toInt (n := i) (by omega); have l3 := q_mulI (c := 4) (x := nI i) (k := 4) rfl (by omega); have l4 := nI_toInt (n := u) (by omega); have l5 := q_addI (x := 4 * (nI i)) (y := nI u) (by omega); have l6 : 0 ≤ (q_i (S 23 0 i)).toInt ∧ (q_i (S 23 0 i)).toInt ≤ 4 := hI 23 0 i; rw [vp_in_iff]; omega
      have s_11 : ((4 * (nI i)) + (nI u)).toNatClampNeg = 4 * i + u := by simp only [Int32.lt_iff_toInt_lt, Int32.le_iff_toInt_le, q_n0, q_n1, q_n2, q_n3, q_n4, q_n5, q_n6, q_n7, q_n8, q_n9, q_n10, q_n11, q_n12, q_n13, q_n14, q_n15, q_n20, q_n60, q_n1288] at c_3; have l1 : (4 : Int32).toInt = 4 := rfl; have l2 := nI_toInt (n := i) (by omega); have l3 := q_mulI (c := 4) (x := nI i) (k := 4) rfl (by omega); have l4 := nI_toInt (n := u) (by omega); have l5 := q_addI (x := 4 * (nI i)) (y := nI u) (by omega); have l6 : 0 ≤ (q_i (S 23 0 i)).toInt ∧ (q_i (S 23 0 i)).toInt ≤ 4 := hI 23 0 i; apply q_tn; omega
      refine mase_25 hC hW hS (fun _ h => h) h_10 s_11 md_fm_await_151 (fun H locs hW hS => ?_)
      refine lv_iinc (v := nI u + 1) (lv' := [(7, .int (nI u + 1)), (0, .ref (q_a mX G 0 0)), (1, .int (nI i)), (3, .int b), (5, .int v)]) hx hb md_fm_await_152 hl (k := 4) rfl rfl (by decide) rfl (fun ls hl => ?_)
      refine lv_goto (tgt := 93) hx hb md_fm_await_155 (by decide) ?_
      have hf : m_fm_await_L1 (n + 1) S i a b v u = m_fm_await_L1 n (q_st (q_st S 24 0 (4 * i + u) (.int (q_i (S 24 0 (4 * i + u + 1))))) 25 0 (4 * i + u) (.int (q_i (S 25 0 (4 * i + u + 1))))) i a b v (u + 1) := by rw [m_fm_await_L1, if_neg c_3]
      rw [hf] at kk
      have hl2 : lv_has ls 8 [(0, .ref (q_a mX G 0 0)), (1, .int (nI i)), (3, .int b), (5, .int v), (7, .int (nI (u + 1)))] := by rw [← nI_1 u]; exact lv_sub hl [1, 2, 3, 4, 0] rfl
      have hI_12 : mI (q_st (q_st S 24 0 (4 * i + u) (.int (q_i (S 24 0 (4 * i + u + 1))))) 25 0 (4 * i + u) (.int (q_i (S 25 0 (4 * i + u + 1))))) := (mIs (mIs hI rfl) rfl)
      exact ih (q_st (q_st S 24 0 (4 * i + u) (.int (q_i (S 24 0 (4 * i + u + 1))))) 25 0 (4 * i + u) (.int (q_i (S 25 0 (4 * i + u + 1))))) v (u + 1) _ _ ls (by have b1 : 0 ≤ (q_i (S 23 0 i)).toInt ∧ (q_i (S 23 0 i)).toInt ≤ 4 := hI 23 0 i; have n_u := nI_toInt (n := u) (by omega); have m_u := q_nT (n := u) (by omega); simp only [Int32.lt_iff_toInt_lt, Int32.le_iff_toInt_le, q_n0, q_n1, q_n2, q_n3, q_n4, q_n5, q_n6, q_n7, q_n8, q_n9, q_n10, q_n11, q_n12, q_n13, q_n14, q_n15, q_n20, q_n60, q_n1288] at c_3; omega) (by have b1 : 0 ≤ (q_i (S 23 0 i)).toInt ∧ (q_i (S 23 0 i)).toInt ≤ 4 := hI 23 0 i; have n_u := nI_toInt (n := u) (by omega); have m_u := q_nT (n := u) (by omega); simp only [Int32.lt_iff_toInt_lt, Int32.le_iff_toInt_le, q_n0, q_n1, q_n2, q_n3, q_n4, q_n5, q_n6, q_n7, q_n8, q_n9, q_n10, q_n11, q_n12, q_n13, q_n14, q_n15, q_n20, q_n60, q_n1288] at c_3; omega) (by rw [q_kj (by decide), q_kj (by decide)]; exact hk) hI_12 hW hS hl2 kk
set_option maxRecDepth 100000 in
set_option maxHeartbeats 4000000 in
theorem mK_fm_await_L1 : ∀ (n : Nat) (S : q_S) (i : Nat) (a b : Int32) (v : Int32) (u : Nat) (x y z : Nat) (h24 : x ≠ 24) (h25 : x ≠ 25), (m_fm_await_L1 n S i a b v u) x y z = S x y z := by
  intro n
  induction n with
  | zero => intro S i a b v u x y z h24 h25; rfl
  | succ n ih =>
    intro S i a b v u x y z h24 h25
    by_cases c_3 : q_i (S 23 0 i) ≤ nI u
    · -- yes
      have hf : m_fm_await_L1 (n + 1) S i a b v u = S := by rw [m_fm_await_L1, if_pos c_3]
      rw [hf]
    · -- no
      have hf : m_fm_await_L1 (n + 1) S i a b v u = m_fm_await_L1 n (q_st (q_st S 24 0 (4 * i + u) (.int (q_i (S 24 0 (4 * i + u + 1))))) 25 0 (4 * i + u) (.int (q_i (S 25 0 (4 * i + u + 1))))) i a b v (u + 1) := by rw [m_fm_await_L1, if_neg c_3]
      rw [hf]
      exact (ih (q_st (q_st S 24 0 (4 * i + u) (.int (q_i (S 24 0 (4 * i + u + 1))))) 25 0 (4 * i + u) (.int (q_i (S 25 0 (4 * i + u + 1))))) i a b v (u + 1) x y z h24 h25).trans ((q_kj h25).trans ((q_kj h24)))
set_option maxRecDepth 100000 in
set_option maxHeartbeats 4000000 in
theorem mI_fm_await_L1 (i : Nat) (a b : Int32) (hi : i < 6) (hto : 0 ≤ b.toInt ∧ b.toInt ≤ 3) : ∀ (n : Nat) (S : q_S) (v : Int32) (u : Nat), u + n ≥ 5 → u ≤ 4 → (q_i (S 23 0 i)).toInt ≤ 3 → mI S → mI (m_fm_await_L1 n S i a b v u) := by
  intro n
  induction n with
  | zero =>
    intro S v u ht hu hk hI
    exfalso
    omega
  | succ n ih =>
    intro S v u ht hu hk hI
    by_cases c_3 : q_i (S 23 0 i) ≤ nI u
    · -- yes
      have h_1 : vp_in (nI i) 6 := by have l1 := nI_toInt (n := i) (by omega); rw [vp_in_iff]; omega
      have s_2 : (nI i).toNatClampNeg = i := by have l1 := nI_toInt (n := i) (by omega); apply q_tn; omega
      have hf : m_fm_await_L1 (n + 1) S i a b v u = S := by rw [m_fm_await_L1, if_pos c_3]
      rw [hf]
      exact hI
    · -- no
      have h_1 : vp_in (nI i) 6 := by have l1 := nI_toInt (n := i) (by omega); rw [vp_in_iff]; omega
      have s_2 : (nI i).toNatClampNeg = i := by have l1 := nI_toInt (n := i) (by omega); apply q_tn; omega
      have h_4 : vp_in (((4 * (nI i)) + (nI u)) + 1) 24 := by simp only [Int32.lt_iff_toInt_lt, Int32.le_iff_toInt_le, q_n0, q_n1, q_n2, q_n3, q_n4, q_n5, q_n6, q_n7, q_n8, q_n9, q_n10, q_n11, q_n12, q_n13, q_n14, q_n15, q_n20, q_n60, q_n1288] at c_3; have l1 : (4 : Int32).toInt = 4 := rfl; have l2 := nI_toInt (n := i) (by omega); have l3 := q_mulI (c := 4) (x := nI i) (k := 4) rfl (by omega); have l4 := nI_toInt (n := u) (by omega); have l5 := q_addI (x := 4 * (nI i)) (y := nI u) (by omega); have l6 : (1 : Int32).toInt = 1 := rfl; have l7 := q_addI (x := (4 * (nI i)) + (nI u)) (y := 1) (by omega); have l8 : 0 ≤ (q_i (S 23 0 i)).toInt ∧ (q_i (S 23 0 i)).toInt ≤ 4 := hI 23 0 i; rw [vp_in_iff]; omega
      have s_5 : (((4 * (nI i)) + (nI u)) + 1).toNatClampNeg = 4 * i + u + 1 := by simp only [Int32.lt_iff_toInt_lt, Int32.le_iff_toInt_le, q_n0, q_n1, q_n2, q_n3, q_n4, q_n5, q_n6, q_n7, q_n8, q_n9, q_n10, q_n11, q_n12, q_n13, q_n14, q_n15, q_n20, q_n60, q_n1288] at c_3; have l1 : (4 : Int32).toInt = 4 := rfl; have l2 := nI_toInt (n := i) (by omega); have l3 := q_mulI (c := 4) (x := nI i) (k := 4) rfl (by omega); have l4 := nI_toInt (n := u) (by omega); have l5 := q_addI (x := 4 * (nI i)) (y := nI u) (by omega); have l6 : (1 : Int32).toInt = 1 := rfl; have l7 := q_addI (x := (4 * (nI i)) + (nI u)) (y := 1) (by omega); have l8 : 0 ≤ (q_i (S 23 0 i)).toInt ∧ (q_i (S 23 0 i)).toInt ≤ 4 := hI 23 0 i; apply q_tn; omega
      have h_6 : vp_in ((4 * (nI i)) + (nI u)) 24 := by simp only [Int32.lt_iff_toInt_lt, Int32.le_iff_toInt_le, q_n0, q_n1, q_n2, q_n3, q_n4, q_n5, q_n6, q_n7, q_n8, q_n9, q_n10, q_n11, q_n12, q_n13, q_n14, q_n15, q_n20, q_n60, q_n1288] at c_3; have l1 : (4 : Int32).toInt = 4 := rfl; have l2 := nI_toInt (n := i) (by omega); have l3 := q_mulI (c := 4) (x := nI i) (k := 4) rfl (by omega); have l4 := nI_toInt (n := u) (by omega); have l5 := q_addI (x := 4 * (nI i)) (y := nI u) (by omega); have l6 : 0 ≤ (q_i (S 23 0 i)).toInt ∧ (q_i (S 23 0 i)).toInt ≤ 4 := hI 23 0 i; rw [vp_in_iff]; omega
      have s_7 : ((4 * (nI i)) + (nI u)).toNatClampNeg = 4 * i + u := by simp only [Int32.lt_iff_toInt_lt, Int32.le_iff_toInt_le, q_n0, q_n1, q_n2, q_n3, q_n4, q_n5, q_n6, q_n7, q_n8, q_n9, q_n10, q_n11, q_n12, q_n13, q_n14, q_n15, q_n20, q_n60, q_n1288] at c_3; have l1 : (4 : Int32).toInt = 4 := rfl; have l2 := nI_toInt (n := i) (by omega); have l3 := q_mulI (c := 4) (x := nI i) (k := 4) rfl (by omega); have l4 := nI_toInt (n := u) (by omega); have l5 := q_addI (x := 4 * (nI i)) (y := nI u) (by omega); have l6 : 0 ≤ (q_i (S 23 0 i)).toInt ∧ (q_i (S 23 0 i)).toInt ≤ 4 := hI 23 0 i; apply q_tn; omega
      have h_8 : vp_in (((4 * (nI i)) + (nI u)) + 1) 24 := by simp only [Int32.lt_iff_toInt_lt, Int32.le_iff_toInt_le, q_n0, q_n1, q_n2, q_n3, q_n4, q_n5, q_n6, q_n7, q_n8, q_n9, q_n10, q_n11, q_n12, q_n13, q_n14, q_n15, q_n20, q_n60, q_n1288] at c_3; have l1 : (4 : Int32).toInt = 4 := rfl; have l2 := nI_toInt (n := i) (by omega); have l3 := q_mulI (c := 4) (x := nI i) (k := 4) rfl (by omega); have l4 := nI_toInt (n := u) (by omega); have l5 := q_addI (x := 4 * (nI i)) (y := nI u) (by omega); have l6 : (1 : Int32).toInt = 1 := rfl; have l7 := q_addI (x := (4 * (nI i)) + (nI u)) (y := 1) (by omega); have l8 : 0 ≤ (q_i (S 23 0 i)).toInt ∧ (q_i (S 23 0 i)).toInt ≤ 4 := hI 23 0 i; rw [vp_in_iff]; omega
      have s_9 : (((4 * (nI i)) + (nI u)) + 1).toNatClampNeg = 4 * i + u + 1 := by simp only [Int32.lt_iff_toInt_lt, Int32.le_iff_toInt_le, q_n0, q_n1, q_n2, q_n3, q_n4, q_n5, q_n6, q_n7, q_n8, q_n9, q_n10, q_n11, q_n12, q_n13, q_n14, q_n15, q_n20, q_n60, q_n1288] at c_3; have l1 : (4 : Int32).toInt = 4 := rfl; have l2 := nI_toInt (n := i) (by omega); have l3 := q_mulI (c := 4) (x := nI i) (k := 4) rfl (by omega); have l4 := nI_toInt (n := u) (by omega); have l5 := q_addI (x := 4 * (nI i)) (y := nI u) (by omega); have l6 : (1 : Int32).toInt = 1 := rfl; have l7 := q_addI (x := (4 * (nI i)) + (nI u)) (y := 1) (by omega); have l8 : 0 ≤ (q_i (S 23 0 i)).toInt ∧ (q_i (S 23 0 i)).toInt ≤ 4 := hI 23 0 i; apply q_tn; omega
      have h_10 : vp_in ((4 * (nI i)) + (nI u)) 24 := by simp only [Int32.lt_iff_toInt_lt, Int32.le_iff_toInt_le, q_n0, q_n1, q_n2, q_n3, q_n4, q_n5, q_n6, q_n7, q_n8, q_n9, q_n10, q_n11, q_n12, q_n13, q_n14, q_n15, q_n20, q_n60, q_n1288] at c_3; have l1 : (4 : Int32).toInt = 4 := rfl; have l2 := nI_toInt (n := i) (by omega); have l3 := q_mulI (c := 4) (x := nI i) (k := 4) rfl (by omega); have l4 := nI_toInt (n := u) (by omega); have l5 := q_addI (x := 4 * (nI i)) (y := nI u) (by omega); have l6 : 0 ≤ (q_i (S 23 0 i)).toInt ∧ (q_i (S 23 0 i)).toInt ≤ 4 := hI 23 0 i; rw [vp_in_iff]; omega
      have s_11 : ((4 * (nI i)) + (nI u)).toNatClampNeg = 4 * i + u := by simp only [Int32.lt_iff_toInt_lt, Int32.le_iff_toInt_le, q_n0, q_n1, q_n2, q_n3, q_n4, q_n5, q_n6, q_n7, q_n8, q_n9, q_n10, q_n11, q_n12, q_n13, q_n14, q_n15, q_n20, q_n60, q_n1288] at c_3; have l1 : (4 : Int32).toInt = 4 := rfl; have l2 := nI_toInt (n := i) (by omega); have l3 := q_mulI (c := 4) (x := nI i) (k := 4) rfl (by omega); have l4 := nI_toInt (n := u) (by omega); have l5 := q_addI (x := 4 * (nI i)) (y := nI u) (by omega); have l6 : 0 ≤ (q_i (S 23 0 i)).toInt ∧ (q_i (S 23 0 i)).toInt ≤ 4 := hI 23 0 i; apply q_tn; omega
      have hI_12 : mI (q_st (q_st S 24 0 (4 * i + u) (.int (q_i (S 24 0 (4 * i + u + 1))))) 25 0 (4 * i + u) (.int (q_i (S 25 0 (4 * i + u + 1))))) := (mIs (mIs hI rfl) rfl)
      have hf : m_fm_await_L1 (n + 1) S i a b v u = m_fm_await_L1 n (q_st (q_st S 24 0 (4 * i + u) (.int (q_i (S 24 0 (4 * i + u + 1))))) 25 0 (4 * i + u) (.int (q_i (S 25 0 (4 * i + u + 1))))) i a b v (u + 1) := by rw [m_fm_await_L1, if_neg c_3]
      rw [hf]
      have hI_904 : mI (q_st (q_st S 24 0 (4 * i + u) (.int (q_i (S 24 0 (4 * i + u + 1))))) 25 0 (4 * i + u) (.int (q_i (S 25 0 (4 * i + u + 1))))) := (mIs (mIs hI rfl) rfl)
      exact ih (q_st (q_st S 24 0 (4 * i + u) (.int (q_i (S 24 0 (4 * i + u + 1))))) 25 0 (4 * i + u) (.int (q_i (S 25 0 (4 * i + u + 1))))) v (u + 1) (by have b1 : 0 ≤ (q_i (S 23 0 i)).toInt ∧ (q_i (S 23 0 i)).toInt ≤ 4 := hI 23 0 i; have n_u := nI_toInt (n := u) (by omega); have m_u := q_nT (n := u) (by omega); simp only [Int32.lt_iff_toInt_lt, Int32.le_iff_toInt_le, q_n0, q_n1, q_n2, q_n3, q_n4, q_n5, q_n6, q_n7, q_n8, q_n9, q_n10, q_n11, q_n12, q_n13, q_n14, q_n15, q_n20, q_n60, q_n1288] at c_3; omega) (by have b1 : 0 ≤ (q_i (S 23 0 i)).toInt ∧ (q_i (S 23 0 i)).toInt ≤ 4 := hI 23 0 i; have n_u := nI_toInt (n := u) (by omega); have m_u := q_nT (n := u) (by omega); simp only [Int32.lt_iff_toInt_lt, Int32.le_iff_toInt_le, q_n0, q_n1, q_n2, q_n3, q_n4, q_n5, q_n6, q_n7, q_n8, q_n9, q_n10, q_n11, q_n12, q_n13, q_n14, q_n15, q_n20, q_n60, q_n1288] at c_3; omega) (by rw [q_kj (by decide), q_kj (by decide)]; exact hk) hI_904
def m_fm_await_L0 : Nat → q_S → Nat → Int32 → Int32 → Nat → q_S
  | 0, S, _, _, _, _ => S
  | n + 1, S, i, a, b, t =>
    if q_i (S 23 0 i) ≤ nI t then
      S
    else
      if q_i (S 24 0 (4 * i + t)) = a then
        if (m_fm_put S i 7 a (q_i (S 25 0 (4 * i + t)))).1 = 0 then
          (m_fm_put S i 7 a (q_i (S 25 0 (4 * i + t)))).2
        else
          q_st (q_st (q_st (m_fm_await_L1 5 (q_st ((m_fm_put S i 7 a (q_i (S 25 0 (4 * i + t)))).2) 23 0 i (.int ((q_i (S 23 0 i)) - 1))) i a b (q_i (S 25 0 (4 * i + t))) t) 14 0 (4 * i + b.toNatClampNeg) (.int (q_i (S 25 0 (4 * i + t))))) 11 0 i (.int ((q_i (S 11 0 i)) + 1))) 10 0 i (.int 0)
      else
        m_fm_await_L0 n S i a b (t + 1)
set_option maxRecDepth 100000 in
set_option maxHeartbeats 4000000 in
theorem mL_fm_await_L0 (l : Launch) (G : q_G) (i : Nat) (a b : Int32) (hi : i < 6) (hto : 0 ≤ b.toInt ∧ b.toInt ≤ 3) {p : Program} {e : Env} {s : State} {m : MethodId} {below : List Frame} {meth : Method} {c : Code} (hC : q_C mX G p m c mb_fm_await 8 s ([.ref (q_a mX G 0 0), .int (nI i), .int a, .int b] : List Value).toArray (q_ws (q_gw lw_tbl) my_fm_await mb_fm_await 8 none) mR_fm) (hr : meth.sig.returnType = none) (hlocks : meth.locks = false) : ∀ (n : Nat) (S : q_S) (t : Nat) (H : Heap) (locs : List Loc) (ls : Array Slot), t + n = 5 → t ≤ 4 → (q_i (S 11 0 i)).toInt ≤ 13 → mI S → (q_i (S 16 0 i)).toInt ≤ (q_i (S 15 0 i)).toInt → mQ S → q_w mX G s S H → va_S (q_A mX G) s.heap H locs → lv_has ls 8 [(0, .ref (q_a mX G 0 0)), (1, .int (nI i)), (2, .int a), (3, .int b), (4, .int (nI t))] → W p l e (headSpec (q_ws (q_gw lw_tbl) my_fm_await mb_fm_await 8 none) (q_rm 5)).room s m ([.ref (q_a mX G 0 0), .int (nI i), .int a, .int b] : List Value).toArray below meth c H locs 0 0 (MQ below (va_Qv (fun (u : q_S) => u = m_fm_await_L0 n S i a b t) (q_P mX G) (q_A mX G)) ([.ref (q_a mX G 0 0), .int (nI i), .int a, .int b] : List Value).toArray s 0 0 (q_A mX G)) (F0 m 19 ls []) := by
  have hx := hC.1.1
  have hb := hC.1.2.1
  intro n
  induction n with
  | zero =>
    intro S t H locs ls ht hu hp hI hg hQ hW hS hl
    exfalso
    omega
  | succ n ih =>
    intro S t H locs ls ht hu hp hI hg hQ hW hS hl
    refine lv_iload hx hb md_fm_await_19 (lv_at hl 4 rfl) ?_
    refine lv_aload_n hx hb md_fm_await_21 rfl (lv_at hl 0 rfl) ?_
    refine mg_fm_77 hC hW 0 Nat.one_pos md_fm_await_22 ?_
    refine lv_iload_n hx hb md_fm_await_25 rfl (lv_at hl 1 rfl) ?_
    have h_1 : vp_in (nI i) 6 := by have l1 := nI_toInt (n := i) (by omega); rw [vp_in_iff]; omega
    have s_2 : (nI i).toNatClampNeg = i := by have l1 := nI_toInt (n := i) (by omega); apply q_tn; omega
    refine male_23 hC hW h_1 s_2 (rfl) md_fm_await_26 ?_
    refine lv_icmp_ge (tgt := 194) hx hb md_fm_await_27 (by decide) (fun c_3 => ?_) (fun c_3 => ?_)
    · -- taken
      have hf : m_fm_await_L0 (n + 1) S i a b t = S := by rw [m_fm_await_L0, if_pos c_3]
      rw [hf]
      exact q_vret hC hr hlocks hW hS rfl md_fm_await_194
    · -- not taken
      refine lv_aload_n hx hb md_fm_await_30 rfl (lv_at hl 0 rfl) ?_
      refine mg_fm_80 hC hW 0 Nat.one_pos md_fm_await_31 ?_
      refine lv_iconst (v := 4) hx hb md_fm_await_34 (by decide) ?_
      refine lv_iload_n hx hb md_fm_await_35 rfl (lv_at hl 1 rfl) ?_
      refine lv_imul hx hb md_fm_await_36 ?_
      refine lv_iload hx hb md_fm_await_37 (lv_at hl 4 rfl) ?_
      refine lv_iadd hx hb md_fm_await_39 ?_
      have h_4 : vp_in ((4 * (nI i)) + (nI t)) 24 := by simp only [Int32.lt_iff_toInt_lt, Int32.le_iff_toInt_le, q_n0, q_n1, q_n2, q_n3, q_n4, q_n5, q_n6, q_n7, q_n8, q_n9, q_n10, q_n11, q_n12, q_n13, q_n14, q_n15, q_n20, q_n60, q_n1288] at c_3; have l1 : (4 : Int32).toInt = 4 := rfl; have l2 := nI_toInt (n := i) (by omega); have l3 := q_mulI (c := 4) (x := nI i) (k := 4) rfl (by omega); have l4 := nI_toInt (n := t) (by omega); have l5 := q_addI (x := 4 * (nI i)) (y := nI t) (by omega); have l6 : 0 ≤ (q_i (S 23 0 i)).toInt ∧ (q_i (S 23 0 i)).toInt ≤ 4 := hI 23 0 i; rw [vp_in_iff]; omega
      have s_5 : ((4 * (nI i)) + (nI t)).toNatClampNeg = 4 * i + t := by simp only [Int32.lt_iff_toInt_lt, Int32.le_iff_toInt_le, q_n0, q_n1, q_n2, q_n3, q_n4, q_n5, q_n6, q_n7, q_n8, q_n9, q_n10, q_n11, q_n12, q_n13, q_n14, q_n15, q_n20, q_n60, q_n1288] at c_3; have l1 : (4 : Int32).toInt = 4 := rfl; have l2 := nI_toInt (n := i) (by omega); have l3 := q_mulI (c := 4) (x := nI i) (k := 4) rfl (by omega); have l4 := nI_toInt (n := t) (by omega); have l5 := q_addI (x := 4 * (nI i)) (y := nI t) (by omega); have l6 : 0 ≤ (q_i (S 23 0 i)).toInt ∧ (q_i (S 23 0 i)).toInt ≤ 4 := hI 23 0 i; apply q_tn; omega
      refine male_24 hC hW h_4 s_5 (rfl) md_fm_await_40 ?_
      refine lv_iload_n hx hb md_fm_await_41 rfl (lv_at hl 2 rfl) ?_
      refine lv_icmp_eq (tgt := 48) hx hb md_fm_await_42 (by decide) (fun c_6 => ?_) (fun c_6 => ?_)
      · -- taken
        refine lv_aload_n hx hb md_fm_await_48 rfl (lv_at hl 0 rfl) ?_
        refine mg_fm_83 hC hW 0 Nat.one_pos md_fm_await_49 ?_
        refine lv_iconst (v := 4) hx hb md_fm_await_52 (by decide) ?_
        refine lv_iload_n hx hb md_fm_await_53 rfl (lv_at hl 1 rfl) ?_
        refine lv_imul hx hb md_fm_await_54 ?_
        refine lv_iload hx hb md_fm_await_55 (lv_at hl 4 rfl) ?_
        refine lv_iadd hx hb md_fm_await_57 ?_
        have h_7 : vp_in ((4 * (nI i)) + (nI t)) 24 := by have e_c_6 : (q_i (S 24 0 (4 * i + t))).toInt = (a).toInt := (by rw [c_6]); simp only [Int32.lt_iff_toInt_lt, Int32.le_iff_toInt_le, q_n0, q_n1, q_n2, q_n3, q_n4, q_n5, q_n6, q_n7, q_n8, q_n9, q_n10, q_n11, q_n12, q_n13, q_n14, q_n15, q_n20, q_n60, q_n1288] at c_3; have l1 : (4 : Int32).toInt = 4 := rfl; have l2 := nI_toInt (n := i) (by omega); have l3 := q_mulI (c := 4) (x := nI i) (k := 4) rfl (by omega); have l4 := nI_toInt (n := t) (by omega); have l5 := q_addI (x := 4 * (nI i)) (y := nI t) (by omega); have l6 : 0 ≤ (q_i (S 23 0 i)).toInt ∧ (q_i (S 23 0 i)).toInt ≤ 4 := hI 23 0 i; rw [vp_in_iff]; omega
        have s_8 : ((4 * (nI i)) + (nI t)).toNatClampNeg = 4 * i + t := by have e_c_6 : (q_i (S 24 0 (4 * i + t))).toInt = (a).toInt := (by rw [c_6]); simp only [Int32.lt_iff_toInt_lt, Int32.le_iff_toInt_le, q_n0, q_n1, q_n2, q_n3, q_n4, q_n5, q_n6, q_n7, q_n8, q_n9, q_n10, q_n11, q_n12, q_n13, q_n14, q_n15, q_n20, q_n60, q_n1288] at c_3; have l1 : (4 : Int32).toInt = 4 := rfl; have l2 := nI_toInt (n := i) (by omega); have l3 := q_mulI (c := 4) (x := nI i) (k := 4) rfl (by omega); have l4 := nI_toInt (n := t) (by omega); have l5 := q_addI (x := 4 * (nI i)) (y := nI t) (by omega); have l6 : 0 ≤ (q_i (S 23 0 i)).toInt ∧ (q_i (S 23 0 i)).toInt ≤ 4 := hI 23 0 i; apply q_tn; omega
        refine male_25 hC hW h_7 s_8 (rfl) md_fm_await_58 ?_
        refine lv_istore (lv' := [(5, .int (q_i (S 25 0 (4 * i + t)))), (0, .ref (q_a mX G 0 0)), (1, .int (nI i)), (2, .int a), (3, .int b), (4, .int (nI t))]) hx hb md_fm_await_59 hl (by decide) rfl (fun ls hl => ?_)
        refine lv_aload_n hx hb md_fm_await_61 rfl (lv_at hl 1 rfl) ?_
        refine lv_iload_n hx hb md_fm_await_62 rfl (lv_at hl 2 rfl) ?_
        refine lv_bipush (v := 7) hx hb md_fm_await_63 (by decide) ?_
        refine lv_iload_n hx hb md_fm_await_65 rfl (lv_at hl 3 rfl) ?_
        refine lv_iload hx hb md_fm_await_66 (lv_at hl 0 rfl) ?_
        refine W.eq (g2 := F0 m 68 ls [.int (q_i (S 25 0 (4 * i + t))), .int a, .int 7, .int (nI i), .ref (q_a mX G 0 0)]) rfl ?_
        refine q_calli hC hS (fun _ h => h) (q_runV (rest := []) hC hW (mC_fm_put l G S i 7 a (q_i (S 25 0 (4 * i + t))) hi hI hg) (mc_fm_150 (q_rm 4) hC.1.2.2.2.2 ⟨Nat.le_of_ble_eq_true rfl, Nat.le_of_ble_eq_true rfl⟩ rfl rfl) Nat.one_pos rfl rfl rfl hl.1 rfl (Nat.le_of_ble_eq_true rfl) md_fm_await_68 ⟨Nat.zero_le _, Nat.zero_le _⟩) (fun H locs hW hS => ?_)
        refine lv_istore (lv' := [(6, .int ((m_fm_put S i 7 a (q_i (S 25 0 (4 * i + t)))).1)), (5, .int (q_i (S 25 0 (4 * i + t)))), (0, .ref (q_a mX G 0 0)), (1, .int (nI i)), (2, .int a), (3, .int b), (4, .int (nI t))]) hx hb md_fm_await_71 hl (by decide) rfl (fun ls hl => ?_)
        refine lv_iload hx hb md_fm_await_73 (lv_at hl 0 rfl) ?_
        refine lv_if_ne (tgt := 79) hx hb md_fm_await_75 (by decide) (fun c_9 => ?_) (fun c_9 => ?_)
        · -- taken
          refine lv_aload_n hx hb md_fm_await_79 rfl (lv_at hl 2 rfl) ?_
          refine mg_fm_77 hC hW 0 Nat.one_pos md_fm_await_80 ?_
          refine lv_iload_n hx hb md_fm_await_83 rfl (lv_at hl 3 rfl) ?_
          refine lv_dup2_11 hx hb md_fm_await_84 rfl rfl ?_
          have h_10 : vp_in (nI i) 6 := by have e_c_6 : (q_i (S 24 0 (4 * i + t))).toInt = (a).toInt := (by rw [c_6]); have e_c_9 := lv_neT c_9 (a := 0) (by decide); simp only [Int32.lt_iff_toInt_lt, Int32.le_iff_toInt_le, q_n0, q_n1, q_n2, q_n3, q_n4, q_n5, q_n6, q_n7, q_n8, q_n9, q_n10, q_n11, q_n12, q_n13, q_n14, q_n15, q_n20, q_n60, q_n1288] at c_3; have l1 := nI_toInt (n := i) (by omega); have l2 : 0 ≤ (q_i (S 23 0 i)).toInt ∧ (q_i (S 23 0 i)).toInt ≤ 4 := hI 23 0 i; have l3 := nI_toInt (n := t) (by omega); rw [vp_in_iff]; omega
          have s_11 : (nI i).toNatClampNeg = i := by have e_c_6 : (q_i (S 24 0 (4 * i + t))).toInt = (a).toInt := (by rw [c_6]); have e_c_9 := lv_neT c_9 (a := 0) (by decide); simp only [Int32.lt_iff_toInt_lt, Int32.le_iff_toInt_le, q_n0, q_n1, q_n2, q_n3, q_n4, q_n5, q_n6, q_n7, q_n8, q_n9, q_n10, q_n11, q_n12, q_n13, q_n14, q_n15, q_n20, q_n60, q_n1288] at c_3; have l1 := nI_toInt (n := i) (by omega); have l2 : 0 ≤ (q_i (S 23 0 i)).toInt ∧ (q_i (S 23 0 i)).toInt ≤ 4 := hI 23 0 i; have l3 := nI_toInt (n := t) (by omega); apply q_tn; omega
          refine male_23 hC hW h_10 s_11 (q_kc (mK_fm_put S i 7 a (q_i (S 25 0 (4 * i + t))) _ _ _ (by decide) (by decide) (by decide) (by decide) (by decide) (by decide) (by decide) (by decide) (by decide) (by decide) (by decide) (by decide)) (rfl)) md_fm_await_85 ?_
          refine lv_iconst (v := 1) hx hb md_fm_await_86 (by decide) ?_
          refine lv_isub hx hb md_fm_await_87 ?_
          have h_12 : vp_in (nI i) 6 := by have e_c_6 : (q_i (S 24 0 (4 * i + t))).toInt = (a).toInt := (by rw [c_6]); have e_c_9 := lv_neT c_9 (a := 0) (by decide); simp only [Int32.lt_iff_toInt_lt, Int32.le_iff_toInt_le, q_n0, q_n1, q_n2, q_n3, q_n4, q_n5, q_n6, q_n7, q_n8, q_n9, q_n10, q_n11, q_n12, q_n13, q_n14, q_n15, q_n20, q_n60, q_n1288] at c_3; have l1 := nI_toInt (n := i) (by omega); have l2 : 0 ≤ (q_i (S 23 0 i)).toInt ∧ (q_i (S 23 0 i)).toInt ≤ 4 := hI 23 0 i; have l3 := nI_toInt (n := t) (by omega); rw [vp_in_iff]; omega
          have s_13 : (nI i).toNatClampNeg = i := by have e_c_6 : (q_i (S 24 0 (4 * i + t))).toInt = (a).toInt := (by rw [c_6]); have e_c_9 := lv_neT c_9 (a := 0) (by decide); simp only [Int32.lt_iff_toInt_lt, Int32.le_iff_toInt_le, q_n0, q_n1, q_n2, q_n3, q_n4, q_n5, q_n6, q_n7, q_n8, q_n9, q_n10, q_n11, q_n12, q_n13, q_n14, q_n15, q_n20, q_n60, q_n1288] at c_3; have l1 := nI_toInt (n := i) (by omega); have l2 : 0 ≤ (q_i (S 23 0 i)).toInt ∧ (q_i (S 23 0 i)).toInt ≤ 4 := hI 23 0 i; have l3 := nI_toInt (n := t) (by omega); apply q_tn; omega
          refine mase_23 hC hW hS (fun _ h => h) h_12 s_13 md_fm_await_88 (fun H locs hW hS => ?_)
          refine lv_iload hx hb md_fm_await_89 (lv_at hl 6 rfl) ?_
          refine lv_istore (lv' := [(7, .int (nI t)), (6, .int ((m_fm_put S i 7 a (q_i (S 25 0 (4 * i + t)))).1)), (5, .int (q_i (S 25 0 (4 * i + t)))), (0, .ref (q_a mX G 0 0)), (1, .int (nI i)), (2, .int a), (3, .int b), (4, .int (nI t))]) hx hb md_fm_await_91 hl (by decide) rfl (fun ls hl => ?_)
          have hl2 : lv_has ls 8 [(0, .ref (q_a mX G 0 0)), (1, .int (nI i)), (3, .int b), (5, .int (q_i (S 25 0 (4 * i + t)))), (7, .int (nI t))] := by exact lv_sub hl [3, 4, 6, 2, 0] rfl
          have hI_14 : mI (q_st ((m_fm_put S i 7 a (q_i (S 25 0 (4 * i + t)))).2) 23 0 i (.int ((q_i (S 23 0 i)) - 1))) := (mI_st (mI_fm_put S i 7 a (q_i (S 25 0 (4 * i + t))) hi hI hg) (by have e_c_6 : (q_i (S 24 0 (4 * i + t))).toInt = (a).toInt := (by rw [c_6]); have e_c_9 := lv_neT c_9 (a := 0) (by decide); simp only [Int32.lt_iff_toInt_lt, Int32.le_iff_toInt_le, q_n0, q_n1, q_n2, q_n3, q_n4, q_n5, q_n6, q_n7, q_n8, q_n9, q_n10, q_n11, q_n12, q_n13, q_n14, q_n15, q_n20, q_n60, q_n1288] at c_3; have l1 : 0 ≤ (q_i (S 23 0 i)).toInt ∧ (q_i (S 23 0 i)).toInt ≤ 4 := hI 23 0 i; have l2 : (1 : Int32).toInt = 1 := rfl; have l3 := q_subI (x := q_i (S 23 0 i)) (y := 1) (by omega); have l4 := nI_toInt (n := t) (by omega); show 0 ≤ ((q_i (S 23 0 i)) - 1).toInt ∧ ((q_i (S 23 0 i)) - 1).toInt ≤ 4; omega))
          refine mL_fm_await_L1 l G i a b hi hto hC 5 (q_st ((m_fm_put S i 7 a (q_i (S 25 0 (4 * i + t)))).2) 23 0 i (.int ((q_i (S 23 0 i)) - 1))) (q_i (S 25 0 (4 * i + t))) t _ _ ls (by have b1 : 0 ≤ (q_i (S 23 0 i)).toInt ∧ (q_i (S 23 0 i)).toInt ≤ 4 := hI 23 0 i; have n_t := nI_toInt (n := t) (by omega); have m_t := q_nT (n := t) (by omega); simp only [Int32.lt_iff_toInt_lt, Int32.le_iff_toInt_le, q_n0, q_n1, q_n2, q_n3, q_n4, q_n5, q_n6, q_n7, q_n8, q_n9, q_n10, q_n11, q_n12, q_n13, q_n14, q_n15, q_n20, q_n60, q_n1288] at c_3; omega) (by have b1 : 0 ≤ (q_i (S 23 0 i)).toInt ∧ (q_i (S 23 0 i)).toInt ≤ 4 := hI 23 0 i; have n_t := nI_toInt (n := t) (by omega); have m_t := q_nT (n := t) (by omega); simp only [Int32.lt_iff_toInt_lt, Int32.le_iff_toInt_le, q_n0, q_n1, q_n2, q_n3, q_n4, q_n5, q_n6, q_n7, q_n8, q_n9, q_n10, q_n11, q_n12, q_n13, q_n14, q_n15, q_n20, q_n60, q_n1288] at c_3; omega) (by rw [q_ss]; have e_c_6 : (q_i (S 24 0 (4 * i + t))).toInt = (a).toInt := (by rw [c_6]); have e_c_9 := lv_neT c_9 (a := 0) (by decide); simp only [Int32.lt_iff_toInt_lt, Int32.le_iff_toInt_le, q_n0, q_n1, q_n2, q_n3, q_n4, q_n5, q_n6, q_n7, q_n8, q_n9, q_n10, q_n11, q_n12, q_n13, q_n14, q_n15, q_n20, q_n60, q_n1288] at c_3; have l1 : 0 ≤ (q_i (S 23 0 i)).toInt ∧ (q_i (S 23 0 i)).toInt ≤ 4 := hI 23 0 i; have l2 : (1 : Int32).toInt = 1 := rfl; have l3 := q_subI (x := q_i (S 23 0 i)) (y := 1) (by omega); have l4 := nI_toInt (n := t) (by omega); omega) hI_14 hW hS hl2 (fun H locs ls hW hS hl => ?_)
          refine lv_aload_n hx hb md_fm_await_158 rfl (lv_at hl 0 rfl) ?_
          refine mg_fm_50 hC hW 0 Nat.one_pos md_fm_await_159 ?_
          refine lv_iconst (v := 4) hx hb md_fm_await_162 (by decide) ?_
          refine lv_iload_n hx hb md_fm_await_163 rfl (lv_at hl 1 rfl) ?_
          refine W.eq (g2 := F0 m 164 ls [.int (nI i), .int 4, .ref (q_a mX G 14 0)]) rfl ?_
          refine lv_imul hx hb md_fm_await_164 ?_
          refine lv_iload_n hx hb md_fm_await_165 rfl (lv_at hl 2 rfl) ?_
          refine lv_iadd hx hb md_fm_await_166 ?_
          refine lv_iload hx hb md_fm_await_167 (lv_at hl 3 rfl) ?_
          have h_15 : vp_in ((4 * (nI i)) + b) 24 := by have e_c_6 : (q_i (S 24 0 (4 * i + t))).toInt = (a).toInt := (by rw [c_6]); have e_c_9 := lv_neT c_9 (a := 0) (by decide); simp only [Int32.lt_iff_toInt_lt, Int32.le_iff_toInt_le, q_n0, q_n1, q_n2, q_n3, q_n4, q_n5, q_n6, q_n7, q_n8, q_n9, q_n10, q_n11, q_n12, q_n13, q_n14, q_n15, q_n20, q_n60, q_n1288] at c_3; have l1 : (4 : Int32).toInt = 4 := rfl; have l2 := nI_toInt (n := i) (by omega); have l3 := q_mulI (c := 4) (x := nI i) (k := 4) rfl (by omega); have l4 := q_addI (x := 4 * (nI i)) (y := b) (by omega); have l5 : 0 ≤ (q_i (S 23 0 i)).toInt ∧ (q_i (S 23 0 i)).toInt ≤ 4 := hI 23 0 i; have l6 := nI_toInt (n := t) (by omega); rw [vp_in_iff]; omega
          have s_16 : ((4 * (nI i)) + b).toNatClampNeg = 4 * i + b.toNatClampNeg := by have e_c_6 : (q_i (S 24 0 (4 * i + t))).toInt = (a).toInt := (by rw [c_6]); have e_c_9 := lv_neT c_9 (a := 0) (by decide); simp only [Int32.lt_iff_toInt_lt, Int32.le_iff_toInt_le, q_n0, q_n1, q_n2, q_n3, q_n4, q_n5, q_n6, q_n7, q_n8, q_n9, q_n10, q_n11, q_n12, q_n13, q_n14, q_n15, q_n20, q_n60, q_n1288] at c_3; have l1 : (4 : Int32).toInt = 4 := rfl; have l2 := nI_toInt (n := i) (by omega); have l3 := q_mulI (c := 4) (x := nI i) (k := 4) rfl (by omega); have l4 := q_addI (x := 4 * (nI i)) (y := b) (by omega); have l5 : 0 ≤ (q_i (S 23 0 i)).toInt ∧ (q_i (S 23 0 i)).toInt ≤ 4 := hI 23 0 i; have l6 := nI_toInt (n := t) (by omega); have c0 := q_clI (x := b) (by omega); apply q_tn; omega
          refine mase_14 hC hW hS (fun _ h => h) h_15 s_16 md_fm_await_169 (fun H locs hW hS => ?_)
          refine lv_aload_n hx hb md_fm_await_170 rfl (lv_at hl 0 rfl) ?_
          refine mg_fm_41 hC hW 0 Nat.one_pos md_fm_await_171 ?_
          refine lv_iload_n hx hb md_fm_await_174 rfl (lv_at hl 1 rfl) ?_
          refine lv_dup2_11 hx hb md_fm_await_175 rfl rfl ?_
          have h_17 : vp_in (nI i) 6 := by have e_c_6 : (q_i (S 24 0 (4 * i + t))).toInt = (a).toInt := (by rw [c_6]); have e_c_9 := lv_neT c_9 (a := 0) (by decide); simp only [Int32.lt_iff_toInt_lt, Int32.le_iff_toInt_le, q_n0, q_n1, q_n2, q_n3, q_n4, q_n5, q_n6, q_n7, q_n8, q_n9, q_n10, q_n11, q_n12, q_n13, q_n14, q_n15, q_n20, q_n60, q_n1288] at c_3; have l1 := nI_toInt (n := i) (by omega); have l2 : 0 ≤ (q_i (S 23 0 i)).toInt ∧ (q_i (S 23 0 i)).toInt ≤ 4 := hI 23 0 i; have l3 := nI_toInt (n := t) (by omega); rw [vp_in_iff]; omega
          have s_18 : (nI i).toNatClampNeg = i := by have e_c_6 : (q_i (S 24 0 (4 * i + t))).toInt = (a).toInt := (by rw [c_6]); have e_c_9 := lv_neT c_9 (a := 0) (by decide); simp only [Int32.lt_iff_toInt_lt, Int32.le_iff_toInt_le, q_n0, q_n1, q_n2, q_n3, q_n4, q_n5, q_n6, q_n7, q_n8, q_n9, q_n10, q_n11, q_n12, q_n13, q_n14, q_n15, q_n20, q_n60, q_n1288] at c_3; have l1 := nI_toInt (n := i) (by omega); have l2 : 0 ≤ (q_i (S 23 0 i)).toInt ∧ (q_i (S 23 0 i)).toInt ≤ 4 := hI 23 0 i; have l3 := nI_toInt (n := t) (by omega); apply q_tn; omega
          refine male_11 hC hW h_17 s_18 (q_sj (by decide) (q_kc (mK_fm_await_L1 5 (q_st ((m_fm_put S i 7 a (q_i (S 25 0 (4 * i + t)))).2) 23 0 i (.int ((q_i (S 23 0 i)) - 1))) i a b (q_i (S 25 0 (4 * i + t))) t _ _ _ (by decide) (by decide)) (q_sj (by decide) (q_kc (mK_fm_put S i 7 a (q_i (S 25 0 (4 * i + t))) _ _ _ (by decide) (by decide) (by decide) (by decide) (by decide) (by decide) (by decide) (by decide) (by decide) (by decide) (by decide) (by decide)) (rfl))))) md_fm_await_176 ?_
          refine lv_iconst (v := 1) hx hb md_fm_await_177 (by decide) ?_
          refine lv_iadd hx hb md_fm_await_178 ?_
          have h_19 : vp_in (nI i) 6 := by have e_c_6 : (q_i (S 24 0 (4 * i + t))).toInt = (a).toInt := (by rw [c_6]); have e_c_9 := lv_neT c_9 (a := 0) (by decide); simp only [Int32.lt_iff_toInt_lt, Int32.le_iff_toInt_le, q_n0, q_n1, q_n2, q_n3, q_n4, q_n5, q_n6, q_n7, q_n8, q_n9, q_n10, q_n11, q_n12, q_n13, q_n14, q_n15, q_n20, q_n60, q_n1288] at c_3; have l1 := nI_toInt (n := i) (by omega); have l2 : 0 ≤ (q_i (S 23 0 i)).toInt ∧ (q_i (S 23 0 i)).toInt ≤ 4 := hI 23 0 i; have l3 := nI_toInt (n := t) (by omega); rw [vp_in_iff]; omega
          have s_20 : (nI i).toNatClampNeg = i := by have e_c_6 : (q_i (S 24 0 (4 * i + t))).toInt = (a).toInt := (by rw [c_6]); have e_c_9 := lv_neT c_9 (a := 0) (by decide); simp only [Int32.lt_iff_toInt_lt, Int32.le_iff_toInt_le, q_n0, q_n1, q_n2, q_n3, q_n4, q_n5, q_n6, q_n7, q_n8, q_n9, q_n10, q_n11, q_n12, q_n13, q_n14, q_n15, q_n20, q_n60, q_n1288] at c_3; have l1 := nI_toInt (n := i) (by omega); have l2 : 0 ≤ (q_i (S 23 0 i)).toInt ∧ (q_i (S 23 0 i)).toInt ≤ 4 := hI 23 0 i; have l3 := nI_toInt (n := t) (by omega); apply q_tn; omega
          refine mase_11 hC hW hS (fun _ h => h) h_19 s_20 md_fm_await_179 (fun H locs hW hS => ?_)
          refine lv_aload_n hx hb md_fm_await_180 rfl (lv_at hl 0 rfl) ?_
          refine W.eq (g2 := F0 m 181 ls [.ref (q_a mX G 0 0)]) rfl ?_
          refine mg_fm_38 hC hW 0 Nat.one_pos md_fm_await_181 ?_
          refine lv_iload_n hx hb md_fm_await_184 rfl (lv_at hl 1 rfl) ?_
          refine lv_iconst (v := 0) hx hb md_fm_await_185 (by decide) ?_
          have h_21 : vp_in (nI i) 6 := by have e_c_6 : (q_i (S 24 0 (4 * i + t))).toInt = (a).toInt := (by rw [c_6]); have e_c_9 := lv_neT c_9 (a := 0) (by decide); simp only [Int32.lt_iff_toInt_lt, Int32.le_iff_toInt_le, q_n0, q_n1, q_n2, q_n3, q_n4, q_n5, q_n6, q_n7, q_n8, q_n9, q_n10, q_n11, q_n12, q_n13, q_n14, q_n15, q_n20, q_n60, q_n1288] at c_3; have l1 := nI_toInt (n := i) (by omega); have l2 : 0 ≤ (q_i (S 23 0 i)).toInt ∧ (q_i (S 23 0 i)).toInt ≤ 4 := hI 23 0 i; have l3 := nI_toInt (n := t) (by omega); rw [vp_in_iff]; omega
          have s_22 : (nI i).toNatClampNeg = i := by have e_c_6 : (q_i (S 24 0 (4 * i + t))).toInt = (a).toInt := (by rw [c_6]); have e_c_9 := lv_neT c_9 (a := 0) (by decide); simp only [Int32.lt_iff_toInt_lt, Int32.le_iff_toInt_le, q_n0, q_n1, q_n2, q_n3, q_n4, q_n5, q_n6, q_n7, q_n8, q_n9, q_n10, q_n11, q_n12, q_n13, q_n14, q_n15, q_n20, q_n60, q_n1288] at c_3; have l1 := nI_toInt (n := i) (by omega); have l2 : 0 ≤ (q_i (S 23 0 i)).toInt ∧ (q_i (S 23 0 i)).toInt ≤ 4 := hI 23 0 i; have l3 := nI_toInt (n := t) (by omega); apply q_tn; omega
          refine mase_10 hC hW hS (fun _ h => h) h_21 s_22 md_fm_await_186 (fun H locs hW hS => ?_)
          have hf : m_fm_await_L0 (n + 1) S i a b t = q_st (q_st (q_st (m_fm_await_L1 5 (q_st ((m_fm_put S i 7 a (q_i (S 25 0 (4 * i + t)))).2) 23 0 i (.int ((q_i (S 23 0 i)) - 1))) i a b (q_i (S 25 0 (4 * i + t))) t) 14 0 (4 * i + b.toNatClampNeg) (.int (q_i (S 25 0 (4 * i + t))))) 11 0 i (.int ((q_i (S 11 0 i)) + 1))) 10 0 i (.int 0) := by rw [m_fm_await_L0, if_neg c_3, if_pos c_6, if_neg c_9]
          rw [hf]
          exact q_vret hC hr hlocks hW hS rfl md_fm_await_187
        · -- not taken
          have hf : m_fm_await_L0 (n + 1) S i a b t = (m_fm_put S i 7 a (q_i (S 25 0 (4 * i + t)))).2 := by rw [m_fm_await_L0, if_neg c_3, if_pos c_6, if_pos c_9]
          rw [hf]
          exact q_vret hC hr hlocks hW hS rfl md_fm_await_78
      · -- not taken
        refine lv_goto (tgt := 188) hx hb md_fm_await_45 (by decide) ?_
        refine lv_iinc (v := nI t + 1) (lv' := [(4, .int (nI t + 1)), (0, .ref (q_a mX G 0 0)), (1, .int (nI i)), (2, .int a), (3, .int b)]) hx hb md_fm_await_188 hl (k := 4) rfl rfl (by decide) rfl (fun ls hl => ?_)
        refine lv_goto (tgt := 19) hx hb md_fm_await_191 (by decide) ?_
        have hf : m_fm_await_L0 (n + 1) S i a b t = m_fm_await_L0 n S i a b (t + 1) := by rw [m_fm_await_L0, if_neg c_3, if_neg c_6]
        rw [hf]
        have hl2 : lv_has ls 8 [(0, .ref (q_a mX G 0 0)), (1, .int (nI i)), (2, .int a), (3, .int b), (4, .int (nI (t + 1)))] := by rw [← nI_1 t]; exact lv_sub hl [1, 2, 3, 4, 0] rfl
        exact ih S (t + 1) _ _ ls (by have b1 : 0 ≤ (q_i (S 23 0 i)).toInt ∧ (q_i (S 23 0 i)).toInt ≤ 4 := hI 23 0 i; have n_t := nI_toInt (n := t) (by omega); have m_t := q_nT (n := t) (by omega); simp only [Int32.lt_iff_toInt_lt, Int32.le_iff_toInt_le, q_n0, q_n1, q_n2, q_n3, q_n4, q_n5, q_n6, q_n7, q_n8, q_n9, q_n10, q_n11, q_n12, q_n13, q_n14, q_n15, q_n20, q_n60, q_n1288] at c_3; omega) (by have b1 : 0 ≤ (q_i (S 23 0 i)).toInt ∧ (q_i (S 23 0 i)).toInt ≤ 4 := hI 23 0 i; have n_t := nI_toInt (n := t) (by omega); have m_t := q_nT (n := t) (by omega); simp only [Int32.lt_iff_toInt_lt, Int32.le_iff_toInt_le, q_n0, q_n1, q_n2, q_n3, q_n4, q_n5, q_n6, q_n7, q_n8, q_n9, q_n10, q_n11, q_n12, q_n13, q_n14, q_n15, q_n20, q_n60, q_n1288] at c_3; omega) hp hI hg hQ hW hS hl2
set_option maxRecDepth 100000 in
set_option maxHeartbeats 4000000 in
theorem mK_fm_await_L0 : ∀ (n : Nat) (S : q_S) (i : Nat) (a b : Int32) (t : Nat) (x y z : Nat) (h0 : x ≠ 0) (h7 : x ≠ 7) (h8 : x ≠ 8) (h10 : x ≠ 10) (h11 : x ≠ 11) (h14 : x ≠ 14) (h15 : x ≠ 15) (h16 : x ≠ 16) (h17 : x ≠ 17) (h18 : x ≠ 18) (h19 : x ≠ 19) (h23 : x ≠ 23) (h24 : x ≠ 24) (h25 : x ≠ 25) (h29 : x ≠ 29) (h32 : x ≠ 32) (h33 : x ≠ 33), (m_fm_await_L0 n S i a b t) x y z = S x y z := by
  intro n
  induction n with
  | zero => intro S i a b t x y z h0 h7 h8 h10 h11 h14 h15 h16 h17 h18 h19 h23 h24 h25 h29 h32 h33; rfl
  | succ n ih =>
    intro S i a b t x y z h0 h7 h8 h10 h11 h14 h15 h16 h17 h18 h19 h23 h24 h25 h29 h32 h33
    by_cases c_3 : q_i (S 23 0 i) ≤ nI t
    · -- yes
      have hf : m_fm_await_L0 (n + 1) S i a b t = S := by rw [m_fm_await_L0, if_pos c_3]
      rw [hf]
    · -- no
      by_cases c_6 : q_i (S 24 0 (4 * i + t)) = a
      · -- yes
        by_cases c_9 : (m_fm_put S i 7 a (q_i (S 25 0 (4 * i + t)))).1 = 0
        · -- yes
          have hf : m_fm_await_L0 (n + 1) S i a b t = (m_fm_put S i 7 a (q_i (S 25 0 (4 * i + t)))).2 := by rw [m_fm_await_L0, if_neg c_3, if_pos c_6, if_pos c_9]
          rw [hf]
          exact ((mK_fm_put S i 7 a (q_i (S 25 0 (4 * i + t))) x y z h0 h7 h8 h10 h15 h16 h17 h18 h19 h29 h32 h33))
        · -- no
          have hf : m_fm_await_L0 (n + 1) S i a b t = q_st (q_st (q_st (m_fm_await_L1 5 (q_st ((m_fm_put S i 7 a (q_i (S 25 0 (4 * i + t)))).2) 23 0 i (.int ((q_i (S 23 0 i)) - 1))) i a b (q_i (S 25 0 (4 * i + t))) t) 14 0 (4 * i + b.toNatClampNeg) (.int (q_i (S 25 0 (4 * i + t))))) 11 0 i (.int ((q_i (S 11 0 i)) + 1))) 10 0 i (.int 0) := by rw [m_fm_await_L0, if_neg c_3, if_pos c_6, if_neg c_9]
          rw [hf]
          exact (q_kj h10).trans ((q_kj h11).trans ((q_kj h14).trans (((mK_fm_await_L1 5 (q_st ((m_fm_put S i 7 a (q_i (S 25 0 (4 * i + t)))).2) 23 0 i (.int ((q_i (S 23 0 i)) - 1))) i a b (q_i (S 25 0 (4 * i + t))) t x y z h24 h25)).trans ((q_kj h23).trans (((mK_fm_put S i 7 a (q_i (S 25 0 (4 * i + t))) x y z h0 h7 h8 h10 h15 h16 h17 h18 h19 h29 h32 h33)))))))
      · -- no
        have hf : m_fm_await_L0 (n + 1) S i a b t = m_fm_await_L0 n S i a b (t + 1) := by rw [m_fm_await_L0, if_neg c_3, if_neg c_6]
        rw [hf]
        exact (ih S i a b (t + 1) x y z h0 h7 h8 h10 h11 h14 h15 h16 h17 h18 h19 h23 h24 h25 h29 h32 h33).trans (rfl)
set_option maxRecDepth 100000 in
set_option maxHeartbeats 4000000 in
theorem mI_fm_await_L0 (i : Nat) (a b : Int32) (hi : i < 6) (hto : 0 ≤ b.toInt ∧ b.toInt ≤ 3) : ∀ (n : Nat) (S : q_S) (t : Nat), t + n = 5 → t ≤ 4 → (q_i (S 11 0 i)).toInt ≤ 13 → mI S → (q_i (S 16 0 i)).toInt ≤ (q_i (S 15 0 i)).toInt → mQ S → mI (m_fm_await_L0 n S i a b t) := by
  intro n
  induction n with
  | zero =>
    intro S t ht hu hp hI hg hQ
    exfalso
    omega
  | succ n ih =>
    intro S t ht hu hp hI hg hQ
    by_cases c_3 : q_i (S 23 0 i) ≤ nI t
    · -- yes
      have h_1 : vp_in (nI i) 6 := by have l1 := nI_toInt (n := i) (by omega); rw [vp_in_iff]; omega
      have s_2 : (nI i).toNatClampNeg = i := by have l1 := nI_toInt (n := i) (by omega); apply q_tn; omega
      have hf : m_fm_await_L0 (n + 1) S i a b t = S := by rw [m_fm_await_L0, if_pos c_3]
      rw [hf]
      exact hI
    · -- no
      by_cases c_6 : q_i (S 24 0 (4 * i + t)) = a
      · -- yes
        by_cases c_9 : (m_fm_put S i 7 a (q_i (S 25 0 (4 * i + t)))).1 = 0
        · -- yes
          have h_1 : vp_in (nI i) 6 := by have l1 := nI_toInt (n := i) (by omega); rw [vp_in_iff]; omega
          have s_2 : (nI i).toNatClampNeg = i := by have l1 := nI_toInt (n := i) (by omega); apply q_tn; omega
          have h_4 : vp_in ((4 * (nI i)) + (nI t)) 24 := by simp only [Int32.lt_iff_toInt_lt, Int32.le_iff_toInt_le, q_n0, q_n1, q_n2, q_n3, q_n4, q_n5, q_n6, q_n7, q_n8, q_n9, q_n10, q_n11, q_n12, q_n13, q_n14, q_n15, q_n20, q_n60, q_n1288] at c_3; have l1 : (4 : Int32).toInt = 4 := rfl; have l2 := nI_toInt (n := i) (by omega); have l3 := q_mulI (c := 4) (x := nI i) (k := 4) rfl (by omega); have l4 := nI_toInt (n := t) (by omega); have l5 := q_addI (x := 4 * (nI i)) (y := nI t) (by omega); have l6 : 0 ≤ (q_i (S 23 0 i)).toInt ∧ (q_i (S 23 0 i)).toInt ≤ 4 := hI 23 0 i; rw [vp_in_iff]; omega
          have s_5 : ((4 * (nI i)) + (nI t)).toNatClampNeg = 4 * i + t := by simp only [Int32.lt_iff_toInt_lt, Int32.le_iff_toInt_le, q_n0, q_n1, q_n2, q_n3, q_n4, q_n5, q_n6, q_n7, q_n8, q_n9, q_n10, q_n11, q_n12, q_n13, q_n14, q_n15, q_n20, q_n60, q_n1288] at c_3; have l1 : (4 : Int32).toInt = 4 := rfl; have l2 := nI_toInt (n := i) (by omega); have l3 := q_mulI (c := 4) (x := nI i) (k := 4) rfl (by omega); have l4 := nI_toInt (n := t) (by omega); have l5 := q_addI (x := 4 * (nI i)) (y := nI t) (by omega); have l6 : 0 ≤ (q_i (S 23 0 i)).toInt ∧ (q_i (S 23 0 i)).toInt ≤ 4 := hI 23 0 i; apply q_tn; omega
          have h_7 : vp_in ((4 * (nI i)) + (nI t)) 24 := by have e_c_6 : (q_i (S 24 0 (4 * i + t))).toInt = (a).toInt := (by rw [c_6]); simp only [Int32.lt_iff_toInt_lt, Int32.le_iff_toInt_le, q_n0, q_n1, q_n2, q_n3, q_n4, q_n5, q_n6, q_n7, q_n8, q_n9, q_n10, q_n11, q_n12, q_n13, q_n14, q_n15, q_n20, q_n60, q_n1288] at c_3; have l1 : (4 : Int32).toInt = 4 := rfl; have l2 := nI_toInt (n := i) (by omega); have l3 := q_mulI (c := 4) (x := nI i) (k := 4) rfl (by omega); have l4 := nI_toInt (n := t) (by omega); have l5 := q_addI (x := 4 * (nI i)) (y := nI t) (by omega); have l6 : 0 ≤ (q_i (S 23 0 i)).toInt ∧ (q_i (S 23 0 i)).toInt ≤ 4 := hI 23 0 i; rw [vp_in_iff]; omega
          have s_8 : ((4 * (nI i)) + (nI t)).toNatClampNeg = 4 * i + t := by have e_c_6 : (q_i (S 24 0 (4 * i + t))).toInt = (a).toInt := (by rw [c_6]); simp only [Int32.lt_iff_toInt_lt, Int32.le_iff_toInt_le, q_n0, q_n1, q_n2, q_n3, q_n4, q_n5, q_n6, q_n7, q_n8, q_n9, q_n10, q_n11, q_n12, q_n13, q_n14, q_n15, q_n20, q_n60, q_n1288] at c_3; have l1 : (4 : Int32).toInt = 4 := rfl; have l2 := nI_toInt (n := i) (by omega); have l3 := q_mulI (c := 4) (x := nI i) (k := 4) rfl (by omega); have l4 := nI_toInt (n := t) (by omega); have l5 := q_addI (x := 4 * (nI i)) (y := nI t) (by omega); have l6 : 0 ≤ (q_i (S 23 0 i)).toInt ∧ (q_i (S 23 0 i)).toInt ≤ 4 := hI 23 0 i; apply q_tn; omega
          have hf : m_fm_await_L0 (n + 1) S i a b t = (m_fm_put S i 7 a (q_i (S 25 0 (4 * i + t)))).2 := by rw [m_fm_await_L0, if_neg c_3, if_pos c_6, if_pos c_9]
          rw [hf]
          exact (mI_fm_put S i 7 a (q_i (S 25 0 (4 * i + t))) hi hI hg)
        · -- no
          have h_1 : vp_in (nI i) 6 := by have l1 := nI_toInt (n := i) (by omega); rw [vp_in_iff]; omega
          have s_2 : (nI i).toNatClampNeg = i := by have l1 := nI_toInt (n := i) (by omega); apply q_tn; omega
          have h_4 : vp_in ((4 * (nI i)) + (nI t)) 24 := by simp only [Int32.lt_iff_toInt_lt, Int32.le_iff_toInt_le, q_n0, q_n1, q_n2, q_n3, q_n4, q_n5, q_n6, q_n7, q_n8, q_n9, q_n10, q_n11, q_n12, q_n13, q_n14, q_n15, q_n20, q_n60, q_n1288] at c_3; have l1 : (4 : Int32).toInt = 4 := rfl; have l2 := nI_toInt (n := i) (by omega); have l3 := q_mulI (c := 4) (x := nI i) (k := 4) rfl (by omega); have l4 := nI_toInt (n := t) (by omega); have l5 := q_addI (x := 4 * (nI i)) (y := nI t) (by omega); have l6 : 0 ≤ (q_i (S 23 0 i)).toInt ∧ (q_i (S 23 0 i)).toInt ≤ 4 := hI 23 0 i; rw [vp_in_iff]; omega
          have s_5 : ((4 * (nI i)) + (nI t)).toNatClampNeg = 4 * i + t := by simp only [Int32.lt_iff_toInt_lt, Int32.le_iff_toInt_le, q_n0, q_n1, q_n2, q_n3, q_n4, q_n5, q_n6, q_n7, q_n8, q_n9, q_n10, q_n11, q_n12, q_n13, q_n14, q_n15, q_n20, q_n60, q_n1288] at c_3; have l1 : (4 : Int32).toInt = 4 := rfl; have l2 := nI_toInt (n := i) (by omega); have l3 := q_mulI (c := 4) (x := nI i) (k := 4) rfl (by omega); have l4 := nI_toInt (n := t) (by omega); have l5 := q_addI (x := 4 * (nI i)) (y := nI t) (by omega); have l6 : 0 ≤ (q_i (S 23 0 i)).toInt ∧ (q_i (S 23 0 i)).toInt ≤ 4 := hI 23 0 i; apply q_tn; omega
          have h_7 : vp_in ((4 * (nI i)) + (nI t)) 24 := by have e_c_6 : (q_i (S 24 0 (4 * i + t))).toInt = (a).toInt := (by rw [c_6]); simp only [Int32.lt_iff_toInt_lt, Int32.le_iff_toInt_le, q_n0, q_n1, q_n2, q_n3, q_n4, q_n5, q_n6, q_n7, q_n8, q_n9, q_n10, q_n11, q_n12, q_n13, q_n14, q_n15, q_n20, q_n60, q_n1288] at c_3; have l1 : (4 : Int32).toInt = 4 := rfl; have l2 := nI_toInt (n := i) (by omega); have l3 := q_mulI (c := 4) (x := nI i) (k := 4) rfl (by omega); have l4 := nI_toInt (n := t) (by omega); have l5 := q_addI (x := 4 * (nI i)) (y := nI t) (by omega); have l6 : 0 ≤ (q_i (S 23 0 i)).toInt ∧ (q_i (S 23 0 i)).toInt ≤ 4 := hI 23 0 i; rw [vp_in_iff]; omega
          have s_8 : ((4 * (nI i)) + (nI t)).toNatClampNeg = 4 * i + t := by have e_c_6 : (q_i (S 24 0 (4 * i + t))).toInt = (a).toInt := (by rw [c_6]); simp only [Int32.lt_iff_toInt_lt, Int32.le_iff_toInt_le, q_n0, q_n1, q_n2, q_n3, q_n4, q_n5, q_n6, q_n7, q_n8, q_n9, q_n10, q_n11, q_n12, q_n13, q_n14, q_n15, q_n20, q_n60, q_n1288] at c_3; have l1 : (4 : Int32).toInt = 4 := rfl; have l2 := nI_toInt (n := i) (by omega); have l3 := q_mulI (c := 4) (x := nI i) (k := 4) rfl (by omega); have l4 := nI_toInt (n := t) (by omega); have l5 := q_addI (x := 4 * (nI i)) (y := nI t) (by omega); have l6 : 0 ≤ (q_i (S 23 0 i)).toInt ∧ (q_i (S 23 0 i)).toInt ≤ 4 := hI 23 0 i; apply q_tn; omega
          have h_10 : vp_in (nI i) 6 := by have e_c_6 : (q_i (S 24 0 (4 * i + t))).toInt = (a).toInt := (by rw [c_6]); have e_c_9 := lv_neT c_9 (a := 0) (by decide); simp only [Int32.lt_iff_toInt_lt, Int32.le_iff_toInt_le, q_n0, q_n1, q_n2, q_n3, q_n4, q_n5, q_n6, q_n7, q_n8, q_n9, q_n10, q_n11, q_n12, q_n13, q_n14, q_n15, q_n20, q_n60, q_n1288] at c_3; have l1 := nI_toInt (n := i) (by omega); have l2 : 0 ≤ (q_i (S 23 0 i)).toInt ∧ (q_i (S 23 0 i)).toInt ≤ 4 := hI 23 0 i; have l3 := nI_toInt (n := t) (by omega); rw [vp_in_iff]; omega
          have s_11 : (nI i).toNatClampNeg = i := by have e_c_6 : (q_i (S 24 0 (4 * i + t))).toInt = (a).toInt := (by rw [c_6]); have e_c_9 := lv_neT c_9 (a := 0) (by decide); simp only [Int32.lt_iff_toInt_lt, Int32.le_iff_toInt_le, q_n0, q_n1, q_n2, q_n3, q_n4, q_n5, q_n6, q_n7, q_n8, q_n9, q_n10, q_n11, q_n12, q_n13, q_n14, q_n15, q_n20, q_n60, q_n1288] at c_3; have l1 := nI_toInt (n := i) (by omega); have l2 : 0 ≤ (q_i (S 23 0 i)).toInt ∧ (q_i (S 23 0 i)).toInt ≤ 4 := hI 23 0 i; have l3 := nI_toInt (n := t) (by omega); apply q_tn; omega
          have h_12 : vp_in (nI i) 6 := by have e_c_6 : (q_i (S 24 0 (4 * i + t))).toInt = (a).toInt := (by rw [c_6]); have e_c_9 := lv_neT c_9 (a := 0) (by decide); simp only [Int32.lt_iff_toInt_lt, Int32.le_iff_toInt_le, q_n0, q_n1, q_n2, q_n3, q_n4, q_n5, q_n6, q_n7, q_n8, q_n9, q_n10, q_n11, q_n12, q_n13, q_n14, q_n15, q_n20, q_n60, q_n1288] at c_3; have l1 := nI_toInt (n := i) (by omega); have l2 : 0 ≤ (q_i (S 23 0 i)).toInt ∧ (q_i (S 23 0 i)).toInt ≤ 4 := hI 23 0 i; have l3 := nI_toInt (n := t) (by omega); rw [vp_in_iff]; omega
          have s_13 : (nI i).toNatClampNeg = i := by have e_c_6 : (q_i (S 24 0 (4 * i + t))).toInt = (a).toInt := (by rw [c_6]); have e_c_9 := lv_neT c_9 (a := 0) (by decide); simp only [Int32.lt_iff_toInt_lt, Int32.le_iff_toInt_le, q_n0, q_n1, q_n2, q_n3, q_n4, q_n5, q_n6, q_n7, q_n8, q_n9, q_n10, q_n11, q_n12, q_n13, q_n14, q_n15, q_n20, q_n60, q_n1288] at c_3; have l1 := nI_toInt (n := i) (by omega); have l2 : 0 ≤ (q_i (S 23 0 i)).toInt ∧ (q_i (S 23 0 i)).toInt ≤ 4 := hI 23 0 i; have l3 := nI_toInt (n := t) (by omega); apply q_tn; omega
          have hI_14 : mI (q_st ((m_fm_put S i 7 a (q_i (S 25 0 (4 * i + t)))).2) 23 0 i (.int ((q_i (S 23 0 i)) - 1))) := (mI_st (mI_fm_put S i 7 a (q_i (S 25 0 (4 * i + t))) hi hI hg) (by have e_c_6 : (q_i (S 24 0 (4 * i + t))).toInt = (a).toInt := (by rw [c_6]); have e_c_9 := lv_neT c_9 (a := 0) (by decide); simp only [Int32.lt_iff_toInt_lt, Int32.le_iff_toInt_le, q_n0, q_n1, q_n2, q_n3, q_n4, q_n5, q_n6, q_n7, q_n8, q_n9, q_n10, q_n11, q_n12, q_n13, q_n14, q_n15, q_n20, q_n60, q_n1288] at c_3; have l1 : 0 ≤ (q_i (S 23 0 i)).toInt ∧ (q_i (S 23 0 i)).toInt ≤ 4 := hI 23 0 i; have l2 : (1 : Int32).toInt = 1 := rfl; have l3 := q_subI (x := q_i (S 23 0 i)) (y := 1) (by omega); have l4 := nI_toInt (n := t) (by omega); show 0 ≤ ((q_i (S 23 0 i)) - 1).toInt ∧ ((q_i (S 23 0 i)) - 1).toInt ≤ 4; omega))
          have h_15 : vp_in ((4 * (nI i)) + b) 24 := by have e_c_6 : (q_i (S 24 0 (4 * i + t))).toInt = (a).toInt := (by rw [c_6]); have e_c_9 := lv_neT c_9 (a := 0) (by decide); simp only [Int32.lt_iff_toInt_lt, Int32.le_iff_toInt_le, q_n0, q_n1, q_n2, q_n3, q_n4, q_n5, q_n6, q_n7, q_n8, q_n9, q_n10, q_n11, q_n12, q_n13, q_n14, q_n15, q_n20, q_n60, q_n1288] at c_3; have l1 : (4 : Int32).toInt = 4 := rfl; have l2 := nI_toInt (n := i) (by omega); have l3 := q_mulI (c := 4) (x := nI i) (k := 4) rfl (by omega); have l4 := q_addI (x := 4 * (nI i)) (y := b) (by omega); have l5 : 0 ≤ (q_i (S 23 0 i)).toInt ∧ (q_i (S 23 0 i)).toInt ≤ 4 := hI 23 0 i; have l6 := nI_toInt (n := t) (by omega); rw [vp_in_iff]; omega
          have s_16 : ((4 * (nI i)) + b).toNatClampNeg = 4 * i + b.toNatClampNeg := by have e_c_6 : (q_i (S 24 0 (4 * i + t))).toInt = (a).toInt := (by rw [c_6]); have e_c_9 := lv_neT c_9 (a := 0) (by decide); simp only [Int32.lt_iff_toInt_lt, Int32.le_iff_toInt_le, q_n0, q_n1, q_n2, q_n3, q_n4, q_n5, q_n6, q_n7, q_n8, q_n9, q_n10, q_n11, q_n12, q_n13, q_n14, q_n15, q_n20, q_n60, q_n1288] at c_3; have l1 : (4 : Int32).toInt = 4 := rfl; have l2 := nI_toInt (n := i) (by omega); have l3 := q_mulI (c := 4) (x := nI i) (k := 4) rfl (by omega); have l4 := q_addI (x := 4 * (nI i)) (y := b) (by omega); have l5 : 0 ≤ (q_i (S 23 0 i)).toInt ∧ (q_i (S 23 0 i)).toInt ≤ 4 := hI 23 0 i; have l6 := nI_toInt (n := t) (by omega); have c0 := q_clI (x := b) (by omega); apply q_tn; omega
          have h_17 : vp_in (nI i) 6 := by have e_c_6 : (q_i (S 24 0 (4 * i + t))).toInt = (a).toInt := (by rw [c_6]); have e_c_9 := lv_neT c_9 (a := 0) (by decide); simp only [Int32.lt_iff_toInt_lt, Int32.le_iff_toInt_le, q_n0, q_n1, q_n2, q_n3, q_n4, q_n5, q_n6, q_n7, q_n8, q_n9, q_n10, q_n11, q_n12, q_n13, q_n14, q_n15, q_n20, q_n60, q_n1288] at c_3; have l1 := nI_toInt (n := i) (by omega); have l2 : 0 ≤ (q_i (S 23 0 i)).toInt ∧ (q_i (S 23 0 i)).toInt ≤ 4 := hI 23 0 i; have l3 := nI_toInt (n := t) (by omega); rw [vp_in_iff]; omega
          have s_18 : (nI i).toNatClampNeg = i := by have e_c_6 : (q_i (S 24 0 (4 * i + t))).toInt = (a).toInt := (by rw [c_6]); have e_c_9 := lv_neT c_9 (a := 0) (by decide); simp only [Int32.lt_iff_toInt_lt, Int32.le_iff_toInt_le, q_n0, q_n1, q_n2, q_n3, q_n4, q_n5, q_n6, q_n7, q_n8, q_n9, q_n10, q_n11, q_n12, q_n13, q_n14, q_n15, q_n20, q_n60, q_n1288] at c_3; have l1 := nI_toInt (n := i) (by omega); have l2 : 0 ≤ (q_i (S 23 0 i)).toInt ∧ (q_i (S 23 0 i)).toInt ≤ 4 := hI 23 0 i; have l3 := nI_toInt (n := t) (by omega); apply q_tn; omega
          have h_19 : vp_in (nI i) 6 := by have e_c_6 : (q_i (S 24 0 (4 * i + t))).toInt = (a).toInt := (by rw [c_6]); have e_c_9 := lv_neT c_9 (a := 0) (by decide); simp only [Int32.lt_iff_toInt_lt, Int32.le_iff_toInt_le, q_n0, q_n1, q_n2, q_n3, q_n4, q_n5, q_n6, q_n7, q_n8, q_n9, q_n10, q_n11, q_n12, q_n13, q_n14, q_n15, q_n20, q_n60, q_n1288] at c_3; have l1 := nI_toInt (n := i) (by omega); have l2 : 0 ≤ (q_i (S 23 0 i)).toInt ∧ (q_i (S 23 0 i)).toInt ≤ 4 := hI 23 0 i; have l3 := nI_toInt (n := t) (by omega); rw [vp_in_iff]; omega
          have s_20 : (nI i).toNatClampNeg = i := by have e_c_6 : (q_i (S 24 0 (4 * i + t))).toInt = (a).toInt := (by rw [c_6]); have e_c_9 := lv_neT c_9 (a := 0) (by decide); simp only [Int32.lt_iff_toInt_lt, Int32.le_iff_toInt_le, q_n0, q_n1, q_n2, q_n3, q_n4, q_n5, q_n6, q_n7, q_n8, q_n9, q_n10, q_n11, q_n12, q_n13, q_n14, q_n15, q_n20, q_n60, q_n1288] at c_3; have l1 := nI_toInt (n := i) (by omega); have l2 : 0 ≤ (q_i (S 23 0 i)).toInt ∧ (q_i (S 23 0 i)).toInt ≤ 4 := hI 23 0 i; have l3 := nI_toInt (n := t) (by omega); apply q_tn; omega
          have h_21 : vp_in (nI i) 6 := by have e_c_6 : (q_i (S 24 0 (4 * i + t))).toInt = (a).toInt := (by rw [c_6]); have e_c_9 := lv_neT c_9 (a := 0) (by decide); simp only [Int32.lt_iff_toInt_lt, Int32.le_iff_toInt_le, q_n0, q_n1, q_n2, q_n3, q_n4, q_n5, q_n6, q_n7, q_n8, q_n9, q_n10, q_n11, q_n12, q_n13, q_n14, q_n15, q_n20, q_n60, q_n1288] at c_3; have l1 := nI_toInt (n := i) (by omega); have l2 : 0 ≤ (q_i (S 23 0 i)).toInt ∧ (q_i (S 23 0 i)).toInt ≤ 4 := hI 23 0 i; have l3 := nI_toInt (n := t) (by omega); rw [vp_in_iff]; omega
          have s_22 : (nI i).toNatClampNeg = i := by have e_c_6 : (q_i (S 24 0 (4 * i + t))).toInt = (a).toInt := (by rw [c_6]); have e_c_9 := lv_neT c_9 (a := 0) (by decide); simp only [Int32.lt_iff_toInt_lt, Int32.le_iff_toInt_le, q_n0, q_n1, q_n2, q_n3, q_n4, q_n5, q_n6, q_n7, q_n8, q_n9, q_n10, q_n11, q_n12, q_n13, q_n14, q_n15, q_n20, q_n60, q_n1288] at c_3; have l1 := nI_toInt (n := i) (by omega); have l2 : 0 ≤ (q_i (S 23 0 i)).toInt ∧ (q_i (S 23 0 i)).toInt ≤ 4 := hI 23 0 i; have l3 := nI_toInt (n := t) (by omega); apply q_tn; omega
          have hf : m_fm_await_L0 (n + 1) S i a b t = q_st (q_st (q_st (m_fm_await_L1 5 (q_st ((m_fm_put S i 7 a (q_i (S 25 0 (4 * i + t)))).2) 23 0 i (.int ((q_i (S 23 0 i)) - 1))) i a b (q_i (S 25 0 (4 * i + t))) t) 14 0 (4 * i + b.toNatClampNeg) (.int (q_i (S 25 0 (4 * i + t))))) 11 0 i (.int ((q_i (S 11 0 i)) + 1))) 10 0 i (.int 0) := by rw [m_fm_await_L0, if_neg c_3, if_pos c_6, if_neg c_9]
          rw [hf]
          exact (mIs (mI_st (mIs (mI_fm_await_L1 i a b hi hto 5 (q_st ((m_fm_put S i 7 a (q_i (S 25 0 (4 * i + t)))).2) 23 0 i (.int ((q_i (S 23 0 i)) - 1))) (q_i (S 25 0 (4 * i + t))) t (by have b1 : 0 ≤ (q_i (S 23 0 i)).toInt ∧ (q_i (S 23 0 i)).toInt ≤ 4 := hI 23 0 i; have n_t := nI_toInt (n := t) (by omega); have m_t := q_nT (n := t) (by omega); simp only [Int32.lt_iff_toInt_lt, Int32.le_iff_toInt_le, q_n0, q_n1, q_n2, q_n3, q_n4, q_n5, q_n6, q_n7, q_n8, q_n9, q_n10, q_n11, q_n12, q_n13, q_n14, q_n15, q_n20, q_n60, q_n1288] at c_3; omega) (by have b1 : 0 ≤ (q_i (S 23 0 i)).toInt ∧ (q_i (S 23 0 i)).toInt ≤ 4 := hI 23 0 i; have n_t := nI_toInt (n := t) (by omega); have m_t := q_nT (n := t) (by omega); simp only [Int32.lt_iff_toInt_lt, Int32.le_iff_toInt_le, q_n0, q_n1, q_n2, q_n3, q_n4, q_n5, q_n6, q_n7, q_n8, q_n9, q_n10, q_n11, q_n12, q_n13, q_n14, q_n15, q_n20, q_n60, q_n1288] at c_3; omega) (by rw [q_ss]; have e_c_6 : (q_i (S 24 0 (4 * i + t))).toInt = (a).toInt := (by rw [c_6]); have e_c_9 := lv_neT c_9 (a := 0) (by decide); simp only [Int32.lt_iff_toInt_lt, Int32.le_iff_toInt_le, q_n0, q_n1, q_n2, q_n3, q_n4, q_n5, q_n6, q_n7, q_n8, q_n9, q_n10, q_n11, q_n12, q_n13, q_n14, q_n15, q_n20, q_n60, q_n1288] at c_3; have l1 : 0 ≤ (q_i (S 23 0 i)).toInt ∧ (q_i (S 23 0 i)).toInt ≤ 4 := hI 23 0 i; have l2 : (1 : Int32).toInt = 1 := rfl; have l3 := q_subI (x := q_i (S 23 0 i)) (y := 1) (by omega); have l4 := nI_toInt (n := t) (by omega); omega) hI_14) rfl) (by have e_c_6 : (q_i (S 24 0 (4 * i + t))).toInt = (a).toInt := (by rw [c_6]); have e_c_9 := lv_neT c_9 (a := 0) (by decide); simp only [Int32.lt_iff_toInt_lt, Int32.le_iff_toInt_le, q_n0, q_n1, q_n2, q_n3, q_n4, q_n5, q_n6, q_n7, q_n8, q_n9, q_n10, q_n11, q_n12, q_n13, q_n14, q_n15, q_n20, q_n60, q_n1288] at c_3; have l1 : 0 ≤ (q_i (S 11 0 i)).toInt ∧ (q_i (S 11 0 i)).toInt ≤ 14 := hI 11 0 i; have l2 : (1 : Int32).toInt = 1 := rfl; have l3 := q_addI (x := q_i (S 11 0 i)) (y := 1) (by omega); have l4 : 0 ≤ (q_i (S 23 0 i)).toInt ∧ (q_i (S 23 0 i)).toInt ≤ 4 := hI 23 0 i; have l5 := nI_toInt (n := t) (by omega); show 0 ≤ ((q_i (S 11 0 i)) + 1).toInt ∧ ((q_i (S 11 0 i)) + 1).toInt ≤ 14; omega)) rfl)
      · -- no
        have h_1 : vp_in (nI i) 6 := by have l1 := nI_toInt (n := i) (by omega); rw [vp_in_iff]; omega
        have s_2 : (nI i).toNatClampNeg = i := by have l1 := nI_toInt (n := i) (by omega); apply q_tn; omega
        have h_4 : vp_in ((4 * (nI i)) + (nI t)) 24 := by simp only [Int32.lt_iff_toInt_lt, Int32.le_iff_toInt_le, q_n0, q_n1, q_n2, q_n3, q_n4, q_n5, q_n6, q_n7, q_n8, q_n9, q_n10, q_n11, q_n12, q_n13, q_n14, q_n15, q_n20, q_n60, q_n1288] at c_3; have l1 : (4 : Int32).toInt = 4 := rfl; have l2 := nI_toInt (n := i) (by omega); have l3 := q_mulI (c := 4) (x := nI i) (k := 4) rfl (by omega); have l4 := nI_toInt (n := t) (by omega); have l5 := q_addI (x := 4 * (nI i)) (y := nI t) (by omega); have l6 : 0 ≤ (q_i (S 23 0 i)).toInt ∧ (q_i (S 23 0 i)).toInt ≤ 4 := hI 23 0 i; rw [vp_in_iff]; omega
        have s_5 : ((4 * (nI i)) + (nI t)).toNatClampNeg = 4 * i + t := by simp only [Int32.lt_iff_toInt_lt, Int32.le_iff_toInt_le, q_n0, q_n1, q_n2, q_n3, q_n4, q_n5, q_n6, q_n7, q_n8, q_n9, q_n10, q_n11, q_n12, q_n13, q_n14, q_n15, q_n20, q_n60, q_n1288] at c_3; have l1 : (4 : Int32).toInt = 4 := rfl; have l2 := nI_toInt (n := i) (by omega); have l3 := q_mulI (c := 4) (x := nI i) (k := 4) rfl (by omega); have l4 := nI_toInt (n := t) (by omega); have l5 := q_addI (x := 4 * (nI i)) (y := nI t) (by omega); have l6 : 0 ≤ (q_i (S 23 0 i)).toInt ∧ (q_i (S 23 0 i)).toInt ≤ 4 := hI 23 0 i; apply q_tn; omega
        have hf : m_fm_await_L0 (n + 1) S i a b t = m_fm_await_L0 n S i a b (t + 1) := by rw [m_fm_await_L0, if_neg c_3, if_neg c_6]
        rw [hf]
        exact ih S (t + 1) (by have b1 : 0 ≤ (q_i (S 23 0 i)).toInt ∧ (q_i (S 23 0 i)).toInt ≤ 4 := hI 23 0 i; have n_t := nI_toInt (n := t) (by omega); have m_t := q_nT (n := t) (by omega); simp only [Int32.lt_iff_toInt_lt, Int32.le_iff_toInt_le, q_n0, q_n1, q_n2, q_n3, q_n4, q_n5, q_n6, q_n7, q_n8, q_n9, q_n10, q_n11, q_n12, q_n13, q_n14, q_n15, q_n20, q_n60, q_n1288] at c_3; omega) (by have b1 : 0 ≤ (q_i (S 23 0 i)).toInt ∧ (q_i (S 23 0 i)).toInt ≤ 4 := hI 23 0 i; have n_t := nI_toInt (n := t) (by omega); have m_t := q_nT (n := t) (by omega); simp only [Int32.lt_iff_toInt_lt, Int32.le_iff_toInt_le, q_n0, q_n1, q_n2, q_n3, q_n4, q_n5, q_n6, q_n7, q_n8, q_n9, q_n10, q_n11, q_n12, q_n13, q_n14, q_n15, q_n20, q_n60, q_n1288] at c_3; omega) hp hI hg hQ
def m_fm_await (S : q_S) (i : Nat) (a b : Int32) : q_S :=
  if m_fm_left (q_st S 10 0 i (.int 3)) i ≤ 0 then
    m_fm_await_L0 5 (q_st S 10 0 i (.int 3)) i a b 0
  else
    q_st S 10 0 i (.int 3)
set_option maxRecDepth 100000 in
set_option maxHeartbeats 4000000 in
theorem mC_fm_await (l : Launch) (G : q_G) (S : q_S) (i : Nat) (a b : Int32) (hi : i < 6) (hI : mI S) (hg : (q_i (S 16 0 i)).toInt ≤ (q_i (S 15 0 i)).toInt) (hQ : mQ S) (hp : (q_i (S 11 0 i)).toInt ≤ 13) (hto : 0 ≤ b.toInt ∧ b.toInt ≤ 3) : q_Mv mX G l my_fm_await (q_ws (q_gw lw_tbl) my_fm_await mb_fm_await 8 none) (q_rm 5) [.ref (q_a mX G 0 0), .int (nI i), .int a, .int b] S (m_fm_await S i a b) := by
  refine q_met (cc := mb_fm_await) (maxL := 8) (ret := none) mOk (by decide) rfl (Nat.le_of_ble_eq_true rfl) ?_
  intro p e s m below meth c ls hC hr hlocks hW hS hl
  have hx := hC.1.1
  have hb := hC.1.2.1
  have hl : lv_has ls 8 [(0, .ref (q_a mX G 0 0)), (1, .int (nI i)), (2, .int a), (3, .int b)] := hl
  refine lv_aload_n hx hb md_fm_await_0 rfl (lv_at hl 0 rfl) ?_
  refine mg_fm_38 hC hW 0 Nat.one_pos md_fm_await_1 ?_
  refine lv_iload_n hx hb md_fm_await_4 rfl (lv_at hl 1 rfl) ?_
  refine lv_iconst (v := 3) hx hb md_fm_await_5 (by decide) ?_
  have h_1 : vp_in (nI i) 6 := by have l1 := nI_toInt (n := i) (by omega); rw [vp_in_iff]; omega
  have s_2 : (nI i).toNatClampNeg = i := by have l1 := nI_toInt (n := i) (by omega); apply q_tn; omega
  refine mase_10 hC hW hS (fun _ h => h) h_1 s_2 md_fm_await_6 (fun H locs hW hS => ?_)
  refine lv_aload_n hx hb md_fm_await_7 rfl (lv_at hl 0 rfl) ?_
  refine lv_iload_n hx hb md_fm_await_8 rfl (lv_at hl 1 rfl) ?_
  refine q_calli hC hS (fun _ h => h) (q_runV (rest := []) hC hW (mC_fm_left l G (q_st S 10 0 i (.int 3)) i hi) (mc_fm_139 (q_rm 0) hC.1.2.2.2.2 ⟨Nat.le_of_ble_eq_true rfl, Nat.le_of_ble_eq_true rfl⟩ rfl rfl) Nat.one_pos rfl rfl rfl hl.1 rfl (Nat.le_of_ble_eq_true rfl) md_fm_await_9 ⟨Nat.zero_le _, Nat.zero_le _⟩) (fun H locs hW hS => ?_)
  refine lv_if_le (tgt := 16) hx hb md_fm_await_12 (by decide) (fun c_3 => ?_) (fun c_3 => ?_)
  · -- taken
    refine lv_iconst (v := 0) hx hb md_fm_await_16 (by decide) ?_
    refine lv_istore (lv' := [(4, .int 0), (0, .ref (q_a mX G 0 0)), (1, .int (nI i)), (2, .int a), (3, .int b)]) hx hb md_fm_await_17 hl (by decide) rfl (fun ls hl => ?_)
    have hf : m_fm_await S i a b = m_fm_await_L0 5 (q_st S 10 0 i (.int 3)) i a b 0 := by unfold m_fm_await; rw [if_pos c_3]
    rw [hf]
    have hl2 : lv_has ls 8 [(0, .ref (q_a mX G 0 0)), (1, .int (nI i)), (2, .int a), (3, .int b), (4, .int (nI 0))] := by rw [(show nI 0 = 0 from rfl)]; exact lv_sub hl [1, 2, 3, 4, 0] rfl
    have hI_4 : mI (q_st S 10 0 i (.int 3)) := (mIs hI rfl)
    have hg_5 : (q_i ((q_st S 10 0 i (.int 3)) 16 0 i)).toInt ≤ (q_i ((q_st S 10 0 i (.int 3)) 15 0 i)).toInt := by rw [q_kj (by decide), q_kj (by decide)]; exact hg
    have hQ_6 : mQ (q_st S 10 0 i (.int 3)) := mQ_eq hQ (q_kj (by decide)) (fun _ => (q_kj (by decide))) (fun _ => (q_kj (by decide)))
    exact mL_fm_await_L0 l G i a b hi hto hC hr hlocks 5 (q_st S 10 0 i (.int 3)) 0 _ _ ls (by simp only [Int32.lt_iff_toInt_lt, Int32.le_iff_toInt_le, q_n0, q_n1, q_n2, q_n3, q_n4, q_n5, q_n6, q_n7, q_n8, q_n9, q_n10, q_n11, q_n12, q_n13, q_n14, q_n15, q_n20, q_n60, q_n1288] at c_3; omega) (by simp only [Int32.lt_iff_toInt_lt, Int32.le_iff_toInt_le, q_n0, q_n1, q_n2, q_n3, q_n4, q_n5, q_n6, q_n7, q_n8, q_n9, q_n10, q_n11, q_n12, q_n13, q_n14, q_n15, q_n20, q_n60, q_n1288] at c_3; omega) (by rw [q_kj (by decide)]; exact hp) hI_4 hg_5 hQ_6 hW hS hl2
  · -- not taken
    have hf : m_fm_await S i a b = q_st S 10 0 i (.int 3) := by unfold m_fm_await; rw [if_neg c_3]
    rw [hf]
    exact q_vret hC hr hlocks hW hS rfl md_fm_await_15
set_option maxRecDepth 100000 in
set_option maxHeartbeats 4000000 in
theorem mI_fm_await (S : q_S) (i : Nat) (a b : Int32) (hi : i < 6) (hI : mI S) (hg : (q_i (S 16 0 i)).toInt ≤ (q_i (S 15 0 i)).toInt) (hQ : mQ S) (hp : (q_i (S 11 0 i)).toInt ≤ 13) (hto : 0 ≤ b.toInt ∧ b.toInt ≤ 3) : mI (m_fm_await S i a b) := by
  by_cases c_3 : m_fm_left (q_st S 10 0 i (.int 3)) i ≤ 0
  · -- yes
    have h_1 : vp_in (nI i) 6 := by have l1 := nI_toInt (n := i) (by omega); rw [vp_in_iff]; omega
    have s_2 : (nI i).toNatClampNeg = i := by have l1 := nI_toInt (n := i) (by omega); apply q_tn; omega
    have hI_4 : mI (q_st S 10 0 i (.int 3)) := (mIs hI rfl)
    have hg_5 : (q_i ((q_st S 10 0 i (.int 3)) 16 0 i)).toInt ≤ (q_i ((q_st S 10 0 i (.int 3)) 15 0 i)).toInt := by rw [q_kj (by decide), q_kj (by decide)]; exact hg
    have hQ_6 : mQ (q_st S 10 0 i (.int 3)) := mQ_eq hQ (q_kj (by decide)) (fun _ => (q_kj (by decide))) (fun _ => (q_kj (by decide)))
    have hf : m_fm_await S i a b = m_fm_await_L0 5 (q_st S 10 0 i (.int 3)) i a b 0 := by unfold m_fm_await; rw [if_pos c_3]
    rw [hf]
    have hI_903 : mI (q_st S 10 0 i (.int 3)) := (mIs hI rfl)
    have hg_904 : (q_i ((q_st S 10 0 i (.int 3)) 16 0 i)).toInt ≤ (q_i ((q_st S 10 0 i (.int 3)) 15 0 i)).toInt := by rw [q_kj (by decide), q_kj (by decide)]; exact hg
    have hQ_905 : mQ (q_st S 10 0 i (.int 3)) := mQ_eq hQ (q_kj (by decide)) (fun _ => (q_kj (by decide))) (fun _ => (q_kj (by decide)))
    exact mI_fm_await_L0 i a b hi hto 5 (q_st S 10 0 i (.int 3)) 0 (by simp only [Int32.lt_iff_toInt_lt, Int32.le_iff_toInt_le, q_n0, q_n1, q_n2, q_n3, q_n4, q_n5, q_n6, q_n7, q_n8, q_n9, q_n10, q_n11, q_n12, q_n13, q_n14, q_n15, q_n20, q_n60, q_n1288] at c_3; omega) (by simp only [Int32.lt_iff_toInt_lt, Int32.le_iff_toInt_le, q_n0, q_n1, q_n2, q_n3, q_n4, q_n5, q_n6, q_n7, q_n8, q_n9, q_n10, q_n11, q_n12, q_n13, q_n14, q_n15, q_n20, q_n60, q_n1288] at c_3; omega) (by rw [q_kj (by decide)]; exact hp) hI_903 hg_904 hQ_905
  · -- no
    have h_1 : vp_in (nI i) 6 := by have l1 := nI_toInt (n := i) (by omega); rw [vp_in_iff]; omega
    have s_2 : (nI i).toNatClampNeg = i := by have l1 := nI_toInt (n := i) (by omega); apply q_tn; omega
    have hf : m_fm_await S i a b = q_st S 10 0 i (.int 3) := by unfold m_fm_await; rw [if_neg c_3]
    rw [hf]
    exact (mIs hI rfl)
set_option maxRecDepth 100000 in
set_option maxHeartbeats 4000000 in
theorem mK_fm_await (S : q_S) (i : Nat) (a b : Int32) (x y z : Nat) (h0 : x ≠ 0) (h7 : x ≠ 7) (h8 : x ≠ 8) (h10 : x ≠ 10) (h11 : x ≠ 11) (h14 : x ≠ 14) (h15 : x ≠ 15) (h16 : x ≠ 16) (h17 : x ≠ 17) (h18 : x ≠ 18) (h19 : x ≠ 19) (h23 : x ≠ 23) (h24 : x ≠ 24) (h25 : x ≠ 25) (h29 : x ≠ 29) (h32 : x ≠ 32) (h33 : x ≠ 33) : (m_fm_await S i a b) x y z = S x y z := by
  by_cases c_3 : m_fm_left (q_st S 10 0 i (.int 3)) i ≤ 0
  · -- yes
    have hf : m_fm_await S i a b = m_fm_await_L0 5 (q_st S 10 0 i (.int 3)) i a b 0 := by unfold m_fm_await; rw [if_pos c_3]
    rw [hf]
    exact (mK_fm_await_L0 5 (q_st S 10 0 i (.int 3)) i a b 0 x y z h0 h7 h8 h10 h11 h14 h15 h16 h17 h18 h19 h23 h24 h25 h29 h32 h33).trans ((q_kj h10))
  · -- no
    have hf : m_fm_await S i a b = q_st S 10 0 i (.int 3) := by unfold m_fm_await; rw [if_neg c_3]
    rw [hf]
    exact (q_kj h10)
