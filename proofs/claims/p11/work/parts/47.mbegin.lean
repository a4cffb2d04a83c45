def m_fm_begin_L0 : Nat → q_S → Nat → Nat → q_S
  | 0, S, _, _ => S
  | n + 1, S, i, t =>
    if 4 ≤ nI t then
      S
    else
      m_fm_begin_L0 n (q_st S 14 0 (4 * i + t) (.int 0)) i (t + 1)
set_option maxRecDepth 100000 in
set_option maxHeartbeats 4000000 in
theorem mL_fm_begin_L0 (l : Launch) (G : q_G) (i : Nat) (hi : i < 6) {p : Program} {e : Env} {s : State} {m : MethodId} {below : List Frame} {meth : Method} {c : Code} {Q : State → Prop} (hC : q_C mX G p m c mb_fm_begin 3 s ([.ref (q_a mX G 0 0), .int (nI i)] : List Value).toArray (q_ws (q_gw lw_tbl) my_fm_begin mb_fm_begin 3 none) mR_fm) : ∀ (n : Nat) (S : q_S) (t : Nat) (H : Heap) (locs : List Loc) (ls : Array Slot), t + n = 5 → t ≤ 4 → mI S → q_w mX G s S H → va_S (q_A mX G) s.heap H locs → lv_has ls 3 [(0, .ref (q_a mX G 0 0)), (1, .int (nI i)), (2, .int (nI t))] → (∀ (H1 : Heap) (locs1 : List Loc) (ls1 : Array Slot), q_w mX G s (m_fm_begin_L0 n S i t) H1 → va_S (q_A mX G) s.heap H1 locs1 → lv_has ls1 3 [(0, .ref (q_a mX G 0 0)), (1, .int (nI i))] → W p l e (headSpec (q_ws (q_gw lw_tbl) my_fm_begin mb_fm_begin 3 none) (q_rm 9)).room s m ([.ref (q_a mX G 0 0), .int (nI i)] : List Value).toArray below meth c H1 locs1 0 0 Q (F0 m 24 ls1 [])) → W p l e (headSpec (q_ws (q_gw lw_tbl) my_fm_begin mb_fm_begin 3 none) (q_rm 9)).room s m ([.ref (q_a mX G 0 0), .int (nI i)] : List Value).toArray below meth c H locs 0 0 Q (F0 m 2 ls []) := by
  have hx := hC.1.1
  have hb := hC.1.2.1
  intro n
  induction n with
  | zero =>
    intro S t H locs ls ht hu hI hW hS hl kk
    exfalso
    omega
  | succ n ih =>
    intro S t H locs ls ht hu hI hW hS hl kk
    refine lv_iload_n hx hb md_fm_begin_2 rfl (lv_at hl 2 rfl) ?_
    refine lv_iconst (v := 4) hx hb md_fm_begin_3 (by decide) ?_
    refine lv_icmp_ge (tgt := 24) hx hb md_fm_begin_4 (by decide) (fun c_1 => ?_) (fun c_1 => ?_)
    · -- taken
      have hf : m_fm_begin_L0 (n + 1) S i t = S := by rw [m_fm_begin_L0, if_pos c_1]
      rw [hf] at kk
      exact kk H locs ls hW hS (lv_sub hl [0, 1] rfl)
    · -- not taken
      refine lv_aload_n hx hb md_fm_begin_7 rfl (lv_at hl 0 rfl) ?_
      refine mg_fm_50 hC hW 0 Nat.one_pos md_fm_begin_8 ?_
      refine lv_iconst (v := 4) hx hb md_fm_begin_11 (by decide) ?_
      refine lv_iload_n hx hb md_fm_begin_12 rfl (lv_at hl 1 rfl) ?_
      refine lv_imul hx hb md_fm_begin_13 ?_
      refine lv_iload_n hx hb md_fm_begin_14 rfl (lv_at hl 2 rfl) ?_
      refine lv_iadd hx hb md_fm_begin_15 ?_
      refine lv_iconst (v := 0) hx hb md_fm_begin_16 (by decide) ?_
      have h_2 : vp_in ((4 * (nI i)) + (nI t)) 24 := by simp only [Int32.lt_iff_toInt_lt, Int32.le_iff_toInt_le, q_n0, q_n1, q_n2, q_n3, q_n4, q_n5, q_n6, q_n7, q_n8, q_n9, q_n10, q_n11, q_n12, q_n13, q_n14, q_n15, q_n20, q_n60, q_n1288] at c_1; have l1 : (4 : Int32).toInt = 4 := rfl; have l2 := nI_toInt (n := i) (by omega); have l3 := q_mulI (c := 4) (x := nI i) (k := 4) rfl (by omega); have l4 := nI_toInt (n := t) (by omega); have l5 := q_addI (x := 4 * (nI i)) (y := nI t) (by omega); rw [vp_in_iff]; omega
      have s_3 : ((4 * (nI i)) + (nI t)).toNatClampNeg = 4 * i + t := by simp only [Int32.lt_iff_toInt_lt, Int32.le_iff_toInt_le, q_n0, q_n1, q_n2, q_n3, q_n4, q_n5, q_n6, q_n7, q_n8, q_n9, q_n10, q_n11, q_n12, q_n13, q_n14, q_n15, q_n20, q_n60, q_n1288] at c_1; have l1 : (4 : Int32).toInt = 4 := rfl; have l2 := nI_toInt (n := i) (by omega); have l3 := q_mulI (c := 4) (x := nI i) (k := 4) rfl (by omega); have l4 := nI_toInt (n := t) (by omega); have l5 := q_addI (x := 4 * (nI i)) (y := nI t) (by omega); apply q_tn; omega
      refine mase_14 hC hW hS (fun _ h => h) h_2 s_3 md_fm_begin_17 (fun H locs hW hS => ?_)
      refine lv_iinc (v := nI t + 1) (lv' := [(2, .int (nI t + 1)), (0, .ref (q_a mX G 0 0)), (1, .int (nI i))]) hx hb md_fm_begin_18 hl (k := 2) rfl rfl (by decide) rfl (fun ls hl => ?_)
      refine lv_goto (tgt := 2) hx hb md_fm_begin_21 (by decide) ?_
      have hf : m_fm_begin_L0 (n + 1) S i t = m_fm_begin_L0 n (q_st S 14 0 (4 * i + t) (.int 0)) i (t + 1) := by rw [m_fm_begin_L0, if_neg c_1]
      rw [hf] at kk
      have hl2 : lv_has ls 3 [(0, .ref (q_a mX G 0 0)), (1, .int (nI i)), (2, .int (nI (t + 1)))] := by rw [← nI_1 t]; exact lv_sub hl [1, 2, 0] rfl
      have hI_4 : mI (q_st S 14 0 (4 * i + t) (.int 0)) := (mIs hI rfl)
      exact ih (q_st S 14 0 (4 * i + t) (.int 0)) (t + 1) _ _ ls (by have n_t := nI_toInt (n := t) (by omega); have m_t := q_nT (n := t) (by omega); simp only [Int32.lt_iff_toInt_lt, Int32.le_iff_toInt_le, q_n0, q_n1, q_n2, q_n3, q_n4, q_n5, q_n6, q_n7, q_n8, q_n9, q_n10, q_n11, q_n12, q_n13, q_n14, q_n15, q_n20, q_n60, q_n1288] at c_1; omega) (by have n_t := nI_toInt (n := t) (by omega); have m_t := q_nT (n := t) (by omega); simp only [Int32.lt_iff_toInt_lt, Int32.le_iff_toInt_le, q_n0, q_n1, q_n2, q_n3, q_n4, q_n5, q_n6, q_n7, q_n8, q_n9, q_n10, q_n11, q_n12, q_n13, q_n14, q_n15, q_n20, q_n60, q_n1288] at c_1; omega) hI_4 hW hS hl2 kk
set_option maxRecDepth 100000 in
set_option maxHeartbeats 4000000 in
theorem mK_fm_begin_L0 : ∀ (n : Nat) (S : q_S) (i : Nat) (t : Nat) (x y z : Nat) (h14 : x ≠ 14), (m_fm_begin_L0 n S i t) x y z = S x y z := by
  intro n
  induction n with
  | zero => intro S i t x y z h14; rfl
  | succ n ih =>
    intro S i t x y z h14
    by_cases c_1 : 4 ≤ nI t
    · -- yes
      have hf : m_fm_begin_L0 (n + 1) S i t = S := by rw [m_fm_begin_L0, if_pos c_1]
      rw [hf]
    · -- no
      have hf : m_fm_begin_L0 (n + 1) S i t = m_fm_begin_L0 n (q_st S 14 0 (4 * i + t) (.int 0)) i (t + 1) := by rw [m_fm_begin_L0, if_neg c_1]
      rw [hf]
      exact (ih (q_st S 14 0 (4 * i + t) (.int 0)) i (t + 1) x y z h14).trans ((q_kj h14))
set_option maxRecDepth 100000 in
set_option maxHeartbeats 4000000 in
theorem mI_fm_begin_L0 (i : Nat) (hi : i < 6) : ∀ (n : Nat) (S : q_S) (t : Nat), t + n = 5 → t ≤ 4 → mI S → mI (m_fm_begin_L0 n S i t) := by
  intro n
  induction n with
  | zero =>
    intro S t ht hu hI
    exfalso
    omega
  | succ n ih =>
    intro S t ht hu hI
    by_cases c_1 : 4 ≤ nI t
    · -- yes
      have hf : m_fm_begin_L0 (n + 1) S i t = S := by rw [m_fm_begin_L0, if_pos c_1]
      rw [hf]
      exact hI
    · -- no
      have h_2 : vp_in ((4 * (nI i)) + (nI t)) 24 := by simp only [Int32.lt_iff_toInt_lt, Int32.le_iff_toInt_le, q_n0, q_n1, q_n2, q_n3, q_n4, q_n5, q_n6, q_n7, q_n8, q_n9, q_n10, q_n11, q_n12, q_n13, q_n14, q_n15, q_n20, q_n60, q_n1288] at c_1; have l1 : (4 : Int32).toInt = 4 := rfl; have l2 := nI_toInt (n := i) (by omega); have l3 := q_mulI (c := 4) (x := nI i) (k := 4) rfl (by omega); have l4 := nI_toInt (n := t) (by omega); have l5 := q_addI (x := 4 * (nI i)) (y := nI t) (by omega); rw [vp_in_iff]; omega
      have s_3 : ((4 * (nI i)) + (nI t)).toNatClampNeg = 4 * i + t := by simp only [Int32.lt_iff_toInt_lt, Int32.le_iff_toInt_le, q_n0, q_n1, q_n2, q_n3, q_n4, q_n5, q_n6, q_n7, q_n8, q_n9, q_n10, q_n11, q_n12, q_n13, q_n14, q_n15, q_n20, q_n60, q_n1288] at c_1; have l1 : (4 : Int32).toInt = 4 := rfl; have l2 := nI_toInt (n := i) (by omega); have l3 := q_mulI (c := 4) (x := nI i) (k := 4) rfl (by omega); have l4 := nI_toInt (n := t) (by omega); have l5 := q_addI (x := 4 * (nI i)) (y := nI t) (by omega); apply q_tn; omega
      have hI_4 : mI (q_st S 14 0 (4 * i + t) (.int 0)) := (mIs hI rfl)
      have hf : m_fm_begin_L0 (n + 1) S i t = m_fm_begin_L0 n (q_st S 14 0 (4 * i + t) (.int 0)) i (t + 1) := by rw [m_fm_begin_L0, if_neg c_1]
      rw [hf]
      have hI_904 : mI (q_st S 14 0 (4 * i + t) (.int 0)) := (mIs hI rfl)
      exact ih (q_st S 14 0 (4 * i + t) (.int 0)) (t + 1) (by have n_t := nI_toInt (n := t) (by omega); have m_t := q_nT (n := t) (by omega); simp only [Int32.lt_iff_toInt_lt, Int32.le_iff_toInt_le, q_n0, q_n1, q_n2, q_n3, q_n4, q_n5, q_n6, q_n7, q_n8, q_n9, q_n10, q_n11, q_n12, q_n13, q_n14, q_n15, q_n20, q_n60, q_n1288] at c_1; omega) (by have n_t := nI_toInt (n := t) (by omega); have m_t := q_nT (n := t) (by omega); simp only [Int32.lt_iff_toInt_lt, Int32.le_iff_toInt_le, q_n0, q_n1, q_n2, q_n3, q_n4, q_n5, q_n6, q_n7, q_n8, q_n9, q_n10, q_n11, q_n12, q_n13, q_n14, q_n15, q_n20, q_n60, q_n1288] at c_1; omega) hI_904
def m_fm_begin (S : q_S) (i : Nat) : q_S :=
  m_fm_goOn (q_st (q_st (q_st (q_st (q_st (q_st (m_fm_begin_L0 5 S i 0) 14 0 (4 * i) (.int (q_i (S 19 0 (20 * i))))) 11 0 i (.int 0)) 12 0 i (.int 0)) 20 0 i (.int 0)) 16 0 i (.int 1)) 10 0 i (.int 0)) i
set_option maxRecDepth 100000 in
set_option maxHeartbeats 4000000 in
theorem mC_fm_begin (l : Launch) (G : q_G) (S : q_S) (i : Nat) (hi : i < 6) (hI : mI S) (hJ : mJ S) (hQ : mQ S) (hw : 1 ≤ (q_i (S 15 0 i)).toInt) : q_Mv mX G l my_fm_begin (q_ws (q_gw lw_tbl) my_fm_begin mb_fm_begin 3 none) (q_rm 9) [.ref (q_a mX G 0 0), .int (nI i)] S (m_fm_begin S i) := by
  refine q_met (cc := mb_fm_begin) (maxL := 3) (ret := none) mOk (by decide) rfl (Nat.le_of_ble_eq_true rfl) ?_
  intro p e s m below meth c ls hC hr hlocks hW hS hl
  have hx := hC.1.1
  have hb := hC.1.2.1
  have hl : lv_has ls 3 [(0, .ref (q_a mX G 0 0)), (1, .int (nI i))] := hl
  refine lv_iconst (v := 0) hx hb md_fm_begin_0 (by decide) ?_
  refine lv_istore_n (lv' := [(2, .int 0), (0, .ref (q_a mX G 0 0)), (1, .int (nI i))]) hx hb md_fm_begin_1 rfl hl (by decide) rfl (fun ls hl => ?_)
  have hl2 : lv_has ls 3 [(0, .ref (q_a mX G 0 0)), (1, .int (nI i)), (2, .int (nI 0))] := by rw [(show nI 0 = 0 from rfl)]; exact lv_sub hl [1, 2, 0] rfl
  refine mL_fm_begin_L0 l G i hi hC 5 S 0 _ _ ls (by omega) (by omega) hI hW hS hl2 (fun H locs ls hW hS hl => ?_)
  refine lv_aload_n hx hb md_fm_begin_24 rfl (lv_at hl 0 rfl) ?_
  refine mg_fm_50 hC hW 0 Nat.one_pos md_fm_begin_25 ?_
  refine lv_iconst (v := 4) hx hb md_fm_begin_28 (by decide) ?_
  refine lv_iload_n hx hb md_fm_begin_29 rfl (lv_at hl 1 rfl) ?_
  refine lv_imul hx hb md_fm_begin_30 ?_
  refine lv_aload_n hx hb md_fm_begin_31 rfl (lv_at hl 0 rfl) ?_
  refine mg_fm_65 hC hW 0 Nat.one_pos md_fm_begin_32 ?_
  refine lv_bipush (v := 20) hx hb md_fm_begin_35 (by decide) ?_
  refine lv_iload_n hx hb md_fm_begin_37 rfl (lv_at hl 1 rfl) ?_
  refine lv_imul hx hb md_fm_begin_38 ?_
  have h_1 : vp_in (20 * (nI i)) 120 := by have l1 : (20 : Int32).toInt = 20 := rfl; have l2 := nI_toInt (n := i) (by omega); have l3 := q_mulI (c := 20) (x := nI i) (k := 20) rfl (by omega); rw [vp_in_iff]; omega
  have s_2 : (20 * (nI i)).toNatClampNeg = 20 * i := by have l1 : (20 : Int32).toInt = 20 := rfl; have l2 := nI_toInt (n := i) (by omega); have l3 := q_mulI (c := 20) (x := nI i) (k := 20) rfl (by omega); apply q_tn; omega
  refine male_19 hC hW h_1 s_2 (q_kc (mK_fm_begin_L0 5 S i 0 _ _ _ (by decide)) (rfl)) md_fm_begin_39 ?_
  have h_3 : vp_in (4 * (nI i)) 24 := by have l1 : (4 : Int32).toInt = 4 := rfl; have l2 := nI_toInt (n := i) (by omega); have l3 := q_mulI (c := 4) (x := nI i) (k := 4) rfl (by omega); rw [vp_in_iff]; omega
  have s_4 : (4 * (nI i)).toNatClampNeg = 4 * i := by have l1 : (4 : Int32).toInt = 4 := rfl; have l2 := nI_toInt (n := i) (by omega); have l3 := q_mulI (c := 4) (x := nI i) (k := 4) rfl (by omega); apply q_tn; omega
  refine mase_14 hC hW hS (fun _ h => h) h_3 s_4 md_fm_begin_40 (fun H locs hW hS => ?_)
  refine W.eq (g2 := F0 m 41 ls []) rfl ?_
  refine lv_aload_n hx hb md_fm_begin_41 rfl (lv_at hl 0 rfl) ?_
  refine mg_fm_41 hC hW 0 Nat.one_pos md_fm_begin_42 ?_
  refine lv_iload_n hx hb md_fm_begin_45 rfl (lv_at hl 1 rfl) ?_
  refine lv_iconst (v := 0) hx hb md_fm_begin_46 (by decide) ?_
  have h_5 : vp_in (nI i) 6 := by have l1 := nI_toInt (n := i) (by omega); rw [vp_in_iff]; omega
  have s_6 : (nI i).toNatClampNeg = i := by have l1 := nI_toInt (n := i) (by omega); apply q_tn; omega
  refine mase_11 hC hW hS (fun _ h => h) h_5 s_6 md_fm_begin_47 (fun H locs hW hS => ?_)
  refine lv_aload_n hx hb md_fm_begin_48 rfl (lv_at hl 0 rfl) ?_
  refine mg_fm_44 hC hW 0 Nat.one_pos md_fm_begin_49 ?_
  refine lv_iload_n hx hb md_fm_begin_52 rfl (lv_at hl 1 rfl) ?_
  refine lv_iconst (v := 0) hx hb md_fm_begin_53 (by decide) ?_
  have h_7 : vp_in (nI i) 6 := by have l1 := nI_toInt (n := i) (by omega); rw [vp_in_iff]; omega
  have s_8 : (nI i).toNatClampNeg = i := by have l1 := nI_toInt (n := i) (by omega); apply q_tn; omega
  refine mase_12 hC hW hS (fun _ h => h) h_7 s_8 md_fm_begin_54 (fun H locs hW hS => ?_)
  refine lv_aload_n hx hb md_fm_begin_55 rfl (lv_at hl 0 rfl) ?_
  refine mg_fm_68 hC hW 0 Nat.one_pos md_fm_begin_56 ?_
  refine lv_iload_n hx hb md_fm_begin_59 rfl (lv_at hl 1 rfl) ?_
  refine lv_iconst (v := 0) hx hb md_fm_begin_60 (by decide) ?_
  refine W.eq (g2 := F0 m 61 ls [.int 0, .int (nI i), .ref (q_a mX G 20 0)]) rfl ?_
  have h_9 : vp_in (nI i) 6 := by have l1 := nI_toInt (n := i) (by omega); rw [vp_in_iff]; omega
  have s_10 : (nI i).toNatClampNeg = i := by have l1 := nI_toInt (n := i) (by omega); apply q_tn; omega
  refine mase_20 hC hW hS (fun _ h => h) h_9 s_10 md_fm_begin_61 (fun H locs hW hS => ?_)
  refine lv_aload_n hx hb md_fm_begin_62 rfl (lv_at hl 0 rfl) ?_
  refine mg_fm_56 hC hW 0 Nat.one_pos md_fm_begin_63 ?_
  refine lv_iload_n hx hb md_fm_begin_66 rfl (lv_at hl 1 rfl) ?_
  refine lv_iconst (v := 1) hx hb md_fm_begin_67 (by decide) ?_
  have h_11 : vp_in (nI i) 6 := by have l1 := nI_toInt (n := i) (by omega); rw [vp_in_iff]; omega
  have s_12 : (nI i).toNatClampNeg = i := by have l1 := nI_toInt (n := i) (by omega); apply q_tn; omega
  refine mase_16 hC hW hS (fun _ h => h) h_11 s_12 md_fm_begin_68 (fun H locs hW hS => ?_)
  refine lv_aload_n hx hb md_fm_begin_69 rfl (lv_at hl 0 rfl) ?_
  refine mg_fm_38 hC hW 0 Nat.one_pos md_fm_begin_70 ?_
  refine lv_iload_n hx hb md_fm_begin_73 rfl (lv_at hl 1 rfl) ?_
  refine lv_iconst (v := 0) hx hb md_fm_begin_74 (by decide) ?_
  have h_13 : vp_in (nI i) 6 := by have l1 := nI_toInt (n := i) (by omega); rw [vp_in_iff]; omega
  have s_14 : (nI i).toNatClampNeg = i := by have l1 := nI_toInt (n := i) (by omega); apply q_tn; omega
  refine mase_10 hC hW hS (fun _ h => h) h_13 s_14 md_fm_begin_75 (fun H locs hW hS => ?_)
  refine lv_aload_n hx hb md_fm_begin_76 rfl (lv_at hl 0 rfl) ?_
  refine lv_iload_n hx hb md_fm_begin_77 rfl (lv_at hl 1 rfl) ?_
  have hI_15 : mI (q_st (q_st (q_st (q_st (q_st (q_st (m_fm_begin_L0 5 S i 0) 14 0 (4 * i) (.int (q_i (S 19 0 (20 * i))))) 11 0 i (.int 0)) 12 0 i (.int 0)) 20 0 i (.int 0)) 16 0 i (.int 1)) 10 0 i (.int 0)) := (mIs (mI_st (mI_st (mI_st (mI_st (mIs (mI_fm_begin_L0 i hi 5 S 0 (by omega) (by omega) hI) rfl) (by show (0 : Int) ≤ (0 : Int32).toInt ∧ (0 : Int32).toInt ≤ 14; decide)) (by show (0 : Int) ≤ (0 : Int32).toInt ∧ (0 : Int32).toInt ≤ 60; decide)) (by show (0 : Int) ≤ (0 : Int32).toInt ∧ (0 : Int32).toInt ≤ 6; decide)) (by show (0 : Int) ≤ (1 : Int32).toInt ∧ (1 : Int32).toInt ≤ 20; decide)) rfl)
  have hJ_16 : mJ (q_st (q_st (q_st (q_st (q_st (q_st (m_fm_begin_L0 5 S i 0) 14 0 (4 * i) (.int (q_i (S 19 0 (20 * i))))) 11 0 i (.int 0)) 12 0 i (.int 0)) 20 0 i (.int 0)) 16 0 i (.int 1)) 10 0 i (.int 0)) := mJ_eq hJ (fun k => ((q_kj (by decide)).trans ((q_kj (by decide)).trans ((q_kj (by decide)).trans ((q_kj (by decide)).trans ((q_kj (by decide)).trans ((q_kj (by decide)).trans (mK_fm_begin_L0 5 S i 0 1 0 k (by decide))))))))) (fun k => ((q_kj (by decide)).trans ((q_kj (by decide)).trans ((q_kj (by decide)).trans ((q_kj (by decide)).trans ((q_kj (by decide)).trans ((q_kj (by decide)).trans (mK_fm_begin_L0 5 S i 0 2 0 k (by decide))))))))) (fun k => ((q_kj (by decide)).trans ((q_kj (by decide)).trans ((q_kj (by decide)).trans ((q_kj (by decide)).trans ((q_kj (by decide)).trans ((q_kj (by decide)).trans (mK_fm_begin_L0 5 S i 0 3 0 k (by decide))))))))) (fun k => ((q_kj (by decide)).trans ((q_kj (by decide)).trans ((q_kj (by decide)).trans ((q_kj (by decide)).trans ((q_kj (by decide)).trans ((q_kj (by decide)).trans (mK_fm_begin_L0 5 S i 0 4 0 k (by decide)))))))))
  refine q_callv hC hS (fun _ h => h) (q_runV (rest := []) hC hW (mC_fm_goOn l G (q_st (q_st (q_st (q_st (q_st (q_st (m_fm_begin_L0 5 S i 0) 14 0 (4 * i) (.int (q_i (S 19 0 (20 * i))))) 11 0 i (.int 0)) 12 0 i (.int 0)) 20 0 i (.int 0)) 16 0 i (.int 1)) 10 0 i (.int 0)) i hi hI_15 hJ_16 (by rw [show q_i ((q_st (q_st (q_st (q_st (q_st (q_st (m_fm_begin_L0 5 S i 0) 14 0 (4 * i) (.int (q_i (S 19 0 (20 * i))))) 11 0 i (.int 0)) 12 0 i (.int 0)) 20 0 i (.int 0)) 16 0 i (.int 1)) 10 0 i (.int 0)) 16 0 i) = 1 from q_sj (by decide) (q_ss), show q_i ((q_st (q_st (q_st (q_st (q_st (q_st (m_fm_begin_L0 5 S i 0) 14 0 (4 * i) (.int (q_i (S 19 0 (20 * i))))) 11 0 i (.int 0)) 12 0 i (.int 0)) 20 0 i (.int 0)) 16 0 i (.int 1)) 10 0 i (.int 0)) 15 0 i) = q_i (S 15 0 i) from q_sj (by decide) (q_sj (by decide) (q_sj (by decide) (q_sj (by decide) (q_sj (by decide) (q_sj (by decide) (q_kc (mK_fm_begin_L0 5 S i 0 _ _ _ (by decide)) (rfl))))))), q_n1]; exact hw) (mQ_eq hQ ((q_kj (by decide)).trans ((q_kj (by decide)).trans ((q_kj (by decide)).trans ((q_kj (by decide)).trans ((q_kj (by decide)).trans ((q_kj (by decide)).trans (mK_fm_begin_L0 5 S i 0 0 0 33 (by decide)))))))) (fun k => ((q_kj (by decide)).trans ((q_kj (by decide)).trans ((q_kj (by decide)).trans ((q_kj (by decide)).trans ((q_kj (by decide)).trans ((q_kj (by decide)).trans (mK_fm_begin_L0 5 S i 0 32 0 k (by decide))))))))) (fun k => ((q_kj (by decide)).trans ((q_kj (by decide)).trans ((q_kj (by decide)).trans ((q_kj (by decide)).trans ((q_kj (by decide)).trans ((q_kj (by decide)).trans (mK_fm_begin_L0 5 S i 0 7 0 k (by decide)))))))))) (mV_0 (Or.inl (q_ss)))) (mc_fm_182 (q_rm 8) hC.1.2.2.2.2 ⟨Nat.le_of_ble_eq_true rfl, Nat.le_of_ble_eq_true rfl⟩ rfl rfl) Nat.one_pos rfl rfl rfl hl.1 rfl (Nat.le_of_ble_eq_true rfl) md_fm_begin_78 ⟨Nat.zero_le _, Nat.zero_le _⟩) (fun H locs hW hS => ?_)
  refine W.eq (g2 := F0 m 81 ls []) rfl ?_
  have hf : m_fm_begin S i = m_fm_goOn (q_st (q_st (q_st (q_st (q_st (q_st (m_fm_begin_L0 5 S i 0) 14 0 (4 * i) (.int (q_i (S 19 0 (20 * i))))) 11 0 i (.int 0)) 12 0 i (.int 0)) 20 0 i (.int 0)) 16 0 i (.int 1)) 10 0 i (.int 0)) i := by unfold m_fm_begin; rfl
  rw [hf]
  exact q_vret hC hr hlocks hW hS rfl md_fm_begin_81
set_option maxRecDepth 100000 in
set_option maxHeartbeats 4000000 in
theorem mI_fm_begin (S : q_S) (i : Nat) (hi : i < 6) (hI : mI S) (hJ : mJ S) (hQ : mQ S) (hw : 1 ≤ (q_i (S 15 0 i)).toInt) : mI (m_fm_begin S i) := by
  have h_1 : vp_in (20 * (nI i)) 120 := by have l1 : (20 : Int32).toInt = 20 := rfl; have l2 := nI_toInt (n := i) (by omega); have l3 := q_mulI (c := 20) (x := nI i) (k := 20) rfl (by omega); rw [vp_in_iff]; omega
  have s_2 : (20 * (nI i)).toNatClampNeg = 20 * i := by have l1 : (20 : Int32).toInt = 20 := rfl; have l2 := nI_toInt (n := i) (by omega); have l3 := q_mulI (c := 20) (x := nI i) (k := 20) rfl (by omega); apply q_tn; omega
  have h_3 : vp_in (4 * (nI i)) 24 := by have l1 : (4 : Int32).toInt = 4 := rfl; have l2 := nI_toInt (n := i) (by omega); have l3 := q_mulI (c := 4) (x := nI i) (k := 4) rfl (by omega); rw [vp_in_iff]; omega
  have s_4 : (4 * (nI i)).toNatClampNeg = 4 * i := by have l1 : (4 : Int32).toInt = 4 := rfl; have l2 := nI_toInt (n := i) (by omega); have l3 := q_mulI (c := 4) (x := nI i) (k := 4) rfl (by omega); apply q_tn; omega
  have h_5 : vp_in (nI i) 6 := by have l1 := nI_toInt (n := i) (by omega); rw [vp_in_iff]; omega
  have s_6 : (nI i).toNatClampNeg = i := by have l1 := nI_toInt (n := i) (by omega); apply q_tn; omega
  have h_7 : vp_in (nI i) 6 := by have l1 := nI_toInt (n := i) (by omega); rw [vp_in_iff]; omega
  have s_8 : (nI i).toNatClampNeg = i := by have l1 := nI_toInt (n := i) (by omega); apply q_tn; omega
  have h_9 : vp_in (nI i) 6 := by have l1 := nI_toInt (n := i) (by omega); rw [vp_in_iff]; omega
  have s_10 : (nI i).toNatClampNeg = i := by have l1 := nI_toInt (n := i) (by omega); apply q_tn; omega
  have h_11 : vp_in (nI i) 6 := by have l1 := nI_toInt (n := i) (by omega); rw [vp_in_iff]; omega
  have s_12 : (nI i).toNatClampNeg = i := by have l1 := nI_toInt (n := i) (by omega); apply q_tn; omega
  have h_13 : vp_in (nI i) 6 := by have l1 := nI_toInt (n := i) (by omega); rw [vp_in_iff]; omega
  have s_14 : (nI i).toNatClampNeg = i := by have l1 := nI_toInt (n := i) (by omega); apply q_tn; omega
  have hI_15 : mI (q_st (q_st (q_st (q_st (q_st (q_st (m_fm_begin_L0 5 S i 0) 14 0 (4 * i) (.int (q_i (S 19 0 (20 * i))))) 11 0 i (.int 0)) 12 0 i (.int 0)) 20 0 i (.int 0)) 16 0 i (.int 1)) 10 0 i (.int 0)) := (mIs (mI_st (mI_st (mI_st (mI_st (mIs (mI_fm_begin_L0 i hi 5 S 0 (by omega) (by omega) hI) rfl) (by show (0 : Int) ≤ (0 : Int32).toInt ∧ (0 : Int32).toInt ≤ 14; decide)) (by show (0 : Int) ≤ (0 : Int32).toInt ∧ (0 : Int32).toInt ≤ 60; decide)) (by show (0 : Int) ≤ (0 : Int32).toInt ∧ (0 : Int32).toInt ≤ 6; decide)) (by show (0 : Int) ≤ (1 : Int32).toInt ∧ (1 : Int32).toInt ≤ 20; decide)) rfl)
  have hJ_16 : mJ (q_st (q_st (q_st (q_st (q_st (q_st (m_fm_begin_L0 5 S i 0) 14 0 (4 * i) (.int (q_i (S 19 0 (20 * i))))) 11 0 i (.int 0)) 12 0 i (.int 0)) 20 0 i (.int 0)) 16 0 i (.int 1)) 10 0 i (.int 0)) := mJ_eq hJ (fun k => ((q_kj (by decide)).trans ((q_kj (by decide)).trans ((q_kj (by decide)).trans ((q_kj (by decide)).trans ((q_kj (by decide)).trans ((q_kj (by decide)).trans (mK_fm_begin_L0 5 S i 0 1 0 k (by decide))))))))) (fun k => ((q_kj (by decide)).trans ((q_kj (by decide)).trans ((q_kj (by decide)).trans ((q_kj (by decide)).trans ((q_kj (by decide)).trans ((q_kj (by decide)).trans (mK_fm_begin_L0 5 S i 0 2 0 k (by decide))))))))) (fun k => ((q_kj (by decide)).trans ((q_kj (by decide)).trans ((q_kj (by decide)).trans ((q_kj (by decide)).trans ((q_kj (by decide)).trans ((q_kj (by decide)).trans (mK_fm_begin_L0 5 S i 0 3 0 k (by decide))))))))) (fun k => ((q_kj (by decide)).trans ((q_kj (by decide)).trans ((q_kj (by decide)).trans ((q_kj (by decide)).trans ((q_kj (by decide)).trans ((q_kj (by decide)).trans (mK_fm_begin_L0 5 S i 0 4 0 k (by decide)))))))))
  have hf : m_fm_begin S i = m_fm_goOn (q_st (q_st (q_st (q_st (q_st (q_st (m_fm_begin_L0 5 S i 0) 14 0 (4 * i) (.int (q_i (S 19 0 (20 * i))))) 11 0 i (.int 0)) 12 0 i (.int 0)) 20 0 i (.int 0)) 16 0 i (.int 1)) 10 0 i (.int 0)) i := by unfold m_fm_begin; rfl
  rw [hf]
  exact (mI_fm_goOn (q_st (q_st (q_st (q_st (q_st (q_st (m_fm_begin_L0 5 S i 0) 14 0 (4 * i) (.int (q_i (S 19 0 (20 * i))))) 11 0 i (.int 0)) 12 0 i (.int 0)) 20 0 i (.int 0)) 16 0 i (.int 1)) 10 0 i (.int 0)) i hi hI_15 hJ_16 (by rw [show q_i ((q_st (q_st (q_st (q_st (q_st (q_st (m_fm_begin_L0 5 S i 0) 14 0 (4 * i) (.int (q_i (S 19 0 (20 * i))))) 11 0 i (.int 0)) 12 0 i (.int 0)) 20 0 i (.int 0)) 16 0 i (.int 1)) 10 0 i (.int 0)) 16 0 i) = 1 from q_sj (by decide) (q_ss), show q_i ((q_st (q_st (q_st (q_st (q_st (q_st (m_fm_begin_L0 5 S i 0) 14 0 (4 * i) (.int (q_i (S 19 0 (20 * i))))) 11 0 i (.int 0)) 12 0 i (.int 0)) 20 0 i (.int 0)) 16 0 i (.int 1)) 10 0 i (.int 0)) 15 0 i) = q_i (S 15 0 i) from q_sj (by decide) (q_sj (by decide) (q_sj (by decide) (q_sj (by decide) (q_sj (by decide) (q_sj (by decide) (q_kc (mK_fm_begin_L0 5 S i 0 _ _ _ (by decide)) (rfl))))))), q_n1]; exact hw) (mQ_eq hQ ((q_kj (by decide)).trans ((q_kj (by decide)).trans ((q_kj (by decide)).trans ((q_kj (by decide)).trans ((q_kj (by decide)).trans ((q_kj (by decide)).trans (mK_fm_begin_L0 5 S i 0 0 0 33 (by decide)))))))) (fun k => ((q_kj (by decide)).trans ((q_kj (by decide)).trans ((q_kj (by decide)).trans ((q_kj (by decide)).trans ((q_kj (by decide)).trans ((q_kj (by decide)).trans (mK_fm_begin_L0 5 S i 0 32 0 k (by decide))))))))) (fun k => ((q_kj (by decide)).trans ((q_kj (by decide)).trans ((q_kj (by decide)).trans ((q_kj (by decide)).trans ((q_kj (by decide)).trans ((q_kj (by decide)).trans (mK_fm_begin_L0 5 S i 0 7 0 k (by decide)))))))))) (mV_0 (Or.inl (q_ss))))
set_option maxRecDepth 100000 in
set_option maxHeartbeats 4000000 in
theorem mK_fm_begin (S : q_S) (i : Nat) (x y z : Nat) (h0 : x ≠ 0) (h7 : x ≠ 7) (h8 : x ≠ 8) (h10 : x ≠ 10) (h11 : x ≠ 11) (h12 : x ≠ 12) (h13 : x ≠ 13) (h14 : x ≠ 14) (h15 : x ≠ 15) (h16 : x ≠ 16) (h17 : x ≠ 17) (h18 : x ≠ 18) (h19 : x ≠ 19) (h20 : x ≠ 20) (h21 : x ≠ 21) (h22 : x ≠ 22) (h23 : x ≠ 23) (h24 : x ≠ 24) (h25 : x ≠ 25) (h26 : x ≠ 26) (h27 : x ≠ 27) (h28 : x ≠ 28) (h29 : x ≠ 29) (h31 : x ≠ 31) (h32 : x ≠ 32) (h33 : x ≠ 33) : (m_fm_begin S i) x y z = S x y z := by
  have hf : m_fm_begin S i = m_fm_goOn (q_st (q_st (q_st (q_st (q_st (q_st (m_fm_begin_L0 5 S i 0) 14 0 (4 * i) (.int (q_i (S 19 0 (20 * i))))) 11 0 i (.int 0)) 12 0 i (.int 0)) 20 0 i (.int 0)) 16 0 i (.int 1)) 10 0 i (.int 0)) i := by unfold m_fm_begin; rfl
  rw [hf]
  exact ((mK_fm_goOn (q_st (q_st (q_st (q_st (q_st (q_st (m_fm_begin_L0 5 S i 0) 14 0 (4 * i) (.int (q_i (S 19 0 (20 * i))))) 11 0 i (.int 0)) 12 0 i (.int 0)) 20 0 i (.int 0)) 16 0 i (.int 1)) 10 0 i (.int 0)) i x y z h0 h7 h8 h10 h11 h12 h13 h14 h15 h16 h17 h18 h19 h20 h21 h22 h23 h24 h25 h26 h27 h28 h29 h31 h32 h33)).trans ((q_kj h10).trans ((q_kj h16).trans ((q_kj h20).trans ((q_kj h12).trans ((q_kj h11).trans ((q_kj h14).trans (((mK_fm_begin_L0 5 S i 0 x y z h14)))))))))
def m_fm_remember (S : q_S) (i : Nat) : q_S :=
  if q_i (S 6 0 i) = 0 then
    S
  else
    m_fm_begin (q_st (q_st S 6 0 i (.int 0)) 33 0 5 (.int ((q_i (S 33 0 5)) + 1))) i
set_option maxRecDepth 100000 in
set_option maxHeartbeats 4000000 in
theorem mC_fm_remember (l : Launch) (G : q_G) (S : q_S) (i : Nat) (hi : i < 6) (hI : mI S) (hJ : mJ S) (hQ : mQ S) (hw : 1 ≤ (q_i (S 15 0 i)).toInt) : q_Mv mX G l my_fm_remember (q_ws (q_gw lw_tbl) my_fm_remember mb_fm_remember 2 none) (q_rm 10) [.ref (q_a mX G 0 0), .int (nI i)] S (m_fm_remember S i) := by
  refine q_met (cc := mb_fm_remember) (maxL := 2) (ret := none) mOk (by decide) rfl (Nat.le_of_ble_eq_true rfl) ?_
  intro p e s m below meth c ls hC hr hlocks hW hS hl
  have hx := hC.1.1
  have hb := hC.1.2.1
  have hl : lv_has ls 2 [(0, .ref (q_a mX G 0 0)), (1, .int (nI i))] := hl
  refine lv_aload_n hx hb md_fm_remember_0 rfl (lv_at hl 0 rfl) ?_
  refine mg_fm_26 hC hW 0 Nat.one_pos md_fm_remember_1 ?_
  refine lv_iload_n hx hb md_fm_remember_4 rfl (lv_at hl 1 rfl) ?_
  have h_1 : vp_in (nI i) 6 := by have l1 := nI_toInt (n := i) (by omega); rw [vp_in_iff]; omega
  have s_2 : (nI i).toNatClampNeg = i := by have l1 := nI_toInt (n := i) (by omega); apply q_tn; omega
  refine male_6 hC hW h_1 s_2 (rfl) md_fm_remember_5 ?_
  refine lv_if_ne (tgt := 10) hx hb md_fm_remember_6 (by decide) (fun c_3 => ?_) (fun c_3 => ?_)
  · -- taken
    refine lv_aload_n hx hb md_fm_remember_10 rfl (lv_at hl 0 rfl) ?_
    refine mg_fm_26 hC hW 0 Nat.one_pos md_fm_remember_11 ?_
    refine lv_iload_n hx hb md_fm_remember_14 rfl (lv_at hl 1 rfl) ?_
    refine lv_iconst (v := 0) hx hb md_fm_remember_15 (by decide) ?_
    have h_4 : vp_in (nI i) 6 := by have e_c_3 := lv_neT c_3 (a := 0) (by decide); have l1 := nI_toInt (n := i) (by omega); rw [vp_in_iff]; omega
    have s_5 : (nI i).toNatClampNeg = i := by have e_c_3 := lv_neT c_3 (a := 0) (by decide); have l1 := nI_toInt (n := i) (by omega); apply q_tn; omega
    refine mase_6 hC hW hS (fun _ h => h) h_4 s_5 (by decide) md_fm_remember_16 (fun H locs hW hS => ?_)
    refine lv_aload_n hx hb md_fm_remember_17 rfl (lv_at hl 0 rfl) ?_
    refine mg_fm_108 hC hW 0 Nat.one_pos md_fm_remember_18 ?_
    refine lv_iconst (v := 5) hx hb md_fm_remember_21 (by decide) ?_
    refine lv_dup2_11 hx hb md_fm_remember_22 rfl rfl ?_
    have h_6 : vp_in 5 10 := by unfold vp_in; decide +kernel
    refine male_33 hC hW h_6 rfl (q_sj (by decide) (rfl)) md_fm_remember_23 ?_
    refine lv_iconst (v := 1) hx hb md_fm_remember_24 (by decide) ?_
    refine lv_iadd hx hb md_fm_remember_25 ?_
    have h_7 : vp_in 5 10 := by unfold vp_in; decide +kernel
    refine mase_33 hC hW hS (fun _ h => h) h_7 rfl md_fm_remember_26 (fun H locs hW hS => ?_)
    refine lv_aload_n hx hb md_fm_remember_27 rfl (lv_at hl 0 rfl) ?_
    refine W.eq (g2 := F0 m 28 ls [.ref (q_a mX G 0 0)]) rfl ?_
    refine lv_iload_n hx hb md_fm_remember_28 rfl (lv_at hl 1 rfl) ?_
    have hI_8 : mI (q_st (q_st S 6 0 i (.int 0)) 33 0 5 (.int ((q_i (S 33 0 5)) + 1))) := (mIs (mIs hI rfl) rfl)
    have hJ_9 : mJ (q_st (q_st S 6 0 i (.int 0)) 33 0 5 (.int ((q_i (S 33 0 5)) + 1))) := mJ_eq hJ (fun k => ((q_kj (by decide)).trans (q_kj (by decide)))) (fun k => ((q_kj (by decide)).trans (q_kj (by decide)))) (fun k => ((q_kj (by decide)).trans (q_kj (by decide)))) (fun k => ((q_kj (by decide)).trans (q_kj (by decide))))
    have hQ_10 : mQ (q_st (q_st S 6 0 i (.int 0)) 33 0 5 (.int ((q_i (S 33 0 5)) + 1))) := mQ_eq hQ ((q_kj (by decide)).trans (q_kj (by decide))) (fun _ => ((q_kj (by decide)).trans (q_kj (by decide)))) (fun _ => ((q_kj (by decide)).trans (q_kj (by decide))))
    refine q_callv hC hS (fun _ h => h) (q_runV (rest := []) hC hW (mC_fm_begin l G (q_st (q_st S 6 0 i (.int 0)) 33 0 5 (.int ((q_i (S 33 0 5)) + 1))) i hi hI_8 hJ_9 hQ_10 (by rw [show q_i ((q_st (q_st S 6 0 i (.int 0)) 33 0 5 (.int ((q_i (S 33 0 5)) + 1))) 15 0 i) = q_i (S 15 0 i) from q_sj (by decide) (q_sj (by decide) (rfl))]; exact hw)) (mc_fm_185 (q_rm 9) hC.1.2.2.2.2 ⟨Nat.le_of_ble_eq_true rfl, Nat.le_of_ble_eq_true rfl⟩ rfl rfl) Nat.one_pos rfl rfl rfl hl.1 rfl (Nat.le_of_ble_eq_true rfl) md_fm_remember_29 ⟨Nat.zero_le _, Nat.zero_le _⟩) (fun H locs hW hS => ?_)
    have hf : m_fm_remember S i = m_fm_begin (q_st (q_st S 6 0 i (.int 0)) 33 0 5 (.int ((q_i (S 33 0 5)) + 1))) i := by unfold m_fm_remember; rw [if_neg c_3]
    rw [hf]
    exact q_vret hC hr hlocks hW hS rfl md_fm_remember_32
  · -- not taken
    have hf : m_fm_remember S i = S := by unfold m_fm_remember; rw [if_pos c_3]
    rw [hf]
    exact q_vret hC hr hlocks hW hS rfl md_fm_remember_9
set_option maxRecDepth 100000 in
set_option maxHeartbeats 4000000 in
theorem mI_fm_remember (S : q_S) (i : Nat) (hi : i < 6) (hI : mI S) (hJ : mJ S) (hQ : mQ S) (hw : 1 ≤ (q_i (S 15 0 i)).toInt) : mI (m_fm_remember S i) := by
  by_cases c_3 : q_i (S 6 0 i) = 0
  · -- yes
    have h_1 : vp_in (nI i) 6 := by have l1 := nI_toInt (n := i) (by omega); rw [vp_in_iff]; omega
    have s_2 : (nI i).toNatClampNeg = i := by have l1 := nI_toInt (n := i) (by omega); apply q_tn; omega
    have hf : m_fm_remember S i = S := by unfold m_fm_remember; rw [if_pos c_3]
    rw [hf]
    exact hI
  · -- no
    have h_1 : vp_in (nI i) 6 := by have l1 := nI_toInt (n := i) (by omega); rw [vp_in_iff]; omega
    have s_2 : (nI i).toNatClampNeg = i := by have l1 := nI_toInt (n := i) (by omega); apply q_tn; omega
    have h_4 : vp_in (nI i) 6 := by have e_c_3 := lv_neT c_3 (a := 0) (by decide); have l1 := nI_toInt (n := i) (by omega); rw [vp_in_iff]; omega
    have s_5 : (nI i).toNatClampNeg = i := by have e_c_3 := lv_neT c_3 (a := 0) (by decide); have l1 := nI_toInt (n := i) (by omega); apply q_tn; omega
    have h_6 : vp_in 5 10 := by unfold vp_in; decide +kernel
    have h_7 : vp_in 5 10 := by unfold vp_in; decide +kernel
    have hI_8 : mI (q_st (q_st S 6 0 i (.int 0)) 33 0 5 (.int ((q_i (S 33 0 5)) + 1))) := (mIs (mIs hI rfl) rfl)
    have hJ_9 : mJ (q_st (q_st S 6 0 i (.int 0)) 33 0 5 (.int ((q_i (S 33 0 5)) + 1))) := mJ_eq hJ (fun k => ((q_kj (by decide)).trans (q_kj (by decide)))) (fun k => ((q_kj (by decide)).trans (q_kj (by decide)))) (fun k => ((q_kj (by decide)).trans (q_kj (by decide)))) (fun k => ((q_kj (by decide)).trans (q_kj (by decide))))
    have hQ_10 : mQ (q_st (q_st S 6 0 i (.int 0)) 33 0 5 (.int ((q_i (S 33 0 5)) + 1))) := mQ_eq hQ ((q_kj (by decide)).trans (q_kj (by decide))) (fun _ => ((q_kj (by decide)).trans (q_kj (by decide)))) (fun _ => ((q_kj (by decide)).trans (q_kj (by decide))))
    have hf : m_fm_remember S i = m_fm_begin (q_st (q_st S 6 0 i (.int 0)) 33 0 5 (.int ((q_i (S 33 0 5)) + 1))) i := by unfold m_fm_remember; rw [if_neg c_3]
    rw [hf]
    exact (mI_fm_begin (q_st (q_st S 6 0 i (.int 0)) 33 0 5 (.int ((q_i (S 33 0 5)) + 1))) i hi hI_8 hJ_9 hQ_10 (by rw [show q_i ((q_st (q_st S 6 0 i (.int 0)) 33 0 5 (.int ((q_i (S 33 0 5)) + 1))) 15 0 i) = q_i (S 15 0 i) from q_sj (by decide) (q_sj (by decide) (rfl))]; exact hw))
set_option maxRecDepth 100000 in
set_option maxHeartbeats 4000000 in
theorem mK_fm_remember (S : q_S) (i : Nat) (x y z : Nat) (h0 : x ≠ 0) (h6 : x ≠ 6) (h7 : x ≠ 7) (h8 : x ≠ 8) (h10 : x ≠ 10) (h11 : x ≠ 11) (h12 : x ≠ 12) (h13 : x ≠ 13) (h14 : x ≠ 14) (h15 : x ≠ 15) (h16 : x ≠ 16) (h17 : x ≠ 17) (h18 : x ≠ 18) (h19 : x ≠ 19) (h20 : x ≠ 20) (h21 : x ≠ 21) (h22 : x ≠ 22) (h23 : x ≠ 23) (h24 : x ≠ 24) (h25 : x ≠ 25) (h26 : x ≠ 26) (h27 : x ≠ 27) (h28 : x ≠ 28) (h29 : x ≠ 29) (h31 : x ≠ 31) (h32 : x ≠ 32) (h33 : x ≠ 33) : (m_fm_remember S i) x y z = S x y z := by
  by_cases c_3 : q_i (S 6 0 i) = 0
  · -- yes
    have hf : m_fm_remember S i = S := by unfold m_fm_remember; rw [if_pos c_3]
    rw [hf]
  · -- no
    have hf : m_fm_remember S i = m_fm_begin (q_st (q_st S 6 0 i (.int 0)) 33 0 5 (.int ((q_i (S 33 0 5)) + 1))) i := by unfold m_fm_remember; rw [if_neg c_3]
    rw [hf]
    exact ((mK_fm_begin (q_st (q_st S 6 0 i (.int 0)) 33 0 5 (.int ((q_i (S 33 0 5)) + 1))) i x y z h0 h7 h8 h10 h11 h12 h13 h14 h15 h16 h17 h18 h19 h20 h21 h22 h23 h24 h25 h26 h27 h28 h29 h31 h32 h33)).trans ((q_kj h33).trans ((q_kj h6)))
