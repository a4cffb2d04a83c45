theorem q_ni {i : Nat} (h : i < 6) : 0 ≤ (nI i).toInt ∧ (nI i).toInt ≤ 5 := by rw [nI_toInt (by omega)]; omega
def x_tl_drop_L0 : Nat → q_S → Int32 → Nat → Nat → q_S
  | 0, S, _, _, _ => S
  | n + 1, S, a, v, t =>
    if q_i (S 3 0 1) ≤ nI t then
      q_st S 3 0 1 (.int (nI v))
    else
      if q_i (S 4 0 ((nI t).toNatClampNeg)) = a then
        x_tl_drop_L0 n S a v (t + 1)
      else
        x_tl_drop_L0 n (q_st S 4 0 ((nI v).toNatClampNeg) (.int (q_i (S 4 0 ((nI t).toNatClampNeg))))) a (v + 1) (t + 1)
set_option maxRecDepth 100000 in
set_option maxHeartbeats 4000000 in
theorem xL_tl_drop_L0 (l : Launch) (G : q_G) (a : Int32)  {p : Program} {e : Env} {s : State} {m : MethodId} {below : List Frame} {meth : Method} {c : Code} (hC : q_C xX G p m c xb_tl_drop 4 s ([.ref (q_a xX G 3 0), .int a] : List Value).toArray (q_ws (q_gw lw_tbl) xy_tl_drop xb_tl_drop 4 none) xR_tl) (hr : meth.sig.returnType = none) (hlocks : meth.locks = false) : ∀ (n : Nat) (S : q_S) (v : Nat) (t : Nat) (H : Heap) (locs : List Loc) (ls : Array Slot), t + n = 7 → t ≤ 6 → v ≤ t → xI S → q_w xX G s S H → va_S (q_A xX G) s.heap H locs → lv_has ls 4 [(0, .ref (q_a xX G 3 0)), (1, .int a), (2, .int (nI v)), (3, .int (nI t))] → W p l e (headSpec (q_ws (q_gw lw_tbl) xy_tl_drop xb_tl_drop 4 none) (q_rm 0)).room s m ([.ref (q_a xX G 3 0), .int a] : List Value).toArray below meth c H locs 0 0 (MQ below (va_Qv (fun (u : q_S) => u = x_tl_drop_L0 n S a v t) (q_P xX G) (q_A xX G)) ([.ref (q_a xX G 3 0), .int a] : List Value).toArray s 0 0 (q_A xX G)) (F0 m 4 ls []) := by
  have hx := hC.1.1
  have hb := hC.1.2.1
  intro n
  induction n with
  | zero =>
    intro S v t H locs ls ht hu hv hI hW hS hl
    exfalso
    omega
  | succ n ih =>
    intro S v t H locs ls ht hu hv hI hW hS hl
    refine lv_iload_n hx hb xd_tl_drop_4 rfl (lv_at hl 3 rfl) ?_
    refine lv_aload_n hx hb xd_tl_drop_5 rfl (lv_at hl 0 rfl) ?_
    refine xg_tl_15 hC hW 0 Nat.one_pos (rfl) xd_tl_drop_6 ?_
    refine lv_icmp_ge (tgt := 43) hx hb xd_tl_drop_9 (by decide) (fun c_1 => ?_) (fun c_1 => ?_)
    · -- taken
      refine lv_aload_n hx hb xd_tl_drop_43 rfl (lv_at hl 0 rfl) ?_
      refine lv_iload_n hx hb xd_tl_drop_44 rfl (lv_at hl 2 rfl) ?_
      refine xg_tl_15p hC hW hS (fun _ h => h) 0 Nat.one_pos xd_tl_drop_45 (fun H locs hW hS => ?_)
      have hf : x_tl_drop_L0 (n + 1) S a v t = q_st S 3 0 1 (.int (nI v)) := by rw [x_tl_drop_L0, if_pos c_1]
      rw [hf]
      exact q_vret hC hr hlocks hW hS rfl xd_tl_drop_48
    · -- not taken
      refine lv_aload_n hx hb xd_tl_drop_12 rfl (lv_at hl 0 rfl) ?_
      refine xg_tl_9 hC hW 0 Nat.one_pos xd_tl_drop_13 ?_
      refine lv_iload_n hx hb xd_tl_drop_16 rfl (lv_at hl 3 rfl) ?_
      have h_2 : vp_in (nI t) 6 := by have b1 : 0 ≤ (q_i (S 3 0 1)).toInt ∧ (q_i (S 3 0 1)).toInt ≤ 6 := hI 3 0 1; have n_v := nI_toInt (n := v) (by omega); have m_v := q_nT (n := v) (by omega); have n_t := nI_toInt (n := t) (by omega); have m_t := q_nT (n := t) (by omega); simp only [vp_in_iff, Int32.lt_iff_toInt_lt, Int32.le_iff_toInt_le, q_n0, q_n1, q_n2, q_n3, q_n4, q_n5, q_n6, q_n7, q_n10, q_n14, q_n15, q_n20, q_n60, q_n1288] at c_1 ⊢; omega
      refine xal_4 hC hW 0 Nat.one_pos h_2 (rfl) xd_tl_drop_17 ?_
      refine lv_iload_n hx hb xd_tl_drop_18 rfl (lv_at hl 1 rfl) ?_
      refine lv_icmp_eq (tgt := 37) hx hb xd_tl_drop_19 (by decide) (fun c_3 => ?_) (fun c_3 => ?_)
      · -- taken
        refine lv_iinc (v := nI t + 1) (lv' := [(3, .int (nI t + 1)), (0, .ref (q_a xX G 3 0)), (1, .int a), (2, .int (nI v))]) hx hb xd_tl_drop_37 hl (k := 3) rfl rfl (by decide) rfl (fun ls hl => ?_)
        refine lv_goto (tgt := 4) hx hb xd_tl_drop_40 (by decide) ?_
        have hf : x_tl_drop_L0 (n + 1) S a v t = x_tl_drop_L0 n S a v (t + 1) := by rw [x_tl_drop_L0, if_neg c_1, if_pos c_3]
        rw [hf]
        have hl2 : lv_has ls 4 [(0, .ref (q_a xX G 3 0)), (1, .int a), (2, .int (nI v)), (3, .int (nI (t + 1)))] := by rw [← nI_1 t]; exact lv_sub hl [1, 2, 3, 0] rfl
        exact ih S v (t + 1) _ _ ls (by have b1 : 0 ≤ (q_i (S 3 0 1)).toInt ∧ (q_i (S 3 0 1)).toInt ≤ 6 := hI 3 0 1; have b2 : 0 ≤ (q_i (S 4 0 ((nI t).toNatClampNeg))).toInt ∧ (q_i (S 4 0 ((nI t).toNatClampNeg))).toInt ≤ 5 := hI 4 0 ((nI t).toNatClampNeg); have n_v := nI_toInt (n := v) (by omega); have m_v := q_nT (n := v) (by omega); have n_t := nI_toInt (n := t) (by omega); have m_t := q_nT (n := t) (by omega); simp only [Int32.lt_iff_toInt_lt, Int32.le_iff_toInt_le, q_n0, q_n1, q_n2, q_n3, q_n4, q_n5, q_n6, q_n7, q_n10, q_n14, q_n15, q_n20, q_n60, q_n1288] at c_1; omega) (by have b1 : 0 ≤ (q_i (S 3 0 1)).toInt ∧ (q_i (S 3 0 1)).toInt ≤ 6 := hI 3 0 1; have b2 : 0 ≤ (q_i (S 4 0 ((nI t).toNatClampNeg))).toInt ∧ (q_i (S 4 0 ((nI t).toNatClampNeg))).toInt ≤ 5 := hI 4 0 ((nI t).toNatClampNeg); have n_v := nI_toInt (n := v) (by omega); have m_v := q_nT (n := v) (by omega); have n_t := nI_toInt (n := t) (by omega); have m_t := q_nT (n := t) (by omega); simp only [Int32.lt_iff_toInt_lt, Int32.le_iff_toInt_le, q_n0, q_n1, q_n2, q_n3, q_n4, q_n5, q_n6, q_n7, q_n10, q_n14, q_n15, q_n20, q_n60, q_n1288] at c_1; omega) (by have b1 : 0 ≤ (q_i (S 3 0 1)).toInt ∧ (q_i (S 3 0 1)).toInt ≤ 6 := hI 3 0 1; have b2 : 0 ≤ (q_i (S 4 0 ((nI t).toNatClampNeg))).toInt ∧ (q_i (S 4 0 ((nI t).toNatClampNeg))).toInt ≤ 5 := hI 4 0 ((nI t).toNatClampNeg); have n_v := nI_toInt (n := v) (by omega); have m_v := q_nT (n := v) (by omega); have n_t := nI_toInt (n := t) (by omega); have m_t := q_nT (n := t) (by omega); simp only [Int32.lt_iff_toInt_lt, Int32.le_iff_toInt_le, q_n0, q_n1, q_n2, q_n3, q_n4, q_n5, q_n6, q_n7, q_n10, q_n14, q_n15, q_n20, q_n60, q_n1288] at c_1; omega) hI hW hS hl2
      · -- not taken
        refine lv_aload_n hx hb xd_tl_drop_22 rfl (lv_at hl 0 rfl) ?_
        refine xg_tl_9 hC hW 0 Nat.one_pos xd_tl_drop_23 ?_
        refine lv_iload_n hx hb xd_tl_drop_26 rfl (lv_at hl 2 rfl) ?_
        refine lv_aload_n hx hb xd_tl_drop_27 rfl (lv_at hl 0 rfl) ?_
        refine xg_tl_9 hC hW 0 Nat.one_pos xd_tl_drop_28 ?_
        refine lv_iload_n hx hb xd_tl_drop_31 rfl (lv_at hl 3 rfl) ?_
        have h_4 : vp_in (nI t) 6 := by have b1 : 0 ≤ (q_i (S 3 0 1)).toInt ∧ (q_i (S 3 0 1)).toInt ≤ 6 := hI 3 0 1; have b2 : 0 ≤ (q_i (S 4 0 ((nI t).toNatClampNeg))).toInt ∧ (q_i (S 4 0 ((nI t).toNatClampNeg))).toInt ≤ 5 := hI 4 0 ((nI t).toNatClampNeg); have n_v := nI_toInt (n := v) (by omega); have m_v := q_nT (n := v) (by omega); have n_t := nI_toInt (n := t) (by omega); have m_t := q_nT (n := t) (by omega); simp only [vp_in_iff, Int32.lt_iff_toInt_lt, Int32.le_iff_toInt_le, q_n0, q_n1, q_n2, q_n3, q_n4, q_n5, q_n6, q_n7, q_n10, q_n14, q_n15, q_n20, q_n60, q_n1288] at c_1 ⊢; omega
        refine xal_4 hC hW 0 Nat.one_pos h_4 (rfl) xd_tl_drop_32 ?_
        have h_5 : vp_in (nI v) 6 := by have b1 : 0 ≤ (q_i (S 3 0 1)).toInt ∧ (q_i (S 3 0 1)).toInt ≤ 6 := hI 3 0 1; have b2 : 0 ≤ (q_i (S 4 0 ((nI t).toNatClampNeg))).toInt ∧ (q_i (S 4 0 ((nI t).toNatClampNeg))).toInt ≤ 5 := hI 4 0 ((nI t).toNatClampNeg); have n_v := nI_toInt (n := v) (by omega); have m_v := q_nT (n := v) (by omega); have n_t := nI_toInt (n := t) (by omega); have m_t := q_nT (n := t) (by omega); simp only [vp_in_iff, Int32.lt_iff_toInt_lt, Int32.le_iff_toInt_le, q_n0, q_n1, q_n2, q_n3, q_n4, q_n5, q_n6, q_n7, q_n10, q_n14, q_n15, q_n20, q_n60, q_n1288] at c_1 ⊢; omega
        refine xas_4 hC hW hS (fun _ h => h) 0 Nat.one_pos h_5 xd_tl_drop_33 (fun H locs hW hS => ?_)
        refine lv_iinc (v := nI v + 1) (lv' := [(2, .int (nI v + 1)), (0, .ref (q_a xX G 3 0)), (1, .int a), (3, .int (nI t))]) hx hb xd_tl_drop_34 hl (k := 2) rfl rfl (by decide) rfl (fun ls hl => ?_)
        refine lv_iinc (v := nI t + 1) (lv' := [(3, .int (nI t + 1)), (2, .int (nI v + 1)), (0, .ref (q_a xX G 3 0)), (1, .int a)]) hx hb xd_tl_drop_37 hl (k := 3) rfl rfl (by decide) rfl (fun ls hl => ?_)
        refine lv_goto (tgt := 4) hx hb xd_tl_drop_40 (by decide) ?_
        have hf : x_tl_drop_L0 (n + 1) S a v t = x_tl_drop_L0 n (q_st S 4 0 ((nI v).toNatClampNeg) (.int (q_i (S 4 0 ((nI t).toNatClampNeg))))) a (v + 1) (t + 1) := by rw [x_tl_drop_L0, if_neg c_1, if_neg c_3]
        rw [hf]
        have hl2 : lv_has ls 4 [(0, .ref (q_a xX G 3 0)), (1, .int a), (2, .int (nI (v + 1))), (3, .int (nI (t + 1)))] := by rw [← nI_1 v, ← nI_1 t]; exact lv_sub hl [2, 3, 1, 0] rfl
        have hI_6 : xI (q_st S 4 0 ((nI v).toNatClampNeg) (.int (q_i (S 4 0 ((nI t).toNatClampNeg))))) := (xI_st hI (by have b1 : 0 ≤ (q_i (S 4 0 ((nI t).toNatClampNeg))).toInt ∧ (q_i (S 4 0 ((nI t).toNatClampNeg))).toInt ≤ 5 := hI 4 0 ((nI t).toNatClampNeg); have b2 : 0 ≤ (q_i (S 3 0 1)).toInt ∧ (q_i (S 3 0 1)).toInt ≤ 6 := hI 3 0 1; have n_v := nI_toInt (n := v) (by omega); have m_v := q_nT (n := v) (by omega); have n_t := nI_toInt (n := t) (by omega); have m_t := q_nT (n := t) (by omega); simp only [Int32.lt_iff_toInt_lt, Int32.le_iff_toInt_le, q_n0, q_n1, q_n2, q_n3, q_n4, q_n5, q_n6, q_n7, q_n10, q_n14, q_n15, q_n20, q_n60, q_n1288] at c_1; show 0 ≤ (q_i (S 4 0 ((nI t).toNatClampNeg))).toInt ∧ (q_i (S 4 0 ((nI t).toNatClampNeg))).toInt ≤ 5; omega))
        exact ih (q_st S 4 0 ((nI v).toNatClampNeg) (.int (q_i (S 4 0 ((nI t).toNatClampNeg))))) (v + 1) (t + 1) _ _ ls (by have b1 : 0 ≤ (q_i (S 3 0 1)).toInt ∧ (q_i (S 3 0 1)).toInt ≤ 6 := hI 3 0 1; have b2 : 0 ≤ (q_i (S 4 0 ((nI t).toNatClampNeg))).toInt ∧ (q_i (S 4 0 ((nI t).toNatClampNeg))).toInt ≤ 5 := hI 4 0 ((nI t).toNatClampNeg); have n_v := nI_toInt (n := v) (by omega); have m_v := q_nT (n := v) (by omega); have n_t := nI_toInt (n := t) (by omega); have m_t := q_nT (n := t) (by omega); simp only [Int32.lt_iff_toInt_lt, Int32.le_iff_toInt_le, q_n0, q_n1, q_n2, q_n3, q_n4, q_n5, q_n6, q_n7, q_n10, q_n14, q_n15, q_n20, q_n60, q_n1288] at c_1; omega) (by have b1 : 0 ≤ (q_i (S 3 0 1)).toInt ∧ (q_i (S 3 0 1)).toInt ≤ 6 := hI 3 0 1; have b2 : 0 ≤ (q_i (S 4 0 ((nI t).toNatClampNeg))).toInt ∧ (q_i (S 4 0 ((nI t).toNatClampNeg))).toInt ≤ 5 := hI 4 0 ((nI t).toNatClampNeg); have n_v := nI_toInt (n := v) (by omega); have m_v := q_nT (n := v) (by omega); have n_t := nI_toInt (n := t) (by omega); have m_t := q_nT (n := t) (by omega); simp only [Int32.lt_iff_toInt_lt, Int32.le_iff_toInt_le, q_n0, q_n1, q_n2, q_n3, q_n4, q_n5, q_n6, q_n7, q_n10, q_n14, q_n15, q_n20, q_n60, q_n1288] at c_1; omega) (by have b1 : 0 ≤ (q_i (S 3 0 1)).toInt ∧ (q_i (S 3 0 1)).toInt ≤ 6 := hI 3 0 1; have b2 : 0 ≤ (q_i (S 4 0 ((nI t).toNatClampNeg))).toInt ∧ (q_i (S 4 0 ((nI t).toNatClampNeg))).toInt ≤ 5 := hI 4 0 ((nI t).toNatClampNeg); have n_v := nI_toInt (n := v) (by omega); have m_v := q_nT (n := v) (by omega); have n_t := nI_toInt (n := t) (by omega); have m_t := q_nT (n := t) (by omega); simp only [Int32.lt_iff_toInt_lt, Int32.le_iff_toInt_le, q_n0, q_n1, q_n2, q_n3, q_n4, q_n5, q_n6, q_n7, q_n10, q_n14, q_n15, q_n20, q_n60, q_n1288] at c_1; omega) hI_6 hW hS hl2
set_option maxRecDepth 100000 in
set_option maxHeartbeats 4000000 in
theorem xK_tl_drop_L0 : ∀ (n : Nat) (S : q_S) (a : Int32) (v : Nat) (t : Nat) (x y z : Nat) (h3 : x ≠ 3) (h4 : x ≠ 4), (x_tl_drop_L0 n S a v t) x y z = S x y z := by
  intro n
  induction n with
  | zero => intro S a v t x y z h3 h4; rfl
  | succ n ih =>
    intro S a v t x y z h3 h4
    by_cases c_1 : q_i (S 3 0 1) ≤ nI t
    · -- yes
      have hf : x_tl_drop_L0 (n + 1) S a v t = q_st S 3 0 1 (.int (nI v)) := by rw [x_tl_drop_L0, if_pos c_1]
      rw [hf]
      exact (q_kj h3)
    · -- no
      by_cases c_3 : q_i (S 4 0 ((nI t).toNatClampNeg)) = a
      · -- yes
        have hf : x_tl_drop_L0 (n + 1) S a v t = x_tl_drop_L0 n S a v (t + 1) := by rw [x_tl_drop_L0, if_neg c_1, if_pos c_3]
        rw [hf]
        exact (ih S a v (t + 1) x y z h3 h4).trans (rfl)
      · -- no
        have hf : x_tl_drop_L0 (n + 1) S a v t = x_tl_drop_L0 n (q_st S 4 0 ((nI v).toNatClampNeg) (.int (q_i (S 4 0 ((nI t).toNatClampNeg))))) a (v + 1) (t + 1) := by rw [x_tl_drop_L0, if_neg c_1, if_neg c_3]
        rw [hf]
        exact (ih (q_st S 4 0 ((nI v).toNatClampNeg) (.int (q_i (S 4 0 ((nI t).toNatClampNeg))))) a (v + 1) (t + 1) x y z h3 h4).trans ((q_kj h4))
set_option maxRecDepth 100000 in
set_option maxHeartbeats 4000000 in
theorem xI_tl_drop_L0 (a : Int32)  : ∀ (n : Nat) (S : q_S) (v : Nat) (t : Nat), t + n = 7 → t ≤ 6 → v ≤ t → xI S → xI (x_tl_drop_L0 n S a v t) := by
  intro n
  induction n with
  | zero =>
    intro S v t ht hu hv hI
    exfalso
    omega
  | succ n ih =>
    intro S v t ht hu hv hI
    by_cases c_1 : q_i (S 3 0 1) ≤ nI t
    · -- yes
      have hf : x_tl_drop_L0 (n + 1) S a v t = q_st S 3 0 1 (.int (nI v)) := by rw [x_tl_drop_L0, if_pos c_1]
      rw [hf]
      exact (xI_st hI (by have b1 : 0 ≤ (q_i (S 3 0 1)).toInt ∧ (q_i (S 3 0 1)).toInt ≤ 6 := hI 3 0 1; have n_v := nI_toInt (n := v) (by omega); have m_v := q_nT (n := v) (by omega); have n_t := nI_toInt (n := t) (by omega); have m_t := q_nT (n := t) (by omega); simp only [Int32.lt_iff_toInt_lt, Int32.le_iff_toInt_le, q_n0, q_n1, q_n2, q_n3, q_n4, q_n5, q_n6, q_n7, q_n10, q_n14, q_n15, q_n20, q_n60, q_n1288] at c_1; show 0 ≤ (nI v).toInt ∧ (nI v).toInt ≤ 6; omega))
    · -- no
      by_cases c_3 : q_i (S 4 0 ((nI t).toNatClampNeg)) = a
      · -- yes
        have h_2 : vp_in (nI t) 6 := by have b1 : 0 ≤ (q_i (S 3 0 1)).toInt ∧ (q_i (S 3 0 1)).toInt ≤ 6 := hI 3 0 1; have n_v := nI_toInt (n := v) (by omega); have m_v := q_nT (n := v) (by omega); have n_t := nI_toInt (n := t) (by omega); have m_t := q_nT (n := t) (by omega); simp only [vp_in_iff, Int32.lt_iff_toInt_lt, Int32.le_iff_toInt_le, q_n0, q_n1, q_n2, q_n3, q_n4, q_n5, q_n6, q_n7, q_n10, q_n14, q_n15, q_n20, q_n60, q_n1288] at c_1 ⊢; omega
        have hf : x_tl_drop_L0 (n + 1) S a v t = x_tl_drop_L0 n S a v (t + 1) := by rw [x_tl_drop_L0, if_neg c_1, if_pos c_3]
        rw [hf]
        exact ih S v (t + 1) (by have b1 : 0 ≤ (q_i (S 3 0 1)).toInt ∧ (q_i (S 3 0 1)).toInt ≤ 6 := hI 3 0 1; have b2 : 0 ≤ (q_i (S 4 0 ((nI t).toNatClampNeg))).toInt ∧ (q_i (S 4 0 ((nI t).toNatClampNeg))).toInt ≤ 5 := hI 4 0 ((nI t).toNatClampNeg); have n_v := nI_toInt (n := v) (by omega); have m_v := q_nT (n := v) (by omega); have n_t := nI_toInt (n := t) (by omega); have m_t := q_nT (n := t) (by omega); simp only [Int32.lt_iff_toInt_lt, Int32.le_iff_toInt_le, q_n0, q_n1, q_n2, q_n3, q_n4, q_n5, q_n6, q_n7, q_n10, q_n14, q_n15, q_n20, q_n60, q_n1288] at c_1; omega) (by have b1 : 0 ≤ (q_i (S 3 0 1)).toInt ∧ (q_i (S 3 0 1)).toInt ≤ 6 := hI 3 0 1; have b2 : 0 ≤ (q_i (S 4 0 ((nI t).toNatClampNeg))).toInt ∧ (q_i (S 4 0 ((nI t).toNatClampNeg))).toInt ≤ 5 := hI 4 0 ((nI t).toNatClampNeg); have n_v := nI_toInt (n := v) (by omega); have m_v := q_nT (n := v) (by omega); have n_t := nI_toInt (n := t) (by omega); have m_t := q_nT (n := t) (by omega); simp only [Int32.lt_iff_toInt_lt, Int32.le_iff_toInt_le, q_n0, q_n1, q_n2, q_n3, q_n4, q_n5, q_n6, q_n7, q_n10, q_n14, q_n15, q_n20, q_n60, q_n1288] at c_1; omega) (by have b1 : 0 ≤ (q_i (S 3 0 1)).toInt ∧ (q_i (S 3 0 1)).toInt ≤ 6 := hI 3 0 1; have b2 : 0 ≤ (q_i (S 4 0 ((nI t).toNatClampNeg))).toInt ∧ (q_i (S 4 0 ((nI t).toNatClampNeg))).toInt ≤ 5 := hI 4 0 ((nI t).toNatClampNeg); have n_v := nI_toInt (n := v) (by omega); have m_v := q_nT (n := v) (by omega); have n_t := nI_toInt (n := t) (by omega); have m_t := q_nT (n := t) (by omega); simp only [Int32.lt_iff_toInt_lt, Int32.le_iff_toInt_le, q_n0, q_n1, q_n2, q_n3, q_n4, q_n5, q_n6, q_n7, q_n10, q_n14, q_n15, q_n20, q_n60, q_n1288] at c_1; omega) hI
      · -- no
        have h_2 : vp_in (nI t) 6 := by have b1 : 0 ≤ (q_i (S 3 0 1)).toInt ∧ (q_i (S 3 0 1)).toInt ≤ 6 := hI 3 0 1; have n_v := nI_toInt (n := v) (by omega); have m_v := q_nT (n := v) (by omega); have n_t := nI_toInt (n := t) (by omega); have m_t := q_nT (n := t) (by omega); simp only [vp_in_iff, Int32.lt_iff_toInt_lt, Int32.le_iff_toInt_le, q_n0, q_n1, q_n2, q_n3, q_n4, q_n5, q_n6, q_n7, q_n10, q_n14, q_n15, q_n20, q_n60, q_n1288] at c_1 ⊢; omega
        have h_4 : vp_in (nI t) 6 := by have b1 : 0 ≤ (q_i (S 3 0 1)).toInt ∧ (q_i (S 3 0 1)).toInt ≤ 6 := hI 3 0 1; have b2 : 0 ≤ (q_i (S 4 0 ((nI t).toNatClampNeg))).toInt ∧ (q_i (S 4 0 ((nI t).toNatClampNeg))).toInt ≤ 5 := hI 4 0 ((nI t).toNatClampNeg); have n_v := nI_toInt (n := v) (by omega); have m_v := q_nT (n := v) (by omega); have n_t := nI_toInt (n := t) (by omega); have m_t := q_nT (n := t) (by omega); simp only [vp_in_iff, Int32.lt_iff_toInt_lt, Int32.le_iff_toInt_le, q_n0, q_n1, q_n2, q_n3, q_n4, q_n5, q_n6, q_n7, q_n10, q_n14, q_n15, q_n20, q_n60, q_n1288] at c_1 ⊢; omega
        have h_5 : vp_in (nI v) 6 := by have b1 : 0 ≤ (q_i (S 3 0 1)).toInt ∧ (q_i (S 3 0 1)).toInt ≤ 6 := hI 3 0 1; have b2 : 0 ≤ (q_i (S 4 0 ((nI t).toNatClampNeg))).toInt ∧ (q_i (S 4 0 ((nI t).toNatClampNeg))).toInt ≤ 5 := hI 4 0 ((nI t).toNatClampNeg); have n_v := nI_toInt (n := v) (by omega); have m_v := q_nT (n := v) (by omega); have n_t := nI_toInt (n := t) (by omega); have m_t := q_nT (n := t) (by omega); simp only [vp_in_iff, Int32.lt_iff_toInt_lt, Int32.le_iff_toInt_le, q_n0, q_n1, q_n2, q_n3, q_n4, q_n5, q_n6, q_n7, q_n10, q_n14, q_n15, q_n20, q_n60, q_n1288] at c_1 ⊢; omega
        have hI_6 : xI (q_st S 4 0 ((nI v).toNatClampNeg) (.int (q_i (S 4 0 ((nI t).toNatClampNeg))))) := (xI_st hI (by have b1 : 0 ≤ (q_i (S 4 0 ((nI t).toNatClampNeg))).toInt ∧ (q_i (S 4 0 ((nI t).toNatClampNeg))).toInt ≤ 5 := hI 4 0 ((nI t).toNatClampNeg); have b2 : 0 ≤ (q_i (S 3 0 1)).toInt ∧ (q_i (S 3 0 1)).toInt ≤ 6 := hI 3 0 1; have n_v := nI_toInt (n := v) (by omega); have m_v := q_nT (n := v) (by omega); have n_t := nI_toInt (n := t) (by omega); have m_t := q_nT (n := t) (by omega); simp only [Int32.lt_iff_toInt_lt, Int32.le_iff_toInt_le, q_n0, q_n1, q_n2, q_n3, q_n4, q_n5, q_n6, q_n7, q_n10, q_n14, q_n15, q_n20, q_n60, q_n1288] at c_1; show 0 ≤ (q_i (S 4 0 ((nI t).toNatClampNeg))).toInt ∧ (q_i (S 4 0 ((nI t).toNatClampNeg))).toInt ≤ 5; omega))
        have hf : x_tl_drop_L0 (n + 1) S a v t = x_tl_drop_L0 n (q_st S 4 0 ((nI v).toNatClampNeg) (.int (q_i (S 4 0 ((nI t).toNatClampNeg))))) a (v + 1) (t + 1) := by rw [x_tl_drop_L0, if_neg c_1, if_neg c_3]
        rw [hf]
        have hI_905 : xI (q_st S 4 0 ((nI v).toNatClampNeg) (.int (q_i (S 4 0 ((nI t).toNatClampNeg))))) := (xI_st hI (by have b1 : 0 ≤ (q_i (S 4 0 ((nI t).toNatClampNeg))).toInt ∧ (q_i (S 4 0 ((nI t).toNatClampNeg))).toInt ≤ 5 := hI 4 0 ((nI t).toNatClampNeg); have b2 : 0 ≤ (q_i (S 3 0 1)).toInt ∧ (q_i (S 3 0 1)).toInt ≤ 6 := hI 3 0 1; have n_v := nI_toInt (n := v) (by omega); have m_v := q_nT (n := v) (by omega); have n_t := nI_toInt (n := t) (by omega); have m_t := q_nT (n := t) (by omega); simp only [Int32.lt_iff_toInt_lt, Int32.le_iff_toInt_le, q_n0, q_n1, q_n2, q_n3, q_n4, q_n5, q_n6, q_n7, q_n10, q_n14, q_n15, q_n20, q_n60, q_n1288] at c_1; show 0 ≤ (q_i (S 4 0 ((nI t).toNatClampNeg))).toInt ∧ (q_i (S 4 0 ((nI t).toNatClampNeg))).toInt ≤ 5; omega))
        exact ih (q_st S 4 0 ((nI v).toNatClampNeg) (.int (q_i (S 4 0 ((nI t).toNatClampNeg))))) (v + 1) (t + 1) (by have b1 : 0 ≤ (q_i (S 3 0 1)).toInt ∧ (q_i (S 3 0 1)).toInt ≤ 6 := hI 3 0 1; have b2 : 0 ≤ (q_i (S 4 0 ((nI t).toNatClampNeg))).toInt ∧ (q_i (S 4 0 ((nI t).toNatClampNeg))).toInt ≤ 5 := hI 4 0 ((nI t).toNatClampNeg); have n_v := nI_toInt (n := v) (by omega); have m_v := q_nT (n := v) (by omega); have n_t := nI_toInt (n := t) (by omega); have m_t := q_nT (n := t) (by omega); simp only [Int32.lt_iff_toInt_lt, Int32.le_iff_toInt_le, q_n0, q_n1, q_n2, q_n3, q_n4, q_n5, q_n6, q_n7, q_n10, q_n14, q_n15, q_n20, q_n60, q_n1288] at c_1; omega) (by have b1 : 0 ≤ (q_i (S 3 0 1)).toInt ∧ (q_i (S 3 0 1)).toInt ≤ 6 := hI 3 0 1; have b2 : 0 ≤ (q_i (S 4 0 ((nI t).toNatClampNeg))).toInt ∧ (q_i (S 4 0 ((nI t).toNatClampNeg))).toInt ≤ 5 := hI 4 0 ((nI t).toNatClampNeg); have n_v := nI_toInt (n := v) (by omega); have m_v := q_nT (n := v) (by omega); have n_t := nI_toInt (n := t) (by omega); have m_t := q_nT (n := t) (by omega); simp only [Int32.lt_iff_toInt_lt, Int32.le_iff_toInt_le, q_n0, q_n1, q_n2, q_n3, q_n4, q_n5, q_n6, q_n7, q_n10, q_n14, q_n15, q_n20, q_n60, q_n1288] at c_1; omega) (by have b1 : 0 ≤ (q_i (S 3 0 1)).toInt ∧ (q_i (S 3 0 1)).toInt ≤ 6 := hI 3 0 1; have b2 : 0 ≤ (q_i (S 4 0 ((nI t).toNatClampNeg))).toInt ∧ (q_i (S 4 0 ((nI t).toNatClampNeg))).toInt ≤ 5 := hI 4 0 ((nI t).toNatClampNeg); have n_v := nI_toInt (n := v) (by omega); have m_v := q_nT (n := v) (by omega); have n_t := nI_toInt (n := t) (by omega); have m_t := q_nT (n := t) (by omega); simp only [Int32.lt_iff_toInt_lt, Int32.le_iff_toInt_le, q_n0, q_n1, q_n2, q_n3, q_n4, q_n5, q_n6, q_n7, q_n10, q_n14, q_n15, q_n20, q_n60, q_n1288] at c_1; omega) hI_905
def x_tl_drop (S : q_S) (a : Int32) : q_S :=
  x_tl_drop_L0 7 S a 0 0
set_option maxRecDepth 100000 in
set_option maxHeartbeats 4000000 in
theorem xC_tl_drop (l : Launch) (G : q_G) (S : q_S) (a : Int32) (hI : xI S) : q_Mv xX G l xy_tl_drop (q_ws (q_gw lw_tbl) xy_tl_drop xb_tl_drop 4 none) (q_rm 0) [.ref (q_a xX G 3 0), .int a] S (x_tl_drop S a) := by
  refine q_met (cc := xb_tl_drop) (maxL := 4) (ret := none) xOk (by decide) rfl (Nat.le_of_ble_eq_true rfl) ?_
  intro p e s m below meth c ls hC hr hlocks hW hS hl
  have hx := hC.1.1
  have hb := hC.1.2.1
  have hl : lv_has ls 4 [(0, .ref (q_a xX G 3 0)), (1, .int a)] := hl
  refine lv_iconst (v := 0) hx hb xd_tl_drop_0 (by decide) ?_
  refine lv_istore_n (lv' := [(2, .int 0), (0, .ref (q_a xX G 3 0)), (1, .int a)]) hx hb xd_tl_drop_1 rfl hl (by decide) rfl (fun ls hl => ?_)
  refine lv_iconst (v := 0) hx hb xd_tl_drop_2 (by decide) ?_
  refine lv_istore_n (lv' := [(3, .int 0), (2, .int 0), (0, .ref (q_a xX G 3 0)), (1, .int a)]) hx hb xd_tl_drop_3 rfl hl (by decide) rfl (fun ls hl => ?_)
  have hf : x_tl_drop S a = x_tl_drop_L0 7 S a 0 0 := by unfold x_tl_drop; rfl
  rw [hf]
  have hl2 : lv_has ls 4 [(0, .ref (q_a xX G 3 0)), (1, .int a), (2, .int (nI 0)), (3, .int (nI 0))] := by rw [(show nI 0 = 0 from rfl)]; exact lv_sub hl [2, 3, 1, 0] rfl
  exact xL_tl_drop_L0 l G a  hC hr hlocks 7 S 0 0 _ _ ls (by omega) (by omega) (by omega) hI hW hS hl2
set_option maxRecDepth 100000 in
set_option maxHeartbeats 4000000 in
theorem xI_tl_drop (S : q_S) (a : Int32) (hI : xI S) : xI (x_tl_drop S a) := by
  have hf : x_tl_drop S a = x_tl_drop_L0 7 S a 0 0 := by unfold x_tl_drop; rfl
  rw [hf]
  exact xI_tl_drop_L0 a  7 S 0 0 (by omega) (by omega) (by omega) hI
set_option maxRecDepth 100000 in
set_option maxHeartbeats 4000000 in
theorem xK_tl_drop (S : q_S) (a : Int32) (x y z : Nat) (h3 : x ≠ 3) (h4 : x ≠ 4) : (x_tl_drop S a) x y z = S x y z := by
  have hf : x_tl_drop S a = x_tl_drop_L0 7 S a 0 0 := by unfold x_tl_drop; rfl
  rw [hf]
  exact (xK_tl_drop_L0 7 S a 0 0 x y z h3 h4).trans (rfl)
def x_fe_isThere (S : q_S) (a : Int32) : Int32 :=
  if a < 0 then
    0
  else
    if 6 ≤ a then
      0
    else
      if q_i (S 9 a.toNatClampNeg 6) = 0 then
        0
      else
        1
set_option maxRecDepth 100000 in
set_option maxHeartbeats 4000000 in
theorem xC_fe_isThere (l : Launch) (G : q_G) (S : q_S) (a : Int32)  : q_Mi xX G l xy_fe_isThere (q_ws (q_gw lw_tbl) xy_fe_isThere xb_fe_isThere 2 (some .boolean)) (q_rm 0) [.ref (q_a xX G 0 0), .int a] S (x_fe_isThere S a) S := by
  refine q_met (cc := xb_fe_isThere) (maxL := 2) (ret := (some .boolean)) xOk (by decide) rfl (Nat.le_of_ble_eq_true rfl) ?_
  intro p e s m below meth c ls hC hr hlocks hW hS hl
  have hx := hC.1.1
  have hb := hC.1.2.1
  have hl : lv_has ls 2 [(0, .ref (q_a xX G 0 0)), (1, .int a)] := hl
  refine lv_iload_n hx hb xd_fe_isThere_0 rfl (lv_at hl 1 rfl) ?_
  refine lv_if_lt (tgt := 26) hx hb xd_fe_isThere_1 (by decide) (fun c_1 => ?_) (fun c_1 => ?_)
  · -- taken
    refine lv_iconst (v := 0) hx hb xd_fe_isThere_26 (by decide) ?_
    have hf : x_fe_isThere S a = 0 := by unfold x_fe_isThere; rw [if_pos c_1]
    rw [hf]
    exact q_zret hC hr hlocks hW hS (by decide) rfl rfl xd_fe_isThere_27
  · -- not taken
    refine lv_iload_n hx hb xd_fe_isThere_4 rfl (lv_at hl 1 rfl) ?_
    refine lv_bipush (v := 6) hx hb xd_fe_isThere_5 (by decide) ?_
    refine lv_icmp_ge (tgt := 26) hx hb xd_fe_isThere_7 (by decide) (fun c_2 => ?_) (fun c_2 => ?_)
    · -- taken
      refine lv_iconst (v := 0) hx hb xd_fe_isThere_26 (by decide) ?_
      have hf : x_fe_isThere S a = 0 := by unfold x_fe_isThere; rw [if_neg c_1, if_pos c_2]
      rw [hf]
      exact q_zret hC hr hlocks hW hS (by decide) rfl rfl xd_fe_isThere_27
    · -- not taken
      refine lv_aload_n hx hb xd_fe_isThere_10 rfl (lv_at hl 0 rfl) ?_
      refine xg_fe_17 hC hW 0 Nat.one_pos xd_fe_isThere_11 ?_
      refine lv_iload_n hx hb xd_fe_isThere_14 rfl (lv_at hl 1 rfl) ?_
      have h_3 : vp_in a 6 := by simp only [vp_in_iff, Int32.lt_iff_toInt_lt, Int32.le_iff_toInt_le, q_n0, q_n1, q_n2, q_n3, q_n4, q_n5, q_n6, q_n7, q_n10, q_n14, q_n15, q_n20, q_n60, q_n1288] at c_1 c_2 ⊢; omega
      refine xal_2 hC hW 0 Nat.one_pos h_3 xd_fe_isThere_15 ?_
      refine xg_fe_72 hC hW a.toNatClampNeg (q_lt h_3) (rfl) xd_fe_isThere_16 ?_
      refine lv_if_eq (tgt := 26) hx hb xd_fe_isThere_19 (by decide) (fun c_4 => ?_) (fun c_4 => ?_)
      · -- taken
        refine lv_iconst (v := 0) hx hb xd_fe_isThere_26 (by decide) ?_
        have hf : x_fe_isThere S a = 0 := by unfold x_fe_isThere; rw [if_neg c_1, if_neg c_2, if_pos c_4]
        rw [hf]
        exact q_zret hC hr hlocks hW hS (by decide) rfl rfl xd_fe_isThere_27
      · -- not taken
        refine lv_iconst (v := 1) hx hb xd_fe_isThere_22 (by decide) ?_
        refine lv_goto (tgt := 27) hx hb xd_fe_isThere_23 (by decide) ?_
        have hf : x_fe_isThere S a = 1 := by unfold x_fe_isThere; rw [if_neg c_1, if_neg c_2, if_neg c_4]
        rw [hf]
        exact q_zret hC hr hlocks hW hS (by decide) rfl rfl xd_fe_isThere_27
def x_fe_dropTask (S : q_S) (i : Nat) : q_S :=
  x_ta_renew (x_tl_drop S (nI i)) i 0
set_option maxRecDepth 100000 in
set_option maxHeartbeats 4000000 in
theorem xC_fe_dropTask (l : Launch) (G : q_G) (S : q_S) (i : Nat) (hi : i < 6) (hI : xI S) : q_Mv xX G l xy_fe_dropTask (q_ws (q_gw lw_tbl) xy_fe_dropTask xb_fe_dropTask 2 none) (q_rm 1) [.ref (q_a xX G 0 0), .ref (q_a xX G 9 i)] S (x_fe_dropTask S i) := by
  refine q_met (cc := xb_fe_dropTask) (maxL := 2) (ret := none) xOk (by decide) rfl (Nat.le_of_ble_eq_true rfl) ?_
  intro p e s m below meth c ls hC hr hlocks hW hS hl
  have hx := hC.1.1
  have hb := hC.1.2.1
  have hl : lv_has ls 2 [(0, .ref (q_a xX G 0 0)), (1, .ref (q_a xX G 9 i))] := hl
  refine lv_aload_n hx hb xd_fe_dropTask_0 rfl (lv_at hl 0 rfl) ?_
  refine xg_fe_24 hC hW 0 Nat.one_pos xd_fe_dropTask_1 ?_
  refine lv_aload_n hx hb xd_fe_dropTask_4 rfl (lv_at hl 1 rfl) ?_
  refine xg_fe_237 hC hW i hi xd_fe_dropTask_5 ?_
  refine q_callv hC hS (fun _ h => h) (q_runV (rest := []) hC hW (xC_tl_drop l G S (nI i) hI) (xc_fe_119 (q_rm 0) hC.1.2.2.2.2 ⟨Nat.le_of_ble_eq_true rfl, Nat.le_of_ble_eq_true rfl⟩ rfl rfl) Nat.one_pos rfl rfl rfl hl.1 rfl (Nat.le_of_ble_eq_true rfl) xd_fe_dropTask_8 ⟨Nat.zero_le _, Nat.zero_le _⟩) (fun H locs hW hS => ?_)
  refine lv_aload_n hx hb xd_fe_dropTask_11 rfl (lv_at hl 1 rfl) ?_
  refine xg_fe_107 hC hW i hi xd_fe_dropTask_12 ?_
  refine lv_iconst (v := 0) hx hb xd_fe_dropTask_15 (by decide) ?_
  have hI_1 : xI (x_tl_drop S (nI i)) := (xI_tl_drop S (nI i) hI)
  refine q_callv hC hS (fun _ h => h) (q_runV (rest := []) hC hW (xC_ta_renew l G (x_tl_drop S (nI i)) i 0 hi hI_1) (xc_fe_294 (q_rm 0) hC.1.2.2.2.2 ⟨Nat.le_of_ble_eq_true rfl, Nat.le_of_ble_eq_true rfl⟩ rfl rfl) hi rfl rfl rfl hl.1 rfl (Nat.le_of_ble_eq_true rfl) xd_fe_dropTask_16 ⟨Nat.zero_le _, Nat.zero_le _⟩) (fun H locs hW hS => ?_)
  have hf : x_fe_dropTask S i = x_ta_renew (x_tl_drop S (nI i)) i 0 := by unfold x_fe_dropTask; rfl
  rw [hf]
  exact q_vret hC hr hlocks hW hS rfl xd_fe_dropTask_19
set_option maxRecDepth 100000 in
set_option maxHeartbeats 4000000 in
theorem xI_fe_dropTask (S : q_S) (i : Nat) (hi : i < 6) (hI : xI S) : xI (x_fe_dropTask S i) := by
  have hI_1 : xI (x_tl_drop S (nI i)) := (xI_tl_drop S (nI i) hI)
  have hf : x_fe_dropTask S i = x_ta_renew (x_tl_drop S (nI i)) i 0 := by unfold x_fe_dropTask; rfl
  rw [hf]
  exact (xI_ta_renew (x_tl_drop S (nI i)) i 0 hi hI_1)
set_option maxRecDepth 100000 in
set_option maxHeartbeats 4000000 in
theorem xK_fe_dropTask (S : q_S) (i : Nat) (x y z : Nat) (h3 : x ≠ 3) (h4 : x ≠ 4) (h21 : x ≠ 21) : (x_fe_dropTask S i) x y z = S x y z := by
  have hf : x_fe_dropTask S i = x_ta_renew (x_tl_drop S (nI i)) i 0 := by unfold x_fe_dropTask; rfl
  rw [hf]
  exact ((xK_ta_renew (x_tl_drop S (nI i)) i 0 x y z h21)).trans (((xK_tl_drop S (nI i) x y z h3 h4)))
def x_fe_finish (S : q_S) (i : Nat) : q_S :=
  if x_hi_isLeft S i = 0 then
    if q_i (S 9 i 10) = 5 then
      x_fe_dropTask (q_st S 0 0 8 (.int ((q_i (S 0 0 8)) + 1))) i
    else
      if q_i (S 9 i 10) = 6 then
        x_fe_dropTask (q_st S 0 0 9 (.int ((q_i (S 0 0 9)) + 1))) i
      else
        x_fe_dropTask (q_st S 0 0 10 (.int ((q_i (S 0 0 10)) + 1))) i
  else
    x_fe_dropTask (q_st (q_st S 9 i 10 (.int 7)) 0 0 10 (.int ((q_i (S 0 0 10)) + 1))) i
set_option maxRecDepth 100000 in
set_option maxHeartbeats 4000000 in
theorem xC_fe_finish (l : Launch) (G : q_G) (S : q_S) (i : Nat) (hi : i < 6) (hI : xI S) : q_Mv xX G l xy_fe_finish (q_ws (q_gw lw_tbl) xy_fe_finish xb_fe_finish 2 none) (q_rm 2) [.ref (q_a xX G 0 0), .ref (q_a xX G 9 i)] S (x_fe_finish S i) := by
  refine q_met (cc := xb_fe_finish) (maxL := 2) (ret := none) xOk (by decide) rfl (Nat.le_of_ble_eq_true rfl) ?_
  intro p e s m below meth c ls hC hr hlocks hW hS hl
  have hx := hC.1.1
  have hb := hC.1.2.1
  have hl : lv_has ls 2 [(0, .ref (q_a xX G 0 0)), (1, .ref (q_a xX G 9 i))] := hl
  refine lv_aload_n hx hb xd_fe_finish_0 rfl (lv_at hl 1 rfl) ?_
  refine xg_fe_149 hC hW i hi xd_fe_finish_1 ?_
  refine q_calli hC hS (fun _ h => h) (q_runV (rest := []) hC hW (xC_hi_isLeft l G S i hi) (xc_fe_252 (q_rm 0) hC.1.2.2.2.2 ⟨Nat.le_of_ble_eq_true rfl, Nat.le_of_ble_eq_true rfl⟩ rfl rfl) hi rfl rfl rfl hl.1 rfl (Nat.le_of_ble_eq_true rfl) xd_fe_finish_4 ⟨Nat.zero_le _, Nat.zero_le _⟩) (fun H locs hW hS => ?_)
  refine lv_if_eq (tgt := 16) hx hb xd_fe_finish_7 (by decide) (fun c_1 => ?_) (fun c_1 => ?_)
  · -- taken
    refine lv_aload_n hx hb xd_fe_finish_16 rfl (lv_at hl 1 rfl) ?_
    refine xg_fe_134 hC hW i hi (rfl) xd_fe_finish_17 ?_
    refine lv_iconst (v := 5) hx hb xd_fe_finish_20 (by decide) ?_
    refine lv_icmp_ne (tgt := 37) hx hb xd_fe_finish_21 (by decide) (fun c_2 => ?_) (fun c_2 => ?_)
    · -- taken
      refine lv_aload_n hx hb xd_fe_finish_37 rfl (lv_at hl 1 rfl) ?_
      refine xg_fe_134 hC hW i hi (rfl) xd_fe_finish_38 ?_
      refine lv_bipush (v := 6) hx hb xd_fe_finish_41 (by decide) ?_
      refine lv_icmp_ne (tgt := 59) hx hb xd_fe_finish_43 (by decide) (fun c_3 => ?_) (fun c_3 => ?_)
      · -- taken
        refine lv_aload_n hx hb xd_fe_finish_59 rfl (lv_at hl 0 rfl) ?_
        refine lv_dup hx hb xd_fe_finish_60 rfl ?_
        refine xg_fe_210 hC hW 0 Nat.one_pos (rfl) xd_fe_finish_61 ?_
        refine lv_iconst (v := 1) hx hb xd_fe_finish_64 (by decide) ?_
        refine lv_iadd hx hb xd_fe_finish_65 ?_
        refine xg_fe_210p hC hW hS (fun _ h => h) 0 Nat.one_pos xd_fe_finish_66 (fun H locs hW hS => ?_)
        refine lv_aload_n hx hb xd_fe_finish_69 rfl (lv_at hl 0 rfl) ?_
        refine lv_aload_n hx hb xd_fe_finish_70 rfl (lv_at hl 1 rfl) ?_
        have hI_4 : xI (q_st S 0 0 10 (.int ((q_i (S 0 0 10)) + 1))) := (q_Is hI rfl)
        refine q_callv hC hS (fun _ h => h) (q_runV (rest := []) hC hW (xC_fe_dropTask l G (q_st S 0 0 10 (.int ((q_i (S 0 0 10)) + 1))) i hi hI_4) (xc_fe_69 (q_rm 1) hC.1.2.2.2.2 ⟨Nat.le_of_ble_eq_true rfl, Nat.le_of_ble_eq_true rfl⟩ rfl rfl) Nat.one_pos rfl rfl rfl hl.1 rfl (Nat.le_of_ble_eq_true rfl) xd_fe_finish_71 ⟨Nat.zero_le _, Nat.zero_le _⟩) (fun H locs hW hS => ?_)
        have hf : x_fe_finish S i = x_fe_dropTask (q_st S 0 0 10 (.int ((q_i (S 0 0 10)) + 1))) i := by unfold x_fe_finish; rw [if_pos c_1, if_neg c_2, if_neg c_3]
        rw [hf]
        exact q_vret hC hr hlocks hW hS rfl xd_fe_finish_74
      · -- not taken
        refine lv_aload_n hx hb xd_fe_finish_46 rfl (lv_at hl 0 rfl) ?_
        refine lv_dup hx hb xd_fe_finish_47 rfl ?_
        refine xg_fe_207 hC hW 0 Nat.one_pos (rfl) xd_fe_finish_48 ?_
        refine lv_iconst (v := 1) hx hb xd_fe_finish_51 (by decide) ?_
        refine lv_iadd hx hb xd_fe_finish_52 ?_
        refine xg_fe_207p hC hW hS (fun _ h => h) 0 Nat.one_pos xd_fe_finish_53 (fun H locs hW hS => ?_)
        refine lv_goto (tgt := 69) hx hb xd_fe_finish_56 (by decide) ?_
        refine lv_aload_n hx hb xd_fe_finish_69 rfl (lv_at hl 0 rfl) ?_
        refine lv_aload_n hx hb xd_fe_finish_70 rfl (lv_at hl 1 rfl) ?_
        have hI_5 : xI (q_st S 0 0 9 (.int ((q_i (S 0 0 9)) + 1))) := (q_Is hI rfl)
        refine q_callv hC hS (fun _ h => h) (q_runV (rest := []) hC hW (xC_fe_dropTask l G (q_st S 0 0 9 (.int ((q_i (S 0 0 9)) + 1))) i hi hI_5) (xc_fe_69 (q_rm 1) hC.1.2.2.2.2 ⟨Nat.le_of_ble_eq_true rfl, Nat.le_of_ble_eq_true rfl⟩ rfl rfl) Nat.one_pos rfl rfl rfl hl.1 rfl (Nat.le_of_ble_eq_true rfl) xd_fe_finish_71 ⟨Nat.zero_le _, Nat.zero_le _⟩) (fun H locs hW hS => ?_)
        have hf : x_fe_finish S i = x_fe_dropTask (q_st S 0 0 9 (.int ((q_i (S 0 0 9)) + 1))) i := by unfold x_fe_finish; rw [if_pos c_1, if_neg c_2, if_pos c_3]
        rw [hf]
        exact q_vret hC hr hlocks hW hS rfl xd_fe_finish_74
    · -- not taken
      refine lv_aload_n hx hb xd_fe_finish_24 rfl (lv_at hl 0 rfl) ?_
      refine lv_dup hx hb xd_fe_finish_25 rfl ?_
      refine xg_fe_204 hC hW 0 Nat.one_pos (rfl) xd_fe_finish_26 ?_
      refine lv_iconst (v := 1) hx hb xd_fe_finish_29 (by decide) ?_
      refine lv_iadd hx hb xd_fe_finish_30 ?_
      refine xg_fe_204p hC hW hS (fun _ h => h) 0 Nat.one_pos xd_fe_finish_31 (fun H locs hW hS => ?_)
      refine lv_goto (tgt := 69) hx hb xd_fe_finish_34 (by decide) ?_
      refine lv_aload_n hx hb xd_fe_finish_69 rfl (lv_at hl 0 rfl) ?_
      refine lv_aload_n hx hb xd_fe_finish_70 rfl (lv_at hl 1 rfl) ?_
      have hI_6 : xI (q_st S 0 0 8 (.int ((q_i (S 0 0 8)) + 1))) := (q_Is hI rfl)
      refine q_callv hC hS (fun _ h => h) (q_runV (rest := []) hC hW (xC_fe_dropTask l G (q_st S 0 0 8 (.int ((q_i (S 0 0 8)) + 1))) i hi hI_6) (xc_fe_69 (q_rm 1) hC.1.2.2.2.2 ⟨Nat.le_of_ble_eq_true rfl, Nat.le_of_ble_eq_true rfl⟩ rfl rfl) Nat.one_pos rfl rfl rfl hl.1 rfl (Nat.le_of_ble_eq_true rfl) xd_fe_finish_71 ⟨Nat.zero_le _, Nat.zero_le _⟩) (fun H locs hW hS => ?_)
      have hf : x_fe_finish S i = x_fe_dropTask (q_st S 0 0 8 (.int ((q_i (S 0 0 8)) + 1))) i := by unfold x_fe_finish; rw [if_pos c_1, if_pos c_2]
      rw [hf]
      exact q_vret hC hr hlocks hW hS rfl xd_fe_finish_74
  · -- not taken
    refine lv_aload_n hx hb xd_fe_finish_10 rfl (lv_at hl 1 rfl) ?_
    refine lv_bipush (v := 7) hx hb xd_fe_finish_11 (by decide) ?_
    refine xg_fe_134p hC hW hS (fun _ h => h) i hi xd_fe_finish_13 (fun H locs hW hS => ?_)
    refine lv_aload_n hx hb xd_fe_finish_16 rfl (lv_at hl 1 rfl) ?_
    refine xg_fe_134 hC hW i hi (q_ss) xd_fe_finish_17 ?_
    refine lv_iconst (v := 5) hx hb xd_fe_finish_20 (by decide) ?_
    refine lv_icmp_ne (tgt := 37) hx hb xd_fe_finish_21 (by decide) (fun _ => ?_) (fun c_7 => absurd c_7 (by decide))
    refine lv_aload_n hx hb xd_fe_finish_37 rfl (lv_at hl 1 rfl) ?_
    refine xg_fe_134 hC hW i hi (q_ss) xd_fe_finish_38 ?_
    refine lv_bipush (v := 6) hx hb xd_fe_finish_41 (by decide) ?_
    refine lv_icmp_ne (tgt := 59) hx hb xd_fe_finish_43 (by decide) (fun _ => ?_) (fun c_8 => absurd c_8 (by decide))
    refine lv_aload_n hx hb xd_fe_finish_59 rfl (lv_at hl 0 rfl) ?_
    refine lv_dup hx hb xd_fe_finish_60 rfl ?_
    refine xg_fe_210 hC hW 0 Nat.one_pos (q_sj (by decide) (rfl)) xd_fe_finish_61 ?_
    refine lv_iconst (v := 1) hx hb xd_fe_finish_64 (by decide) ?_
    refine lv_iadd hx hb xd_fe_finish_65 ?_
    refine W.eq (g2 := F0 m 66 ls [.int ((q_i (S 0 0 10)) + 1), .ref (q_a xX G 0 0)]) rfl ?_
    refine xg_fe_210p hC hW hS (fun _ h => h) 0 Nat.one_pos xd_fe_finish_66 (fun H locs hW hS => ?_)
    refine lv_aload_n hx hb xd_fe_finish_69 rfl (lv_at hl 0 rfl) ?_
    refine lv_aload_n hx hb xd_fe_finish_70 rfl (lv_at hl 1 rfl) ?_
    have hI_9 : xI (q_st (q_st S 9 i 10 (.int 7)) 0 0 10 (.int ((q_i (S 0 0 10)) + 1))) := (q_Is (q_Is hI rfl) rfl)
    refine q_callv hC hS (fun _ h => h) (q_runV (rest := []) hC hW (xC_fe_dropTask l G (q_st (q_st S 9 i 10 (.int 7)) 0 0 10 (.int ((q_i (S 0 0 10)) + 1))) i hi hI_9) (xc_fe_69 (q_rm 1) hC.1.2.2.2.2 ⟨Nat.le_of_ble_eq_true rfl, Nat.le_of_ble_eq_true rfl⟩ rfl rfl) Nat.one_pos rfl rfl rfl hl.1 rfl (Nat.le_of_ble_eq_true rfl) xd_fe_finish_71 ⟨Nat.zero_le _, Nat.zero_le _⟩) (fun H locs hW hS => ?_)
    have hf : x_fe_finish S i = x_fe_dropTask (q_st (q_st S 9 i 10 (.int 7)) 0 0 10 (.int ((q_i (S 0 0 10)) + 1))) i := by unfold x_fe_finish; rw [if_neg c_1]
    rw [hf]
    exact q_vret hC hr hlocks hW hS rfl xd_fe_finish_74
set_option maxRecDepth 100000 in
set_option maxHeartbeats 4000000 in
theorem xI_fe_finish (S : q_S) (i : Nat) (hi : i < 6) (hI : xI S) : xI (x_fe_finish S i) := by
  by_cases c_1 : x_hi_isLeft S i = 0
  · -- yes
    by_cases c_2 : q_i (S 9 i 10) = 5
    · -- yes
      have hI_6 : xI (q_st S 0 0 8 (.int ((q_i (S 0 0 8)) + 1))) := (q_Is hI rfl)
      have hf : x_fe_finish S i = x_fe_dropTask (q_st S 0 0 8 (.int ((q_i (S 0 0 8)) + 1))) i := by unfold x_fe_finish; rw [if_pos c_1, if_pos c_2]
      rw [hf]
      exact (xI_fe_dropTask (q_st S 0 0 8 (.int ((q_i (S 0 0 8)) + 1))) i hi hI_6)
    · -- no
      by_cases c_3 : q_i (S 9 i 10) = 6
      · -- yes
        have hI_5 : xI (q_st S 0 0 9 (.int ((q_i (S 0 0 9)) + 1))) := (q_Is hI rfl)
        have hf : x_fe_finish S i = x_fe_dropTask (q_st S 0 0 9 (.int ((q_i (S 0 0 9)) + 1))) i := by unfold x_fe_finish; rw [if_pos c_1, if_neg c_2, if_pos c_3]
        rw [hf]
        exact (xI_fe_dropTask (q_st S 0 0 9 (.int ((q_i (S 0 0 9)) + 1))) i hi hI_5)
      · -- no
        have hI_4 : xI (q_st S 0 0 10 (.int ((q_i (S 0 0 10)) + 1))) := (q_Is hI rfl)
        have hf : x_fe_finish S i = x_fe_dropTask (q_st S 0 0 10 (.int ((q_i (S 0 0 10)) + 1))) i := by unfold x_fe_finish; rw [if_pos c_1, if_neg c_2, if_neg c_3]
        rw [hf]
        exact (xI_fe_dropTask (q_st S 0 0 10 (.int ((q_i (S 0 0 10)) + 1))) i hi hI_4)
  · -- no
    have hI_9 : xI (q_st (q_st S 9 i 10 (.int 7)) 0 0 10 (.int ((q_i (S 0 0 10)) + 1))) := (q_Is (q_Is hI rfl) rfl)
    have hf : x_fe_finish S i = x_fe_dropTask (q_st (q_st S 9 i 10 (.int 7)) 0 0 10 (.int ((q_i (S 0 0 10)) + 1))) i := by unfold x_fe_finish; rw [if_neg c_1]
    rw [hf]
    exact (xI_fe_dropTask (q_st (q_st S 9 i 10 (.int 7)) 0 0 10 (.int ((q_i (S 0 0 10)) + 1))) i hi hI_9)
set_option maxRecDepth 100000 in
set_option maxHeartbeats 4000000 in
theorem xK_fe_finish (S : q_S) (i : Nat) (x y z : Nat) (h0 : x ≠ 0) (h3 : x ≠ 3) (h4 : x ≠ 4) (h9 : x ≠ 9) (h21 : x ≠ 21) : (x_fe_finish S i) x y z = S x y z := by
  by_cases c_1 : x_hi_isLeft S i = 0
  · -- yes
    by_cases c_2 : q_i (S 9 i 10) = 5
    · -- yes
      have hf : x_fe_finish S i = x_fe_dropTask (q_st S 0 0 8 (.int ((q_i (S 0 0 8)) + 1))) i := by unfold x_fe_finish; rw [if_pos c_1, if_pos c_2]
      rw [hf]
      exact ((xK_fe_dropTask (q_st S 0 0 8 (.int ((q_i (S 0 0 8)) + 1))) i x y z h3 h4 h21)).trans ((q_kj h0))
    · -- no
      by_cases c_3 : q_i (S 9 i 10) = 6
      · -- yes
        have hf : x_fe_finish S i = x_fe_dropTask (q_st S 0 0 9 (.int ((q_i (S 0 0 9)) + 1))) i := by unfold x_fe_finish; rw [if_pos c_1, if_neg c_2, if_pos c_3]
        rw [hf]
        exact ((xK_fe_dropTask (q_st S 0 0 9 (.int ((q_i (S 0 0 9)) + 1))) i x y z h3 h4 h21)).trans ((q_kj h0))
      · -- no
        have hf : x_fe_finish S i = x_fe_dropTask (q_st S 0 0 10 (.int ((q_i (S 0 0 10)) + 1))) i := by unfold x_fe_finish; rw [if_pos c_1, if_neg c_2, if_neg c_3]
        rw [hf]
        exact ((xK_fe_dropTask (q_st S 0 0 10 (.int ((q_i (S 0 0 10)) + 1))) i x y z h3 h4 h21)).trans ((q_kj h0))
  · -- no
    have hf : x_fe_finish S i = x_fe_dropTask (q_st (q_st S 9 i 10 (.int 7)) 0 0 10 (.int ((q_i (S 0 0 10)) + 1))) i := by unfold x_fe_finish; rw [if_neg c_1]
    rw [hf]
    exact ((xK_fe_dropTask (q_st (q_st S 9 i 10 (.int 7)) 0 0 10 (.int ((q_i (S 0 0 10)) + 1))) i x y z h3 h4 h21)).trans ((q_kj h0).trans ((q_kj h9)))
def x_fe_want (S : q_S) (i : Nat) (a b d : Int32) : q_S :=
  if x_hi_isLeft S i = 0 then
    if (x_hi_pass S i 2 b d).1 = 0 then
      q_st ((x_hi_pass S i 2 b d).2) 9 i 10 (.int 7)
    else
      x_tl_append (x_ta_renew (q_st (q_st ((x_hi_pass S i 2 b d).2) 9 i 10 (.int a)) 9 i 13 (.int b)) i b) (nI i)
  else
    if (x_hi_pass S i 2 b d).1 = 0 then
      q_st ((x_hi_pass S i 2 b d).2) 9 i 10 (.int 7)
    else
      q_st (q_st ((x_hi_pass S i 2 b d).2) 9 i 10 (.int a)) 9 i 13 (.int b)
set_option maxRecDepth 100000 in
set_option maxHeartbeats 4000000 in
theorem xC_fe_want (l : Launch) (G : q_G) (S : q_S) (i : Nat) (a b d : Int32) (hi : i < 6) (hI : xI S) : q_Mv xX G l xy_fe_want (q_ws (q_gw lw_tbl) xy_fe_want xb_fe_want 6 none) (q_rm 1) [.ref (q_a xX G 0 0), .ref (q_a xX G 9 i), .int a, .int b, .int d] S (x_fe_want S i a b d) := by
  refine q_met (cc := xb_fe_want) (maxL := 6) (ret := none) xOk (by decide) rfl (Nat.le_of_ble_eq_true rfl) ?_
  intro p e s m below meth c ls hC hr hlocks hW hS hl
  have hx := hC.1.1
  have hb := hC.1.2.1
  have hl : lv_has ls 6 [(0, .ref (q_a xX G 0 0)), (1, .ref (q_a xX G 9 i)), (2, .int a), (3, .int b), (4, .int d)] := hl
  refine lv_aload_n hx hb xd_fe_want_0 rfl (lv_at hl 1 rfl) ?_
  refine xg_fe_149 hC hW i hi xd_fe_want_1 ?_
  refine q_calli hC hS (fun _ h => h) (q_runV (rest := []) hC hW (xC_hi_isLeft l G S i hi) (xc_fe_252 (q_rm 0) hC.1.2.2.2.2 ⟨Nat.le_of_ble_eq_true rfl, Nat.le_of_ble_eq_true rfl⟩ rfl rfl) hi rfl rfl rfl hl.1 rfl (Nat.le_of_ble_eq_true rfl) xd_fe_want_4 ⟨Nat.zero_le _, Nat.zero_le _⟩) (fun H locs hW hS => ?_)
  refine lv_if_ne (tgt := 14) hx hb xd_fe_want_7 (by decide) (fun c_1 => ?_) (fun c_1 => ?_)
  · -- taken
    refine lv_iconst (v := 0) hx hb xd_fe_want_14 (by decide) ?_
    refine lv_istore (lv' := [(5, .int 0), (0, .ref (q_a xX G 0 0)), (1, .ref (q_a xX G 9 i)), (2, .int a), (3, .int b), (4, .int d)]) hx hb xd_fe_want_15 hl (by decide) rfl (fun ls hl => ?_)
    refine lv_aload_n hx hb xd_fe_want_17 rfl (lv_at hl 2 rfl) ?_
    refine xg_fe_149 hC hW i hi xd_fe_want_18 ?_
    refine lv_iconst (v := 2) hx hb xd_fe_want_21 (by decide) ?_
    refine lv_iload_n hx hb xd_fe_want_22 rfl (lv_at hl 4 rfl) ?_
    refine lv_iload hx hb xd_fe_want_23 (lv_at hl 5 rfl) ?_
    refine q_calli hC hS (fun _ h => h) (q_runV (rest := []) hC hW (xC_hi_pass l G S i 2 b d hi hI) (xc_fe_225 (q_rm 0) hC.1.2.2.2.2 ⟨Nat.le_of_ble_eq_true rfl, Nat.le_of_ble_eq_true rfl⟩ rfl rfl) hi rfl rfl rfl hl.1 rfl (Nat.le_of_ble_eq_true rfl) xd_fe_want_25 ⟨Nat.zero_le _, Nat.zero_le _⟩) (fun H locs hW hS => ?_)
    refine lv_if_ne (tgt := 38) hx hb xd_fe_want_28 (by decide) (fun c_2 => ?_) (fun c_2 => ?_)
    · -- taken
      refine lv_aload_n hx hb xd_fe_want_38 rfl (lv_at hl 2 rfl) ?_
      refine lv_iload_n hx hb xd_fe_want_39 rfl (lv_at hl 3 rfl) ?_
      refine xg_fe_134p hC hW hS (fun _ h => h) i hi xd_fe_want_40 (fun H locs hW hS => ?_)
      refine lv_aload_n hx hb xd_fe_want_43 rfl (lv_at hl 2 rfl) ?_
      refine lv_iload_n hx hb xd_fe_want_44 rfl (lv_at hl 4 rfl) ?_
      refine xg_fe_291p hC hW hS (fun _ h => h) i hi xd_fe_want_45 (fun H locs hW hS => ?_)
      refine lv_iload hx hb xd_fe_want_48 (lv_at hl 0 rfl) ?_
      refine lv_if_eq (tgt := 72) hx hb xd_fe_want_50 (by decide) (fun _ => ?_) (fun c_3 => absurd c_3 (by decide))
      have hf : x_fe_want S i a b d = q_st (q_st ((x_hi_pass S i 2 b d).2) 9 i 10 (.int a)) 9 i 13 (.int b) := by unfold x_fe_want; rw [if_neg c_1, if_neg c_2]
      rw [hf]
      exact q_vret hC hr hlocks hW hS rfl xd_fe_want_72
    · -- not taken
      refine lv_aload_n hx hb xd_fe_want_31 rfl (lv_at hl 2 rfl) ?_
      refine lv_bipush (v := 7) hx hb xd_fe_want_32 (by decide) ?_
      refine xg_fe_134p hC hW hS (fun _ h => h) i hi xd_fe_want_34 (fun H locs hW hS => ?_)
      have hf : x_fe_want S i a b d = q_st ((x_hi_pass S i 2 b d).2) 9 i 10 (.int 7) := by unfold x_fe_want; rw [if_neg c_1, if_pos c_2]
      rw [hf]
      exact q_vret hC hr hlocks hW hS rfl xd_fe_want_37
  · -- not taken
    refine lv_iconst (v := 1) hx hb xd_fe_want_10 (by decide) ?_
    refine lv_goto (tgt := 15) hx hb xd_fe_want_11 (by decide) ?_
    refine lv_istore (lv' := [(5, .int 1), (0, .ref (q_a xX G 0 0)), (1, .ref (q_a xX G 9 i)), (2, .int a), (3, .int b), (4, .int d)]) hx hb xd_fe_want_15 hl (by decide) rfl (fun ls hl => ?_)
    refine lv_aload_n hx hb xd_fe_want_17 rfl (lv_at hl 2 rfl) ?_
    refine xg_fe_149 hC hW i hi xd_fe_want_18 ?_
    refine lv_iconst (v := 2) hx hb xd_fe_want_21 (by decide) ?_
    refine lv_iload_n hx hb xd_fe_want_22 rfl (lv_at hl 4 rfl) ?_
    refine lv_iload hx hb xd_fe_want_23 (lv_at hl 5 rfl) ?_
    refine q_calli hC hS (fun _ h => h) (q_runV (rest := []) hC hW (xC_hi_pass l G S i 2 b d hi hI) (xc_fe_225 (q_rm 0) hC.1.2.2.2.2 ⟨Nat.le_of_ble_eq_true rfl, Nat.le_of_ble_eq_true rfl⟩ rfl rfl) hi rfl rfl rfl hl.1 rfl (Nat.le_of_ble_eq_true rfl) xd_fe_want_25 ⟨Nat.zero_le _, Nat.zero_le _⟩) (fun H locs hW hS => ?_)
    refine lv_if_ne (tgt := 38) hx hb xd_fe_want_28 (by decide) (fun c_4 => ?_) (fun c_4 => ?_)
    · -- taken
      refine lv_aload_n hx hb xd_fe_want_38 rfl (lv_at hl 2 rfl) ?_
      refine lv_iload_n hx hb xd_fe_want_39 rfl (lv_at hl 3 rfl) ?_
      refine xg_fe_134p hC hW hS (fun _ h => h) i hi xd_fe_want_40 (fun H locs hW hS => ?_)
      refine lv_aload_n hx hb xd_fe_want_43 rfl (lv_at hl 2 rfl) ?_
      refine lv_iload_n hx hb xd_fe_want_44 rfl (lv_at hl 4 rfl) ?_
      refine xg_fe_291p hC hW hS (fun _ h => h) i hi xd_fe_want_45 (fun H locs hW hS => ?_)
      refine lv_iload hx hb xd_fe_want_48 (lv_at hl 0 rfl) ?_
      refine lv_if_eq (tgt := 72) hx hb xd_fe_want_50 (by decide) (fun c_5 => absurd c_5 (by decide)) (fun _ => ?_)
      refine lv_aload_n hx hb xd_fe_want_53 rfl (lv_at hl 2 rfl) ?_
      refine xg_fe_107 hC hW i hi xd_fe_want_54 ?_
      refine lv_iload_n hx hb xd_fe_want_57 rfl (lv_at hl 4 rfl) ?_
      have hI_6 : xI (q_st (q_st ((x_hi_pass S i 2 b d).2) 9 i 10 (.int a)) 9 i 13 (.int b)) := (q_Is (q_Is (xI_hi_pass S i 2 b d hi hI) rfl) rfl)
      refine q_callv hC hS (fun _ h => h) (q_runV (rest := []) hC hW (xC_ta_renew l G (q_st (q_st ((x_hi_pass S i 2 b d).2) 9 i 10 (.int a)) 9 i 13 (.int b)) i b hi hI_6) (xc_fe_294 (q_rm 0) hC.1.2.2.2.2 ⟨Nat.le_of_ble_eq_true rfl, Nat.le_of_ble_eq_true rfl⟩ rfl rfl) hi rfl rfl rfl hl.1 rfl (Nat.le_of_ble_eq_true rfl) xd_fe_want_58 ⟨Nat.zero_le _, Nat.zero_le _⟩) (fun H locs hW hS => ?_)
      refine lv_aload_n hx hb xd_fe_want_61 rfl (lv_at hl 1 rfl) ?_
      refine xg_fe_24 hC hW 0 Nat.one_pos xd_fe_want_62 ?_
      refine lv_aload_n hx hb xd_fe_want_65 rfl (lv_at hl 2 rfl) ?_
      refine W.eq (g2 := F0 m 66 ls [.ref (q_a xX G 9 i), .ref (q_a xX G 3 0)]) rfl ?_
      refine xg_fe_237 hC hW i hi xd_fe_want_66 ?_
      have hI_7 : xI (x_ta_renew (q_st (q_st ((x_hi_pass S i 2 b d).2) 9 i 10 (.int a)) 9 i 13 (.int b)) i b) := (xI_ta_renew (q_st (q_st ((x_hi_pass S i 2 b d).2) 9 i 10 (.int a)) 9 i 13 (.int b)) i b hi hI_6)
      refine q_callv hC hS (fun _ h => h) (q_runV (rest := []) hC hW (xC_tl_append l G (x_ta_renew (q_st (q_st ((x_hi_pass S i 2 b d).2) 9 i 10 (.int a)) 9 i 13 (.int b)) i b) (nI i) hI_7 (q_ni hi)) (xc_fe_240 (q_rm 0) hC.1.2.2.2.2 ⟨Nat.le_of_ble_eq_true rfl, Nat.le_of_ble_eq_true rfl⟩ rfl rfl) Nat.one_pos rfl rfl rfl hl.1 rfl (Nat.le_of_ble_eq_true rfl) xd_fe_want_69 ⟨Nat.zero_le _, Nat.zero_le _⟩) (fun H locs hW hS => ?_)
      have hf : x_fe_want S i a b d = x_tl_append (x_ta_renew (q_st (q_st ((x_hi_pass S i 2 b d).2) 9 i 10 (.int a)) 9 i 13 (.int b)) i b) (nI i) := by unfold x_fe_want; rw [if_pos c_1, if_neg c_4]
      rw [hf]
      exact q_vret hC hr hlocks hW hS rfl xd_fe_want_72
    · -- not taken
      refine lv_aload_n hx hb xd_fe_want_31 rfl (lv_at hl 2 rfl) ?_
      refine lv_bipush (v := 7) hx hb xd_fe_want_32 (by decide) ?_
      refine xg_fe_134p hC hW hS (fun _ h => h) i hi xd_fe_want_34 (fun H locs hW hS => ?_)
      have hf : x_fe_want S i a b d = q_st ((x_hi_pass S i 2 b d).2) 9 i 10 (.int 7) := by unfold x_fe_want; rw [if_pos c_1, if_pos c_4]
      rw [hf]
      exact q_vret hC hr hlocks hW hS rfl xd_fe_want_37
set_option maxRecDepth 100000 in
set_option maxHeartbeats 4000000 in
theorem xI_fe_want (S : q_S) (i : Nat) (a b d : Int32) (hi : i < 6) (hI : xI S) : xI (x_fe_want S i a b d) := by
  by_cases c_1 : x_hi_isLeft S i = 0
  · -- yes
    by_cases c_4 : (x_hi_pass S i 2 b d).1 = 0
    · -- yes
      have hf : x_fe_want S i a b d = q_st ((x_hi_pass S i 2 b d).2) 9 i 10 (.int 7) := by unfold x_fe_want; rw [if_pos c_1, if_pos c_4]
      rw [hf]
      exact (q_Is (xI_hi_pass S i 2 b d hi hI) rfl)
    · -- no
      have hI_6 : xI (q_st (q_st ((x_hi_pass S i 2 b d).2) 9 i 10 (.int a)) 9 i 13 (.int b)) := (q_Is (q_Is (xI_hi_pass S i 2 b d hi hI) rfl) rfl)
      have hI_7 : xI (x_ta_renew (q_st (q_st ((x_hi_pass S i 2 b d).2) 9 i 10 (.int a)) 9 i 13 (.int b)) i b) := (xI_ta_renew (q_st (q_st ((x_hi_pass S i 2 b d).2) 9 i 10 (.int a)) 9 i 13 (.int b)) i b hi hI_6)
      have hf : x_fe_want S i a b d = x_tl_append (x_ta_renew (q_st (q_st ((x_hi_pass S i 2 b d).2) 9 i 10 (.int a)) 9 i 13 (.int b)) i b) (nI i) := by unfold x_fe_want; rw [if_pos c_1, if_neg c_4]
      rw [hf]
      exact (xI_tl_append (x_ta_renew (q_st (q_st ((x_hi_pass S i 2 b d).2) 9 i 10 (.int a)) 9 i 13 (.int b)) i b) (nI i) hI_7 (q_ni hi))
  · -- no
    by_cases c_2 : (x_hi_pass S i 2 b d).1 = 0
    · -- yes
      have hf : x_fe_want S i a b d = q_st ((x_hi_pass S i 2 b d).2) 9 i 10 (.int 7) := by unfold x_fe_want; rw [if_neg c_1, if_pos c_2]
      rw [hf]
      exact (q_Is (xI_hi_pass S i 2 b d hi hI) rfl)
    · -- no
      have hf : x_fe_want S i a b d = q_st (q_st ((x_hi_pass S i 2 b d).2) 9 i 10 (.int a)) 9 i 13 (.int b) := by unfold x_fe_want; rw [if_neg c_1, if_neg c_2]
      rw [hf]
      exact (q_Is (q_Is (xI_hi_pass S i 2 b d hi hI) rfl) rfl)
set_option maxRecDepth 100000 in
set_option maxHeartbeats 4000000 in
theorem xK_fe_want (S : q_S) (i : Nat) (a b d : Int32) (x y z : Nat) (h3 : x ≠ 3) (h4 : x ≠ 4) (h9 : x ≠ 9) (h11 : x ≠ 11) (h12 : x ≠ 12) (h13 : x ≠ 13) (h14 : x ≠ 14) (h21 : x ≠ 21) : (x_fe_want S i a b d) x y z = S x y z := by
  by_cases c_1 : x_hi_isLeft S i = 0
  · -- yes
    by_cases c_4 : (x_hi_pass S i 2 b d).1 = 0
    · -- yes
      have hf : x_fe_want S i a b d = q_st ((x_hi_pass S i 2 b d).2) 9 i 10 (.int 7) := by unfold x_fe_want; rw [if_pos c_1, if_pos c_4]
      rw [hf]
      exact (q_kj h9).trans (((xK_hi_pass S i 2 b d x y z h11 h12 h13 h14)))
    · -- no
      have hf : x_fe_want S i a b d = x_tl_append (x_ta_renew (q_st (q_st ((x_hi_pass S i 2 b d).2) 9 i 10 (.int a)) 9 i 13 (.int b)) i b) (nI i) := by unfold x_fe_want; rw [if_pos c_1, if_neg c_4]
      rw [hf]
      exact ((xK_tl_append (x_ta_renew (q_st (q_st ((x_hi_pass S i 2 b d).2) 9 i 10 (.int a)) 9 i 13 (.int b)) i b) (nI i) x y z h3 h4)).trans (((xK_ta_renew (q_st (q_st ((x_hi_pass S i 2 b d).2) 9 i 10 (.int a)) 9 i 13 (.int b)) i b x y z h21)).trans ((q_kj h9).trans ((q_kj h9).trans (((xK_hi_pass S i 2 b d x y z h11 h12 h13 h14))))))
  · -- no
    by_cases c_2 : (x_hi_pass S i 2 b d).1 = 0
    · -- yes
      have hf : x_fe_want S i a b d = q_st ((x_hi_pass S i 2 b d).2) 9 i 10 (.int 7) := by unfold x_fe_want; rw [if_neg c_1, if_pos c_2]
      rw [hf]
      exact (q_kj h9).trans (((xK_hi_pass S i 2 b d x y z h11 h12 h13 h14)))
    · -- no
      have hf : x_fe_want S i a b d = q_st (q_st ((x_hi_pass S i 2 b d).2) 9 i 10 (.int a)) 9 i 13 (.int b) := by unfold x_fe_want; rw [if_neg c_1, if_neg c_2]
      rw [hf]
      exact (q_kj h9).trans ((q_kj h9).trans (((xK_hi_pass S i 2 b d x y z h11 h12 h13 h14))))
def x_fe_sleep (S : q_S) (i : Nat) (a : Int32) : q_S :=
  if 1 ≤ a then
    if x_hi_isLeft S i = 0 then
      if (x_hi_pass S i 5 a 0).1 = 0 then
        q_st ((x_hi_pass S i 5 a 0).2) 9 i 10 (.int 7)
      else
        q_st (q_st ((x_hi_pass S i 5 a 0).2) 9 i 10 (.int 2)) 9 i 16 (.long ((Int32.toInt64 (q_i (S 0 0 3))) + (Int32.toInt64 a)))
    else
      if (x_hi_pass S i 5 a 0).1 = 0 then
        q_st ((x_hi_pass S i 5 a 0).2) 9 i 10 (.int 7)
      else
        q_st ((x_hi_pass S i 5 a 0).2) 9 i 10 (.int 2)
  else
    q_st S 9 i 11 (.int ((q_i (S 9 i 11)) + 1))
set_option maxRecDepth 100000 in
set_option maxHeartbeats 4000000 in
theorem xC_fe_sleep (l : Launch) (G : q_G) (S : q_S) (i : Nat) (a : Int32) (hi : i < 6) (hI : xI S) : q_Mv xX G l xy_fe_sleep (q_ws (q_gw lw_tbl) xy_fe_sleep xb_fe_sleep 4 none) (q_rm 1) [.ref (q_a xX G 0 0), .ref (q_a xX G 9 i), .int a] S (x_fe_sleep S i a) := by
  refine q_met (cc := xb_fe_sleep) (maxL := 4) (ret := none) xOk (by decide) rfl (Nat.le_of_ble_eq_true rfl) ?_
  intro p e s m below meth c ls hC hr hlocks hW hS hl
  have hx := hC.1.1
  have hb := hC.1.2.1
  have hl : lv_has ls 4 [(0, .ref (q_a xX G 0 0)), (1, .ref (q_a xX G 9 i)), (2, .int a)] := hl
  refine lv_iload_n hx hb xd_fe_sleep_0 rfl (lv_at hl 2 rfl) ?_
  refine lv_iconst (v := 1) hx hb xd_fe_sleep_1 (by decide) ?_
  refine lv_icmp_ge (tgt := 16) hx hb xd_fe_sleep_2 (by decide) (fun c_1 => ?_) (fun c_1 => ?_)
  · -- taken
    refine lv_aload_n hx hb xd_fe_sleep_16 rfl (lv_at hl 1 rfl) ?_
    refine xg_fe_149 hC hW i hi xd_fe_sleep_17 ?_
    refine q_calli hC hS (fun _ h => h) (q_runV (rest := []) hC hW (xC_hi_isLeft l G S i hi) (xc_fe_252 (q_rm 0) hC.1.2.2.2.2 ⟨Nat.le_of_ble_eq_true rfl, Nat.le_of_ble_eq_true rfl⟩ rfl rfl) hi rfl rfl rfl hl.1 rfl (Nat.le_of_ble_eq_true rfl) xd_fe_sleep_20 ⟨Nat.zero_le _, Nat.zero_le _⟩) (fun H locs hW hS => ?_)
    refine lv_if_ne (tgt := 30) hx hb xd_fe_sleep_23 (by decide) (fun c_2 => ?_) (fun c_2 => ?_)
    · -- taken
      refine lv_iconst (v := 0) hx hb xd_fe_sleep_30 (by decide) ?_
      refine lv_istore_n (lv' := [(3, .int 0), (0, .ref (q_a xX G 0 0)), (1, .ref (q_a xX G 9 i)), (2, .int a)]) hx hb xd_fe_sleep_31 rfl hl (by decide) rfl (fun ls hl => ?_)
      refine lv_aload_n hx hb xd_fe_sleep_32 rfl (lv_at hl 2 rfl) ?_
      refine xg_fe_149 hC hW i hi xd_fe_sleep_33 ?_
      refine lv_iconst (v := 5) hx hb xd_fe_sleep_36 (by decide) ?_
      refine lv_iload_n hx hb xd_fe_sleep_37 rfl (lv_at hl 3 rfl) ?_
      refine lv_iconst (v := 0) hx hb xd_fe_sleep_38 (by decide) ?_
      refine q_calli hC hS (fun _ h => h) (q_runV (rest := []) hC hW (xC_hi_pass l G S i 5 a 0 hi hI) (xc_fe_225 (q_rm 0) hC.1.2.2.2.2 ⟨Nat.le_of_ble_eq_true rfl, Nat.le_of_ble_eq_true rfl⟩ rfl rfl) hi rfl rfl rfl hl.1 rfl (Nat.le_of_ble_eq_true rfl) xd_fe_sleep_39 ⟨Nat.zero_le _, Nat.zero_le _⟩) (fun H locs hW hS => ?_)
      refine lv_if_ne (tgt := 52) hx hb xd_fe_sleep_42 (by decide) (fun c_3 => ?_) (fun c_3 => ?_)
      · -- taken
        refine lv_aload_n hx hb xd_fe_sleep_52 rfl (lv_at hl 2 rfl) ?_
        refine lv_iconst (v := 2) hx hb xd_fe_sleep_53 (by decide) ?_
        refine xg_fe_134p hC hW hS (fun _ h => h) i hi xd_fe_sleep_54 (fun H locs hW hS => ?_)
        refine lv_iload_n hx hb xd_fe_sleep_57 rfl (lv_at hl 0 rfl) ?_
        refine lv_if_eq (tgt := 73) hx hb xd_fe_sleep_58 (by decide) (fun _ => ?_) (fun c_4 => absurd c_4 (by decide))
        have hf : x_fe_sleep S i a = q_st ((x_hi_pass S i 5 a 0).2) 9 i 10 (.int 2) := by unfold x_fe_sleep; rw [if_pos c_1, if_neg c_2, if_neg c_3]
        rw [hf]
        exact q_vret hC hr hlocks hW hS rfl xd_fe_sleep_73
      · -- not taken
        refine lv_aload_n hx hb xd_fe_sleep_45 rfl (lv_at hl 2 rfl) ?_
        refine lv_bipush (v := 7) hx hb xd_fe_sleep_46 (by decide) ?_
        refine xg_fe_134p hC hW hS (fun _ h => h) i hi xd_fe_sleep_48 (fun H locs hW hS => ?_)
        have hf : x_fe_sleep S i a = q_st ((x_hi_pass S i 5 a 0).2) 9 i 10 (.int 7) := by unfold x_fe_sleep; rw [if_pos c_1, if_neg c_2, if_pos c_3]
        rw [hf]
        exact q_vret hC hr hlocks hW hS rfl xd_fe_sleep_51
    · -- not taken
      refine lv_iconst (v := 1) hx hb xd_fe_sleep_26 (by decide) ?_
      refine lv_goto (tgt := 31) hx hb xd_fe_sleep_27 (by decide) ?_
      refine lv_istore_n (lv' := [(3, .int 1), (0, .ref (q_a xX G 0 0)), (1, .ref (q_a xX G 9 i)), (2, .int a)]) hx hb xd_fe_sleep_31 rfl hl (by decide) rfl (fun ls hl => ?_)
      refine lv_aload_n hx hb xd_fe_sleep_32 rfl (lv_at hl 2 rfl) ?_
      refine xg_fe_149 hC hW i hi xd_fe_sleep_33 ?_
      refine lv_iconst (v := 5) hx hb xd_fe_sleep_36 (by decide) ?_
      refine lv_iload_n hx hb xd_fe_sleep_37 rfl (lv_at hl 3 rfl) ?_
      refine lv_iconst (v := 0) hx hb xd_fe_sleep_38 (by decide) ?_
      refine q_calli hC hS (fun _ h => h) (q_runV (rest := []) hC hW (xC_hi_pass l G S i 5 a 0 hi hI) (xc_fe_225 (q_rm 0) hC.1.2.2.2.2 ⟨Nat.le_of_ble_eq_true rfl, Nat.le_of_ble_eq_true rfl⟩ rfl rfl) hi rfl rfl rfl hl.1 rfl (Nat.le_of_ble_eq_true rfl) xd_fe_sleep_39 ⟨Nat.zero_le _, Nat.zero_le _⟩) (fun H locs hW hS => ?_)
      refine lv_if_ne (tgt := 52) hx hb xd_fe_sleep_42 (by decide) (fun c_5 => ?_) (fun c_5 => ?_)
      · -- taken
        refine lv_aload_n hx hb xd_fe_sleep_52 rfl (lv_at hl 2 rfl) ?_
        refine lv_iconst (v := 2) hx hb xd_fe_sleep_53 (by decide) ?_
        refine xg_fe_134p hC hW hS (fun _ h => h) i hi xd_fe_sleep_54 (fun H locs hW hS => ?_)
        refine lv_iload_n hx hb xd_fe_sleep_57 rfl (lv_at hl 0 rfl) ?_
        refine lv_if_eq (tgt := 73) hx hb xd_fe_sleep_58 (by decide) (fun c_6 => absurd c_6 (by decide)) (fun _ => ?_)
        refine lv_aload_n hx hb xd_fe_sleep_61 rfl (lv_at hl 2 rfl) ?_
        refine lv_aload_n hx hb xd_fe_sleep_62 rfl (lv_at hl 1 rfl) ?_
        refine xg_fe_116 hC hW 0 Nat.one_pos (q_sj (by decide) (q_kc (xK_hi_pass S i 5 a 0 _ _ _ (by decide) (by decide) (by decide) (by decide)) (rfl))) xd_fe_sleep_63 ?_
        refine lv_i2l (v := Int32.toInt64 (q_i (S 0 0 3))) hx hb xd_fe_sleep_66 rfl ?_
        refine lv_iload_n hx hb xd_fe_sleep_67 rfl (lv_at hl 3 rfl) ?_
        refine lv_i2l (v := Int32.toInt64 a) hx hb xd_fe_sleep_68 rfl ?_
        refine lv_ladd hx hb xd_fe_sleep_69 ?_
        refine xg_fe_297p hC hW hS (fun _ h => h) i hi xd_fe_sleep_70 (fun H locs hW hS => ?_)
        have hf : x_fe_sleep S i a = q_st (q_st ((x_hi_pass S i 5 a 0).2) 9 i 10 (.int 2)) 9 i 16 (.long ((Int32.toInt64 (q_i (S 0 0 3))) + (Int32.toInt64 a))) := by unfold x_fe_sleep; rw [if_pos c_1, if_pos c_2, if_neg c_5]
        rw [hf]
        exact q_vret hC hr hlocks hW hS rfl xd_fe_sleep_73
      · -- not taken
        refine lv_aload_n hx hb xd_fe_sleep_45 rfl (lv_at hl 2 rfl) ?_
        refine lv_bipush (v := 7) hx hb xd_fe_sleep_46 (by decide) ?_
        refine xg_fe_134p hC hW hS (fun _ h => h) i hi xd_fe_sleep_48 (fun H locs hW hS => ?_)
        have hf : x_fe_sleep S i a = q_st ((x_hi_pass S i 5 a 0).2) 9 i 10 (.int 7) := by unfold x_fe_sleep; rw [if_pos c_1, if_pos c_2, if_pos c_5]
        rw [hf]
        exact q_vret hC hr hlocks hW hS rfl xd_fe_sleep_51
  · -- not taken
    refine lv_aload_n hx hb xd_fe_sleep_5 rfl (lv_at hl 1 rfl) ?_
    refine lv_dup hx hb xd_fe_sleep_6 rfl ?_
    refine xg_fe_159 hC hW i hi (rfl) xd_fe_sleep_7 ?_
    refine lv_iconst (v := 1) hx hb xd_fe_sleep_10 (by decide) ?_
    refine lv_iadd hx hb xd_fe_sleep_11 ?_
    refine xg_fe_159p hC hW hS (fun _ h => h) i hi xd_fe_sleep_12 (fun H locs hW hS => ?_)
    have hf : x_fe_sleep S i a = q_st S 9 i 11 (.int ((q_i (S 9 i 11)) + 1)) := by unfold x_fe_sleep; rw [if_neg c_1]
    rw [hf]
    exact q_vret hC hr hlocks hW hS rfl xd_fe_sleep_15
set_option maxRecDepth 100000 in
set_option maxHeartbeats 4000000 in
theorem xI_fe_sleep (S : q_S) (i : Nat) (a : Int32) (hi : i < 6) (hI : xI S) : xI (x_fe_sleep S i a) := by
  by_cases c_1 : 1 ≤ a
  · -- yes
    by_cases c_2 : x_hi_isLeft S i = 0
    · -- yes
      by_cases c_5 : (x_hi_pass S i 5 a 0).1 = 0
      · -- yes
        have hf : x_fe_sleep S i a = q_st ((x_hi_pass S i 5 a 0).2) 9 i 10 (.int 7) := by unfold x_fe_sleep; rw [if_pos c_1, if_pos c_2, if_pos c_5]
        rw [hf]
        exact (q_Is (xI_hi_pass S i 5 a 0 hi hI) rfl)
      · -- no
        have hf : x_fe_sleep S i a = q_st (q_st ((x_hi_pass S i 5 a 0).2) 9 i 10 (.int 2)) 9 i 16 (.long ((Int32.toInt64 (q_i (S 0 0 3))) + (Int32.toInt64 a))) := by unfold x_fe_sleep; rw [if_pos c_1, if_pos c_2, if_neg c_5]
        rw [hf]
        exact (q_Il (q_Is (xI_hi_pass S i 5 a 0 hi hI) rfl) rfl)
    · -- no
      by_cases c_3 : (x_hi_pass S i 5 a 0).1 = 0
      · -- yes
        have hf : x_fe_sleep S i a = q_st ((x_hi_pass S i 5 a 0).2) 9 i 10 (.int 7) := by unfold x_fe_sleep; rw [if_pos c_1, if_neg c_2, if_pos c_3]
        rw [hf]
        exact (q_Is (xI_hi_pass S i 5 a 0 hi hI) rfl)
      · -- no
        have hf : x_fe_sleep S i a = q_st ((x_hi_pass S i 5 a 0).2) 9 i 10 (.int 2) := by unfold x_fe_sleep; rw [if_pos c_1, if_neg c_2, if_neg c_3]
        rw [hf]
        exact (q_Is (xI_hi_pass S i 5 a 0 hi hI) rfl)
  · -- no
    have hf : x_fe_sleep S i a = q_st S 9 i 11 (.int ((q_i (S 9 i 11)) + 1)) := by unfold x_fe_sleep; rw [if_neg c_1]
    rw [hf]
    exact (q_Is hI rfl)
set_option maxRecDepth 100000 in
set_option maxHeartbeats 4000000 in
theorem xK_fe_sleep (S : q_S) (i : Nat) (a : Int32) (x y z : Nat) (h9 : x ≠ 9) (h11 : x ≠ 11) (h12 : x ≠ 12) (h13 : x ≠ 13) (h14 : x ≠ 14) : (x_fe_sleep S i a) x y z = S x y z := by
  by_cases c_1 : 1 ≤ a
  · -- yes
    by_cases c_2 : x_hi_isLeft S i = 0
    · -- yes
      by_cases c_5 : (x_hi_pass S i 5 a 0).1 = 0
      · -- yes
        have hf : x_fe_sleep S i a = q_st ((x_hi_pass S i 5 a 0).2) 9 i 10 (.int 7) := by unfold x_fe_sleep; rw [if_pos c_1, if_pos c_2, if_pos c_5]
        rw [hf]
        exact (q_kj h9).trans (((xK_hi_pass S i 5 a 0 x y z h11 h12 h13 h14)))
      · -- no
        have hf : x_fe_sleep S i a = q_st (q_st ((x_hi_pass S i 5 a 0).2) 9 i 10 (.int 2)) 9 i 16 (.long ((Int32.toInt64 (q_i (S 0 0 3))) + (Int32.toInt64 a))) := by unfold x_fe_sleep; rw [if_pos c_1, if_pos c_2, if_neg c_5]
        rw [hf]
        exact (q_kj h9).trans ((q_kj h9).trans (((xK_hi_pass S i 5 a 0 x y z h11 h12 h13 h14))))
    · -- no
      by_cases c_3 : (x_hi_pass S i 5 a 0).1 = 0
      · -- yes
        have hf : x_fe_sleep S i a = q_st ((x_hi_pass S i 5 a 0).2) 9 i 10 (.int 7) := by unfold x_fe_sleep; rw [if_pos c_1, if_neg c_2, if_pos c_3]
        rw [hf]
        exact (q_kj h9).trans (((xK_hi_pass S i 5 a 0 x y z h11 h12 h13 h14)))
      · -- no
        have hf : x_fe_sleep S i a = q_st ((x_hi_pass S i 5 a 0).2) 9 i 10 (.int 2) := by unfold x_fe_sleep; rw [if_pos c_1, if_neg c_2, if_neg c_3]
        rw [hf]
        exact (q_kj h9).trans (((xK_hi_pass S i 5 a 0 x y z h11 h12 h13 h14)))
  · -- no
    have hf : x_fe_sleep S i a = q_st S 9 i 11 (.int ((q_i (S 9 i 11)) + 1)) := by unfold x_fe_sleep; rw [if_neg c_1]
    rw [hf]
    exact (q_kj h9)
def x_fe_undoLatest (S : q_S) (i : Nat) : q_S :=
  if 0 < q_i (S 18 i 2) then
    x_fe_want (q_st S 18 i 2 (.int ((q_i (S 18 i 2)) - 1))) i 4 (q_i (S 19 i (((q_i (S 18 i 2)) - 1).toNatClampNeg))) (q_i (S 20 i (((q_i (S 18 i 2)) - 1).toNatClampNeg)))
  else
    q_st S 9 i 10 (.int 6)
set_option maxRecDepth 100000 in
set_option maxHeartbeats 4000000 in
theorem xC_fe_undoLatest (l : Launch) (G : q_G) (S : q_S) (i : Nat) (hi : i < 6) (hI : xI S) : q_Mv xX G l xy_fe_undoLatest (q_ws (q_gw lw_tbl) xy_fe_undoLatest xb_fe_undoLatest 3 none) (q_rm 2) [.ref (q_a xX G 0 0), .ref (q_a xX G 9 i)] S (x_fe_undoLatest S i) := by
  refine q_met (cc := xb_fe_undoLatest) (maxL := 3) (ret := none) xOk (by decide) rfl (Nat.le_of_ble_eq_true rfl) ?_
  intro p e s m below meth c ls hC hr hlocks hW hS hl
  have hx := hC.1.1
  have hb := hC.1.2.1
  have hl : lv_has ls 3 [(0, .ref (q_a xX G 0 0)), (1, .ref (q_a xX G 9 i))] := hl
  refine lv_aload_n hx hb xd_fe_undoLatest_0 rfl (lv_at hl 1 rfl) ?_
  refine xg_fe_162 hC hW i hi xd_fe_undoLatest_1 ?_
  refine lv_astore_n (lv' := [(2, .ref (q_a xX G 18 i)), (0, .ref (q_a xX G 0 0)), (1, .ref (q_a xX G 9 i))]) hx hb xd_fe_undoLatest_4 rfl hl (by decide) rfl (fun ls hl => ?_)
  refine lv_aload_n hx hb xd_fe_undoLatest_5 rfl (lv_at hl 0 rfl) ?_
  refine xg_fe_166 hC hW i hi (rfl) xd_fe_undoLatest_6 ?_
  refine lv_if_gt (tgt := 19) hx hb xd_fe_undoLatest_9 (by decide) (fun c_1 => ?_) (fun c_1 => ?_)
  · -- taken
    refine lv_aload_n hx hb xd_fe_undoLatest_19 rfl (lv_at hl 0 rfl) ?_
    refine lv_dup hx hb xd_fe_undoLatest_20 rfl ?_
    refine xg_fe_166 hC hW i hi (rfl) xd_fe_undoLatest_21 ?_
    refine lv_iconst (v := 1) hx hb xd_fe_undoLatest_24 (by decide) ?_
    refine lv_isub hx hb xd_fe_undoLatest_25 ?_
    refine xg_fe_166p hC hW hS (fun _ h => h) i hi xd_fe_undoLatest_26 (fun H locs hW hS => ?_)
    refine lv_aload_n hx hb xd_fe_undoLatest_29 rfl (lv_at hl 1 rfl) ?_
    refine lv_aload_n hx hb xd_fe_undoLatest_30 rfl (lv_at hl 2 rfl) ?_
    refine lv_iconst (v := 4) hx hb xd_fe_undoLatest_31 (by decide) ?_
    refine lv_aload_n hx hb xd_fe_undoLatest_32 rfl (lv_at hl 0 rfl) ?_
    refine xg_fe_306 hC hW i hi xd_fe_undoLatest_33 ?_
    refine lv_aload_n hx hb xd_fe_undoLatest_36 rfl (lv_at hl 0 rfl) ?_
    refine xg_fe_166 hC hW i hi (q_ss) xd_fe_undoLatest_37 ?_
    have h_2 : vp_in ((q_i (S 18 i 2)) - 1) 6 := by have b1 : 0 ≤ (q_i (S 18 i 2)).toInt ∧ (q_i (S 18 i 2)).toInt ≤ 6 := hI 18 i 2; have d_1 := q_dec (x := (q_i (S 18 i 2))) (by omega); simp only [vp_in_iff, Int32.lt_iff_toInt_lt, Int32.le_iff_toInt_le, q_n0, q_n1, q_n2, q_n3, q_n4, q_n5, q_n6, q_n7, q_n10, q_n14, q_n15, q_n20, q_n60, q_n1288] at c_1 ⊢; omega
    refine xal_19 hC hW i hi h_2 (q_sj (by decide) (rfl)) xd_fe_undoLatest_40 ?_
    refine W.eq (g2 := F0 m 41 ls [.int (q_i (S 19 i (((q_i (S 18 i 2)) - 1).toNatClampNeg))), .int 4, .ref (q_a xX G 9 i), .ref (q_a xX G 0 0)]) rfl ?_
    refine lv_aload_n hx hb xd_fe_undoLatest_41 rfl (lv_at hl 0 rfl) ?_
    refine xg_fe_309 hC hW i hi xd_fe_undoLatest_42 ?_
    refine lv_aload_n hx hb xd_fe_undoLatest_45 rfl (lv_at hl 0 rfl) ?_
    refine xg_fe_166 hC hW i hi (q_ss) xd_fe_undoLatest_46 ?_
    have h_3 : vp_in ((q_i (S 18 i 2)) - 1) 6 := by have b1 : 0 ≤ (q_i (S 18 i 2)).toInt ∧ (q_i (S 18 i 2)).toInt ≤ 6 := hI 18 i 2; have d_1 := q_dec (x := (q_i (S 18 i 2))) (by omega); simp only [vp_in_iff, Int32.lt_iff_toInt_lt, Int32.le_iff_toInt_le, q_n0, q_n1, q_n2, q_n3, q_n4, q_n5, q_n6, q_n7, q_n10, q_n14, q_n15, q_n20, q_n60, q_n1288] at c_1 ⊢; omega
    refine xal_20 hC hW i hi h_3 (q_sj (by decide) (rfl)) xd_fe_undoLatest_49 ?_
    have hI_4 : xI (q_st S 18 i 2 (.int ((q_i (S 18 i 2)) - 1))) := (xI_st hI (by have b1 : 0 ≤ (q_i (S 18 i 2)).toInt ∧ (q_i (S 18 i 2)).toInt ≤ 6 := hI 18 i 2; have d_1 := q_dec (x := (q_i (S 18 i 2))) (by omega); simp only [Int32.lt_iff_toInt_lt, Int32.le_iff_toInt_le, q_n0, q_n1, q_n2, q_n3, q_n4, q_n5, q_n6, q_n7, q_n10, q_n14, q_n15, q_n20, q_n60, q_n1288] at c_1; show 0 ≤ ((q_i (S 18 i 2)) - 1).toInt ∧ ((q_i (S 18 i 2)) - 1).toInt ≤ 6; rw [q_dec (by omega)]; omega))
    refine q_callv hC hS (fun _ h => h) (q_runV (rest := []) hC hW (xC_fe_want l G (q_st S 18 i 2 (.int ((q_i (S 18 i 2)) - 1))) i 4 (q_i (S 19 i (((q_i (S 18 i 2)) - 1).toNatClampNeg))) (q_i (S 20 i (((q_i (S 18 i 2)) - 1).toNatClampNeg))) hi hI_4) (xc_fe_274 (q_rm 1) hC.1.2.2.2.2 ⟨Nat.le_of_ble_eq_true rfl, Nat.le_of_ble_eq_true rfl⟩ rfl rfl) Nat.one_pos rfl rfl rfl hl.1 rfl (Nat.le_of_ble_eq_true rfl) xd_fe_undoLatest_50 ⟨Nat.zero_le _, Nat.zero_le _⟩) (fun H locs hW hS => ?_)
    have hf : x_fe_undoLatest S i = x_fe_want (q_st S 18 i 2 (.int ((q_i (S 18 i 2)) - 1))) i 4 (q_i (S 19 i (((q_i (S 18 i 2)) - 1).toNatClampNeg))) (q_i (S 20 i (((q_i (S 18 i 2)) - 1).toNatClampNeg))) := by unfold x_fe_undoLatest; rw [if_pos c_1]
    rw [hf]
    exact q_vret hC hr hlocks hW hS rfl xd_fe_undoLatest_53
  · -- not taken
    refine lv_aload_n hx hb xd_fe_undoLatest_12 rfl (lv_at hl 2 rfl) ?_
    refine lv_bipush (v := 6) hx hb xd_fe_undoLatest_13 (by decide) ?_
    refine xg_fe_134p hC hW hS (fun _ h => h) i hi xd_fe_undoLatest_15 (fun H locs hW hS => ?_)
    have hf : x_fe_undoLatest S i = q_st S 9 i 10 (.int 6) := by unfold x_fe_undoLatest; rw [if_neg c_1]
    rw [hf]
    exact q_vret hC hr hlocks hW hS rfl xd_fe_undoLatest_18
set_option maxRecDepth 100000 in
set_option maxHeartbeats 4000000 in
theorem xI_fe_undoLatest (S : q_S) (i : Nat) (hi : i < 6) (hI : xI S) : xI (x_fe_undoLatest S i) := by
  by_cases c_1 : 0 < q_i (S 18 i 2)
  · -- yes
    have h_2 : vp_in ((q_i (S 18 i 2)) - 1) 6 := by have b1 : 0 ≤ (q_i (S 18 i 2)).toInt ∧ (q_i (S 18 i 2)).toInt ≤ 6 := hI 18 i 2; have d_1 := q_dec (x := (q_i (S 18 i 2))) (by omega); simp only [vp_in_iff, Int32.lt_iff_toInt_lt, Int32.le_iff_toInt_le, q_n0, q_n1, q_n2, q_n3, q_n4, q_n5, q_n6, q_n7, q_n10, q_n14, q_n15, q_n20, q_n60, q_n1288] at c_1 ⊢; omega
    have h_3 : vp_in ((q_i (S 18 i 2)) - 1) 6 := by have b1 : 0 ≤ (q_i (S 18 i 2)).toInt ∧ (q_i (S 18 i 2)).toInt ≤ 6 := hI 18 i 2; have d_1 := q_dec (x := (q_i (S 18 i 2))) (by omega); simp only [vp_in_iff, Int32.lt_iff_toInt_lt, Int32.le_iff_toInt_le, q_n0, q_n1, q_n2, q_n3, q_n4, q_n5, q_n6, q_n7, q_n10, q_n14, q_n15, q_n20, q_n60, q_n1288] at c_1 ⊢; omega
    have hI_4 : xI (q_st S 18 i 2 (.int ((q_i (S 18 i 2)) - 1))) := (xI_st hI (by have b1 : 0 ≤ (q_i (S 18 i 2)).toInt ∧ (q_i (S 18 i 2)).toInt ≤ 6 := hI 18 i 2; have d_1 := q_dec (x := (q_i (S 18 i 2))) (by omega); simp only [Int32.lt_iff_toInt_lt, Int32.le_iff_toInt_le, q_n0, q_n1, q_n2, q_n3, q_n4, q_n5, q_n6, q_n7, q_n10, q_n14, q_n15, q_n20, q_n60, q_n1288] at c_1; show 0 ≤ ((q_i (S 18 i 2)) - 1).toInt ∧ ((q_i (S 18 i 2)) - 1).toInt ≤ 6; rw [q_dec (by omega)]; omega))
    have hf : x_fe_undoLatest S i = x_fe_want (q_st S 18 i 2 (.int ((q_i (S 18 i 2)) - 1))) i 4 (q_i (S 19 i (((q_i (S 18 i 2)) - 1).toNatClampNeg))) (q_i (S 20 i (((q_i (S 18 i 2)) - 1).toNatClampNeg))) := by unfold x_fe_undoLatest; rw [if_pos c_1]
    rw [hf]
    exact (xI_fe_want (q_st S 18 i 2 (.int ((q_i (S 18 i 2)) - 1))) i 4 (q_i (S 19 i (((q_i (S 18 i 2)) - 1).toNatClampNeg))) (q_i (S 20 i (((q_i (S 18 i 2)) - 1).toNatClampNeg))) hi hI_4)
  · -- no
    have hf : x_fe_undoLatest S i = q_st S 9 i 10 (.int 6) := by unfold x_fe_undoLatest; rw [if_neg c_1]
    rw [hf]
    exact (q_Is hI rfl)
set_option maxRecDepth 100000 in
set_option maxHeartbeats 4000000 in
theorem xK_fe_undoLatest (S : q_S) (i : Nat) (x y z : Nat) (h3 : x ≠ 3) (h4 : x ≠ 4) (h9 : x ≠ 9) (h11 : x ≠ 11) (h12 : x ≠ 12) (h13 : x ≠ 13) (h14 : x ≠ 14) (h18 : x ≠ 18) (h21 : x ≠ 21) : (x_fe_undoLatest S i) x y z = S x y z := by
  by_cases c_1 : 0 < q_i (S 18 i 2)
  · -- yes
    have hf : x_fe_undoLatest S i = x_fe_want (q_st S 18 i 2 (.int ((q_i (S 18 i 2)) - 1))) i 4 (q_i (S 19 i (((q_i (S 18 i 2)) - 1).toNatClampNeg))) (q_i (S 20 i (((q_i (S 18 i 2)) - 1).toNatClampNeg))) := by unfold x_fe_undoLatest; rw [if_pos c_1]
    rw [hf]
    exact ((xK_fe_want (q_st S 18 i 2 (.int ((q_i (S 18 i 2)) - 1))) i 4 (q_i (S 19 i (((q_i (S 18 i 2)) - 1).toNatClampNeg))) (q_i (S 20 i (((q_i (S 18 i 2)) - 1).toNatClampNeg))) x y z h3 h4 h9 h11 h12 h13 h14 h21)).trans ((q_kj h18))
  · -- no
    have hf : x_fe_undoLatest S i = q_st S 9 i 10 (.int 6) := by unfold x_fe_undoLatest; rw [if_neg c_1]
    rw [hf]
    exact (q_kj h9)
