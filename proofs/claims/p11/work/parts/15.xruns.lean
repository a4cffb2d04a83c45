def x_fe_run_L0 : Nat → q_S → Nat → Nat → q_S
  | 0, S, _, _ => S
  | n + 1, S, i, t =>
    if 1288 ≤ nI t then
      S
    else
      if q_i (S 9 i 10) = 0 then
        if q_i (S 9 i 8) = 0 then
          if x_hi_isLeft (x_fe_step S i) i = 0 then
            x_fe_run_L0 n (x_fe_step S i) i (t + 1)
          else
            x_fe_run_L0 n (x_wf_meetNext (x_fe_step S i) i) i (t + 1)
        else
          if x_hi_isLeft (x_fe_undoLatest S i) i = 0 then
            x_fe_run_L0 n (x_fe_undoLatest S i) i (t + 1)
          else
            x_fe_run_L0 n (x_wf_meetNext (x_fe_undoLatest S i) i) i (t + 1)
      else
        S
set_option maxRecDepth 100000 in
set_option maxHeartbeats 4000000 in
theorem xL_fe_run_L0 (l : Launch) (G : q_G) (i : Nat) (hi : i < 6) {p : Program} {e : Env} {s : State} {m : MethodId} {below : List Frame} {meth : Method} {c : Code} {Q : State → Prop} (hC : q_C xX G p m c xb_fe_run 3 s ([.ref (q_a xX G 0 0), .ref (q_a xX G 9 i)] : List Value).toArray (q_ws (q_gw lw_tbl) xy_fe_run xb_fe_run 3 none) xR_fe) : ∀ (n : Nat) (S : q_S) (t : Nat) (H : Heap) (locs : List Loc) (ls : Array Slot), t + n = 1289 → t ≤ 1288 → xI S → xJ S → q_w xX G s S H → va_S (q_A xX G) s.heap H locs → lv_has ls 3 [(0, .ref (q_a xX G 0 0)), (1, .ref (q_a xX G 9 i)), (2, .int (nI t))] → (∀ (H1 : Heap) (locs1 : List Loc) (ls1 : Array Slot), q_w xX G s (x_fe_run_L0 n S i t) H1 → va_S (q_A xX G) s.heap H1 locs1 → lv_has ls1 3 [(0, .ref (q_a xX G 0 0)), (1, .ref (q_a xX G 9 i))] → W p l e (headSpec (q_ws (q_gw lw_tbl) xy_fe_run xb_fe_run 3 none) (q_rm 3)).room s m ([.ref (q_a xX G 0 0), .ref (q_a xX G 9 i)] : List Value).toArray below meth c H1 locs1 0 0 Q (F0 m 56 ls1 [])) → W p l e (headSpec (q_ws (q_gw lw_tbl) xy_fe_run xb_fe_run 3 none) (q_rm 3)).room s m ([.ref (q_a xX G 0 0), .ref (q_a xX G 9 i)] : List Value).toArray below meth c H locs 0 0 Q (F0 m 2 ls []) := by
  have hx := hC.1.1
  have hb := hC.1.2.1
  intro n
  induction n with
  | zero =>
    intro S t H locs ls ht hu hI hJ hW hS hl kk
    exfalso
    omega
  | succ n ih =>
    intro S t H locs ls ht hu hI hJ hW hS hl kk
    refine lv_iload_n hx hb xd_fe_run_2 rfl (lv_at hl 2 rfl) ?_
    refine lv_sipush (v := 1288) hx hb xd_fe_run_3 (by decide) ?_
    refine lv_icmp_ge (tgt := 56) hx hb xd_fe_run_6 (by decide) (fun c_1 => ?_) (fun c_1 => ?_)
    · -- taken
      have hf : x_fe_run_L0 (n + 1) S i t = S := by rw [x_fe_run_L0, if_pos c_1]
      rw [hf] at kk
      exact kk H locs ls hW hS (lv_sub hl [0, 1] rfl)
    · -- not taken
      refine lv_aload_n hx hb xd_fe_run_9 rfl (lv_at hl 1 rfl) ?_
      refine xg_fe_134 hC hW i hi (rfl) xd_fe_run_10 ?_
      refine lv_if_ne (tgt := 56) hx hb xd_fe_run_13 (by decide) (fun c_2 => ?_) (fun c_2 => ?_)
      · -- taken
        have hf : x_fe_run_L0 (n + 1) S i t = S := by rw [x_fe_run_L0, if_neg c_1, if_neg c_2]
        rw [hf] at kk
        exact kk H locs ls hW hS (lv_sub hl [0, 1] rfl)
      · -- not taken
        refine lv_aload_n hx hb xd_fe_run_16 rfl (lv_at hl 1 rfl) ?_
        refine xg_fe_243 hC hW i hi (rfl) xd_fe_run_17 ?_
        refine lv_if_eq (tgt := 31) hx hb xd_fe_run_20 (by decide) (fun c_3 => ?_) (fun c_3 => ?_)
        · -- taken
          refine lv_aload_n hx hb xd_fe_run_31 rfl (lv_at hl 0 rfl) ?_
          refine lv_aload_n hx hb xd_fe_run_32 rfl (lv_at hl 1 rfl) ?_
          refine q_callv hC hS (fun _ h => h) (q_runV (rest := []) hC hW (xC_fe_step l G S i hi hI hJ) (xc_fe_249 (q_rm 2) hC.1.2.2.2.2 ⟨Nat.le_of_ble_eq_true rfl, Nat.le_of_ble_eq_true rfl⟩ rfl rfl) Nat.one_pos rfl rfl rfl hl.1 rfl (Nat.le_of_ble_eq_true rfl) xd_fe_run_33 ⟨Nat.zero_le _, Nat.zero_le _⟩) (fun H locs hW hS => ?_)
          refine lv_aload_n hx hb xd_fe_run_36 rfl (lv_at hl 1 rfl) ?_
          refine xg_fe_149 hC hW i hi xd_fe_run_37 ?_
          refine q_calli hC hS (fun _ h => h) (q_runV (rest := []) hC hW (xC_hi_isLeft l G (x_fe_step S i) i hi) (xc_fe_252 (q_rm 0) hC.1.2.2.2.2 ⟨Nat.le_of_ble_eq_true rfl, Nat.le_of_ble_eq_true rfl⟩ rfl rfl) hi rfl rfl rfl hl.1 rfl (Nat.le_of_ble_eq_true rfl) xd_fe_run_40 ⟨Nat.zero_le _, Nat.zero_le _⟩) (fun H locs hW hS => ?_)
          refine lv_if_eq (tgt := 50) hx hb xd_fe_run_43 (by decide) (fun c_4 => ?_) (fun c_4 => ?_)
          · -- taken
            refine lv_iinc (v := nI t + 1) (lv' := [(2, .int (nI t + 1)), (0, .ref (q_a xX G 0 0)), (1, .ref (q_a xX G 9 i))]) hx hb xd_fe_run_50 hl (k := 2) rfl rfl (by decide) rfl (fun ls hl => ?_)
            refine lv_goto (tgt := 2) hx hb xd_fe_run_53 (by decide) ?_
            have hf : x_fe_run_L0 (n + 1) S i t = x_fe_run_L0 n (x_fe_step S i) i (t + 1) := by rw [x_fe_run_L0, if_neg c_1, if_pos c_2, if_pos c_3, if_pos c_4]
            rw [hf] at kk
            have hl2 : lv_has ls 3 [(0, .ref (q_a xX G 0 0)), (1, .ref (q_a xX G 9 i)), (2, .int (nI (t + 1)))] := by rw [← nI_1 t]; exact lv_sub hl [1, 2, 0] rfl
            have hI_5 : xI (x_fe_step S i) := (xI_fe_step S i hi hI hJ)
            have hJ_6 : xJ (x_fe_step S i) := xJ_keep hJ (fun x y z hx => ((xK_fe_step S i x y z (show x ≠ 0 by omega) (show x ≠ 3 by omega) (show x ≠ 4 by omega) (show x ≠ 9 by omega) (show x ≠ 10 by omega) (show x ≠ 11 by omega) (show x ≠ 12 by omega) (show x ≠ 13 by omega) (show x ≠ 14 by omega) (show x ≠ 15 by omega) (show x ≠ 16 by omega) (show x ≠ 17 by omega) (show x ≠ 18 by omega) (show x ≠ 19 by omega) (show x ≠ 20 by omega) (show x ≠ 21 by omega))))
            exact ih (x_fe_step S i) (t + 1) _ _ ls (by have n_t := nI_toInt (n := t) (by omega); have m_t := q_nT (n := t) (by omega); simp only [Int32.lt_iff_toInt_lt, Int32.le_iff_toInt_le, q_n0, q_n1, q_n2, q_n3, q_n4, q_n5, q_n6, q_n7, q_n10, q_n14, q_n15, q_n20, q_n60, q_n1288] at c_1; omega) (by have n_t := nI_toInt (n := t) (by omega); have m_t := q_nT (n := t) (by omega); simp only [Int32.lt_iff_toInt_lt, Int32.le_iff_toInt_le, q_n0, q_n1, q_n2, q_n3, q_n4, q_n5, q_n6, q_n7, q_n10, q_n14, q_n15, q_n20, q_n60, q_n1288] at c_1; omega) hI_5 hJ_6 hW hS hl2 kk
          · -- not taken
            refine lv_aload_n hx hb xd_fe_run_46 rfl (lv_at hl 1 rfl) ?_
            have hI_7 : xI (x_fe_step S i) := (xI_fe_step S i hi hI hJ)
            refine q_callv hC hS (fun _ h => h) (q_runV (rest := []) hC hW (xC_wf_meetNext l G (x_fe_step S i) i hi hI_7) (xc_fe_255 (q_rm 1) hC.1.2.2.2.2 ⟨Nat.le_of_ble_eq_true rfl, Nat.le_of_ble_eq_true rfl⟩ rfl rfl) hi rfl rfl rfl hl.1 rfl (Nat.le_of_ble_eq_true rfl) xd_fe_run_47 ⟨Nat.zero_le _, Nat.zero_le _⟩) (fun H locs hW hS => ?_)
            refine lv_iinc (v := nI t + 1) (lv' := [(2, .int (nI t + 1)), (0, .ref (q_a xX G 0 0)), (1, .ref (q_a xX G 9 i))]) hx hb xd_fe_run_50 hl (k := 2) rfl rfl (by decide) rfl (fun ls hl => ?_)
            refine lv_goto (tgt := 2) hx hb xd_fe_run_53 (by decide) ?_
            have hf : x_fe_run_L0 (n + 1) S i t = x_fe_run_L0 n (x_wf_meetNext (x_fe_step S i) i) i (t + 1) := by rw [x_fe_run_L0, if_neg c_1, if_pos c_2, if_pos c_3, if_neg c_4]
            rw [hf] at kk
            have hl2 : lv_has ls 3 [(0, .ref (q_a xX G 0 0)), (1, .ref (q_a xX G 9 i)), (2, .int (nI (t + 1)))] := by rw [← nI_1 t]; exact lv_sub hl [1, 2, 0] rfl
            have hI_8 : xI (x_wf_meetNext (x_fe_step S i) i) := (xI_wf_meetNext (x_fe_step S i) i hi hI_7)
            have hJ_9 : xJ (x_wf_meetNext (x_fe_step S i) i) := xJ_keep hJ (fun x y z hx => ((xK_wf_meetNext (x_fe_step S i) i x y z (show x ≠ 9 by omega) (show x ≠ 10 by omega) (show x ≠ 11 by omega))).trans (((xK_fe_step S i x y z (show x ≠ 0 by omega) (show x ≠ 3 by omega) (show x ≠ 4 by omega) (show x ≠ 9 by omega) (show x ≠ 10 by omega) (show x ≠ 11 by omega) (show x ≠ 12 by omega) (show x ≠ 13 by omega) (show x ≠ 14 by omega) (show x ≠ 15 by omega) (show x ≠ 16 by omega) (show x ≠ 17 by omega) (show x ≠ 18 by omega) (show x ≠ 19 by omega) (show x ≠ 20 by omega) (show x ≠ 21 by omega)))))
            exact ih (x_wf_meetNext (x_fe_step S i) i) (t + 1) _ _ ls (by have n_t := nI_toInt (n := t) (by omega); have m_t := q_nT (n := t) (by omega); simp only [Int32.lt_iff_toInt_lt, Int32.le_iff_toInt_le, q_n0, q_n1, q_n2, q_n3, q_n4, q_n5, q_n6, q_n7, q_n10, q_n14, q_n15, q_n20, q_n60, q_n1288] at c_1; omega) (by have n_t := nI_toInt (n := t) (by omega); have m_t := q_nT (n := t) (by omega); simp only [Int32.lt_iff_toInt_lt, Int32.le_iff_toInt_le, q_n0, q_n1, q_n2, q_n3, q_n4, q_n5, q_n6, q_n7, q_n10, q_n14, q_n15, q_n20, q_n60, q_n1288] at c_1; omega) hI_8 hJ_9 hW hS hl2 kk
        · -- not taken
          refine lv_aload_n hx hb xd_fe_run_23 rfl (lv_at hl 0 rfl) ?_
          refine lv_aload_n hx hb xd_fe_run_24 rfl (lv_at hl 1 rfl) ?_
          refine q_callv hC hS (fun _ h => h) (q_runV (rest := []) hC hW (xC_fe_undoLatest l G S i hi hI) (xc_fe_246 (q_rm 2) hC.1.2.2.2.2 ⟨Nat.le_of_ble_eq_true rfl, Nat.le_of_ble_eq_true rfl⟩ rfl rfl) Nat.one_pos rfl rfl rfl hl.1 rfl (Nat.le_of_ble_eq_true rfl) xd_fe_run_25 ⟨Nat.zero_le _, Nat.zero_le _⟩) (fun H locs hW hS => ?_)
          refine lv_goto (tgt := 36) hx hb xd_fe_run_28 (by decide) ?_
          refine lv_aload_n hx hb xd_fe_run_36 rfl (lv_at hl 1 rfl) ?_
          refine xg_fe_149 hC hW i hi xd_fe_run_37 ?_
          refine q_calli hC hS (fun _ h => h) (q_runV (rest := []) hC hW (xC_hi_isLeft l G (x_fe_undoLatest S i) i hi) (xc_fe_252 (q_rm 0) hC.1.2.2.2.2 ⟨Nat.le_of_ble_eq_true rfl, Nat.le_of_ble_eq_true rfl⟩ rfl rfl) hi rfl rfl rfl hl.1 rfl (Nat.le_of_ble_eq_true rfl) xd_fe_run_40 ⟨Nat.zero_le _, Nat.zero_le _⟩) (fun H locs hW hS => ?_)
          refine lv_if_eq (tgt := 50) hx hb xd_fe_run_43 (by decide) (fun c_10 => ?_) (fun c_10 => ?_)
          · -- taken
            refine lv_iinc (v := nI t + 1) (lv' := [(2, .int (nI t + 1)), (0, .ref (q_a xX G 0 0)), (1, .ref (q_a xX G 9 i))]) hx hb xd_fe_run_50 hl (k := 2) rfl rfl (by decide) rfl (fun ls hl => ?_)
            refine lv_goto (tgt := 2) hx hb xd_fe_run_53 (by decide) ?_
            have hf : x_fe_run_L0 (n + 1) S i t = x_fe_run_L0 n (x_fe_undoLatest S i) i (t + 1) := by rw [x_fe_run_L0, if_neg c_1, if_pos c_2, if_neg c_3, if_pos c_10]
            rw [hf] at kk
            have hl2 : lv_has ls 3 [(0, .ref (q_a xX G 0 0)), (1, .ref (q_a xX G 9 i)), (2, .int (nI (t + 1)))] := by rw [← nI_1 t]; exact lv_sub hl [1, 2, 0] rfl
            have hI_11 : xI (x_fe_undoLatest S i) := (xI_fe_undoLatest S i hi hI)
            have hJ_12 : xJ (x_fe_undoLatest S i) := xJ_keep hJ (fun x y z hx => ((xK_fe_undoLatest S i x y z (show x ≠ 3 by omega) (show x ≠ 4 by omega) (show x ≠ 9 by omega) (show x ≠ 11 by omega) (show x ≠ 12 by omega) (show x ≠ 13 by omega) (show x ≠ 14 by omega) (show x ≠ 18 by omega) (show x ≠ 21 by omega))))
            exact ih (x_fe_undoLatest S i) (t + 1) _ _ ls (by have n_t := nI_toInt (n := t) (by omega); have m_t := q_nT (n := t) (by omega); simp only [Int32.lt_iff_toInt_lt, Int32.le_iff_toInt_le, q_n0, q_n1, q_n2, q_n3, q_n4, q_n5, q_n6, q_n7, q_n10, q_n14, q_n15, q_n20, q_n60, q_n1288] at c_1; omega) (by have n_t := nI_toInt (n := t) (by omega); have m_t := q_nT (n := t) (by omega); simp only [Int32.lt_iff_toInt_lt, Int32.le_iff_toInt_le, q_n0, q_n1, q_n2, q_n3, q_n4, q_n5, q_n6, q_n7, q_n10, q_n14, q_n15, q_n20, q_n60, q_n1288] at c_1; omega) hI_11 hJ_12 hW hS hl2 kk
          · -- not taken
            refine lv_aload_n hx hb xd_fe_run_46 rfl (lv_at hl 1 rfl) ?_
            have hI_13 : xI (x_fe_undoLatest S i) := (xI_fe_undoLatest S i hi hI)
            refine q_callv hC hS (fun _ h => h) (q_runV (rest := []) hC hW (xC_wf_meetNext l G (x_fe_undoLatest S i) i hi hI_13) (xc_fe_255 (q_rm 1) hC.1.2.2.2.2 ⟨Nat.le_of_ble_eq_true rfl, Nat.le_of_ble_eq_true rfl⟩ rfl rfl) hi rfl rfl rfl hl.1 rfl (Nat.le_of_ble_eq_true rfl) xd_fe_run_47 ⟨Nat.zero_le _, Nat.zero_le _⟩) (fun H locs hW hS => ?_)
            refine lv_iinc (v := nI t + 1) (lv' := [(2, .int (nI t + 1)), (0, .ref (q_a xX G 0 0)), (1, .ref (q_a xX G 9 i))]) hx hb xd_fe_run_50 hl (k := 2) rfl rfl (by decide) rfl (fun ls hl => ?_)
            refine lv_goto (tgt := 2) hx hb xd_fe_run_53 (by decide) ?_
            have hf : x_fe_run_L0 (n + 1) S i t = x_fe_run_L0 n (x_wf_meetNext (x_fe_undoLatest S i) i) i (t + 1) := by rw [x_fe_run_L0, if_neg c_1, if_pos c_2, if_neg c_3, if_neg c_10]
            rw [hf] at kk
            have hl2 : lv_has ls 3 [(0, .ref (q_a xX G 0 0)), (1, .ref (q_a xX G 9 i)), (2, .int (nI (t + 1)))] := by rw [← nI_1 t]; exact lv_sub hl [1, 2, 0] rfl
            have hI_14 : xI (x_wf_meetNext (x_fe_undoLatest S i) i) := (xI_wf_meetNext (x_fe_undoLatest S i) i hi hI_13)
            have hJ_15 : xJ (x_wf_meetNext (x_fe_undoLatest S i) i) := xJ_keep hJ (fun x y z hx => ((xK_wf_meetNext (x_fe_undoLatest S i) i x y z (show x ≠ 9 by omega) (show x ≠ 10 by omega) (show x ≠ 11 by omega))).trans (((xK_fe_undoLatest S i x y z (show x ≠ 3 by omega) (show x ≠ 4 by omega) (show x ≠ 9 by omega) (show x ≠ 11 by omega) (show x ≠ 12 by omega) (show x ≠ 13 by omega) (show x ≠ 14 by omega) (show x ≠ 18 by omega) (show x ≠ 21 by omega)))))
            exact ih (x_wf_meetNext (x_fe_undoLatest S i) i) (t + 1) _ _ ls (by have n_t := nI_toInt (n := t) (by omega); have m_t := q_nT (n := t) (by omega); simp only [Int32.lt_iff_toInt_lt, Int32.le_iff_toInt_le, q_n0, q_n1, q_n2, q_n3, q_n4, q_n5, q_n6, q_n7, q_n10, q_n14, q_n15, q_n20, q_n60, q_n1288] at c_1; omega) (by have n_t := nI_toInt (n := t) (by omega); have m_t := q_nT (n := t) (by omega); simp only [Int32.lt_iff_toInt_lt, Int32.le_iff_toInt_le, q_n0, q_n1, q_n2, q_n3, q_n4, q_n5, q_n6, q_n7, q_n10, q_n14, q_n15, q_n20, q_n60, q_n1288] at c_1; omega) hI_14 hJ_15 hW hS hl2 kk
set_option maxRecDepth 100000 in
set_option maxHeartbeats 4000000 in
theorem xK_fe_run_L0 : ∀ (n : Nat) (S : q_S) (i : Nat) (t : Nat) (x y z : Nat) (h0 : x ≠ 0) (h3 : x ≠ 3) (h4 : x ≠ 4) (h9 : x ≠ 9) (h10 : x ≠ 10) (h11 : x ≠ 11) (h12 : x ≠ 12) (h13 : x ≠ 13) (h14 : x ≠ 14) (h15 : x ≠ 15) (h16 : x ≠ 16) (h17 : x ≠ 17) (h18 : x ≠ 18) (h19 : x ≠ 19) (h20 : x ≠ 20) (h21 : x ≠ 21), (x_fe_run_L0 n S i t) x y z = S x y z := by
  intro n
  induction n with
  | zero => intro S i t x y z h0 h3 h4 h9 h10 h11 h12 h13 h14 h15 h16 h17 h18 h19 h20 h21; rfl
  | succ n ih =>
    intro S i t x y z h0 h3 h4 h9 h10 h11 h12 h13 h14 h15 h16 h17 h18 h19 h20 h21
    by_cases c_1 : 1288 ≤ nI t
    · -- yes
      have hf : x_fe_run_L0 (n + 1) S i t = S := by rw [x_fe_run_L0, if_pos c_1]
      rw [hf]
    · -- no
      by_cases c_2 : q_i (S 9 i 10) = 0
      · -- yes
        by_cases c_3 : q_i (S 9 i 8) = 0
        · -- yes
          by_cases c_4 : x_hi_isLeft (x_fe_step S i) i = 0
          · -- yes
            have hf : x_fe_run_L0 (n + 1) S i t = x_fe_run_L0 n (x_fe_step S i) i (t + 1) := by rw [x_fe_run_L0, if_neg c_1, if_pos c_2, if_pos c_3, if_pos c_4]
            rw [hf]
            exact (ih (x_fe_step S i) i (t + 1) x y z h0 h3 h4 h9 h10 h11 h12 h13 h14 h15 h16 h17 h18 h19 h20 h21).trans (((xK_fe_step S i x y z h0 h3 h4 h9 h10 h11 h12 h13 h14 h15 h16 h17 h18 h19 h20 h21)))
          · -- no
            have hf : x_fe_run_L0 (n + 1) S i t = x_fe_run_L0 n (x_wf_meetNext (x_fe_step S i) i) i (t + 1) := by rw [x_fe_run_L0, if_neg c_1, if_pos c_2, if_pos c_3, if_neg c_4]
            rw [hf]
            exact (ih (x_wf_meetNext (x_fe_step S i) i) i (t + 1) x y z h0 h3 h4 h9 h10 h11 h12 h13 h14 h15 h16 h17 h18 h19 h20 h21).trans (((xK_wf_meetNext (x_fe_step S i) i x y z h9 h10 h11)).trans (((xK_fe_step S i x y z h0 h3 h4 h9 h10 h11 h12 h13 h14 h15 h16 h17 h18 h19 h20 h21))))
        · -- no
          by_cases c_10 : x_hi_isLeft (x_fe_undoLatest S i) i = 0
          · -- yes
            have hf : x_fe_run_L0 (n + 1) S i t = x_fe_run_L0 n (x_fe_undoLatest S i) i (t + 1) := by rw [x_fe_run_L0, if_neg c_1, if_pos c_2, if_neg c_3, if_pos c_10]
            rw [hf]
            exact (ih (x_fe_undoLatest S i) i (t + 1) x y z h0 h3 h4 h9 h10 h11 h12 h13 h14 h15 h16 h17 h18 h19 h20 h21).trans (((xK_fe_undoLatest S i x y z h3 h4 h9 h11 h12 h13 h14 h18 h21)))
          · -- no
            have hf : x_fe_run_L0 (n + 1) S i t = x_fe_run_L0 n (x_wf_meetNext (x_fe_undoLatest S i) i) i (t + 1) := by rw [x_fe_run_L0, if_neg c_1, if_pos c_2, if_neg c_3, if_neg c_10]
            rw [hf]
            exact (ih (x_wf_meetNext (x_fe_undoLatest S i) i) i (t + 1) x y z h0 h3 h4 h9 h10 h11 h12 h13 h14 h15 h16 h17 h18 h19 h20 h21).trans (((xK_wf_meetNext (x_fe_undoLatest S i) i x y z h9 h10 h11)).trans (((xK_fe_undoLatest S i x y z h3 h4 h9 h11 h12 h13 h14 h18 h21))))
      · -- no
        have hf : x_fe_run_L0 (n + 1) S i t = S := by rw [x_fe_run_L0, if_neg c_1, if_neg c_2]
        rw [hf]
set_option maxRecDepth 100000 in
set_option maxHeartbeats 4000000 in
theorem xI_fe_run_L0 (i : Nat) (hi : i < 6) : ∀ (n : Nat) (S : q_S) (t : Nat), t + n = 1289 → t ≤ 1288 → xI S → xJ S → xI (x_fe_run_L0 n S i t) := by
  intro n
  induction n with
  | zero =>
    intro S t ht hu hI hJ
    exfalso
    omega
  | succ n ih =>
    intro S t ht hu hI hJ
    by_cases c_1 : 1288 ≤ nI t
    · -- yes
      have hf : x_fe_run_L0 (n + 1) S i t = S := by rw [x_fe_run_L0, if_pos c_1]
      rw [hf]
      exact hI
    · -- no
      by_cases c_2 : q_i (S 9 i 10) = 0
      · -- yes
        by_cases c_3 : q_i (S 9 i 8) = 0
        · -- yes
          by_cases c_4 : x_hi_isLeft (x_fe_step S i) i = 0
          · -- yes
            have hI_5 : xI (x_fe_step S i) := (xI_fe_step S i hi hI hJ)
            have hJ_6 : xJ (x_fe_step S i) := xJ_keep hJ (fun x y z hx => ((xK_fe_step S i x y z (show x ≠ 0 by omega) (show x ≠ 3 by omega) (show x ≠ 4 by omega) (show x ≠ 9 by omega) (show x ≠ 10 by omega) (show x ≠ 11 by omega) (show x ≠ 12 by omega) (show x ≠ 13 by omega) (show x ≠ 14 by omega) (show x ≠ 15 by omega) (show x ≠ 16 by omega) (show x ≠ 17 by omega) (show x ≠ 18 by omega) (show x ≠ 19 by omega) (show x ≠ 20 by omega) (show x ≠ 21 by omega))))
            have hf : x_fe_run_L0 (n + 1) S i t = x_fe_run_L0 n (x_fe_step S i) i (t + 1) := by rw [x_fe_run_L0, if_neg c_1, if_pos c_2, if_pos c_3, if_pos c_4]
            rw [hf]
            have hI_907 : xI (x_fe_step S i) := (xI_fe_step S i hi hI hJ)
            have hJ_908 : xJ (x_fe_step S i) := xJ_keep hJ (fun x y z hx => ((xK_fe_step S i x y z (show x ≠ 0 by omega) (show x ≠ 3 by omega) (show x ≠ 4 by omega) (show x ≠ 9 by omega) (show x ≠ 10 by omega) (show x ≠ 11 by omega) (show x ≠ 12 by omega) (show x ≠ 13 by omega) (show x ≠ 14 by omega) (show x ≠ 15 by omega) (show x ≠ 16 by omega) (show x ≠ 17 by omega) (show x ≠ 18 by omega) (show x ≠ 19 by omega) (show x ≠ 20 by omega) (show x ≠ 21 by omega))))
            exact ih (x_fe_step S i) (t + 1) (by have n_t := nI_toInt (n := t) (by omega); have m_t := q_nT (n := t) (by omega); simp only [Int32.lt_iff_toInt_lt, Int32.le_iff_toInt_le, q_n0, q_n1, q_n2, q_n3, q_n4, q_n5, q_n6, q_n7, q_n10, q_n14, q_n15, q_n20, q_n60, q_n1288] at c_1; omega) (by have n_t := nI_toInt (n := t) (by omega); have m_t := q_nT (n := t) (by omega); simp only [Int32.lt_iff_toInt_lt, Int32.le_iff_toInt_le, q_n0, q_n1, q_n2, q_n3, q_n4, q_n5, q_n6, q_n7, q_n10, q_n14, q_n15, q_n20, q_n60, q_n1288] at c_1; omega) hI_907 hJ_908
          · -- no
            have hI_7 : xI (x_fe_step S i) := (xI_fe_step S i hi hI hJ)
            have hI_8 : xI (x_wf_meetNext (x_fe_step S i) i) := (xI_wf_meetNext (x_fe_step S i) i hi hI_7)
            have hJ_9 : xJ (x_wf_meetNext (x_fe_step S i) i) := xJ_keep hJ (fun x y z hx => ((xK_wf_meetNext (x_fe_step S i) i x y z (show x ≠ 9 by omega) (show x ≠ 10 by omega) (show x ≠ 11 by omega))).trans (((xK_fe_step S i x y z (show x ≠ 0 by omega) (show x ≠ 3 by omega) (show x ≠ 4 by omega) (show x ≠ 9 by omega) (show x ≠ 10 by omega) (show x ≠ 11 by omega) (show x ≠ 12 by omega) (show x ≠ 13 by omega) (show x ≠ 14 by omega) (show x ≠ 15 by omega) (show x ≠ 16 by omega) (show x ≠ 17 by omega) (show x ≠ 18 by omega) (show x ≠ 19 by omega) (show x ≠ 20 by omega) (show x ≠ 21 by omega)))))
            have hf : x_fe_run_L0 (n + 1) S i t = x_fe_run_L0 n (x_wf_meetNext (x_fe_step S i) i) i (t + 1) := by rw [x_fe_run_L0, if_neg c_1, if_pos c_2, if_pos c_3, if_neg c_4]
            rw [hf]
            have hI_907 : xI (x_wf_meetNext (x_fe_step S i) i) := (xI_wf_meetNext (x_fe_step S i) i hi hI_7)
            have hJ_908 : xJ (x_wf_meetNext (x_fe_step S i) i) := xJ_keep hJ (fun x y z hx => ((xK_wf_meetNext (x_fe_step S i) i x y z (show x ≠ 9 by omega) (show x ≠ 10 by omega) (show x ≠ 11 by omega))).trans (((xK_fe_step S i x y z (show x ≠ 0 by omega) (show x ≠ 3 by omega) (show x ≠ 4 by omega) (show x ≠ 9 by omega) (show x ≠ 10 by omega) (show x ≠ 11 by omega) (show x ≠ 12 by omega) (show x ≠ 13 by omega) (show x ≠ 14 by omega) (show x ≠ 15 by omega) (show x ≠ 16 by omega) (show x ≠ 17 by omega) (show x ≠ 18 by omega) (show x ≠ 19 by omega) (show x ≠ 20 by omega) (show x ≠ 21 by omega)))))
            exact ih (x_wf_meetNext (x_fe_step S i) i) (t + 1) (by have n_t := nI_toInt (n := t) (by omega); have m_t := q_nT (n := t) (by omega); simp only [Int32.lt_iff_toInt_lt, Int32.le_iff_toInt_le, q_n0, q_n1, q_n2, q_n3, q_n4, q_n5, q_n6, q_n7, q_n10, q_n14, q_n15, q_n20, q_n60, q_n1288] at c_1; omega) (by have n_t := nI_toInt (n := t) (by omega); have m_t := q_nT (n := t) (by omega); simp only [Int32.lt_iff_toInt_lt, Int32.le_iff_toInt_le, q_n0, q_n1, q_n2, q_n3, q_n4, q_n5, q_n6, q_n7, q_n10, q_n14, q_n15, q_n20, q_n60, q_n1288] at c_1; omega) hI_907 hJ_908
        · -- no
          by_cases c_10 : x_hi_isLeft (x_fe_undoLatest S i) i = 0
          · -- yes
            have hI_11 : xI (x_fe_undoLatest S i) := (xI_fe_undoLatest S i hi hI)
            have hJ_12 : xJ (x_fe_undoLatest S i) := xJ_keep hJ (fun x y z hx => ((xK_fe_undoLatest S i x y z (show x ≠ 3 by omega) (show x ≠ 4 by omega) (show x ≠ 9 by omega) (show x ≠ 11 by omega) (show x ≠ 12 by omega) (show x ≠ 13 by omega) (show x ≠ 14 by omega) (show x ≠ 18 by omega) (show x ≠ 21 by omega))))
            have hf : x_fe_run_L0 (n + 1) S i t = x_fe_run_L0 n (x_fe_undoLatest S i) i (t + 1) := by rw [x_fe_run_L0, if_neg c_1, if_pos c_2, if_neg c_3, if_pos c_10]
            rw [hf]
            have hI_907 : xI (x_fe_undoLatest S i) := (xI_fe_undoLatest S i hi hI)
            have hJ_908 : xJ (x_fe_undoLatest S i) := xJ_keep hJ (fun x y z hx => ((xK_fe_undoLatest S i x y z (show x ≠ 3 by omega) (show x ≠ 4 by omega) (show x ≠ 9 by omega) (show x ≠ 11 by omega) (show x ≠ 12 by omega) (show x ≠ 13 by omega) (show x ≠ 14 by omega) (show x ≠ 18 by omega) (show x ≠ 21 by omega))))
            exact ih (x_fe_undoLatest S i) (t + 1) (by have n_t := nI_toInt (n := t) (by omega); have m_t := q_nT (n := t) (by omega); simp only [Int32.lt_iff_toInt_lt, Int32.le_iff_toInt_le, q_n0, q_n1, q_n2, q_n3, q_n4, q_n5, q_n6, q_n7, q_n10, q_n14, q_n15, q_n20, q_n60, q_n1288] at c_1; omega) (by have n_t := nI_toInt (n := t) (by omega); have m_t := q_nT (n := t) (by omega); simp only [Int32.lt_iff_toInt_lt, Int32.le_iff_toInt_le, q_n0, q_n1, q_n2, q_n3, q_n4, q_n5, q_n6, q_n7, q_n10, q_n14, q_n15, q_n20, q_n60, q_n1288] at c_1; omega) hI_907 hJ_908
          · -- no
            have hI_13 : xI (x_fe_undoLatest S i) := (xI_fe_undoLatest S i hi hI)
            have hI_14 : xI (x_wf_meetNext (x_fe_undoLatest S i) i) := (xI_wf_meetNext (x_fe_undoLatest S i) i hi hI_13)
            have hJ_15 : xJ (x_wf_meetNext (x_fe_undoLatest S i) i) := xJ_keep hJ (fun x y z hx => ((xK_wf_meetNext (x_fe_undoLatest S i) i x y z (show x ≠ 9 by omega) (show x ≠ 10 by omega) (show x ≠ 11 by omega))).trans (((xK_fe_undoLatest S i x y z (show x ≠ 3 by omega) (show x ≠ 4 by omega) (show x ≠ 9 by omega) (show x ≠ 11 by omega) (show x ≠ 12 by omega) (show x ≠ 13 by omega) (show x ≠ 14 by omega) (show x ≠ 18 by omega) (show x ≠ 21 by omega)))))
            have hf : x_fe_run_L0 (n + 1) S i t = x_fe_run_L0 n (x_wf_meetNext (x_fe_undoLatest S i) i) i (t + 1) := by rw [x_fe_run_L0, if_neg c_1, if_pos c_2, if_neg c_3, if_neg c_10]
            rw [hf]
            have hI_907 : xI (x_wf_meetNext (x_fe_undoLatest S i) i) := (xI_wf_meetNext (x_fe_undoLatest S i) i hi hI_13)
            have hJ_908 : xJ (x_wf_meetNext (x_fe_undoLatest S i) i) := xJ_keep hJ (fun x y z hx => ((xK_wf_meetNext (x_fe_undoLatest S i) i x y z (show x ≠ 9 by omega) (show x ≠ 10 by omega) (show x ≠ 11 by omega))).trans (((xK_fe_undoLatest S i x y z (show x ≠ 3 by omega) (show x ≠ 4 by omega) (show x ≠ 9 by omega) (show x ≠ 11 by omega) (show x ≠ 12 by omega) (show x ≠ 13 by omega) (show x ≠ 14 by omega) (show x ≠ 18 by omega) (show x ≠ 21 by omega)))))
            exact ih (x_wf_meetNext (x_fe_undoLatest S i) i) (t + 1) (by have n_t := nI_toInt (n := t) (by omega); have m_t := q_nT (n := t) (by omega); simp only [Int32.lt_iff_toInt_lt, Int32.le_iff_toInt_le, q_n0, q_n1, q_n2, q_n3, q_n4, q_n5, q_n6, q_n7, q_n10, q_n14, q_n15, q_n20, q_n60, q_n1288] at c_1; omega) (by have n_t := nI_toInt (n := t) (by omega); have m_t := q_nT (n := t) (by omega); simp only [Int32.lt_iff_toInt_lt, Int32.le_iff_toInt_le, q_n0, q_n1, q_n2, q_n3, q_n4, q_n5, q_n6, q_n7, q_n10, q_n14, q_n15, q_n20, q_n60, q_n1288] at c_1; omega) hI_907 hJ_908
      · -- no
        have hf : x_fe_run_L0 (n + 1) S i t = S := by rw [x_fe_run_L0, if_neg c_1, if_neg c_2]
        rw [hf]
        exact hI
def x_fe_run (S : q_S) (i : Nat) : q_S :=
  if x_wf_hasEnded (x_fe_run_L0 1289 S i 0) i = 0 then
    x_fe_run_L0 1289 S i 0
  else
    x_fe_finish (x_fe_run_L0 1289 S i 0) i
set_option maxRecDepth 100000 in
set_option maxHeartbeats 4000000 in
theorem xC_fe_run (l : Launch) (G : q_G) (S : q_S) (i : Nat) (hi : i < 6) (hI : xI S) (hJ : xJ S) : q_Mv xX G l xy_fe_run (q_ws (q_gw lw_tbl) xy_fe_run xb_fe_run 3 none) (q_rm 3) [.ref (q_a xX G 0 0), .ref (q_a xX G 9 i)] S (x_fe_run S i) := by
  refine q_met (cc := xb_fe_run) (maxL := 3) (ret := none) xOk (by decide) rfl (Nat.le_of_ble_eq_true rfl) ?_
  intro p e s m below meth c ls hC hr hlocks hW hS hl
  have hx := hC.1.1
  have hb := hC.1.2.1
  have hl : lv_has ls 3 [(0, .ref (q_a xX G 0 0)), (1, .ref (q_a xX G 9 i))] := hl
  refine lv_iconst (v := 0) hx hb xd_fe_run_0 (by decide) ?_
  refine lv_istore_n (lv' := [(2, .int 0), (0, .ref (q_a xX G 0 0)), (1, .ref (q_a xX G 9 i))]) hx hb xd_fe_run_1 rfl hl (by decide) rfl (fun ls hl => ?_)
  have hl2 : lv_has ls 3 [(0, .ref (q_a xX G 0 0)), (1, .ref (q_a xX G 9 i)), (2, .int (nI 0))] := by rw [(show nI 0 = 0 from rfl)]; exact lv_sub hl [1, 2, 0] rfl
  refine xL_fe_run_L0 l G i hi hC 1289 S 0 _ _ ls (by omega) (by omega) hI hJ hW hS hl2 (fun H locs ls hW hS hl => ?_)
  refine lv_aload_n hx hb xd_fe_run_56 rfl (lv_at hl 1 rfl) ?_
  refine q_calli hC hS (fun _ h => h) (q_runV (rest := []) hC hW (xC_wf_hasEnded l G (x_fe_run_L0 1289 S i 0) i hi) (xc_fe_76 (q_rm 0) hC.1.2.2.2.2 ⟨Nat.le_of_ble_eq_true rfl, Nat.le_of_ble_eq_true rfl⟩ rfl rfl) hi rfl rfl rfl hl.1 rfl (Nat.le_of_ble_eq_true rfl) xd_fe_run_57 ⟨Nat.zero_le _, Nat.zero_le _⟩) (fun H locs hW hS => ?_)
  refine lv_if_eq (tgt := 68) hx hb xd_fe_run_60 (by decide) (fun c_1 => ?_) (fun c_1 => ?_)
  · -- taken
    have hf : x_fe_run S i = x_fe_run_L0 1289 S i 0 := by unfold x_fe_run; rw [if_pos c_1]
    rw [hf]
    exact q_vret hC hr hlocks hW hS rfl xd_fe_run_68
  · -- not taken
    refine lv_aload_n hx hb xd_fe_run_63 rfl (lv_at hl 0 rfl) ?_
    refine lv_aload_n hx hb xd_fe_run_64 rfl (lv_at hl 1 rfl) ?_
    have hI_2 : xI (x_fe_run_L0 1289 S i 0) := (xI_fe_run_L0 i hi 1289 S 0 (by omega) (by omega) hI hJ)
    refine q_callv hC hS (fun _ h => h) (q_runV (rest := []) hC hW (xC_fe_finish l G (x_fe_run_L0 1289 S i 0) i hi hI_2) (xc_fe_258 (q_rm 2) hC.1.2.2.2.2 ⟨Nat.le_of_ble_eq_true rfl, Nat.le_of_ble_eq_true rfl⟩ rfl rfl) Nat.one_pos rfl rfl rfl hl.1 rfl (Nat.le_of_ble_eq_true rfl) xd_fe_run_65 ⟨Nat.zero_le _, Nat.zero_le _⟩) (fun H locs hW hS => ?_)
    have hf : x_fe_run S i = x_fe_finish (x_fe_run_L0 1289 S i 0) i := by unfold x_fe_run; rw [if_neg c_1]
    rw [hf]
    exact q_vret hC hr hlocks hW hS rfl xd_fe_run_68
set_option maxRecDepth 100000 in
set_option maxHeartbeats 4000000 in
theorem xI_fe_run (S : q_S) (i : Nat) (hi : i < 6) (hI : xI S) (hJ : xJ S) : xI (x_fe_run S i) := by
  by_cases c_1 : x_wf_hasEnded (x_fe_run_L0 1289 S i 0) i = 0
  · -- yes
    have hf : x_fe_run S i = x_fe_run_L0 1289 S i 0 := by unfold x_fe_run; rw [if_pos c_1]
    rw [hf]
    exact (xI_fe_run_L0 i hi 1289 S 0 (by omega) (by omega) hI hJ)
  · -- no
    have hI_2 : xI (x_fe_run_L0 1289 S i 0) := (xI_fe_run_L0 i hi 1289 S 0 (by omega) (by omega) hI hJ)
    have hf : x_fe_run S i = x_fe_finish (x_fe_run_L0 1289 S i 0) i := by unfold x_fe_run; rw [if_neg c_1]
    rw [hf]
    exact (xI_fe_finish (x_fe_run_L0 1289 S i 0) i hi hI_2)
set_option maxRecDepth 100000 in
set_option maxHeartbeats 4000000 in
theorem xK_fe_run (S : q_S) (i : Nat) (x y z : Nat) (h0 : x ≠ 0) (h3 : x ≠ 3) (h4 : x ≠ 4) (h9 : x ≠ 9) (h10 : x ≠ 10) (h11 : x ≠ 11) (h12 : x ≠ 12) (h13 : x ≠ 13) (h14 : x ≠ 14) (h15 : x ≠ 15) (h16 : x ≠ 16) (h17 : x ≠ 17) (h18 : x ≠ 18) (h19 : x ≠ 19) (h20 : x ≠ 20) (h21 : x ≠ 21) : (x_fe_run S i) x y z = S x y z := by
  by_cases c_1 : x_wf_hasEnded (x_fe_run_L0 1289 S i 0) i = 0
  · -- yes
    have hf : x_fe_run S i = x_fe_run_L0 1289 S i 0 := by unfold x_fe_run; rw [if_pos c_1]
    rw [hf]
    exact ((xK_fe_run_L0 1289 S i 0 x y z h0 h3 h4 h9 h10 h11 h12 h13 h14 h15 h16 h17 h18 h19 h20 h21))
  · -- no
    have hf : x_fe_run S i = x_fe_finish (x_fe_run_L0 1289 S i 0) i := by unfold x_fe_run; rw [if_neg c_1]
    rw [hf]
    exact ((xK_fe_finish (x_fe_run_L0 1289 S i 0) i x y z h0 h3 h4 h9 h21)).trans (((xK_fe_run_L0 1289 S i 0 x y z h0 h3 h4 h9 h10 h11 h12 h13 h14 h15 h16 h17 h18 h19 h20 h21)))
def x_fe_happen (S : q_S) (i : Nat) (a b d : Int32) : q_S :=
  if x_wf_waitsFor S i a b = 0 then
    S
  else
    if (x_hi_pass S i a b d).1 = 0 then
      x_fe_run (q_st ((x_hi_pass S i a b d).2) 9 i 10 (.int 7)) i
    else
      if a = 4 then
        x_fe_run (x_wf_resume (q_st (x_fe_dropTask (q_st ((x_hi_pass S i a b d).2) 0 0 7 (.int ((q_i (S 0 0 7)) + 1))) i) 9 i 12 (.int 0)) i a d) i
      else
        x_fe_run (x_wf_resume (q_st (x_fe_dropTask ((x_hi_pass S i a b d).2) i) 9 i 12 (.int 0)) i a d) i
set_option maxRecDepth 100000 in
set_option maxHeartbeats 4000000 in
theorem xC_fe_happen (l : Launch) (G : q_G) (S : q_S) (i : Nat) (a b d : Int32) (hi : i < 6) (hI : xI S) (hJ : xJ S) : q_Mv xX G l xy_fe_happen (q_ws (q_gw lw_tbl) xy_fe_happen xb_fe_happen 5 none) (q_rm 4) [.ref (q_a xX G 0 0), .ref (q_a xX G 9 i), .int a, .int b, .int d] S (x_fe_happen S i a b d) := by
  refine q_met (cc := xb_fe_happen) (maxL := 5) (ret := none) xOk (by decide) rfl (Nat.le_of_ble_eq_true rfl) ?_
  intro p e s m below meth c ls hC hr hlocks hW hS hl
  have hx := hC.1.1
  have hb := hC.1.2.1
  have hl : lv_has ls 5 [(0, .ref (q_a xX G 0 0)), (1, .ref (q_a xX G 9 i)), (2, .int a), (3, .int b), (4, .int d)] := hl
  refine lv_aload_n hx hb xd_fe_happen_0 rfl (lv_at hl 1 rfl) ?_
  refine lv_iload_n hx hb xd_fe_happen_1 rfl (lv_at hl 2 rfl) ?_
  refine lv_iload_n hx hb xd_fe_happen_2 rfl (lv_at hl 3 rfl) ?_
  refine q_calli hC hS (fun _ h => h) (q_runV (rest := []) hC hW (xC_wf_waitsFor l G S i a b hi) (xc_fe_92 (q_rm 0) hC.1.2.2.2.2 ⟨Nat.le_of_ble_eq_true rfl, Nat.le_of_ble_eq_true rfl⟩ rfl rfl) hi rfl rfl rfl hl.1 rfl (Nat.le_of_ble_eq_true rfl) xd_fe_happen_3 ⟨Nat.zero_le _, Nat.zero_le _⟩) (fun H locs hW hS => ?_)
  refine lv_if_ne (tgt := 10) hx hb xd_fe_happen_6 (by decide) (fun c_1 => ?_) (fun c_1 => ?_)
  · -- taken
    refine lv_aload_n hx hb xd_fe_happen_10 rfl (lv_at hl 1 rfl) ?_
    refine xg_fe_149 hC hW i hi xd_fe_happen_11 ?_
    refine lv_iload_n hx hb xd_fe_happen_14 rfl (lv_at hl 2 rfl) ?_
    refine lv_iload_n hx hb xd_fe_happen_15 rfl (lv_at hl 3 rfl) ?_
    refine lv_iload hx hb xd_fe_happen_16 (lv_at hl 4 rfl) ?_
    refine q_calli hC hS (fun _ h => h) (q_runV (rest := []) hC hW (xC_hi_pass l G S i a b d hi hI) (xc_fe_225 (q_rm 0) hC.1.2.2.2.2 ⟨Nat.le_of_ble_eq_true rfl, Nat.le_of_ble_eq_true rfl⟩ rfl rfl) hi rfl rfl rfl hl.1 rfl (Nat.le_of_ble_eq_true rfl) xd_fe_happen_18 ⟨Nat.zero_le _, Nat.zero_le _⟩) (fun H locs hW hS => ?_)
    refine lv_if_eq (tgt := 59) hx hb xd_fe_happen_21 (by decide) (fun c_2 => ?_) (fun c_2 => ?_)
    · -- taken
      refine lv_aload_n hx hb xd_fe_happen_59 rfl (lv_at hl 1 rfl) ?_
      refine lv_bipush (v := 7) hx hb xd_fe_happen_60 (by decide) ?_
      refine xg_fe_134p hC hW hS (fun _ h => h) i hi xd_fe_happen_62 (fun H locs hW hS => ?_)
      refine lv_aload_n hx hb xd_fe_happen_65 rfl (lv_at hl 0 rfl) ?_
      refine lv_aload_n hx hb xd_fe_happen_66 rfl (lv_at hl 1 rfl) ?_
      have hI_3 : xI (q_st ((x_hi_pass S i a b d).2) 9 i 10 (.int 7)) := (q_Is (xI_hi_pass S i a b d hi hI) rfl)
      have hJ_4 : xJ (q_st ((x_hi_pass S i a b d).2) 9 i 10 (.int 7)) := xJ_keep hJ (fun x y z hx => (q_kj (show x ≠ 9 by omega)).trans (((xK_hi_pass S i a b d x y z (show x ≠ 11 by omega) (show x ≠ 12 by omega) (show x ≠ 13 by omega) (show x ≠ 14 by omega)))))
      refine q_callv hC hS (fun _ h => h) (q_runV (rest := []) hC hW (xC_fe_run l G (q_st ((x_hi_pass S i a b d).2) 9 i 10 (.int 7)) i hi hI_3 hJ_4) (xc_fe_62 (q_rm 3) hC.1.2.2.2.2 ⟨Nat.le_of_ble_eq_true rfl, Nat.le_of_ble_eq_true rfl⟩ rfl rfl) Nat.one_pos rfl rfl rfl hl.1 rfl (Nat.le_of_ble_eq_true rfl) xd_fe_happen_67 ⟨Nat.zero_le _, Nat.zero_le _⟩) (fun H locs hW hS => ?_)
      have hf : x_fe_happen S i a b d = x_fe_run (q_st ((x_hi_pass S i a b d).2) 9 i 10 (.int 7)) i := by unfold x_fe_happen; rw [if_neg c_1, if_pos c_2]
      rw [hf]
      exact q_vret hC hr hlocks hW hS rfl xd_fe_happen_70
    · -- not taken
      refine lv_iload_n hx hb xd_fe_happen_24 rfl (lv_at hl 2 rfl) ?_
      refine lv_iconst (v := 4) hx hb xd_fe_happen_25 (by decide) ?_
      refine lv_icmp_ne (tgt := 39) hx hb xd_fe_happen_26 (by decide) (fun c_5 => ?_) (fun c_5 => ?_)
      · -- taken
        refine lv_aload_n hx hb xd_fe_happen_39 rfl (lv_at hl 0 rfl) ?_
        refine lv_aload_n hx hb xd_fe_happen_40 rfl (lv_at hl 1 rfl) ?_
        have hI_6 : xI ((x_hi_pass S i a b d).2) := (xI_hi_pass S i a b d hi hI)
        refine q_callv hC hS (fun _ h => h) (q_runV (rest := []) hC hW (xC_fe_dropTask l G ((x_hi_pass S i a b d).2) i hi hI_6) (xc_fe_69 (q_rm 1) hC.1.2.2.2.2 ⟨Nat.le_of_ble_eq_true rfl, Nat.le_of_ble_eq_true rfl⟩ rfl rfl) Nat.one_pos rfl rfl rfl hl.1 rfl (Nat.le_of_ble_eq_true rfl) xd_fe_happen_41 ⟨Nat.zero_le _, Nat.zero_le _⟩) (fun H locs hW hS => ?_)
        refine lv_aload_n hx hb xd_fe_happen_44 rfl (lv_at hl 1 rfl) ?_
        refine lv_iconst (v := 0) hx hb xd_fe_happen_45 (by decide) ?_
        refine xg_fe_228p hC hW hS (fun _ h => h) i hi xd_fe_happen_46 (fun H locs hW hS => ?_)
        refine lv_aload_n hx hb xd_fe_happen_49 rfl (lv_at hl 1 rfl) ?_
        refine lv_iload_n hx hb xd_fe_happen_50 rfl (lv_at hl 2 rfl) ?_
        refine lv_iload hx hb xd_fe_happen_51 (lv_at hl 4 rfl) ?_
        have hI_7 : xI (q_st (x_fe_dropTask ((x_hi_pass S i a b d).2) i) 9 i 12 (.int 0)) := (xI_st (xI_fe_dropTask ((x_hi_pass S i a b d).2) i hi hI_6) (by decide))
        refine q_callv hC hS (fun _ h => h) (q_runV (rest := []) hC hW (xC_wf_resume l G (q_st (x_fe_dropTask ((x_hi_pass S i a b d).2) i) 9 i 12 (.int 0)) i a d hi hI_7) (xc_fe_231 (q_rm 0) hC.1.2.2.2.2 ⟨Nat.le_of_ble_eq_true rfl, Nat.le_of_ble_eq_true rfl⟩ rfl rfl) hi rfl rfl rfl hl.1 rfl (Nat.le_of_ble_eq_true rfl) xd_fe_happen_53 ⟨Nat.zero_le _, Nat.zero_le _⟩) (fun H locs hW hS => ?_)
        refine lv_goto (tgt := 65) hx hb xd_fe_happen_56 (by decide) ?_
        refine lv_aload_n hx hb xd_fe_happen_65 rfl (lv_at hl 0 rfl) ?_
        refine lv_aload_n hx hb xd_fe_happen_66 rfl (lv_at hl 1 rfl) ?_
        have hI_8 : xI (x_wf_resume (q_st (x_fe_dropTask ((x_hi_pass S i a b d).2) i) 9 i 12 (.int 0)) i a d) := (xI_wf_resume (q_st (x_fe_dropTask ((x_hi_pass S i a b d).2) i) 9 i 12 (.int 0)) i a d hi hI_7)
        have hJ_9 : xJ (x_wf_resume (q_st (x_fe_dropTask ((x_hi_pass S i a b d).2) i) 9 i 12 (.int 0)) i a d) := xJ_keep hJ (fun x y z hx => ((xK_wf_resume (q_st (x_fe_dropTask ((x_hi_pass S i a b d).2) i) 9 i 12 (.int 0)) i a d x y z (show x ≠ 9 by omega) (show x ≠ 10 by omega))).trans ((q_kj (show x ≠ 9 by omega)).trans (((xK_fe_dropTask ((x_hi_pass S i a b d).2) i x y z (show x ≠ 3 by omega) (show x ≠ 4 by omega) (show x ≠ 21 by omega))).trans (((xK_hi_pass S i a b d x y z (show x ≠ 11 by omega) (show x ≠ 12 by omega) (show x ≠ 13 by omega) (show x ≠ 14 by omega)))))))
        refine q_callv hC hS (fun _ h => h) (q_runV (rest := []) hC hW (xC_fe_run l G (x_wf_resume (q_st (x_fe_dropTask ((x_hi_pass S i a b d).2) i) 9 i 12 (.int 0)) i a d) i hi hI_8 hJ_9) (xc_fe_62 (q_rm 3) hC.1.2.2.2.2 ⟨Nat.le_of_ble_eq_true rfl, Nat.le_of_ble_eq_true rfl⟩ rfl rfl) Nat.one_pos rfl rfl rfl hl.1 rfl (Nat.le_of_ble_eq_true rfl) xd_fe_happen_67 ⟨Nat.zero_le _, Nat.zero_le _⟩) (fun H locs hW hS => ?_)
        have hf : x_fe_happen S i a b d = x_fe_run (x_wf_resume (q_st (x_fe_dropTask ((x_hi_pass S i a b d).2) i) 9 i 12 (.int 0)) i a d) i := by unfold x_fe_happen; rw [if_neg c_1, if_neg c_2, if_neg c_5]
        rw [hf]
        exact q_vret hC hr hlocks hW hS rfl xd_fe_happen_70
      · -- not taken
        refine lv_aload_n hx hb xd_fe_happen_29 rfl (lv_at hl 0 rfl) ?_
        refine lv_dup hx hb xd_fe_happen_30 rfl ?_
        refine xg_fe_201 hC hW 0 Nat.one_pos (q_kc (xK_hi_pass S i a b d _ _ _ (by decide) (by decide) (by decide) (by decide)) (rfl)) xd_fe_happen_31 ?_
        refine lv_iconst (v := 1) hx hb xd_fe_happen_34 (by decide) ?_
        refine lv_iadd hx hb xd_fe_happen_35 ?_
        refine xg_fe_201p hC hW hS (fun _ h => h) 0 Nat.one_pos xd_fe_happen_36 (fun H locs hW hS => ?_)
        refine lv_aload_n hx hb xd_fe_happen_39 rfl (lv_at hl 0 rfl) ?_
        refine lv_aload_n hx hb xd_fe_happen_40 rfl (lv_at hl 1 rfl) ?_
        have hI_10 : xI (q_st ((x_hi_pass S i a b d).2) 0 0 7 (.int ((q_i (S 0 0 7)) + 1))) := (q_Is (xI_hi_pass S i a b d hi hI) rfl)
        refine q_callv hC hS (fun _ h => h) (q_runV (rest := []) hC hW (xC_fe_dropTask l G (q_st ((x_hi_pass S i a b d).2) 0 0 7 (.int ((q_i (S 0 0 7)) + 1))) i hi hI_10) (xc_fe_69 (q_rm 1) hC.1.2.2.2.2 ⟨Nat.le_of_ble_eq_true rfl, Nat.le_of_ble_eq_true rfl⟩ rfl rfl) Nat.one_pos rfl rfl rfl hl.1 rfl (Nat.le_of_ble_eq_true rfl) xd_fe_happen_41 ⟨Nat.zero_le _, Nat.zero_le _⟩) (fun H locs hW hS => ?_)
        refine lv_aload_n hx hb xd_fe_happen_44 rfl (lv_at hl 1 rfl) ?_
        refine lv_iconst (v := 0) hx hb xd_fe_happen_45 (by decide) ?_
        refine xg_fe_228p hC hW hS (fun _ h => h) i hi xd_fe_happen_46 (fun H locs hW hS => ?_)
        refine lv_aload_n hx hb xd_fe_happen_49 rfl (lv_at hl 1 rfl) ?_
        refine lv_iload_n hx hb xd_fe_happen_50 rfl (lv_at hl 2 rfl) ?_
        refine W.eq (g2 := F0 m 51 ls [.int a, .ref (q_a xX G 9 i)]) rfl ?_
        refine lv_iload hx hb xd_fe_happen_51 (lv_at hl 4 rfl) ?_
        have hI_11 : xI (q_st (x_fe_dropTask (q_st ((x_hi_pass S i a b d).2) 0 0 7 (.int ((q_i (S 0 0 7)) + 1))) i) 9 i 12 (.int 0)) := (xI_st (xI_fe_dropTask (q_st ((x_hi_pass S i a b d).2) 0 0 7 (.int ((q_i (S 0 0 7)) + 1))) i hi hI_10) (by decide))
        refine q_callv hC hS (fun _ h => h) (q_runV (rest := []) hC hW (xC_wf_resume l G (q_st (x_fe_dropTask (q_st ((x_hi_pass S i a b d).2) 0 0 7 (.int ((q_i (S 0 0 7)) + 1))) i) 9 i 12 (.int 0)) i a d hi hI_11) (xc_fe_231 (q_rm 0) hC.1.2.2.2.2 ⟨Nat.le_of_ble_eq_true rfl, Nat.le_of_ble_eq_true rfl⟩ rfl rfl) hi rfl rfl rfl hl.1 rfl (Nat.le_of_ble_eq_true rfl) xd_fe_happen_53 ⟨Nat.zero_le _, Nat.zero_le _⟩) (fun H locs hW hS => ?_)
        refine lv_goto (tgt := 65) hx hb xd_fe_happen_56 (by decide) ?_
        refine lv_aload_n hx hb xd_fe_happen_65 rfl (lv_at hl 0 rfl) ?_
        refine lv_aload_n hx hb xd_fe_happen_66 rfl (lv_at hl 1 rfl) ?_
        have hI_12 : xI (x_wf_resume (q_st (x_fe_dropTask (q_st ((x_hi_pass S i a b d).2) 0 0 7 (.int ((q_i (S 0 0 7)) + 1))) i) 9 i 12 (.int 0)) i a d) := (xI_wf_resume (q_st (x_fe_dropTask (q_st ((x_hi_pass S i a b d).2) 0 0 7 (.int ((q_i (S 0 0 7)) + 1))) i) 9 i 12 (.int 0)) i a d hi hI_11)
        have hJ_13 : xJ (x_wf_resume (q_st (x_fe_dropTask (q_st ((x_hi_pass S i a b d).2) 0 0 7 (.int ((q_i (S 0 0 7)) + 1))) i) 9 i 12 (.int 0)) i a d) := xJ_keep hJ (fun x y z hx => ((xK_wf_resume (q_st (x_fe_dropTask (q_st ((x_hi_pass S i a b d).2) 0 0 7 (.int ((q_i (S 0 0 7)) + 1))) i) 9 i 12 (.int 0)) i a d x y z (show x ≠ 9 by omega) (show x ≠ 10 by omega))).trans ((q_kj (show x ≠ 9 by omega)).trans (((xK_fe_dropTask (q_st ((x_hi_pass S i a b d).2) 0 0 7 (.int ((q_i (S 0 0 7)) + 1))) i x y z (show x ≠ 3 by omega) (show x ≠ 4 by omega) (show x ≠ 21 by omega))).trans ((q_kj (show x ≠ 0 by omega)).trans (((xK_hi_pass S i a b d x y z (show x ≠ 11 by omega) (show x ≠ 12 by omega) (show x ≠ 13 by omega) (show x ≠ 14 by omega))))))))
        refine q_callv hC hS (fun _ h => h) (q_runV (rest := []) hC hW (xC_fe_run l G (x_wf_resume (q_st (x_fe_dropTask (q_st ((x_hi_pass S i a b d).2) 0 0 7 (.int ((q_i (S 0 0 7)) + 1))) i) 9 i 12 (.int 0)) i a d) i hi hI_12 hJ_13) (xc_fe_62 (q_rm 3) hC.1.2.2.2.2 ⟨Nat.le_of_ble_eq_true rfl, Nat.le_of_ble_eq_true rfl⟩ rfl rfl) Nat.one_pos rfl rfl rfl hl.1 rfl (Nat.le_of_ble_eq_true rfl) xd_fe_happen_67 ⟨Nat.zero_le _, Nat.zero_le _⟩) (fun H locs hW hS => ?_)
        have hf : x_fe_happen S i a b d = x_fe_run (x_wf_resume (q_st (x_fe_dropTask (q_st ((x_hi_pass S i a b d).2) 0 0 7 (.int ((q_i (S 0 0 7)) + 1))) i) 9 i 12 (.int 0)) i a d) i := by unfold x_fe_happen; rw [if_neg c_1, if_neg c_2, if_pos c_5]
        rw [hf]
        exact q_vret hC hr hlocks hW hS rfl xd_fe_happen_70
  · -- not taken
    have hf : x_fe_happen S i a b d = S := by unfold x_fe_happen; rw [if_pos c_1]
    rw [hf]
    exact q_vret hC hr hlocks hW hS rfl xd_fe_happen_9
set_option maxRecDepth 100000 in
set_option maxHeartbeats 4000000 in
theorem xI_fe_happen (S : q_S) (i : Nat) (a b d : Int32) (hi : i < 6) (hI : xI S) (hJ : xJ S) : xI (x_fe_happen S i a b d) := by
  by_cases c_1 : x_wf_waitsFor S i a b = 0
  · -- yes
    have hf : x_fe_happen S i a b d = S := by unfold x_fe_happen; rw [if_pos c_1]
    rw [hf]
    exact hI
  · -- no
    by_cases c_2 : (x_hi_pass S i a b d).1 = 0
    · -- yes
      have hI_3 : xI (q_st ((x_hi_pass S i a b d).2) 9 i 10 (.int 7)) := (q_Is (xI_hi_pass S i a b d hi hI) rfl)
      have hJ_4 : xJ (q_st ((x_hi_pass S i a b d).2) 9 i 10 (.int 7)) := xJ_keep hJ (fun x y z hx => (q_kj (show x ≠ 9 by omega)).trans (((xK_hi_pass S i a b d x y z (show x ≠ 11 by omega) (show x ≠ 12 by omega) (show x ≠ 13 by omega) (show x ≠ 14 by omega)))))
      have hf : x_fe_happen S i a b d = x_fe_run (q_st ((x_hi_pass S i a b d).2) 9 i 10 (.int 7)) i := by unfold x_fe_happen; rw [if_neg c_1, if_pos c_2]
      rw [hf]
      exact (xI_fe_run (q_st ((x_hi_pass S i a b d).2) 9 i 10 (.int 7)) i hi hI_3 hJ_4)
    · -- no
      by_cases c_5 : a = 4
      · -- yes
        have hI_10 : xI (q_st ((x_hi_pass S i a b d).2) 0 0 7 (.int ((q_i (S 0 0 7)) + 1))) := (q_Is (xI_hi_pass S i a b d hi hI) rfl)
        have hI_11 : xI (q_st (x_fe_dropTask (q_st ((x_hi_pass S i a b d).2) 0 0 7 (.int ((q_i (S 0 0 7)) + 1))) i) 9 i 12 (.int 0)) := (xI_st (xI_fe_dropTask (q_st ((x_hi_pass S i a b d).2) 0 0 7 (.int ((q_i (S 0 0 7)) + 1))) i hi hI_10) (by decide))
        have hI_12 : xI (x_wf_resume (q_st (x_fe_dropTask (q_st ((x_hi_pass S i a b d).2) 0 0 7 (.int ((q_i (S 0 0 7)) + 1))) i) 9 i 12 (.int 0)) i a d) := (xI_wf_resume (q_st (x_fe_dropTask (q_st ((x_hi_pass S i a b d).2) 0 0 7 (.int ((q_i (S 0 0 7)) + 1))) i) 9 i 12 (.int 0)) i a d hi hI_11)
        have hJ_13 : xJ (x_wf_resume (q_st (x_fe_dropTask (q_st ((x_hi_pass S i a b d).2) 0 0 7 (.int ((q_i (S 0 0 7)) + 1))) i) 9 i 12 (.int 0)) i a d) := xJ_keep hJ (fun x y z hx => ((xK_wf_resume (q_st (x_fe_dropTask (q_st ((x_hi_pass S i a b d).2) 0 0 7 (.int ((q_i (S 0 0 7)) + 1))) i) 9 i 12 (.int 0)) i a d x y z (show x ≠ 9 by omega) (show x ≠ 10 by omega))).trans ((q_kj (show x ≠ 9 by omega)).trans (((xK_fe_dropTask (q_st ((x_hi_pass S i a b d).2) 0 0 7 (.int ((q_i (S 0 0 7)) + 1))) i x y z (show x ≠ 3 by omega) (show x ≠ 4 by omega) (show x ≠ 21 by omega))).trans ((q_kj (show x ≠ 0 by omega)).trans (((xK_hi_pass S i a b d x y z (show x ≠ 11 by omega) (show x ≠ 12 by omega) (show x ≠ 13 by omega) (show x ≠ 14 by omega))))))))
        have hf : x_fe_happen S i a b d = x_fe_run (x_wf_resume (q_st (x_fe_dropTask (q_st ((x_hi_pass S i a b d).2) 0 0 7 (.int ((q_i (S 0 0 7)) + 1))) i) 9 i 12 (.int 0)) i a d) i := by unfold x_fe_happen; rw [if_neg c_1, if_neg c_2, if_pos c_5]
        rw [hf]
        exact (xI_fe_run (x_wf_resume (q_st (x_fe_dropTask (q_st ((x_hi_pass S i a b d).2) 0 0 7 (.int ((q_i (S 0 0 7)) + 1))) i) 9 i 12 (.int 0)) i a d) i hi hI_12 hJ_13)
      · -- no
        have hI_6 : xI ((x_hi_pass S i a b d).2) := (xI_hi_pass S i a b d hi hI)
        have hI_7 : xI (q_st (x_fe_dropTask ((x_hi_pass S i a b d).2) i) 9 i 12 (.int 0)) := (xI_st (xI_fe_dropTask ((x_hi_pass S i a b d).2) i hi hI_6) (by decide))
        have hI_8 : xI (x_wf_resume (q_st (x_fe_dropTask ((x_hi_pass S i a b d).2) i) 9 i 12 (.int 0)) i a d) := (xI_wf_resume (q_st (x_fe_dropTask ((x_hi_pass S i a b d).2) i) 9 i 12 (.int 0)) i a d hi hI_7)
        have hJ_9 : xJ (x_wf_resume (q_st (x_fe_dropTask ((x_hi_pass S i a b d).2) i) 9 i 12 (.int 0)) i a d) := xJ_keep hJ (fun x y z hx => ((xK_wf_resume (q_st (x_fe_dropTask ((x_hi_pass S i a b d).2) i) 9 i 12 (.int 0)) i a d x y z (show x ≠ 9 by omega) (show x ≠ 10 by omega))).trans ((q_kj (show x ≠ 9 by omega)).trans (((xK_fe_dropTask ((x_hi_pass S i a b d).2) i x y z (show x ≠ 3 by omega) (show x ≠ 4 by omega) (show x ≠ 21 by omega))).trans (((xK_hi_pass S i a b d x y z (show x ≠ 11 by omega) (show x ≠ 12 by omega) (show x ≠ 13 by omega) (show x ≠ 14 by omega)))))))
        have hf : x_fe_happen S i a b d = x_fe_run (x_wf_resume (q_st (x_fe_dropTask ((x_hi_pass S i a b d).2) i) 9 i 12 (.int 0)) i a d) i := by unfold x_fe_happen; rw [if_neg c_1, if_neg c_2, if_neg c_5]
        rw [hf]
        exact (xI_fe_run (x_wf_resume (q_st (x_fe_dropTask ((x_hi_pass S i a b d).2) i) 9 i 12 (.int 0)) i a d) i hi hI_8 hJ_9)
set_option maxRecDepth 100000 in
set_option maxHeartbeats 4000000 in
theorem xK_fe_happen (S : q_S) (i : Nat) (a b d : Int32) (x y z : Nat) (h0 : x ≠ 0) (h3 : x ≠ 3) (h4 : x ≠ 4) (h9 : x ≠ 9) (h10 : x ≠ 10) (h11 : x ≠ 11) (h12 : x ≠ 12) (h13 : x ≠ 13) (h14 : x ≠ 14) (h15 : x ≠ 15) (h16 : x ≠ 16) (h17 : x ≠ 17) (h18 : x ≠ 18) (h19 : x ≠ 19) (h20 : x ≠ 20) (h21 : x ≠ 21) : (x_fe_happen S i a b d) x y z = S x y z := by
  by_cases c_1 : x_wf_waitsFor S i a b = 0
  · -- yes
    have hf : x_fe_happen S i a b d = S := by unfold x_fe_happen; rw [if_pos c_1]
    rw [hf]
  · -- no
    by_cases c_2 : (x_hi_pass S i a b d).1 = 0
    · -- yes
      have hf : x_fe_happen S i a b d = x_fe_run (q_st ((x_hi_pass S i a b d).2) 9 i 10 (.int 7)) i := by unfold x_fe_happen; rw [if_neg c_1, if_pos c_2]
      rw [hf]
      exact ((xK_fe_run (q_st ((x_hi_pass S i a b d).2) 9 i 10 (.int 7)) i x y z h0 h3 h4 h9 h10 h11 h12 h13 h14 h15 h16 h17 h18 h19 h20 h21)).trans ((q_kj h9).trans (((xK_hi_pass S i a b d x y z h11 h12 h13 h14))))
    · -- no
      by_cases c_5 : a = 4
      · -- yes
        have hf : x_fe_happen S i a b d = x_fe_run (x_wf_resume (q_st (x_fe_dropTask (q_st ((x_hi_pass S i a b d).2) 0 0 7 (.int ((q_i (S 0 0 7)) + 1))) i) 9 i 12 (.int 0)) i a d) i := by unfold x_fe_happen; rw [if_neg c_1, if_neg c_2, if_pos c_5]
        rw [hf]
        exact ((xK_fe_run (x_wf_resume (q_st (x_fe_dropTask (q_st ((x_hi_pass S i a b d).2) 0 0 7 (.int ((q_i (S 0 0 7)) + 1))) i) 9 i 12 (.int 0)) i a d) i x y z h0 h3 h4 h9 h10 h11 h12 h13 h14 h15 h16 h17 h18 h19 h20 h21)).trans (((xK_wf_resume (q_st (x_fe_dropTask (q_st ((x_hi_pass S i a b d).2) 0 0 7 (.int ((q_i (S 0 0 7)) + 1))) i) 9 i 12 (.int 0)) i a d x y z h9 h10)).trans ((q_kj h9).trans (((xK_fe_dropTask (q_st ((x_hi_pass S i a b d).2) 0 0 7 (.int ((q_i (S 0 0 7)) + 1))) i x y z h3 h4 h21)).trans ((q_kj h0).trans (((xK_hi_pass S i a b d x y z h11 h12 h13 h14)))))))
      · -- no
        have hf : x_fe_happen S i a b d = x_fe_run (x_wf_resume (q_st (x_fe_dropTask ((x_hi_pass S i a b d).2) i) 9 i 12 (.int 0)) i a d) i := by unfold x_fe_happen; rw [if_neg c_1, if_neg c_2, if_neg c_5]
        rw [hf]
        exact ((xK_fe_run (x_wf_resume (q_st (x_fe_dropTask ((x_hi_pass S i a b d).2) i) 9 i 12 (.int 0)) i a d) i x y z h0 h3 h4 h9 h10 h11 h12 h13 h14 h15 h16 h17 h18 h19 h20 h21)).trans (((xK_wf_resume (q_st (x_fe_dropTask ((x_hi_pass S i a b d).2) i) 9 i 12 (.int 0)) i a d x y z h9 h10)).trans ((q_kj h9).trans (((xK_fe_dropTask ((x_hi_pass S i a b d).2) i x y z h3 h4 h21)).trans (((xK_hi_pass S i a b d x y z h11 h12 h13 h14))))))
def x_fe_remember (S : q_S) (i : Nat) : q_S :=
  if q_i (S 9 i 7) = 0 then
    S
  else
    x_fe_run (x_wf_rewind (q_st S 0 0 6 (.int ((q_i (S 0 0 6)) + 1))) i) i
set_option maxRecDepth 100000 in
set_option maxHeartbeats 4000000 in
theorem xC_fe_remember (l : Launch) (G : q_G) (S : q_S) (i : Nat) (hi : i < 6) (hI : xI S) (hJ : xJ S) : q_Mv xX G l xy_fe_remember (q_ws (q_gw lw_tbl) xy_fe_remember xb_fe_remember 2 none) (q_rm 4) [.ref (q_a xX G 0 0), .ref (q_a xX G 9 i)] S (x_fe_remember S i) := by
  refine q_met (cc := xb_fe_remember) (maxL := 2) (ret := none) xOk (by decide) rfl (Nat.le_of_ble_eq_true rfl) ?_
  intro p e s m below meth c ls hC hr hlocks hW hS hl
  have hx := hC.1.1
  have hb := hC.1.2.1
  have hl : lv_has ls 2 [(0, .ref (q_a xX G 0 0)), (1, .ref (q_a xX G 9 i))] := hl
  refine lv_aload_n hx hb xd_fe_remember_0 rfl (lv_at hl 1 rfl) ?_
  refine xg_fe_143 hC hW i hi (rfl) xd_fe_remember_1 ?_
  refine lv_if_eq (tgt := 26) hx hb xd_fe_remember_4 (by decide) (fun c_1 => ?_) (fun c_1 => ?_)
  · -- taken
    have hf : x_fe_remember S i = S := by unfold x_fe_remember; rw [if_pos c_1]
    rw [hf]
    exact q_vret hC hr hlocks hW hS rfl xd_fe_remember_26
  · -- not taken
    refine lv_aload_n hx hb xd_fe_remember_7 rfl (lv_at hl 0 rfl) ?_
    refine lv_dup hx hb xd_fe_remember_8 rfl ?_
    refine xg_fe_198 hC hW 0 Nat.one_pos (rfl) xd_fe_remember_9 ?_
    refine lv_iconst (v := 1) hx hb xd_fe_remember_12 (by decide) ?_
    refine lv_iadd hx hb xd_fe_remember_13 ?_
    refine xg_fe_198p hC hW hS (fun _ h => h) 0 Nat.one_pos xd_fe_remember_14 (fun H locs hW hS => ?_)
    refine lv_aload_n hx hb xd_fe_remember_17 rfl (lv_at hl 1 rfl) ?_
    have hI_2 : xI (q_st S 0 0 6 (.int ((q_i (S 0 0 6)) + 1))) := (q_Is hI rfl)
    refine q_callv hC hS (fun _ h => h) (q_runV (rest := []) hC hW (xC_wf_rewind l G (q_st S 0 0 6 (.int ((q_i (S 0 0 6)) + 1))) i hi hI_2) (xc_fe_222 (q_rm 0) hC.1.2.2.2.2 ⟨Nat.le_of_ble_eq_true rfl, Nat.le_of_ble_eq_true rfl⟩ rfl rfl) hi rfl rfl rfl hl.1 rfl (Nat.le_of_ble_eq_true rfl) xd_fe_remember_18 ⟨Nat.zero_le _, Nat.zero_le _⟩) (fun H locs hW hS => ?_)
    refine lv_aload_n hx hb xd_fe_remember_21 rfl (lv_at hl 0 rfl) ?_
    refine lv_aload_n hx hb xd_fe_remember_22 rfl (lv_at hl 1 rfl) ?_
    have hI_3 : xI (x_wf_rewind (q_st S 0 0 6 (.int ((q_i (S 0 0 6)) + 1))) i) := (xI_wf_rewind (q_st S 0 0 6 (.int ((q_i (S 0 0 6)) + 1))) i hi hI_2)
    have hJ_4 : xJ (x_wf_rewind (q_st S 0 0 6 (.int ((q_i (S 0 0 6)) + 1))) i) := xJ_keep hJ (fun x y z hx => ((xK_wf_rewind (q_st S 0 0 6 (.int ((q_i (S 0 0 6)) + 1))) i x y z (show x ≠ 9 by omega) (show x ≠ 10 by omega) (show x ≠ 11 by omega) (show x ≠ 18 by omega))).trans ((q_kj (show x ≠ 0 by omega))))
    refine q_callv hC hS (fun _ h => h) (q_runV (rest := []) hC hW (xC_fe_run l G (x_wf_rewind (q_st S 0 0 6 (.int ((q_i (S 0 0 6)) + 1))) i) i hi hI_3 hJ_4) (xc_fe_62 (q_rm 3) hC.1.2.2.2.2 ⟨Nat.le_of_ble_eq_true rfl, Nat.le_of_ble_eq_true rfl⟩ rfl rfl) Nat.one_pos rfl rfl rfl hl.1 rfl (Nat.le_of_ble_eq_true rfl) xd_fe_remember_23 ⟨Nat.zero_le _, Nat.zero_le _⟩) (fun H locs hW hS => ?_)
    have hf : x_fe_remember S i = x_fe_run (x_wf_rewind (q_st S 0 0 6 (.int ((q_i (S 0 0 6)) + 1))) i) i := by unfold x_fe_remember; rw [if_neg c_1]
    rw [hf]
    exact q_vret hC hr hlocks hW hS rfl xd_fe_remember_26
set_option maxRecDepth 100000 in
set_option maxHeartbeats 4000000 in
theorem xI_fe_remember (S : q_S) (i : Nat) (hi : i < 6) (hI : xI S) (hJ : xJ S) : xI (x_fe_remember S i) := by
  by_cases c_1 : q_i (S 9 i 7) = 0
  · -- yes
    have hf : x_fe_remember S i = S := by unfold x_fe_remember; rw [if_pos c_1]
    rw [hf]
    exact hI
  · -- no
    have hI_2 : xI (q_st S 0 0 6 (.int ((q_i (S 0 0 6)) + 1))) := (q_Is hI rfl)
    have hI_3 : xI (x_wf_rewind (q_st S 0 0 6 (.int ((q_i (S 0 0 6)) + 1))) i) := (xI_wf_rewind (q_st S 0 0 6 (.int ((q_i (S 0 0 6)) + 1))) i hi hI_2)
    have hJ_4 : xJ (x_wf_rewind (q_st S 0 0 6 (.int ((q_i (S 0 0 6)) + 1))) i) := xJ_keep hJ (fun x y z hx => ((xK_wf_rewind (q_st S 0 0 6 (.int ((q_i (S 0 0 6)) + 1))) i x y z (show x ≠ 9 by omega) (show x ≠ 10 by omega) (show x ≠ 11 by omega) (show x ≠ 18 by omega))).trans ((q_kj (show x ≠ 0 by omega))))
    have hf : x_fe_remember S i = x_fe_run (x_wf_rewind (q_st S 0 0 6 (.int ((q_i (S 0 0 6)) + 1))) i) i := by unfold x_fe_remember; rw [if_neg c_1]
    rw [hf]
    exact (xI_fe_run (x_wf_rewind (q_st S 0 0 6 (.int ((q_i (S 0 0 6)) + 1))) i) i hi hI_3 hJ_4)
set_option maxRecDepth 100000 in
set_option maxHeartbeats 4000000 in
theorem xK_fe_remember (S : q_S) (i : Nat) (x y z : Nat) (h0 : x ≠ 0) (h3 : x ≠ 3) (h4 : x ≠ 4) (h9 : x ≠ 9) (h10 : x ≠ 10) (h11 : x ≠ 11) (h12 : x ≠ 12) (h13 : x ≠ 13) (h14 : x ≠ 14) (h15 : x ≠ 15) (h16 : x ≠ 16) (h17 : x ≠ 17) (h18 : x ≠ 18) (h19 : x ≠ 19) (h20 : x ≠ 20) (h21 : x ≠ 21) : (x_fe_remember S i) x y z = S x y z := by
  by_cases c_1 : q_i (S 9 i 7) = 0
  · -- yes
    have hf : x_fe_remember S i = S := by unfold x_fe_remember; rw [if_pos c_1]
    rw [hf]
  · -- no
    have hf : x_fe_remember S i = x_fe_run (x_wf_rewind (q_st S 0 0 6 (.int ((q_i (S 0 0 6)) + 1))) i) i := by unfold x_fe_remember; rw [if_neg c_1]
    rw [hf]
    exact ((xK_fe_run (x_wf_rewind (q_st S 0 0 6 (.int ((q_i (S 0 0 6)) + 1))) i) i x y z h0 h3 h4 h9 h10 h11 h12 h13 h14 h15 h16 h17 h18 h19 h20 h21)).trans (((xK_wf_rewind (q_st S 0 0 6 (.int ((q_i (S 0 0 6)) + 1))) i x y z h9 h10 h11 h18)).trans ((q_kj h0)))
def x_fe_goWrong (S : q_S) (i : Nat) : q_S :=
  if q_i (S 21 i 1) < 3 then
    x_tl_append (x_ta_comeBack S i (q_i (S 0 0 3))) (nI i)
  else
    x_fe_happen (x_fe_remember S i) i 4 (q_i ((x_fe_remember S i) 21 i 0)) 0
set_option maxRecDepth 100000 in
set_option maxHeartbeats 4000000 in
theorem xC_fe_goWrong (l : Launch) (G : q_G) (S : q_S) (i : Nat) (hi : i < 6) (hI : xI S) (hJ : xJ S) : q_Mv xX G l xy_fe_goWrong (q_ws (q_gw lw_tbl) xy_fe_goWrong xb_fe_goWrong 3 none) (q_rm 5) [.ref (q_a xX G 0 0), .ref (q_a xX G 9 i)] S (x_fe_goWrong S i) := by
  refine q_met (cc := xb_fe_goWrong) (maxL := 3) (ret := none) xOk (by decide) rfl (Nat.le_of_ble_eq_true rfl) ?_
  intro p e s m below meth c ls hC hr hlocks hW hS hl
  have hx := hC.1.1
  have hb := hC.1.2.1
  have hl : lv_has ls 3 [(0, .ref (q_a xX G 0 0)), (1, .ref (q_a xX G 9 i))] := hl
  refine lv_aload_n hx hb xd_fe_goWrong_0 rfl (lv_at hl 1 rfl) ?_
  refine xg_fe_107 hC hW i hi xd_fe_goWrong_1 ?_
  refine lv_astore_n (lv' := [(2, .ref (q_a xX G 21 i)), (0, .ref (q_a xX G 0 0)), (1, .ref (q_a xX G 9 i))]) hx hb xd_fe_goWrong_4 rfl hl (by decide) rfl (fun ls hl => ?_)
  refine lv_aload_n hx hb xd_fe_goWrong_5 rfl (lv_at hl 0 rfl) ?_
  refine xg_fe_173 hC hW i hi (rfl) xd_fe_goWrong_6 ?_
  refine lv_iconst (v := 3) hx hb xd_fe_goWrong_9 (by decide) ?_
  refine lv_icmp_lt (tgt := 32) hx hb xd_fe_goWrong_10 (by decide) (fun c_1 => ?_) (fun c_1 => ?_)
  · -- taken
    refine lv_aload_n hx hb xd_fe_goWrong_32 rfl (lv_at hl 0 rfl) ?_
    refine lv_aload_n hx hb xd_fe_goWrong_33 rfl (lv_at hl 1 rfl) ?_
    refine xg_fe_116 hC hW 0 Nat.one_pos (rfl) xd_fe_goWrong_34 ?_
    refine q_callv hC hS (fun _ h => h) (q_runV (rest := []) hC hW (xC_ta_comeBack l G S i (q_i (S 0 0 3)) hi hI) (xc_fe_234 (q_rm 0) hC.1.2.2.2.2 ⟨Nat.le_of_ble_eq_true rfl, Nat.le_of_ble_eq_true rfl⟩ rfl rfl) hi rfl rfl rfl hl.1 rfl (Nat.le_of_ble_eq_true rfl) xd_fe_goWrong_37 ⟨Nat.zero_le _, Nat.zero_le _⟩) (fun H locs hW hS => ?_)
    refine lv_aload_n hx hb xd_fe_goWrong_40 rfl (lv_at hl 1 rfl) ?_
    refine xg_fe_24 hC hW 0 Nat.one_pos xd_fe_goWrong_41 ?_
    refine lv_aload_n hx hb xd_fe_goWrong_44 rfl (lv_at hl 2 rfl) ?_
    refine xg_fe_237 hC hW i hi xd_fe_goWrong_45 ?_
    have hI_2 : xI (x_ta_comeBack S i (q_i (S 0 0 3))) := (xI_ta_comeBack S i (q_i (S 0 0 3)) hi hI)
    refine q_callv hC hS (fun _ h => h) (q_runV (rest := []) hC hW (xC_tl_append l G (x_ta_comeBack S i (q_i (S 0 0 3))) (nI i) hI_2 (q_ni hi)) (xc_fe_240 (q_rm 0) hC.1.2.2.2.2 ⟨Nat.le_of_ble_eq_true rfl, Nat.le_of_ble_eq_true rfl⟩ rfl rfl) Nat.one_pos rfl rfl rfl hl.1 rfl (Nat.le_of_ble_eq_true rfl) xd_fe_goWrong_48 ⟨Nat.zero_le _, Nat.zero_le _⟩) (fun H locs hW hS => ?_)
    have hf : x_fe_goWrong S i = x_tl_append (x_ta_comeBack S i (q_i (S 0 0 3))) (nI i) := by unfold x_fe_goWrong; rw [if_pos c_1]
    rw [hf]
    exact q_vret hC hr hlocks hW hS rfl xd_fe_goWrong_51
  · -- not taken
    refine lv_aload_n hx hb xd_fe_goWrong_13 rfl (lv_at hl 1 rfl) ?_
    refine lv_aload_n hx hb xd_fe_goWrong_14 rfl (lv_at hl 2 rfl) ?_
    refine q_callv hC hS (fun _ h => h) (q_runV (rest := []) hC hW (xC_fe_remember l G S i hi hI hJ) (xc_fe_89 (q_rm 4) hC.1.2.2.2.2 ⟨Nat.le_of_ble_eq_true rfl, Nat.le_of_ble_eq_true rfl⟩ rfl rfl) Nat.one_pos rfl rfl rfl hl.1 rfl (Nat.le_of_ble_eq_true rfl) xd_fe_goWrong_15 ⟨Nat.zero_le _, Nat.zero_le _⟩) (fun H locs hW hS => ?_)
    refine lv_aload_n hx hb xd_fe_goWrong_18 rfl (lv_at hl 1 rfl) ?_
    refine lv_aload_n hx hb xd_fe_goWrong_19 rfl (lv_at hl 2 rfl) ?_
    refine lv_iconst (v := 4) hx hb xd_fe_goWrong_20 (by decide) ?_
    refine lv_aload_n hx hb xd_fe_goWrong_21 rfl (lv_at hl 0 rfl) ?_
    refine xg_fe_128 hC hW i hi (rfl) xd_fe_goWrong_22 ?_
    refine lv_iconst (v := 0) hx hb xd_fe_goWrong_25 (by decide) ?_
    have hI_3 : xI (x_fe_remember S i) := (xI_fe_remember S i hi hI hJ)
    have hJ_4 : xJ (x_fe_remember S i) := xJ_keep hJ (fun x y z hx => ((xK_fe_remember S i x y z (show x ≠ 0 by omega) (show x ≠ 3 by omega) (show x ≠ 4 by omega) (show x ≠ 9 by omega) (show x ≠ 10 by omega) (show x ≠ 11 by omega) (show x ≠ 12 by omega) (show x ≠ 13 by omega) (show x ≠ 14 by omega) (show x ≠ 15 by omega) (show x ≠ 16 by omega) (show x ≠ 17 by omega) (show x ≠ 18 by omega) (show x ≠ 19 by omega) (show x ≠ 20 by omega) (show x ≠ 21 by omega))))
    refine q_callv hC hS (fun _ h => h) (q_runV (rest := []) hC hW (xC_fe_happen l G (x_fe_remember S i) i 4 (q_i ((x_fe_remember S i) 21 i 0)) 0 hi hI_3 hJ_4) (xc_fe_96 (q_rm 4) hC.1.2.2.2.2 ⟨Nat.le_of_ble_eq_true rfl, Nat.le_of_ble_eq_true rfl⟩ rfl rfl) Nat.one_pos rfl rfl rfl hl.1 rfl (Nat.le_of_ble_eq_true rfl) xd_fe_goWrong_26 ⟨Nat.zero_le _, Nat.zero_le _⟩) (fun H locs hW hS => ?_)
    refine lv_goto (tgt := 51) hx hb xd_fe_goWrong_29 (by decide) ?_
    have hf : x_fe_goWrong S i = x_fe_happen (x_fe_remember S i) i 4 (q_i ((x_fe_remember S i) 21 i 0)) 0 := by unfold x_fe_goWrong; rw [if_neg c_1]
    rw [hf]
    exact q_vret hC hr hlocks hW hS rfl xd_fe_goWrong_51
set_option maxRecDepth 100000 in
set_option maxHeartbeats 4000000 in
theorem xI_fe_goWrong (S : q_S) (i : Nat) (hi : i < 6) (hI : xI S) (hJ : xJ S) : xI (x_fe_goWrong S i) := by
  by_cases c_1 : q_i (S 21 i 1) < 3
  · -- yes
    have hI_2 : xI (x_ta_comeBack S i (q_i (S 0 0 3))) := (xI_ta_comeBack S i (q_i (S 0 0 3)) hi hI)
    have hf : x_fe_goWrong S i = x_tl_append (x_ta_comeBack S i (q_i (S 0 0 3))) (nI i) := by unfold x_fe_goWrong; rw [if_pos c_1]
    rw [hf]
    exact (xI_tl_append (x_ta_comeBack S i (q_i (S 0 0 3))) (nI i) hI_2 (q_ni hi))
  · -- no
    have hI_3 : xI (x_fe_remember S i) := (xI_fe_remember S i hi hI hJ)
    have hJ_4 : xJ (x_fe_remember S i) := xJ_keep hJ (fun x y z hx => ((xK_fe_remember S i x y z (show x ≠ 0 by omega) (show x ≠ 3 by omega) (show x ≠ 4 by omega) (show x ≠ 9 by omega) (show x ≠ 10 by omega) (show x ≠ 11 by omega) (show x ≠ 12 by omega) (show x ≠ 13 by omega) (show x ≠ 14 by omega) (show x ≠ 15 by omega) (show x ≠ 16 by omega) (show x ≠ 17 by omega) (show x ≠ 18 by omega) (show x ≠ 19 by omega) (show x ≠ 20 by omega) (show x ≠ 21 by omega))))
    have hf : x_fe_goWrong S i = x_fe_happen (x_fe_remember S i) i 4 (q_i ((x_fe_remember S i) 21 i 0)) 0 := by unfold x_fe_goWrong; rw [if_neg c_1]
    rw [hf]
    exact (xI_fe_happen (x_fe_remember S i) i 4 (q_i ((x_fe_remember S i) 21 i 0)) 0 hi hI_3 hJ_4)
set_option maxRecDepth 100000 in
set_option maxHeartbeats 4000000 in
theorem xK_fe_goWrong (S : q_S) (i : Nat) (x y z : Nat) (h0 : x ≠ 0) (h3 : x ≠ 3) (h4 : x ≠ 4) (h9 : x ≠ 9) (h10 : x ≠ 10) (h11 : x ≠ 11) (h12 : x ≠ 12) (h13 : x ≠ 13) (h14 : x ≠ 14) (h15 : x ≠ 15) (h16 : x ≠ 16) (h17 : x ≠ 17) (h18 : x ≠ 18) (h19 : x ≠ 19) (h20 : x ≠ 20) (h21 : x ≠ 21) : (x_fe_goWrong S i) x y z = S x y z := by
  by_cases c_1 : q_i (S 21 i 1) < 3
  · -- yes
    have hf : x_fe_goWrong S i = x_tl_append (x_ta_comeBack S i (q_i (S 0 0 3))) (nI i) := by unfold x_fe_goWrong; rw [if_pos c_1]
    rw [hf]
    exact ((xK_tl_append (x_ta_comeBack S i (q_i (S 0 0 3))) (nI i) x y z h3 h4)).trans (((xK_ta_comeBack S i (q_i (S 0 0 3)) x y z h21)))
  · -- no
    have hf : x_fe_goWrong S i = x_fe_happen (x_fe_remember S i) i 4 (q_i ((x_fe_remember S i) 21 i 0)) 0 := by unfold x_fe_goWrong; rw [if_neg c_1]
    rw [hf]
    exact ((xK_fe_happen (x_fe_remember S i) i 4 (q_i ((x_fe_remember S i) 21 i 0)) 0 x y z h0 h3 h4 h9 h10 h11 h12 h13 h14 h15 h16 h17 h18 h19 h20 h21)).trans (((xK_fe_remember S i x y z h0 h3 h4 h9 h10 h11 h12 h13 h14 h15 h16 h17 h18 h19 h20 h21)))
def x_fe_leastFree_L0 : Nat → q_S → Nat → Int32
  | 0, S, _ => 0
  | n + 1, S, t =>
    if 6 ≤ nI t then
      (-1)
    else
      if q_i (S 9 ((nI t).toNatClampNeg) 6) = 0 then
        nI t
      else
        x_fe_leastFree_L0 n S (t + 1)
set_option maxRecDepth 100000 in
set_option maxHeartbeats 4000000 in
theorem xL_fe_leastFree_L0 (l : Launch) (G : q_G)  {p : Program} {e : Env} {s : State} {m : MethodId} {below : List Frame} {meth : Method} {c : Code} (hC : q_C xX G p m c xb_fe_leastFree 2 s ([.ref (q_a xX G 0 0)] : List Value).toArray (q_ws (q_gw lw_tbl) xy_fe_leastFree xb_fe_leastFree 2 (some .int)) xR_fe) (hr : meth.sig.returnType = (some .int)) (hlocks : meth.locks = false) : ∀ (n : Nat) (S : q_S) (t : Nat) (H : Heap) (locs : List Loc) (ls : Array Slot), t + n = 7 → t ≤ 6 → q_w xX G s S H → va_S (q_A xX G) s.heap H locs → lv_has ls 2 [(0, .ref (q_a xX G 0 0)), (1, .int (nI t))] → W p l e (headSpec (q_ws (q_gw lw_tbl) xy_fe_leastFree xb_fe_leastFree 2 (some .int)) (q_rm 0)).room s m ([.ref (q_a xX G 0 0)] : List Value).toArray below meth c H locs 0 0 (MQ below (va_Qi (fun (r' : Int32) (u : q_S) => r' = x_fe_leastFree_L0 n S t ∧ u = S) (q_P xX G) (q_A xX G)) ([.ref (q_a xX G 0 0)] : List Value).toArray s 0 0 (q_A xX G)) (F0 m 2 ls []) := by
  have hx := hC.1.1
  have hb := hC.1.2.1
  intro n
  induction n with
  | zero =>
    intro S t H locs ls ht hu hW hS hl
    exfalso
    omega
  | succ n ih =>
    intro S t H locs ls ht hu hW hS hl
    refine lv_iload_n hx hb xd_fe_leastFree_2 rfl (lv_at hl 1 rfl) ?_
    refine lv_bipush (v := 6) hx hb xd_fe_leastFree_3 (by decide) ?_
    refine lv_icmp_ge (tgt := 28) hx hb xd_fe_leastFree_5 (by decide) (fun c_1 => ?_) (fun c_1 => ?_)
    · -- taken
      refine lv_iconst (v := (-1)) hx hb xd_fe_leastFree_28 (by decide) ?_
      have hf : x_fe_leastFree_L0 (n + 1) S t = (-1) := by rw [x_fe_leastFree_L0, if_pos c_1]
      rw [hf]
      exact q_iret hC hr hlocks hW hS rfl rfl xd_fe_leastFree_29
    · -- not taken
      refine lv_aload_n hx hb xd_fe_leastFree_8 rfl (lv_at hl 0 rfl) ?_
      refine xg_fe_17 hC hW 0 Nat.one_pos xd_fe_leastFree_9 ?_
      refine lv_iload_n hx hb xd_fe_leastFree_12 rfl (lv_at hl 1 rfl) ?_
      have h_2 : vp_in (nI t) 6 := by have n_t := nI_toInt (n := t) (by omega); have m_t := q_nT (n := t) (by omega); simp only [vp_in_iff, Int32.lt_iff_toInt_lt, Int32.le_iff_toInt_le, q_n0, q_n1, q_n2, q_n3, q_n4, q_n5, q_n6, q_n7, q_n10, q_n14, q_n15, q_n20, q_n60, q_n1288] at c_1 ⊢; omega
      refine xal_2 hC hW 0 Nat.one_pos h_2 xd_fe_leastFree_13 ?_
      refine xg_fe_72 hC hW ((nI t).toNatClampNeg) (q_lt h_2) (rfl) xd_fe_leastFree_14 ?_
      refine lv_if_ne (tgt := 22) hx hb xd_fe_leastFree_17 (by decide) (fun c_3 => ?_) (fun c_3 => ?_)
      · -- taken
        refine lv_iinc (v := nI t + 1) (lv' := [(1, .int (nI t + 1)), (0, .ref (q_a xX G 0 0))]) hx hb xd_fe_leastFree_22 hl (k := 1) rfl rfl (by decide) rfl (fun ls hl => ?_)
        refine lv_goto (tgt := 2) hx hb xd_fe_leastFree_25 (by decide) ?_
        have hf : x_fe_leastFree_L0 (n + 1) S t = x_fe_leastFree_L0 n S (t + 1) := by rw [x_fe_leastFree_L0, if_neg c_1, if_neg c_3]
        rw [hf]
        have hl2 : lv_has ls 2 [(0, .ref (q_a xX G 0 0)), (1, .int (nI (t + 1)))] := by rw [← nI_1 t]; exact lv_sub hl [1, 0] rfl
        exact ih S (t + 1) _ _ ls (by have n_t := nI_toInt (n := t) (by omega); have m_t := q_nT (n := t) (by omega); simp only [Int32.lt_iff_toInt_lt, Int32.le_iff_toInt_le, q_n0, q_n1, q_n2, q_n3, q_n4, q_n5, q_n6, q_n7, q_n10, q_n14, q_n15, q_n20, q_n60, q_n1288] at c_1; omega) (by have n_t := nI_toInt (n := t) (by omega); have m_t := q_nT (n := t) (by omega); simp only [Int32.lt_iff_toInt_lt, Int32.le_iff_toInt_le, q_n0, q_n1, q_n2, q_n3, q_n4, q_n5, q_n6, q_n7, q_n10, q_n14, q_n15, q_n20, q_n60, q_n1288] at c_1; omega) hW hS hl2
      · -- not taken
        refine lv_iload_n hx hb xd_fe_leastFree_20 rfl (lv_at hl 1 rfl) ?_
        have hf : x_fe_leastFree_L0 (n + 1) S t = nI t := by rw [x_fe_leastFree_L0, if_neg c_1, if_pos c_3]
        rw [hf]
        exact q_iret hC hr hlocks hW hS rfl rfl xd_fe_leastFree_21
def x_fe_leastFree (S : q_S) : Int32 :=
  x_fe_leastFree_L0 7 S 0
set_option maxRecDepth 100000 in
set_option maxHeartbeats 4000000 in
theorem xC_fe_leastFree (l : Launch) (G : q_G) (S : q_S)  : q_Mi xX G l xy_fe_leastFree (q_ws (q_gw lw_tbl) xy_fe_leastFree xb_fe_leastFree 2 (some .int)) (q_rm 0) [.ref (q_a xX G 0 0)] S (x_fe_leastFree S) S := by
  refine q_met (cc := xb_fe_leastFree) (maxL := 2) (ret := (some .int)) xOk (by decide) rfl (Nat.le_of_ble_eq_true rfl) ?_
  intro p e s m below meth c ls hC hr hlocks hW hS hl
  have hx := hC.1.1
  have hb := hC.1.2.1
  have hl : lv_has ls 2 [(0, .ref (q_a xX G 0 0))] := hl
  refine lv_iconst (v := 0) hx hb xd_fe_leastFree_0 (by decide) ?_
  refine lv_istore_n (lv' := [(1, .int 0), (0, .ref (q_a xX G 0 0))]) hx hb xd_fe_leastFree_1 rfl hl (by decide) rfl (fun ls hl => ?_)
  have hf : x_fe_leastFree S = x_fe_leastFree_L0 7 S 0 := by unfold x_fe_leastFree; rfl
  rw [hf]
  have hl2 : lv_has ls 2 [(0, .ref (q_a xX G 0 0)), (1, .int (nI 0))] := by rw [(show nI 0 = 0 from rfl)]; exact lv_sub hl [1, 0] rfl
  exact xL_fe_leastFree_L0 l G   hC hr hlocks 7 S 0 _ _ ls (by omega) (by omega) hW hS hl2
def x_fe_countThere_L0 : Nat → q_S → Int32 → Int32 → Nat → Int32
  | 0, S, _, _, _ => 0
  | n + 1, S, a, v, t =>
    if 6 ≤ nI t then
      v
    else
      if q_i (S 9 ((nI t).toNatClampNeg) 6) = 0 then
        x_fe_countThere_L0 n S a v (t + 1)
      else
        if a = 0 then
          x_fe_countThere_L0 n S a (v + 1) (t + 1)
        else
          if x_wf_hasEnded S ((nI t).toNatClampNeg) = 0 then
            x_fe_countThere_L0 n S a (v + 1) (t + 1)
          else
            x_fe_countThere_L0 n S a v (t + 1)
set_option maxRecDepth 100000 in
set_option maxHeartbeats 4000000 in
theorem xL_fe_countThere_L0 (l : Launch) (G : q_G) (a : Int32)  {p : Program} {e : Env} {s : State} {m : MethodId} {below : List Frame} {meth : Method} {c : Code} (hC : q_C xX G p m c xb_fe_countThere 4 s ([.ref (q_a xX G 0 0), .int a] : List Value).toArray (q_ws (q_gw lw_tbl) xy_fe_countThere xb_fe_countThere 4 (some .int)) xR_fe) (hr : meth.sig.returnType = (some .int)) (hlocks : meth.locks = false) : ∀ (n : Nat) (S : q_S) (v : Int32) (t : Nat) (H : Heap) (locs : List Loc) (ls : Array Slot), t + n = 7 → t ≤ 6 → q_w xX G s S H → va_S (q_A xX G) s.heap H locs → lv_has ls 4 [(0, .ref (q_a xX G 0 0)), (1, .int a), (2, .int v), (3, .int (nI t))] → W p l e (headSpec (q_ws (q_gw lw_tbl) xy_fe_countThere xb_fe_countThere 4 (some .int)) (q_rm 1)).room s m ([.ref (q_a xX G 0 0), .int a] : List Value).toArray below meth c H locs 0 0 (MQ below (va_Qi (fun (r' : Int32) (u : q_S) => r' = x_fe_countThere_L0 n S a v t ∧ u = S) (q_P xX G) (q_A xX G)) ([.ref (q_a xX G 0 0), .int a] : List Value).toArray s 0 0 (q_A xX G)) (F0 m 4 ls []) := by
  have hx := hC.1.1
  have hb := hC.1.2.1
  intro n
  induction n with
  | zero =>
    intro S v t H locs ls ht hu hW hS hl
    exfalso
    omega
  | succ n ih =>
    intro S v t H locs ls ht hu hW hS hl
    refine lv_iload_n hx hb xd_fe_countThere_4 rfl (lv_at hl 3 rfl) ?_
    refine lv_bipush (v := 6) hx hb xd_fe_countThere_5 (by decide) ?_
    refine lv_icmp_ge (tgt := 47) hx hb xd_fe_countThere_7 (by decide) (fun c_1 => ?_) (fun c_1 => ?_)
    · -- taken
      refine lv_iload_n hx hb xd_fe_countThere_47 rfl (lv_at hl 2 rfl) ?_
      have hf : x_fe_countThere_L0 (n + 1) S a v t = v := by rw [x_fe_countThere_L0, if_pos c_1]
      rw [hf]
      exact q_iret hC hr hlocks hW hS rfl rfl xd_fe_countThere_48
    · -- not taken
      refine lv_aload_n hx hb xd_fe_countThere_10 rfl (lv_at hl 0 rfl) ?_
      refine xg_fe_17 hC hW 0 Nat.one_pos xd_fe_countThere_11 ?_
      refine lv_iload_n hx hb xd_fe_countThere_14 rfl (lv_at hl 3 rfl) ?_
      have h_2 : vp_in (nI t) 6 := by have n_t := nI_toInt (n := t) (by omega); have m_t := q_nT (n := t) (by omega); simp only [vp_in_iff, Int32.lt_iff_toInt_lt, Int32.le_iff_toInt_le, q_n0, q_n1, q_n2, q_n3, q_n4, q_n5, q_n6, q_n7, q_n10, q_n14, q_n15, q_n20, q_n60, q_n1288] at c_1 ⊢; omega
      refine xal_2 hC hW 0 Nat.one_pos h_2 xd_fe_countThere_15 ?_
      refine xg_fe_72 hC hW ((nI t).toNatClampNeg) (q_lt h_2) (rfl) xd_fe_countThere_16 ?_
      refine lv_if_eq (tgt := 41) hx hb xd_fe_countThere_19 (by decide) (fun c_3 => ?_) (fun c_3 => ?_)
      · -- taken
        refine lv_iinc (v := nI t + 1) (lv' := [(3, .int (nI t + 1)), (0, .ref (q_a xX G 0 0)), (1, .int a), (2, .int v)]) hx hb xd_fe_countThere_41 hl (k := 3) rfl rfl (by decide) rfl (fun ls hl => ?_)
        refine lv_goto (tgt := 4) hx hb xd_fe_countThere_44 (by decide) ?_
        have hf : x_fe_countThere_L0 (n + 1) S a v t = x_fe_countThere_L0 n S a v (t + 1) := by rw [x_fe_countThere_L0, if_neg c_1, if_pos c_3]
        rw [hf]
        have hl2 : lv_has ls 4 [(0, .ref (q_a xX G 0 0)), (1, .int a), (2, .int v), (3, .int (nI (t + 1)))] := by rw [← nI_1 t]; exact lv_sub hl [1, 2, 3, 0] rfl
        exact ih S v (t + 1) _ _ ls (by have n_t := nI_toInt (n := t) (by omega); have m_t := q_nT (n := t) (by omega); simp only [Int32.lt_iff_toInt_lt, Int32.le_iff_toInt_le, q_n0, q_n1, q_n2, q_n3, q_n4, q_n5, q_n6, q_n7, q_n10, q_n14, q_n15, q_n20, q_n60, q_n1288] at c_1; omega) (by have n_t := nI_toInt (n := t) (by omega); have m_t := q_nT (n := t) (by omega); simp only [Int32.lt_iff_toInt_lt, Int32.le_iff_toInt_le, q_n0, q_n1, q_n2, q_n3, q_n4, q_n5, q_n6, q_n7, q_n10, q_n14, q_n15, q_n20, q_n60, q_n1288] at c_1; omega) hW hS hl2
      · -- not taken
        refine lv_iload_n hx hb xd_fe_countThere_22 rfl (lv_at hl 1 rfl) ?_
        refine lv_if_eq (tgt := 38) hx hb xd_fe_countThere_23 (by decide) (fun c_4 => ?_) (fun c_4 => ?_)
        · -- taken
          refine lv_iinc (v := v + 1) (lv' := [(2, .int (v + 1)), (0, .ref (q_a xX G 0 0)), (1, .int a), (3, .int (nI t))]) hx hb xd_fe_countThere_38 hl (k := 2) rfl rfl (by decide) rfl (fun ls hl => ?_)
          refine lv_iinc (v := nI t + 1) (lv' := [(3, .int (nI t + 1)), (2, .int (v + 1)), (0, .ref (q_a xX G 0 0)), (1, .int a)]) hx hb xd_fe_countThere_41 hl (k := 3) rfl rfl (by decide) rfl (fun ls hl => ?_)
          refine lv_goto (tgt := 4) hx hb xd_fe_countThere_44 (by decide) ?_
          have hf : x_fe_countThere_L0 (n + 1) S a v t = x_fe_countThere_L0 n S a (v + 1) (t + 1) := by rw [x_fe_countThere_L0, if_neg c_1, if_neg c_3, if_pos c_4]
          rw [hf]
          have hl2 : lv_has ls 4 [(0, .ref (q_a xX G 0 0)), (1, .int a), (2, .int (v + 1)), (3, .int (nI (t + 1)))] := by rw [← nI_1 t]; exact lv_sub hl [2, 3, 1, 0] rfl
          exact ih S (v + 1) (t + 1) _ _ ls (by have n_t := nI_toInt (n := t) (by omega); have m_t := q_nT (n := t) (by omega); simp only [Int32.lt_iff_toInt_lt, Int32.le_iff_toInt_le, q_n0, q_n1, q_n2, q_n3, q_n4, q_n5, q_n6, q_n7, q_n10, q_n14, q_n15, q_n20, q_n60, q_n1288] at c_1; omega) (by have n_t := nI_toInt (n := t) (by omega); have m_t := q_nT (n := t) (by omega); simp only [Int32.lt_iff_toInt_lt, Int32.le_iff_toInt_le, q_n0, q_n1, q_n2, q_n3, q_n4, q_n5, q_n6, q_n7, q_n10, q_n14, q_n15, q_n20, q_n60, q_n1288] at c_1; omega) hW hS hl2
        · -- not taken
          refine lv_aload_n hx hb xd_fe_countThere_26 rfl (lv_at hl 0 rfl) ?_
          refine xg_fe_17 hC hW 0 Nat.one_pos xd_fe_countThere_27 ?_
          refine lv_iload_n hx hb xd_fe_countThere_30 rfl (lv_at hl 3 rfl) ?_
          have h_5 : vp_in (nI t) 6 := by have n_t := nI_toInt (n := t) (by omega); have m_t := q_nT (n := t) (by omega); simp only [vp_in_iff, Int32.lt_iff_toInt_lt, Int32.le_iff_toInt_le, q_n0, q_n1, q_n2, q_n3, q_n4, q_n5, q_n6, q_n7, q_n10, q_n14, q_n15, q_n20, q_n60, q_n1288] at c_1 ⊢; omega
          refine xal_2 hC hW 0 Nat.one_pos h_5 xd_fe_countThere_31 ?_
          refine q_calli hC hS (fun _ h => h) (q_runV (rest := []) hC hW (xC_wf_hasEnded l G S ((nI t).toNatClampNeg) (q_lt h_5)) (xc_fe_76 (q_rm 0) hC.1.2.2.2.2 ⟨Nat.le_of_ble_eq_true rfl, Nat.le_of_ble_eq_true rfl⟩ rfl rfl) (q_lt h_5) rfl rfl rfl hl.1 rfl (Nat.le_of_ble_eq_true rfl) xd_fe_countThere_32 ⟨Nat.zero_le _, Nat.zero_le _⟩) (fun H locs hW hS => ?_)
          refine lv_if_ne (tgt := 41) hx hb xd_fe_countThere_35 (by decide) (fun c_6 => ?_) (fun c_6 => ?_)
          · -- taken
            refine lv_iinc (v := nI t + 1) (lv' := [(3, .int (nI t + 1)), (0, .ref (q_a xX G 0 0)), (1, .int a), (2, .int v)]) hx hb xd_fe_countThere_41 hl (k := 3) rfl rfl (by decide) rfl (fun ls hl => ?_)
            refine lv_goto (tgt := 4) hx hb xd_fe_countThere_44 (by decide) ?_
            have hf : x_fe_countThere_L0 (n + 1) S a v t = x_fe_countThere_L0 n S a v (t + 1) := by rw [x_fe_countThere_L0, if_neg c_1, if_neg c_3, if_neg c_4, if_neg c_6]
            rw [hf]
            have hl2 : lv_has ls 4 [(0, .ref (q_a xX G 0 0)), (1, .int a), (2, .int v), (3, .int (nI (t + 1)))] := by rw [← nI_1 t]; exact lv_sub hl [1, 2, 3, 0] rfl
            exact ih S v (t + 1) _ _ ls (by have n_t := nI_toInt (n := t) (by omega); have m_t := q_nT (n := t) (by omega); simp only [Int32.lt_iff_toInt_lt, Int32.le_iff_toInt_le, q_n0, q_n1, q_n2, q_n3, q_n4, q_n5, q_n6, q_n7, q_n10, q_n14, q_n15, q_n20, q_n60, q_n1288] at c_1; omega) (by have n_t := nI_toInt (n := t) (by omega); have m_t := q_nT (n := t) (by omega); simp only [Int32.lt_iff_toInt_lt, Int32.le_iff_toInt_le, q_n0, q_n1, q_n2, q_n3, q_n4, q_n5, q_n6, q_n7, q_n10, q_n14, q_n15, q_n20, q_n60, q_n1288] at c_1; omega) hW hS hl2
          · -- not taken
            refine lv_iinc (v := v + 1) (lv' := [(2, .int (v + 1)), (0, .ref (q_a xX G 0 0)), (1, .int a), (3, .int (nI t))]) hx hb xd_fe_countThere_38 hl (k := 2) rfl rfl (by decide) rfl (fun ls hl => ?_)
            refine lv_iinc (v := nI t + 1) (lv' := [(3, .int (nI t + 1)), (2, .int (v + 1)), (0, .ref (q_a xX G 0 0)), (1, .int a)]) hx hb xd_fe_countThere_41 hl (k := 3) rfl rfl (by decide) rfl (fun ls hl => ?_)
            refine lv_goto (tgt := 4) hx hb xd_fe_countThere_44 (by decide) ?_
            have hf : x_fe_countThere_L0 (n + 1) S a v t = x_fe_countThere_L0 n S a (v + 1) (t + 1) := by rw [x_fe_countThere_L0, if_neg c_1, if_neg c_3, if_neg c_4, if_pos c_6]
            rw [hf]
            have hl2 : lv_has ls 4 [(0, .ref (q_a xX G 0 0)), (1, .int a), (2, .int (v + 1)), (3, .int (nI (t + 1)))] := by rw [← nI_1 t]; exact lv_sub hl [2, 3, 1, 0] rfl
            exact ih S (v + 1) (t + 1) _ _ ls (by have n_t := nI_toInt (n := t) (by omega); have m_t := q_nT (n := t) (by omega); simp only [Int32.lt_iff_toInt_lt, Int32.le_iff_toInt_le, q_n0, q_n1, q_n2, q_n3, q_n4, q_n5, q_n6, q_n7, q_n10, q_n14, q_n15, q_n20, q_n60, q_n1288] at c_1; omega) (by have n_t := nI_toInt (n := t) (by omega); have m_t := q_nT (n := t) (by omega); simp only [Int32.lt_iff_toInt_lt, Int32.le_iff_toInt_le, q_n0, q_n1, q_n2, q_n3, q_n4, q_n5, q_n6, q_n7, q_n10, q_n14, q_n15, q_n20, q_n60, q_n1288] at c_1; omega) hW hS hl2
def x_fe_countThere (S : q_S) (a : Int32) : Int32 :=
  x_fe_countThere_L0 7 S a 0 0
set_option maxRecDepth 100000 in
set_option maxHeartbeats 4000000 in
theorem xC_fe_countThere (l : Launch) (G : q_G) (S : q_S) (a : Int32)  : q_Mi xX G l xy_fe_countThere (q_ws (q_gw lw_tbl) xy_fe_countThere xb_fe_countThere 4 (some .int)) (q_rm 1) [.ref (q_a xX G 0 0), .int a] S (x_fe_countThere S a) S := by
  refine q_met (cc := xb_fe_countThere) (maxL := 4) (ret := (some .int)) xOk (by decide) rfl (Nat.le_of_ble_eq_true rfl) ?_
  intro p e s m below meth c ls hC hr hlocks hW hS hl
  have hx := hC.1.1
  have hb := hC.1.2.1
  have hl : lv_has ls 4 [(0, .ref (q_a xX G 0 0)), (1, .int a)] := hl
  refine lv_iconst (v := 0) hx hb xd_fe_countThere_0 (by decide) ?_
  refine lv_istore_n (lv' := [(2, .int 0), (0, .ref (q_a xX G 0 0)), (1, .int a)]) hx hb xd_fe_countThere_1 rfl hl (by decide) rfl (fun ls hl => ?_)
  refine lv_iconst (v := 0) hx hb xd_fe_countThere_2 (by decide) ?_
  refine lv_istore_n (lv' := [(3, .int 0), (2, .int 0), (0, .ref (q_a xX G 0 0)), (1, .int a)]) hx hb xd_fe_countThere_3 rfl hl (by decide) rfl (fun ls hl => ?_)
  have hf : x_fe_countThere S a = x_fe_countThere_L0 7 S a 0 0 := by unfold x_fe_countThere; rfl
  rw [hf]
  have hl2 : lv_has ls 4 [(0, .ref (q_a xX G 0 0)), (1, .int a), (2, .int 0), (3, .int (nI 0))] := by rw [(show nI 0 = 0 from rfl)]; exact lv_sub hl [2, 3, 1, 0] rfl
  exact xL_fe_countThere_L0 l G a  hC hr hlocks 7 S 0 0 _ _ ls (by omega) (by omega) hW hS hl2
def x_fe_forgetAllOf_L0 : Nat → q_S → Int32 → Nat → q_S
  | 0, S, _, _ => S
  | n + 1, S, a, t =>
    if 6 ≤ nI t then
      S
    else
      if q_i (S 9 ((nI t).toNatClampNeg) 6) = 0 then
        x_fe_forgetAllOf_L0 n S a (t + 1)
      else
        if q_i (S 9 ((nI t).toNatClampNeg) 9) = a then
          if x_wf_hasEnded S ((nI t).toNatClampNeg) = 0 then
            x_fe_forgetAllOf_L0 n (q_st S 9 ((nI t).toNatClampNeg) 7 (.int 1)) a (t + 1)
          else
            x_fe_forgetAllOf_L0 n S a (t + 1)
        else
          x_fe_forgetAllOf_L0 n S a (t + 1)
set_option maxRecDepth 100000 in
set_option maxHeartbeats 4000000 in
theorem xL_fe_forgetAllOf_L0 (l : Launch) (G : q_G) (a : Int32)  {p : Program} {e : Env} {s : State} {m : MethodId} {below : List Frame} {meth : Method} {c : Code} (hC : q_C xX G p m c xb_fe_forgetAllOf 4 s ([.ref (q_a xX G 0 0), .int a] : List Value).toArray (q_ws (q_gw lw_tbl) xy_fe_forgetAllOf xb_fe_forgetAllOf 4 none) xR_fe) (hr : meth.sig.returnType = none) (hlocks : meth.locks = false) : ∀ (n : Nat) (S : q_S) (t : Nat) (H : Heap) (locs : List Loc) (ls : Array Slot), t + n = 7 → t ≤ 6 → xI S → q_w xX G s S H → va_S (q_A xX G) s.heap H locs → lv_has ls 4 [(0, .ref (q_a xX G 0 0)), (1, .int a), (2, .int (nI t))] → W p l e (headSpec (q_ws (q_gw lw_tbl) xy_fe_forgetAllOf xb_fe_forgetAllOf 4 none) (q_rm 1)).room s m ([.ref (q_a xX G 0 0), .int a] : List Value).toArray below meth c H locs 0 0 (MQ below (va_Qv (fun (u : q_S) => u = x_fe_forgetAllOf_L0 n S a t) (q_P xX G) (q_A xX G)) ([.ref (q_a xX G 0 0), .int a] : List Value).toArray s 0 0 (q_A xX G)) (F0 m 2 ls []) := by
  have hx := hC.1.1
  have hb := hC.1.2.1
  intro n
  induction n with
  | zero =>
    intro S t H locs ls ht hu hI hW hS hl
    exfalso
    omega
  | succ n ih =>
    intro S t H locs ls ht hu hI hW hS hl
    refine lv_iload_n hx hb xd_fe_forgetAllOf_2 rfl (lv_at hl 2 rfl) ?_
    refine lv_bipush (v := 6) hx hb xd_fe_forgetAllOf_3 (by decide) ?_
    refine lv_icmp_ge (tgt := 48) hx hb xd_fe_forgetAllOf_5 (by decide) (fun c_1 => ?_) (fun c_1 => ?_)
    · -- taken
      have hf : x_fe_forgetAllOf_L0 (n + 1) S a t = S := by rw [x_fe_forgetAllOf_L0, if_pos c_1]
      rw [hf]
      exact q_vret hC hr hlocks hW hS rfl xd_fe_forgetAllOf_48
    · -- not taken
      refine lv_aload_n hx hb xd_fe_forgetAllOf_8 rfl (lv_at hl 0 rfl) ?_
      refine xg_fe_17 hC hW 0 Nat.one_pos xd_fe_forgetAllOf_9 ?_
      refine lv_iload_n hx hb xd_fe_forgetAllOf_12 rfl (lv_at hl 2 rfl) ?_
      have h_2 : vp_in (nI t) 6 := by have n_t := nI_toInt (n := t) (by omega); have m_t := q_nT (n := t) (by omega); simp only [vp_in_iff, Int32.lt_iff_toInt_lt, Int32.le_iff_toInt_le, q_n0, q_n1, q_n2, q_n3, q_n4, q_n5, q_n6, q_n7, q_n10, q_n14, q_n15, q_n20, q_n60, q_n1288] at c_1 ⊢; omega
      refine xal_2 hC hW 0 Nat.one_pos h_2 xd_fe_forgetAllOf_13 ?_
      refine lv_astore_n (lv' := [(3, .ref (q_a xX G 9 ((nI t).toNatClampNeg))), (0, .ref (q_a xX G 0 0)), (1, .int a), (2, .int (nI t))]) hx hb xd_fe_forgetAllOf_14 rfl hl (by decide) rfl (fun ls hl => ?_)
      refine lv_aload_n hx hb xd_fe_forgetAllOf_15 rfl (lv_at hl 0 rfl) ?_
      refine xg_fe_72 hC hW ((nI t).toNatClampNeg) (q_lt h_2) (rfl) xd_fe_forgetAllOf_16 ?_
      refine lv_if_eq (tgt := 42) hx hb xd_fe_forgetAllOf_19 (by decide) (fun c_3 => ?_) (fun c_3 => ?_)
      · -- taken
        refine lv_iinc (v := nI t + 1) (lv' := [(2, .int (nI t + 1)), (3, .ref (q_a xX G 9 ((nI t).toNatClampNeg))), (0, .ref (q_a xX G 0 0)), (1, .int a)]) hx hb xd_fe_forgetAllOf_42 hl (k := 3) rfl rfl (by decide) rfl (fun ls hl => ?_)
        refine lv_goto (tgt := 2) hx hb xd_fe_forgetAllOf_45 (by decide) ?_
        have hf : x_fe_forgetAllOf_L0 (n + 1) S a t = x_fe_forgetAllOf_L0 n S a (t + 1) := by rw [x_fe_forgetAllOf_L0, if_neg c_1, if_pos c_3]
        rw [hf]
        have hl2 : lv_has ls 4 [(0, .ref (q_a xX G 0 0)), (1, .int a), (2, .int (nI (t + 1)))] := by rw [← nI_1 t]; exact lv_sub hl [2, 3, 0] rfl
        exact ih S (t + 1) _ _ ls (by have n_t := nI_toInt (n := t) (by omega); have m_t := q_nT (n := t) (by omega); simp only [Int32.lt_iff_toInt_lt, Int32.le_iff_toInt_le, q_n0, q_n1, q_n2, q_n3, q_n4, q_n5, q_n6, q_n7, q_n10, q_n14, q_n15, q_n20, q_n60, q_n1288] at c_1; omega) (by have n_t := nI_toInt (n := t) (by omega); have m_t := q_nT (n := t) (by omega); simp only [Int32.lt_iff_toInt_lt, Int32.le_iff_toInt_le, q_n0, q_n1, q_n2, q_n3, q_n4, q_n5, q_n6, q_n7, q_n10, q_n14, q_n15, q_n20, q_n60, q_n1288] at c_1; omega) hI hW hS hl2
      · -- not taken
        refine lv_aload_n hx hb xd_fe_forgetAllOf_22 rfl (lv_at hl 0 rfl) ?_
        refine xg_fe_146 hC hW ((nI t).toNatClampNeg) (q_lt h_2) (rfl) xd_fe_forgetAllOf_23 ?_
        refine lv_iload_n hx hb xd_fe_forgetAllOf_26 rfl (lv_at hl 2 rfl) ?_
        refine lv_icmp_ne (tgt := 42) hx hb xd_fe_forgetAllOf_27 (by decide) (fun c_4 => ?_) (fun c_4 => ?_)
        · -- taken
          refine lv_iinc (v := nI t + 1) (lv' := [(2, .int (nI t + 1)), (3, .ref (q_a xX G 9 ((nI t).toNatClampNeg))), (0, .ref (q_a xX G 0 0)), (1, .int a)]) hx hb xd_fe_forgetAllOf_42 hl (k := 3) rfl rfl (by decide) rfl (fun ls hl => ?_)
          refine lv_goto (tgt := 2) hx hb xd_fe_forgetAllOf_45 (by decide) ?_
          have hf : x_fe_forgetAllOf_L0 (n + 1) S a t = x_fe_forgetAllOf_L0 n S a (t + 1) := by rw [x_fe_forgetAllOf_L0, if_neg c_1, if_neg c_3, if_neg c_4]
          rw [hf]
          have hl2 : lv_has ls 4 [(0, .ref (q_a xX G 0 0)), (1, .int a), (2, .int (nI (t + 1)))] := by rw [← nI_1 t]; exact lv_sub hl [2, 3, 0] rfl
          exact ih S (t + 1) _ _ ls (by have b1 : 0 ≤ (q_i (S 9 ((nI t).toNatClampNeg) 9)).toInt ∧ (q_i (S 9 ((nI t).toNatClampNeg) 9)).toInt ≤ 2 := hI 9 ((nI t).toNatClampNeg) 9; have n_t := nI_toInt (n := t) (by omega); have m_t := q_nT (n := t) (by omega); simp only [Int32.lt_iff_toInt_lt, Int32.le_iff_toInt_le, q_n0, q_n1, q_n2, q_n3, q_n4, q_n5, q_n6, q_n7, q_n10, q_n14, q_n15, q_n20, q_n60, q_n1288] at c_1; omega) (by have b1 : 0 ≤ (q_i (S 9 ((nI t).toNatClampNeg) 9)).toInt ∧ (q_i (S 9 ((nI t).toNatClampNeg) 9)).toInt ≤ 2 := hI 9 ((nI t).toNatClampNeg) 9; have n_t := nI_toInt (n := t) (by omega); have m_t := q_nT (n := t) (by omega); simp only [Int32.lt_iff_toInt_lt, Int32.le_iff_toInt_le, q_n0, q_n1, q_n2, q_n3, q_n4, q_n5, q_n6, q_n7, q_n10, q_n14, q_n15, q_n20, q_n60, q_n1288] at c_1; omega) hI hW hS hl2
        · -- not taken
          refine lv_aload_n hx hb xd_fe_forgetAllOf_30 rfl (lv_at hl 0 rfl) ?_
          refine q_calli hC hS (fun _ h => h) (q_runV (rest := []) hC hW (xC_wf_hasEnded l G S ((nI t).toNatClampNeg) (q_lt h_2)) (xc_fe_76 (q_rm 0) hC.1.2.2.2.2 ⟨Nat.le_of_ble_eq_true rfl, Nat.le_of_ble_eq_true rfl⟩ rfl rfl) (q_lt h_2) rfl rfl rfl hl.1 rfl (Nat.le_of_ble_eq_true rfl) xd_fe_forgetAllOf_31 ⟨Nat.zero_le _, Nat.zero_le _⟩) (fun H locs hW hS => ?_)
          refine lv_if_ne (tgt := 42) hx hb xd_fe_forgetAllOf_34 (by decide) (fun c_5 => ?_) (fun c_5 => ?_)
          · -- taken
            refine lv_iinc (v := nI t + 1) (lv' := [(2, .int (nI t + 1)), (3, .ref (q_a xX G 9 ((nI t).toNatClampNeg))), (0, .ref (q_a xX G 0 0)), (1, .int a)]) hx hb xd_fe_forgetAllOf_42 hl (k := 3) rfl rfl (by decide) rfl (fun ls hl => ?_)
            refine lv_goto (tgt := 2) hx hb xd_fe_forgetAllOf_45 (by decide) ?_
            have hf : x_fe_forgetAllOf_L0 (n + 1) S a t = x_fe_forgetAllOf_L0 n S a (t + 1) := by rw [x_fe_forgetAllOf_L0, if_neg c_1, if_neg c_3, if_pos c_4, if_neg c_5]
            rw [hf]
            have hl2 : lv_has ls 4 [(0, .ref (q_a xX G 0 0)), (1, .int a), (2, .int (nI (t + 1)))] := by rw [← nI_1 t]; exact lv_sub hl [2, 3, 0] rfl
            exact ih S (t + 1) _ _ ls (by have b1 : 0 ≤ (q_i (S 9 ((nI t).toNatClampNeg) 9)).toInt ∧ (q_i (S 9 ((nI t).toNatClampNeg) 9)).toInt ≤ 2 := hI 9 ((nI t).toNatClampNeg) 9; have n_t := nI_toInt (n := t) (by omega); have m_t := q_nT (n := t) (by omega); simp only [Int32.lt_iff_toInt_lt, Int32.le_iff_toInt_le, q_n0, q_n1, q_n2, q_n3, q_n4, q_n5, q_n6, q_n7, q_n10, q_n14, q_n15, q_n20, q_n60, q_n1288] at c_1; omega) (by have b1 : 0 ≤ (q_i (S 9 ((nI t).toNatClampNeg) 9)).toInt ∧ (q_i (S 9 ((nI t).toNatClampNeg) 9)).toInt ≤ 2 := hI 9 ((nI t).toNatClampNeg) 9; have n_t := nI_toInt (n := t) (by omega); have m_t := q_nT (n := t) (by omega); simp only [Int32.lt_iff_toInt_lt, Int32.le_iff_toInt_le, q_n0, q_n1, q_n2, q_n3, q_n4, q_n5, q_n6, q_n7, q_n10, q_n14, q_n15, q_n20, q_n60, q_n1288] at c_1; omega) hI hW hS hl2
          · -- not taken
            refine lv_aload_n hx hb xd_fe_forgetAllOf_37 rfl (lv_at hl 0 rfl) ?_
            refine lv_iconst (v := 1) hx hb xd_fe_forgetAllOf_38 (by decide) ?_
            refine xg_fe_143p hC hW hS (fun _ h => h) ((nI t).toNatClampNeg) (q_lt h_2) rfl rfl xd_fe_forgetAllOf_39 (fun H locs hW hS => ?_)
            refine lv_iinc (v := nI t + 1) (lv' := [(2, .int (nI t + 1)), (3, .ref (q_a xX G 9 ((nI t).toNatClampNeg))), (0, .ref (q_a xX G 0 0)), (1, .int a)]) hx hb xd_fe_forgetAllOf_42 hl (k := 3) rfl rfl (by decide) rfl (fun ls hl => ?_)
            refine lv_goto (tgt := 2) hx hb xd_fe_forgetAllOf_45 (by decide) ?_
            have hf : x_fe_forgetAllOf_L0 (n + 1) S a t = x_fe_forgetAllOf_L0 n (q_st S 9 ((nI t).toNatClampNeg) 7 (.int 1)) a (t + 1) := by rw [x_fe_forgetAllOf_L0, if_neg c_1, if_neg c_3, if_pos c_4, if_pos c_5]
            rw [hf]
            have hl2 : lv_has ls 4 [(0, .ref (q_a xX G 0 0)), (1, .int a), (2, .int (nI (t + 1)))] := by rw [← nI_1 t]; exact lv_sub hl [2, 3, 0] rfl
            have hI_6 : xI (q_st S 9 ((nI t).toNatClampNeg) 7 (.int 1)) := (q_Is hI rfl)
            exact ih (q_st S 9 ((nI t).toNatClampNeg) 7 (.int 1)) (t + 1) _ _ ls (by have b1 : 0 ≤ (q_i (S 9 ((nI t).toNatClampNeg) 9)).toInt ∧ (q_i (S 9 ((nI t).toNatClampNeg) 9)).toInt ≤ 2 := hI 9 ((nI t).toNatClampNeg) 9; have n_t := nI_toInt (n := t) (by omega); have m_t := q_nT (n := t) (by omega); simp only [Int32.lt_iff_toInt_lt, Int32.le_iff_toInt_le, q_n0, q_n1, q_n2, q_n3, q_n4, q_n5, q_n6, q_n7, q_n10, q_n14, q_n15, q_n20, q_n60, q_n1288] at c_1; omega) (by have b1 : 0 ≤ (q_i (S 9 ((nI t).toNatClampNeg) 9)).toInt ∧ (q_i (S 9 ((nI t).toNatClampNeg) 9)).toInt ≤ 2 := hI 9 ((nI t).toNatClampNeg) 9; have n_t := nI_toInt (n := t) (by omega); have m_t := q_nT (n := t) (by omega); simp only [Int32.lt_iff_toInt_lt, Int32.le_iff_toInt_le, q_n0, q_n1, q_n2, q_n3, q_n4, q_n5, q_n6, q_n7, q_n10, q_n14, q_n15, q_n20, q_n60, q_n1288] at c_1; omega) hI_6 hW hS hl2
set_option maxRecDepth 100000 in
set_option maxHeartbeats 4000000 in
theorem xK_fe_forgetAllOf_L0 : ∀ (n : Nat) (S : q_S) (a : Int32) (t : Nat) (x y z : Nat) (h9 : x ≠ 9), (x_fe_forgetAllOf_L0 n S a t) x y z = S x y z := by
  intro n
  induction n with
  | zero => intro S a t x y z h9; rfl
  | succ n ih =>
    intro S a t x y z h9
    by_cases c_1 : 6 ≤ nI t
    · -- yes
      have hf : x_fe_forgetAllOf_L0 (n + 1) S a t = S := by rw [x_fe_forgetAllOf_L0, if_pos c_1]
      rw [hf]
    · -- no
      by_cases c_3 : q_i (S 9 ((nI t).toNatClampNeg) 6) = 0
      · -- yes
        have hf : x_fe_forgetAllOf_L0 (n + 1) S a t = x_fe_forgetAllOf_L0 n S a (t + 1) := by rw [x_fe_forgetAllOf_L0, if_neg c_1, if_pos c_3]
        rw [hf]
        exact (ih S a (t + 1) x y z h9).trans (rfl)
      · -- no
        by_cases c_4 : q_i (S 9 ((nI t).toNatClampNeg) 9) = a
        · -- yes
          by_cases c_5 : x_wf_hasEnded S ((nI t).toNatClampNeg) = 0
          · -- yes
            have hf : x_fe_forgetAllOf_L0 (n + 1) S a t = x_fe_forgetAllOf_L0 n (q_st S 9 ((nI t).toNatClampNeg) 7 (.int 1)) a (t + 1) := by rw [x_fe_forgetAllOf_L0, if_neg c_1, if_neg c_3, if_pos c_4, if_pos c_5]
            rw [hf]
            exact (ih (q_st S 9 ((nI t).toNatClampNeg) 7 (.int 1)) a (t + 1) x y z h9).trans ((q_kj h9))
          · -- no
            have hf : x_fe_forgetAllOf_L0 (n + 1) S a t = x_fe_forgetAllOf_L0 n S a (t + 1) := by rw [x_fe_forgetAllOf_L0, if_neg c_1, if_neg c_3, if_pos c_4, if_neg c_5]
            rw [hf]
            exact (ih S a (t + 1) x y z h9).trans (rfl)
        · -- no
          have hf : x_fe_forgetAllOf_L0 (n + 1) S a t = x_fe_forgetAllOf_L0 n S a (t + 1) := by rw [x_fe_forgetAllOf_L0, if_neg c_1, if_neg c_3, if_neg c_4]
          rw [hf]
          exact (ih S a (t + 1) x y z h9).trans (rfl)
set_option maxRecDepth 100000 in
set_option maxHeartbeats 4000000 in
theorem xI_fe_forgetAllOf_L0 (a : Int32)  : ∀ (n : Nat) (S : q_S) (t : Nat), t + n = 7 → t ≤ 6 → xI S → xI (x_fe_forgetAllOf_L0 n S a t) := by
  intro n
  induction n with
  | zero =>
    intro S t ht hu hI
    exfalso
    omega
  | succ n ih =>
    intro S t ht hu hI
    by_cases c_1 : 6 ≤ nI t
    · -- yes
      have hf : x_fe_forgetAllOf_L0 (n + 1) S a t = S := by rw [x_fe_forgetAllOf_L0, if_pos c_1]
      rw [hf]
      exact hI
    · -- no
      by_cases c_3 : q_i (S 9 ((nI t).toNatClampNeg) 6) = 0
      · -- yes
        have h_2 : vp_in (nI t) 6 := by have n_t := nI_toInt (n := t) (by omega); have m_t := q_nT (n := t) (by omega); simp only [vp_in_iff, Int32.lt_iff_toInt_lt, Int32.le_iff_toInt_le, q_n0, q_n1, q_n2, q_n3, q_n4, q_n5, q_n6, q_n7, q_n10, q_n14, q_n15, q_n20, q_n60, q_n1288] at c_1 ⊢; omega
        have hf : x_fe_forgetAllOf_L0 (n + 1) S a t = x_fe_forgetAllOf_L0 n S a (t + 1) := by rw [x_fe_forgetAllOf_L0, if_neg c_1, if_pos c_3]
        rw [hf]
        exact ih S (t + 1) (by have n_t := nI_toInt (n := t) (by omega); have m_t := q_nT (n := t) (by omega); simp only [Int32.lt_iff_toInt_lt, Int32.le_iff_toInt_le, q_n0, q_n1, q_n2, q_n3, q_n4, q_n5, q_n6, q_n7, q_n10, q_n14, q_n15, q_n20, q_n60, q_n1288] at c_1; omega) (by have n_t := nI_toInt (n := t) (by omega); have m_t := q_nT (n := t) (by omega); simp only [Int32.lt_iff_toInt_lt, Int32.le_iff_toInt_le, q_n0, q_n1, q_n2, q_n3, q_n4, q_n5, q_n6, q_n7, q_n10, q_n14, q_n15, q_n20, q_n60, q_n1288] at c_1; omega) hI
      · -- no
        by_cases c_4 : q_i (S 9 ((nI t).toNatClampNeg) 9) = a
        · -- yes
          by_cases c_5 : x_wf_hasEnded S ((nI t).toNatClampNeg) = 0
          · -- yes
            have h_2 : vp_in (nI t) 6 := by have n_t := nI_toInt (n := t) (by omega); have m_t := q_nT (n := t) (by omega); simp only [vp_in_iff, Int32.lt_iff_toInt_lt, Int32.le_iff_toInt_le, q_n0, q_n1, q_n2, q_n3, q_n4, q_n5, q_n6, q_n7, q_n10, q_n14, q_n15, q_n20, q_n60, q_n1288] at c_1 ⊢; omega
            have hI_6 : xI (q_st S 9 ((nI t).toNatClampNeg) 7 (.int 1)) := (q_Is hI rfl)
            have hf : x_fe_forgetAllOf_L0 (n + 1) S a t = x_fe_forgetAllOf_L0 n (q_st S 9 ((nI t).toNatClampNeg) 7 (.int 1)) a (t + 1) := by rw [x_fe_forgetAllOf_L0, if_neg c_1, if_neg c_3, if_pos c_4, if_pos c_5]
            rw [hf]
            have hI_907 : xI (q_st S 9 ((nI t).toNatClampNeg) 7 (.int 1)) := (q_Is hI rfl)
            exact ih (q_st S 9 ((nI t).toNatClampNeg) 7 (.int 1)) (t + 1) (by have b1 : 0 ≤ (q_i (S 9 ((nI t).toNatClampNeg) 9)).toInt ∧ (q_i (S 9 ((nI t).toNatClampNeg) 9)).toInt ≤ 2 := hI 9 ((nI t).toNatClampNeg) 9; have n_t := nI_toInt (n := t) (by omega); have m_t := q_nT (n := t) (by omega); simp only [Int32.lt_iff_toInt_lt, Int32.le_iff_toInt_le, q_n0, q_n1, q_n2, q_n3, q_n4, q_n5, q_n6, q_n7, q_n10, q_n14, q_n15, q_n20, q_n60, q_n1288] at c_1; omega) (by have b1 : 0 ≤ (q_i (S 9 ((nI t).toNatClampNeg) 9)).toInt ∧ (q_i (S 9 ((nI t).toNatClampNeg) 9)).toInt ≤ 2 := hI 9 ((nI t).toNatClampNeg) 9; have n_t := nI_toInt (n := t) (by omega); have m_t := q_nT (n := t) (by omega); simp only [Int32.lt_iff_toInt_lt, Int32.le_iff_toInt_le, q_n0, q_n1, q_n2, q_n3, q_n4, q_n5, q_n6, q_n7, q_n10, q_n14, q_n15, q_n20, q_n60, q_n1288] at c_1; omega) hI_907
          · -- no
            have h_2 : vp_in (nI t) 6 := by have n_t := nI_toInt (n := t) (by omega); have m_t := q_nT (n := t) (by omega); simp only [vp_in_iff, Int32.lt_iff_toInt_lt, Int32.le_iff_toInt_le, q_n0, q_n1, q_n2, q_n3, q_n4, q_n5, q_n6, q_n7, q_n10, q_n14, q_n15, q_n20, q_n60, q_n1288] at c_1 ⊢; omega
            have hf : x_fe_forgetAllOf_L0 (n + 1) S a t = x_fe_forgetAllOf_L0 n S a (t + 1) := by rw [x_fe_forgetAllOf_L0, if_neg c_1, if_neg c_3, if_pos c_4, if_neg c_5]
            rw [hf]
            exact ih S (t + 1) (by have b1 : 0 ≤ (q_i (S 9 ((nI t).toNatClampNeg) 9)).toInt ∧ (q_i (S 9 ((nI t).toNatClampNeg) 9)).toInt ≤ 2 := hI 9 ((nI t).toNatClampNeg) 9; have n_t := nI_toInt (n := t) (by omega); have m_t := q_nT (n := t) (by omega); simp only [Int32.lt_iff_toInt_lt, Int32.le_iff_toInt_le, q_n0, q_n1, q_n2, q_n3, q_n4, q_n5, q_n6, q_n7, q_n10, q_n14, q_n15, q_n20, q_n60, q_n1288] at c_1; omega) (by have b1 : 0 ≤ (q_i (S 9 ((nI t).toNatClampNeg) 9)).toInt ∧ (q_i (S 9 ((nI t).toNatClampNeg) 9)).toInt ≤ 2 := hI 9 ((nI t).toNatClampNeg) 9; have n_t := nI_toInt (n := t) (by omega); have m_t := q_nT (n := t) (by omega); simp only [Int32.lt_iff_toInt_lt, Int32.le_iff_toInt_le, q_n0, q_n1, q_n2, q_n3, q_n4, q_n5, q_n6, q_n7, q_n10, q_n14, q_n15, q_n20, q_n60, q_n1288] at c_1; omega) hI
        · -- no
          have h_2 : vp_in (nI t) 6 := by have n_t := nI_toInt (n := t) (by omega); have m_t := q_nT (n := t) (by omega); simp only [vp_in_iff, Int32.lt_iff_toInt_lt, Int32.le_iff_toInt_le, q_n0, q_n1, q_n2, q_n3, q_n4, q_n5, q_n6, q_n7, q_n10, q_n14, q_n15, q_n20, q_n60, q_n1288] at c_1 ⊢; omega
          have hf : x_fe_forgetAllOf_L0 (n + 1) S a t = x_fe_forgetAllOf_L0 n S a (t + 1) := by rw [x_fe_forgetAllOf_L0, if_neg c_1, if_neg c_3, if_neg c_4]
          rw [hf]
          exact ih S (t + 1) (by have b1 : 0 ≤ (q_i (S 9 ((nI t).toNatClampNeg) 9)).toInt ∧ (q_i (S 9 ((nI t).toNatClampNeg) 9)).toInt ≤ 2 := hI 9 ((nI t).toNatClampNeg) 9; have n_t := nI_toInt (n := t) (by omega); have m_t := q_nT (n := t) (by omega); simp only [Int32.lt_iff_toInt_lt, Int32.le_iff_toInt_le, q_n0, q_n1, q_n2, q_n3, q_n4, q_n5, q_n6, q_n7, q_n10, q_n14, q_n15, q_n20, q_n60, q_n1288] at c_1; omega) (by have b1 : 0 ≤ (q_i (S 9 ((nI t).toNatClampNeg) 9)).toInt ∧ (q_i (S 9 ((nI t).toNatClampNeg) 9)).toInt ≤ 2 := hI 9 ((nI t).toNatClampNeg) 9; have n_t := nI_toInt (n := t) (by omega); have m_t := q_nT (n := t) (by omega); simp only [Int32.lt_iff_toInt_lt, Int32.le_iff_toInt_le, q_n0, q_n1, q_n2, q_n3, q_n4, q_n5, q_n6, q_n7, q_n10, q_n14, q_n15, q_n20, q_n60, q_n1288] at c_1; omega) hI
def x_fe_forgetAllOf (S : q_S) (a : Int32) : q_S :=
  x_fe_forgetAllOf_L0 7 S a 0
set_option maxRecDepth 100000 in
set_option maxHeartbeats 4000000 in
theorem xC_fe_forgetAllOf (l : Launch) (G : q_G) (S : q_S) (a : Int32) (hI : xI S) : q_Mv xX G l xy_fe_forgetAllOf (q_ws (q_gw lw_tbl) xy_fe_forgetAllOf xb_fe_forgetAllOf 4 none) (q_rm 1) [.ref (q_a xX G 0 0), .int a] S (x_fe_forgetAllOf S a) := by
  refine q_met (cc := xb_fe_forgetAllOf) (maxL := 4) (ret := none) xOk (by decide) rfl (Nat.le_of_ble_eq_true rfl) ?_
  intro p e s m below meth c ls hC hr hlocks hW hS hl
  have hx := hC.1.1
  have hb := hC.1.2.1
  have hl : lv_has ls 4 [(0, .ref (q_a xX G 0 0)), (1, .int a)] := hl
  refine lv_iconst (v := 0) hx hb xd_fe_forgetAllOf_0 (by decide) ?_
  refine lv_istore_n (lv' := [(2, .int 0), (0, .ref (q_a xX G 0 0)), (1, .int a)]) hx hb xd_fe_forgetAllOf_1 rfl hl (by decide) rfl (fun ls hl => ?_)
  have hf : x_fe_forgetAllOf S a = x_fe_forgetAllOf_L0 7 S a 0 := by unfold x_fe_forgetAllOf; rfl
  rw [hf]
  have hl2 : lv_has ls 4 [(0, .ref (q_a xX G 0 0)), (1, .int a), (2, .int (nI 0))] := by rw [(show nI 0 = 0 from rfl)]; exact lv_sub hl [1, 2, 0] rfl
  exact xL_fe_forgetAllOf_L0 l G a  hC hr hlocks 7 S 0 _ _ ls (by omega) (by omega) hI hW hS hl2
set_option maxRecDepth 100000 in
set_option maxHeartbeats 4000000 in
theorem xI_fe_forgetAllOf (S : q_S) (a : Int32) (hI : xI S) : xI (x_fe_forgetAllOf S a) := by
  have hf : x_fe_forgetAllOf S a = x_fe_forgetAllOf_L0 7 S a 0 := by unfold x_fe_forgetAllOf; rfl
  rw [hf]
  exact xI_fe_forgetAllOf_L0 a  7 S 0 (by omega) (by omega) hI
set_option maxRecDepth 100000 in
set_option maxHeartbeats 4000000 in
theorem xK_fe_forgetAllOf (S : q_S) (a : Int32) (x y z : Nat) (h9 : x ≠ 9) : (x_fe_forgetAllOf S a) x y z = S x y z := by
  have hf : x_fe_forgetAllOf S a = x_fe_forgetAllOf_L0 7 S a 0 := by unfold x_fe_forgetAllOf; rfl
  rw [hf]
  exact (xK_fe_forgetAllOf_L0 7 S a 0 x y z h9).trans (rfl)
