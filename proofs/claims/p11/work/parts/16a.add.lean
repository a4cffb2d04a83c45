theorem xF_isP {S : q_S} {a : Int32} (h : ¬ x_fe_isProgram S a = 0) : ¬ a < 0 ∧ ¬ 3 ≤ a := by
  unfold x_fe_isProgram at h
  split at h
  · exact absurd rfl h
  · split at h
    · exact absurd rfl h
    · exact ⟨by assumption, by assumption⟩
theorem xF_isT {S : q_S} {a : Int32} (h : ¬ x_fe_isThere S a = 0) : ¬ a < 0 ∧ ¬ 6 ≤ a := by
  unfold x_fe_isThere at h
  split at h
  · exact absurd rfl h
  · split at h
    · exact absurd rfl h
    · exact ⟨by assumption, by assumption⟩
theorem xF_P2 {S : q_S} {a : Int32} (h : ¬ x_fe_isProgram S a = 0) : 0 ≤ a.toInt ∧ a.toInt ≤ 2 := by
  obtain ⟨h1, h2⟩ := xF_isP h
  simp only [Int32.lt_iff_toInt_lt, Int32.le_iff_toInt_le, q_n0, q_n3] at h1 h2
  omega
theorem xF_lf : ∀ (n : Nat) (S : q_S) (t : Nat), t + n = 7 → ¬ x_fe_leastFree_L0 n S t < 0 → vp_in (x_fe_leastFree_L0 n S t) 6 := by
  intro n
  induction n with
  | zero => intro S t ht _; show vp_in 0 6; unfold vp_in; decide +kernel
  | succ n ih =>
    intro S t ht h
    rw [x_fe_leastFree_L0] at h ⊢
    split at h
    · exact absurd (show (-1 : Int32) < 0 by decide) h
    · rename_i q
      rw [if_neg q]
      split at h
      · rename_i q2
        rw [if_pos q2]
        have n_t := nI_toInt (n := t) (by omega)
        simp only [vp_in_iff, Int32.le_iff_toInt_le, q_n6] at q ⊢
        omega
      · rename_i q2
        rw [if_neg q2]
        exact ih S (t + 1) (by omega) h
theorem xF_lfS {S : q_S} (h : 0 ≤ x_fe_leastFree S) : vp_in (x_fe_leastFree S) 6 := by
  have h2 : ¬ x_fe_leastFree S < 0 := fun z => absurd (Int32.lt_of_le_of_lt h z) (by decide)
  revert h2
  rw [x_fe_leastFree]
  exact fun h2 => xF_lf 7 S 0 rfl h2
theorem q_s10 {x : Int32} (h : 0 ≤ x.toInt) : (x - 10).toInt = x.toInt - 10 := by
  rw [Int32.toInt_sub]
  have h0 := Int32.toInt_lt x
  show (x.toInt - 10).bmod _ = _
  rw [Int.bmod_eq_of_le (by omega) (by omega)]
def x_fe_add (S : q_S) (a b d f : Int32) : Int32 × q_S :=
  if x_fe_isProgram S a = 0 then
    ((-1), S)
  else
    if x_fe_isInstruction S b d f = 0 then
      ((-1), S)
    else
      if q_i (S 5 a.toNatClampNeg 3) < 14 then
        (q_i (S 5 a.toNatClampNeg 3), x_fe_forgetAllOf (x_pr_put (q_st S 5 a.toNatClampNeg 3 (.int ((q_i (S 5 a.toNatClampNeg 3)) + 1))) a.toNatClampNeg (q_i (S 5 a.toNatClampNeg 3)) b d f) a)
      else
        ((-3), S)
set_option maxRecDepth 100000 in
set_option maxHeartbeats 4000000 in
theorem xC_fe_add (l : Launch) (G : q_G) (S : q_S) (a b d f : Int32) (hI : xI S) : q_Mi xX G l xy_fe_add (q_ws (q_gw lw_tbl) xy_fe_add xb_fe_add 7 (some .int)) (q_rm 2) [.ref (q_a xX G 0 0), .int a, .int b, .int d, .int f] S (x_fe_add S a b d f).1 (x_fe_add S a b d f).2 := by
  refine q_met (cc := xb_fe_add) (maxL := 7) (ret := (some .int)) xOk (by decide) rfl (Nat.le_of_ble_eq_true rfl) ?_
  intro p e s m below meth c ls hC hr hlocks hW hS hl
  have hx := hC.1.1
  have hb := hC.1.2.1
  have hl : lv_has ls 7 [(0, .ref (q_a xX G 0 0)), (1, .int a), (2, .int b), (3, .int d), (4, .int f)] := hl
  refine lv_iload_n hx hb xd_fe_add_0 rfl (lv_at hl 1 rfl) ?_
  refine q_calli hC hS (fun _ h => h) (q_runS (rest := []) hC hW (xC_fe_isProgram l G S a) (xc_fe_32 (q_rm 0) hC.1.2.2.2.2 ⟨Nat.le_of_ble_eq_true rfl, Nat.le_of_ble_eq_true rfl⟩ rfl rfl) rfl hl.1 rfl (Nat.le_of_ble_eq_true rfl) xd_fe_add_1 ⟨Nat.zero_le _, Nat.zero_le _⟩) (fun H locs hW hS => ?_)
  refine lv_if_eq (tgt := 17) hx hb xd_fe_add_4 (by decide) (fun c_1 => ?_) (fun c_1 => ?_)
  · -- taken
    refine lv_iconst (v := (-1)) hx hb xd_fe_add_17 (by decide) ?_
    have hf : x_fe_add S a b d f = ((-1), S) := by unfold x_fe_add; rw [if_pos c_1]
    rw [hf]
    exact q_iret hC hr hlocks hW hS rfl rfl xd_fe_add_18
  · -- not taken
    refine lv_iload_n hx hb xd_fe_add_7 rfl (lv_at hl 2 rfl) ?_
    refine lv_iload_n hx hb xd_fe_add_8 rfl (lv_at hl 3 rfl) ?_
    refine lv_iload hx hb xd_fe_add_9 (lv_at hl 4 rfl) ?_
    refine q_calli hC hS (fun _ h => h) (q_runS (rest := []) hC hW (xC_fe_isInstruction l G S b d f) (xc_fe_36 (q_rm 1) hC.1.2.2.2.2 ⟨Nat.le_of_ble_eq_true rfl, Nat.le_of_ble_eq_true rfl⟩ rfl rfl) rfl hl.1 rfl (Nat.le_of_ble_eq_true rfl) xd_fe_add_11 ⟨Nat.zero_le _, Nat.zero_le _⟩) (fun H locs hW hS => ?_)
    refine lv_if_ne (tgt := 19) hx hb xd_fe_add_14 (by decide) (fun c_2 => ?_) (fun c_2 => ?_)
    · -- taken
      refine lv_aload_n hx hb xd_fe_add_19 rfl (lv_at hl 0 rfl) ?_
      refine xg_fe_11 hC hW 0 Nat.one_pos xd_fe_add_20 ?_
      refine lv_iload_n hx hb xd_fe_add_23 rfl (lv_at hl 1 rfl) ?_
      have h_3 : vp_in a 3 := by obtain ⟨f_c_1_0, f_c_1_1⟩ := xF_isP c_1; simp only [vp_in_iff, Int32.lt_iff_toInt_lt, Int32.le_iff_toInt_le, q_n0, q_n1, q_n2, q_n3, q_n4, q_n5, q_n6, q_n7, q_n10, q_n14, q_n15, q_n20, q_n60, q_n1288] at f_c_1_0 f_c_1_1 ⊢; omega
      refine xal_1 hC hW 0 Nat.one_pos h_3 xd_fe_add_24 ?_
      refine lv_astore (lv' := [(5, .ref (q_a xX G 5 a.toNatClampNeg)), (0, .ref (q_a xX G 0 0)), (1, .int a), (2, .int b), (3, .int d), (4, .int f)]) hx hb xd_fe_add_25 hl (by decide) rfl (fun ls hl => ?_)
      refine lv_aload hx hb xd_fe_add_27 (lv_at hl 0 rfl) ?_
      refine xg_fe_40 hC hW a.toNatClampNeg (q_lt h_3) (rfl) xd_fe_add_29 ?_
      refine lv_bipush (v := 14) hx hb xd_fe_add_32 (by decide) ?_
      refine lv_icmp_lt (tgt := 40) hx hb xd_fe_add_34 (by decide) (fun c_4 => ?_) (fun c_4 => ?_)
      · -- taken
        refine lv_aload hx hb xd_fe_add_40 (lv_at hl 0 rfl) ?_
        refine xg_fe_40 hC hW a.toNatClampNeg (q_lt h_3) (rfl) xd_fe_add_42 ?_
        refine lv_istore (lv' := [(6, .int (q_i (S 5 a.toNatClampNeg 3))), (5, .ref (q_a xX G 5 a.toNatClampNeg)), (0, .ref (q_a xX G 0 0)), (1, .int a), (2, .int b), (3, .int d), (4, .int f)]) hx hb xd_fe_add_45 hl (by decide) rfl (fun ls hl => ?_)
        refine lv_aload hx hb xd_fe_add_47 (lv_at hl 1 rfl) ?_
        refine lv_dup hx hb xd_fe_add_49 rfl ?_
        refine xg_fe_40 hC hW a.toNatClampNeg (q_lt h_3) (rfl) xd_fe_add_50 ?_
        refine lv_iconst (v := 1) hx hb xd_fe_add_53 (by decide) ?_
        refine lv_iadd hx hb xd_fe_add_54 ?_
        refine xg_fe_40p hC hW hS (fun _ h => h) a.toNatClampNeg (q_lt h_3) xd_fe_add_55 (fun H locs hW hS => ?_)
        refine lv_aload hx hb xd_fe_add_58 (lv_at hl 1 rfl) ?_
        refine lv_iload hx hb xd_fe_add_60 (lv_at hl 0 rfl) ?_
        refine lv_iload_n hx hb xd_fe_add_62 rfl (lv_at hl 4 rfl) ?_
        refine lv_iload_n hx hb xd_fe_add_63 rfl (lv_at hl 5 rfl) ?_
        refine lv_iload hx hb xd_fe_add_64 (lv_at hl 6 rfl) ?_
        refine W.eq (g2 := F0 m 66 ls [.int f, .int d, .int b, .int (q_i (S 5 a.toNatClampNeg 3)), .ref (q_a xX G 5 a.toNatClampNeg)]) rfl ?_
        have hI_5 : xI (q_st S 5 a.toNatClampNeg 3 (.int ((q_i (S 5 a.toNatClampNeg 3)) + 1))) := (xI_st hI (by obtain ⟨f_c_1_0, f_c_1_1⟩ := xF_isP c_1; have b1 : 0 ≤ (q_i (S 5 a.toNatClampNeg 3)).toInt ∧ (q_i (S 5 a.toNatClampNeg 3)).toInt ≤ 14 := hI 5 a.toNatClampNeg 3; have d_1 := q_inc (x := (q_i (S 5 a.toNatClampNeg 3))) (by omega); simp only [Int32.lt_iff_toInt_lt, Int32.le_iff_toInt_le, q_n0, q_n1, q_n2, q_n3, q_n4, q_n5, q_n6, q_n7, q_n10, q_n14, q_n15, q_n20, q_n60, q_n1288] at f_c_1_0 f_c_1_1 c_4; show 0 ≤ ((q_i (S 5 a.toNatClampNeg 3)) + 1).toInt ∧ ((q_i (S 5 a.toNatClampNeg 3)) + 1).toInt ≤ 14; rw [q_inc (by omega)]; omega))
        refine q_callv hC hS (fun _ h => h) (q_runV (rest := []) hC hW (xC_pr_put l G (q_st S 5 a.toNatClampNeg 3 (.int ((q_i (S 5 a.toNatClampNeg 3)) + 1))) a.toNatClampNeg (q_i (S 5 a.toNatClampNeg 3)) b d f (q_lt h_3) hI_5) (xc_fe_44 (q_rm 1) hC.1.2.2.2.2 ⟨Nat.le_of_ble_eq_true rfl, Nat.le_of_ble_eq_true rfl⟩ rfl rfl) (q_lt h_3) rfl rfl rfl hl.1 rfl (Nat.le_of_ble_eq_true rfl) xd_fe_add_66 ⟨Nat.zero_le _, Nat.zero_le _⟩) (fun H locs hW hS => ?_)
        refine lv_aload_n hx hb xd_fe_add_69 rfl (lv_at hl 2 rfl) ?_
        refine lv_iload_n hx hb xd_fe_add_70 rfl (lv_at hl 3 rfl) ?_
        have hI_6 : xI (x_pr_put (q_st S 5 a.toNatClampNeg 3 (.int ((q_i (S 5 a.toNatClampNeg 3)) + 1))) a.toNatClampNeg (q_i (S 5 a.toNatClampNeg 3)) b d f) := (xI_pr_put (q_st S 5 a.toNatClampNeg 3 (.int ((q_i (S 5 a.toNatClampNeg 3)) + 1))) a.toNatClampNeg (q_i (S 5 a.toNatClampNeg 3)) b d f (q_lt h_3) hI_5)
        refine q_callv hC hS (fun _ h => h) (q_runV (rest := []) hC hW (xC_fe_forgetAllOf l G (x_pr_put (q_st S 5 a.toNatClampNeg 3 (.int ((q_i (S 5 a.toNatClampNeg 3)) + 1))) a.toNatClampNeg (q_i (S 5 a.toNatClampNeg 3)) b d f) a hI_6) (xc_fe_48 (q_rm 1) hC.1.2.2.2.2 ⟨Nat.le_of_ble_eq_true rfl, Nat.le_of_ble_eq_true rfl⟩ rfl rfl) Nat.one_pos rfl rfl rfl hl.1 rfl (Nat.le_of_ble_eq_true rfl) xd_fe_add_71 ⟨Nat.zero_le _, Nat.zero_le _⟩) (fun H locs hW hS => ?_)
        refine lv_iload hx hb xd_fe_add_74 (lv_at hl 0 rfl) ?_
        have hf : x_fe_add S a b d f = (q_i (S 5 a.toNatClampNeg 3), x_fe_forgetAllOf (x_pr_put (q_st S 5 a.toNatClampNeg 3 (.int ((q_i (S 5 a.toNatClampNeg 3)) + 1))) a.toNatClampNeg (q_i (S 5 a.toNatClampNeg 3)) b d f) a) := by unfold x_fe_add; rw [if_neg c_1, if_neg c_2, if_pos c_4]
        rw [hf]
        exact q_iret hC hr hlocks hW hS rfl rfl xd_fe_add_76
      · -- not taken
        refine lv_bipush (v := (-3)) hx hb xd_fe_add_37 (by decide) ?_
        have hf : x_fe_add S a b d f = ((-3), S) := by unfold x_fe_add; rw [if_neg c_1, if_neg c_2, if_neg c_4]
        rw [hf]
        exact q_iret hC hr hlocks hW hS rfl rfl xd_fe_add_39
    · -- not taken
      refine lv_iconst (v := (-1)) hx hb xd_fe_add_17 (by decide) ?_
      have hf : x_fe_add S a b d f = ((-1), S) := by unfold x_fe_add; rw [if_neg c_1, if_pos c_2]
      rw [hf]
      exact q_iret hC hr hlocks hW hS rfl rfl xd_fe_add_18
set_option maxRecDepth 100000 in
set_option maxHeartbeats 4000000 in
theorem xI_fe_add (S : q_S) (a b d f : Int32) (hI : xI S) : xI ((x_fe_add S a b d f).2) := by
  by_cases c_1 : x_fe_isProgram S a = 0
  · -- yes
    have hf : x_fe_add S a b d f = ((-1), S) := by unfold x_fe_add; rw [if_pos c_1]
    rw [hf]
    exact hI
  · -- no
    by_cases c_2 : x_fe_isInstruction S b d f = 0
    · -- yes
      have hf : x_fe_add S a b d f = ((-1), S) := by unfold x_fe_add; rw [if_neg c_1, if_pos c_2]
      rw [hf]
      exact hI
    · -- no
      by_cases c_4 : q_i (S 5 a.toNatClampNeg 3) < 14
      · -- yes
        have h_3 : vp_in a 3 := by obtain ⟨f_c_1_0, f_c_1_1⟩ := xF_isP c_1; simp only [vp_in_iff, Int32.lt_iff_toInt_lt, Int32.le_iff_toInt_le, q_n0, q_n1, q_n2, q_n3, q_n4, q_n5, q_n6, q_n7, q_n10, q_n14, q_n15, q_n20, q_n60, q_n1288] at f_c_1_0 f_c_1_1 ⊢; omega
        have hI_5 : xI (q_st S 5 a.toNatClampNeg 3 (.int ((q_i (S 5 a.toNatClampNeg 3)) + 1))) := (xI_st hI (by obtain ⟨f_c_1_0, f_c_1_1⟩ := xF_isP c_1; have b1 : 0 ≤ (q_i (S 5 a.toNatClampNeg 3)).toInt ∧ (q_i (S 5 a.toNatClampNeg 3)).toInt ≤ 14 := hI 5 a.toNatClampNeg 3; have d_1 := q_inc (x := (q_i (S 5 a.toNatClampNeg 3))) (by omega); simp only [Int32.lt_iff_toInt_lt, Int32.le_iff_toInt_le, q_n0, q_n1, q_n2, q_n3, q_n4, q_n5, q_n6, q_n7, q_n10, q_n14, q_n15, q_n20, q_n60, q_n1288] at f_c_1_0 f_c_1_1 c_4; show 0 ≤ ((q_i (S 5 a.toNatClampNeg 3)) + 1).toInt ∧ ((q_i (S 5 a.toNatClampNeg 3)) + 1).toInt ≤ 14; rw [q_inc (by omega)]; omega))
        have hI_6 : xI (x_pr_put (q_st S 5 a.toNatClampNeg 3 (.int ((q_i (S 5 a.toNatClampNeg 3)) + 1))) a.toNatClampNeg (q_i (S 5 a.toNatClampNeg 3)) b d f) := (xI_pr_put (q_st S 5 a.toNatClampNeg 3 (.int ((q_i (S 5 a.toNatClampNeg 3)) + 1))) a.toNatClampNeg (q_i (S 5 a.toNatClampNeg 3)) b d f (q_lt h_3) hI_5)
        have hf : x_fe_add S a b d f = (q_i (S 5 a.toNatClampNeg 3), x_fe_forgetAllOf (x_pr_put (q_st S 5 a.toNatClampNeg 3 (.int ((q_i (S 5 a.toNatClampNeg 3)) + 1))) a.toNatClampNeg (q_i (S 5 a.toNatClampNeg 3)) b d f) a) := by unfold x_fe_add; rw [if_neg c_1, if_neg c_2, if_pos c_4]
        rw [hf]
        exact (xI_fe_forgetAllOf (x_pr_put (q_st S 5 a.toNatClampNeg 3 (.int ((q_i (S 5 a.toNatClampNeg 3)) + 1))) a.toNatClampNeg (q_i (S 5 a.toNatClampNeg 3)) b d f) a hI_6)
      · -- no
        have h_3 : vp_in a 3 := by obtain ⟨f_c_1_0, f_c_1_1⟩ := xF_isP c_1; simp only [vp_in_iff, Int32.lt_iff_toInt_lt, Int32.le_iff_toInt_le, q_n0, q_n1, q_n2, q_n3, q_n4, q_n5, q_n6, q_n7, q_n10, q_n14, q_n15, q_n20, q_n60, q_n1288] at f_c_1_0 f_c_1_1 ⊢; omega
        have hf : x_fe_add S a b d f = ((-3), S) := by unfold x_fe_add; rw [if_neg c_1, if_neg c_2, if_neg c_4]
        rw [hf]
        exact hI
set_option maxRecDepth 100000 in
set_option maxHeartbeats 4000000 in
theorem xK_fe_add (S : q_S) (a b d f : Int32) (x y z : Nat) (h5 : x ≠ 5) (h6 : x ≠ 6) (h7 : x ≠ 7) (h8 : x ≠ 8) (h9 : x ≠ 9) : (x_fe_add S a b d f).2 x y z = S x y z := by
  by_cases c_1 : x_fe_isProgram S a = 0
  · -- yes
    have hf : x_fe_add S a b d f = ((-1), S) := by unfold x_fe_add; rw [if_pos c_1]
    rw [hf]
  · -- no
    by_cases c_2 : x_fe_isInstruction S b d f = 0
    · -- yes
      have hf : x_fe_add S a b d f = ((-1), S) := by unfold x_fe_add; rw [if_neg c_1, if_pos c_2]
      rw [hf]
    · -- no
      by_cases c_4 : q_i (S 5 a.toNatClampNeg 3) < 14
      · -- yes
        have hf : x_fe_add S a b d f = (q_i (S 5 a.toNatClampNeg 3), x_fe_forgetAllOf (x_pr_put (q_st S 5 a.toNatClampNeg 3 (.int ((q_i (S 5 a.toNatClampNeg 3)) + 1))) a.toNatClampNeg (q_i (S 5 a.toNatClampNeg 3)) b d f) a) := by unfold x_fe_add; rw [if_neg c_1, if_neg c_2, if_pos c_4]
        rw [hf]
        exact ((xK_fe_forgetAllOf (x_pr_put (q_st S 5 a.toNatClampNeg 3 (.int ((q_i (S 5 a.toNatClampNeg 3)) + 1))) a.toNatClampNeg (q_i (S 5 a.toNatClampNeg 3)) b d f) a x y z h9)).trans (((xK_pr_put (q_st S 5 a.toNatClampNeg 3 (.int ((q_i (S 5 a.toNatClampNeg 3)) + 1))) a.toNatClampNeg (q_i (S 5 a.toNatClampNeg 3)) b d f x y z h6 h7 h8)).trans ((q_kj h5)))
      · -- no
        have hf : x_fe_add S a b d f = ((-3), S) := by unfold x_fe_add; rw [if_neg c_1, if_neg c_2, if_neg c_4]
        rw [hf]
