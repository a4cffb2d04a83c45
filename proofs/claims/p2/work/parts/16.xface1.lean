theorem xF_isP {S : q_S} {a : Int32} (h : ¬ x_fe_isProgram S a = 0) : ¬ a < 0 ∧ ¬ 3 ≤ a := by
  unfold x_fe_isProgram at h
  split at h
  · exact absurd rfl h
  · split at h
    · exact absurd rfl h
    · exact ⟨by assumption, by assumption⟩
theorem xF_isT {S : q_S} {a : Int32} (h : ¬ x_fe_isThere S a = 0) : ¬ a < 0 ∧ ¬ 6 ≤ a := by
  unfold x_fe_isThere at h
  split at h
  · exact absurd rfl h
  · split at h
    · exact absurd rfl h
    · exact ⟨by assumption, by assumption⟩
theorem xF_P2 {S : q_S} {a : Int32} (h : ¬ x_fe_isProgram S a = 0) : 0 ≤ a.toInt ∧ a.toInt ≤ 2 := by
  obtain ⟨h1, h2⟩ := xF_isP h
  simp only [Int32.lt_iff_toInt_lt, Int32.le_iff_toInt_le, q_n0, q_n3] at h1 h2
  omega
theorem xF_lf : ∀ (n : Nat) (S : q_S) (t : Nat), t + n = 7 → ¬ x_fe_leastFree_2 n S t < 0 → vp_in (x_fe_leastFree_2 n S t) 6 := by
  intro n
  induction n with
  | zero => intro S t ht _; show vp_in 0 6; unfold vp_in; decide +kernel
  | succ n ih =>
    intro S t ht h
    rw [x_fe_leastFree_2] at h ⊢
    split at h
    · exact absurd (show (-1 : Int32) < 0 by decide) h
    · rename_i q
      rw [if_neg q]
      split at h
      · rename_i q2
        rw [if_pos q2]
        have n_t := nI_toInt (n := t) (by omega)
        simp only [vp_in_iff, Int32.le_iff_toInt_le, q_n6] at q ⊢
        omega
      · rename_i q2
        rw [if_neg q2]
        exact ih S (t + 1) (by omega) h
theorem q_s10 {x : Int32} (h : 0 ≤ x.toInt) : (x - 10).toInt = x.toInt - 10 := by
  rw [Int32.toInt_sub]
  have h0 := Int32.toInt_lt x
  show (x.toInt - 10).bmod _ = _
  rw [Int.bmod_eq_of_le (by omega) (by omega)]
def x_fe_add (S : q_S) (a b d f : Int32) : Int32 × q_S :=
  if x_fe_isProgram S a = 0 then
    ((-1), S)
  else
    if x_fe_isInstruction S b d f = 0 then
      ((-1), S)
    else
      if q_i (S 5 a.toNatClampNeg 3) < 14 then
        (q_i (S 5 a.toNatClampNeg 3), x_fe_forgetAllOf (x_pr_put (q_st S 5 a.toNatClampNeg 3 (.int ((q_i (S 5 a.toNatClampNeg 3)) + 1))) a.toNatClampNeg (q_i (S 5 a.toNatClampNeg 3)) b d f) a)
      else
        ((-3), S)
set_option maxRecDepth 100000 in
set_option maxHeartbeats 4000000 in
theorem xC_fe_add (l : Launch) (G : q_G) (S : q_S) (a b d f : Int32) (hI : xI S) : q_Mi xX G l xy_fe_add (q_ws (q_gw lw_tbl) xy_fe_add xb_fe_add 7 (some .int)) (q_rm 2) [.ref (q_a xX G 0 0), .int a, .int b, .int d, .int f] S (x_fe_add S a b d f).1 (x_fe_add S a b d f).2 := by
  refine q_met (cc := xb_fe_add) (maxL := 7) (ret := (some .int)) xOk (by decide) rfl (Nat.le_of_ble_eq_true rfl) ?_
  intro p e s m below meth c ls hC hr hlocks hW hS hl
  have hx := hC.1.1
  have hb := hC.1.2.1
  have hl : lv_has ls 7 [(0, .ref (q_a xX G 0 0)), (1, .int a), (2, .int b), (3, .int d), (4, .int f)] := hl
  refine lv_iload_n hx hb xd_fe_add_0 rfl (lv_at hl 1 rfl) ?_
  refine q_calli hC hS (fun _ h => h) (q_runS (rest := []) hC hW (xC_fe_isProgram l G S a) (xc_fe_32 (q_rm 0) hC.1.2.2.2.2 ⟨Nat.le_of_ble_eq_true rfl, Nat.le_of_ble_eq_true rfl⟩ rfl rfl) rfl hl.1 rfl (Nat.le_of_ble_eq_true rfl) xd_fe_add_1 ⟨Nat.zero_le _, Nat.zero_le _⟩) (fun H locs hW hS => ?_)
  refine lv_if_eq (tgt := 17) hx hb xd_fe_add_4 (by decide) (fun c_1 => ?_) (fun c_1 => ?_)
  · -- taken
    refine lv_iconst (v := (-1)) hx hb xd_fe_add_17 (by decide) ?_
    have hf : x_fe_add S a b d f = ((-1), S) := by unfold x_fe_add; rw [if_pos c_1]
    rw [hf]
    exact q_iret hC hr hlocks hW hS rfl rfl xd_fe_add_18
  · -- not taken
    refine lv_iload_n hx hb xd_fe_add_7 rfl (lv_at hl 2 rfl) ?_
    refine lv_iload_n hx hb xd_fe_add_8 rfl (lv_at hl 3 rfl) ?_
    refine lv_iload hx hb xd_fe_add_9 (lv_at hl 4 rfl) ?_
    refine q_calli hC hS (fun _ h => h) (q_runS (rest := []) hC hW (xC_fe_isInstruction l G S b d f) (xc_fe_36 (q_rm 1) hC.1.2.2.2.2 ⟨Nat.le_of_ble_eq_true rfl, Nat.le_of_ble_eq_true rfl⟩ rfl rfl) rfl hl.1 rfl (Nat.le_of_ble_eq_true rfl) xd_fe_add_11 ⟨Nat.zero_le _, Nat.zero_le _⟩) (fun H locs hW hS => ?_)
    refine lv_if_ne (tgt := 19) hx hb xd_fe_add_14 (by decide) (fun c_2 => ?_) (fun c_2 => ?_)
    · -- taken
      refine lv_aload_n hx hb xd_fe_add_19 rfl (lv_at hl 0 rfl) ?_
      refine xg_fe_11 hC hW 0 Nat.one_pos xd_fe_add_20 ?_
      refine lv_iload_n hx hb xd_fe_add_23 rfl (lv_at hl 1 rfl) ?_
      have h_3 : vp_in a 3 := by obtain ⟨f_c_1_0, f_c_1_1⟩ := xF_isP c_1; simp only [vp_in_iff, Int32.lt_iff_toInt_lt, Int32.le_iff_toInt_le, q_n0, q_n1, q_n2, q_n3, q_n4, q_n5, q_n6, q_n7, q_n10, q_n14, q_n15, q_n20, q_n60, q_n1288] at f_c_1_0 f_c_1_1 ⊢; omega
      refine xal_1 hC hW 0 Nat.one_pos h_3 xd_fe_add_24 ?_
      refine lv_astore (lv' := [(5, .ref (q_a xX G 5 a.toNatClampNeg)), (0, .ref (q_a xX G 0 0)), (1, .int a), (2, .int b), (3, .int d), (4, .int f)]) hx hb xd_fe_add_25 hl (by decide) rfl (fun ls hl => ?_)
      refine lv_aload hx hb xd_fe_add_27 (lv_at hl 0 rfl) ?_
      refine xg_fe_40 hC hW a.toNatClampNeg (q_lt h_3) (rfl) xd_fe_add_29 ?_
      refine lv_bipush (v := 14) hx hb xd_fe_add_32 (by decide) ?_
      refine lv_icmp_lt (tgt := 40) hx hb xd_fe_add_34 (by decide) (fun c_4 => ?_) (fun c_4 => ?_)
      · -- taken
        refine lv_aload hx hb xd_fe_add_40 (lv_at hl 0 rfl) ?_
        refine xg_fe_40 hC hW a.toNatClampNeg (q_lt h_3) (rfl) xd_fe_add_42 ?_
        refine lv_istore (lv' := [(6, .int (q_i (S 5 a.toNatClampNeg 3))), (5, .ref (q_a xX G 5 a.toNatClampNeg)), (0, .ref (q_a xX G 0 0)), (1, .int a), (2, .int b), (3, .int d), (4, .int f)]) hx hb xd_fe_add_45 hl (by decide) rfl (fun ls hl => ?_)
        refine lv_aload hx hb xd_fe_add_47 (lv_at hl 1 rfl) ?_
        refine lv_dup hx hb xd_fe_add_49 rfl ?_
        refine xg_fe_40 hC hW a.toNatClampNeg (q_lt h_3) (rfl) xd_fe_add_50 ?_
        refine lv_iconst (v := 1) hx hb xd_fe_add_53 (by decide) ?_
        refine lv_iadd hx hb xd_fe_add_54 ?_
        refine xg_fe_40p hC hW hS (fun _ h => h) a.toNatClampNeg (q_lt h_3) xd_fe_add_55 (fun H locs hW hS => ?_)
        refine lv_aload hx hb xd_fe_add_58 (lv_at hl 1 rfl) ?_
        refine lv_iload hx hb xd_fe_add_60 (lv_at hl 0 rfl) ?_
        refine lv_iload_n hx hb xd_fe_add_62 rfl (lv_at hl 4 rfl) ?_
        refine lv_iload_n hx hb xd_fe_add_63 rfl (lv_at hl 5 rfl) ?_
        refine lv_iload hx hb xd_fe_add_64 (lv_at hl 6 rfl) ?_
        refine W.eq (g2 := F0 m 66 ls [.int f, .int d, .int b, .int (q_i (S 5 a.toNatClampNeg 3)), .ref (q_a xX G 5 a.toNatClampNeg)]) rfl ?_
        have hI_5 : xI (q_st S 5 a.toNatClampNeg 3 (.int ((q_i (S 5 a.toNatClampNeg 3)) + 1))) := (xI_st hI (by obtain ⟨f_c_1_0, f_c_1_1⟩ := xF_isP c_1; have b1 : 0 ≤ (q_i (S 5 a.toNatClampNeg 3)).toInt ∧ (q_i (S 5 a.toNatClampNeg 3)).toInt ≤ 14 := hI 5 a.toNatClampNeg 3; have d_1 := q_inc (x := (q_i (S 5 a.toNatClampNeg 3))) (by omega); simp only [Int32.lt_iff_toInt_lt, Int32.le_iff_toInt_le, q_n0, q_n1, q_n2, q_n3, q_n4, q_n5, q_n6, q_n7, q_n10, q_n14, q_n15, q_n20, q_n60, q_n1288] at f_c_1_0 f_c_1_1 c_4; show 0 ≤ ((q_i (S 5 a.toNatClampNeg 3)) + 1).toInt ∧ ((q_i (S 5 a.toNatClampNeg 3)) + 1).toInt ≤ 14; rw [q_inc (by omega)]; omega))
        refine q_callv hC hS (fun _ h => h) (q_runV (rest := []) hC hW (xC_pr_put l G (q_st S 5 a.toNatClampNeg 3 (.int ((q_i (S 5 a.toNatClampNeg 3)) + 1))) a.toNatClampNeg (q_i (S 5 a.toNatClampNeg 3)) b d f (q_lt h_3) hI_5) (xc_fe_44 (q_rm 1) hC.1.2.2.2.2 ⟨Nat.le_of_ble_eq_true rfl, Nat.le_of_ble_eq_true rfl⟩ rfl rfl) (q_lt h_3) rfl rfl rfl hl.1 rfl (Nat.le_of_ble_eq_true rfl) xd_fe_add_66 ⟨Nat.zero_le _, Nat.zero_le _⟩) (fun H locs hW hS => ?_)
        refine lv_aload_n hx hb xd_fe_add_69 rfl (lv_at hl 2 rfl) ?_
        refine lv_iload_n hx hb xd_fe_add_70 rfl (lv_at hl 3 rfl) ?_
        have hI_6 : xI (x_pr_put (q_st S 5 a.toNatClampNeg 3 (.int ((q_i (S 5 a.toNatClampNeg 3)) + 1))) a.toNatClampNeg (q_i (S 5 a.toNatClampNeg 3)) b d f) := (xI_pr_put (q_st S 5 a.toNatClampNeg 3 (.int ((q_i (S 5 a.toNatClampNeg 3)) + 1))) a.toNatClampNeg (q_i (S 5 a.toNatClampNeg 3)) b d f (q_lt h_3) hI_5)
        refine q_callv hC hS (fun _ h => h) (q_runV (rest := []) hC hW (xC_fe_forgetAllOf l G (x_pr_put (q_st S 5 a.toNatClampNeg 3 (.int ((q_i (S 5 a.toNatClampNeg 3)) + 1))) a.toNatClampNeg (q_i (S 5 a.toNatClampNeg 3)) b d f) a hI_6) (xc_fe_48 (q_rm 1) hC.1.2.2.2.2 ⟨Nat.le_of_ble_eq_true rfl, Nat.le_of_ble_eq_true rfl⟩ rfl rfl) Nat.one_pos rfl rfl rfl hl.1 rfl (Nat.le_of_ble_eq_true rfl) xd_fe_add_71 ⟨Nat.zero_le _, Nat.zero_le _⟩) (fun H locs hW hS => ?_)
        refine lv_iload hx hb xd_fe_add_74 (lv_at hl 0 rfl) ?_
        have hf : x_fe_add S a b d f = (q_i (S 5 a.toNatClampNeg 3), x_fe_forgetAllOf (x_pr_put (q_st S 5 a.toNatClampNeg 3 (.int ((q_i (S 5 a.toNatClampNeg 3)) + 1))) a.toNatClampNeg (q_i (S 5 a.toNatClampNeg 3)) b d f) a) := by unfold x_fe_add; rw [if_neg c_1, if_neg c_2, if_pos c_4]
        rw [hf]
        exact q_iret hC hr hlocks hW hS rfl rfl xd_fe_add_76
      · -- not taken
        refine lv_bipush (v := (-3)) hx hb xd_fe_add_37 (by decide) ?_
        have hf : x_fe_add S a b d f = ((-3), S) := by unfold x_fe_add; rw [if_neg c_1, if_neg c_2, if_neg c_4]
        rw [hf]
        exact q_iret hC hr hlocks hW hS rfl rfl xd_fe_add_39
    · -- not taken
      refine lv_iconst (v := (-1)) hx hb xd_fe_add_17 (by decide) ?_
      have hf : x_fe_add S a b d f = ((-1), S) := by unfold x_fe_add; rw [if_neg c_1, if_pos c_2]
      rw [hf]
      exact q_iret hC hr hlocks hW hS rfl rfl xd_fe_add_18
set_option maxRecDepth 100000 in
set_option maxHeartbeats 4000000 in
theorem xI_fe_add (S : q_S) (a b d f : Int32) (hI : xI S) : xI ((x_fe_add S a b d f).2) := by
  by_cases c_1 : x_fe_isProgram S a = 0
  · -- yes
    have hf : x_fe_add S a b d f = ((-1), S) := by unfold x_fe_add; rw [if_pos c_1]
    rw [hf]
    exact hI
  · -- no
    by_cases c_2 : x_fe_isInstruction S b d f = 0
    · -- yes
      have hf : x_fe_add S a b d f = ((-1), S) := by unfold x_fe_add; rw [if_neg c_1, if_pos c_2]
      rw [hf]
      exact hI
    · -- no
      by_cases c_4 : q_i (S 5 a.toNatClampNeg 3) < 14
      · -- yes
        have h_3 : vp_in a 3 := by obtain ⟨f_c_1_0, f_c_1_1⟩ := xF_isP c_1; simp only [vp_in_iff, Int32.lt_iff_toInt_lt, Int32.le_iff_toInt_le, q_n0, q_n1, q_n2, q_n3, q_n4, q_n5, q_n6, q_n7, q_n10, q_n14, q_n15, q_n20, q_n60, q_n1288] at f_c_1_0 f_c_1_1 ⊢; omega
        have hI_5 : xI (q_st S 5 a.toNatClampNeg 3 (.int ((q_i (S 5 a.toNatClampNeg 3)) + 1))) := (xI_st hI (by obtain ⟨f_c_1_0, f_c_1_1⟩ := xF_isP c_1; have b1 : 0 ≤ (q_i (S 5 a.toNatClampNeg 3)).toInt ∧ (q_i (S 5 a.toNatClampNeg 3)).toInt ≤ 14 := hI 5 a.toNatClampNeg 3; have d_1 := q_inc (x := (q_i (S 5 a.toNatClampNeg 3))) (by omega); simp only [Int32.lt_iff_toInt_lt, Int32.le_iff_toInt_le, q_n0, q_n1, q_n2, q_n3, q_n4, q_n5, q_n6, q_n7, q_n10, q_n14, q_n15, q_n20, q_n60, q_n1288] at f_c_1_0 f_c_1_1 c_4; show 0 ≤ ((q_i (S 5 a.toNatClampNeg 3)) + 1).toInt ∧ ((q_i (S 5 a.toNatClampNeg 3)) + 1).toInt ≤ 14; rw [q_inc (by omega)]; omega))
        have hI_6 : xI (x_pr_put (q_st S 5 a.toNatClampNeg 3 (.int ((q_i (S 5 a.toNatClampNeg 3)) + 1))) a.toNatClampNeg (q_i (S 5 a.toNatClampNeg 3)) b d f) := (xI_pr_put (q_st S 5 a.toNatClampNeg 3 (.int ((q_i (S 5 a.toNatClampNeg 3)) + 1))) a.toNatClampNeg (q_i (S 5 a.toNatClampNeg 3)) b d f (q_lt h_3) hI_5)
        have hf : x_fe_add S a b d f = (q_i (S 5 a.toNatClampNeg 3), x_fe_forgetAllOf (x_pr_put (q_st S 5 a.toNatClampNeg 3 (.int ((q_i (S 5 a.toNatClampNeg 3)) + 1))) a.toNatClampNeg (q_i (S 5 a.toNatClampNeg 3)) b d f) a) := by unfold x_fe_add; rw [if_neg c_1, if_neg c_2, if_pos c_4]
        rw [hf]
        exact (xI_fe_forgetAllOf (x_pr_put (q_st S 5 a.toNatClampNeg 3 (.int ((q_i (S 5 a.toNatClampNeg 3)) + 1))) a.toNatClampNeg (q_i (S 5 a.toNatClampNeg 3)) b d f) a hI_6)
      · -- no
        have h_3 : vp_in a 3 := by obtain ⟨f_c_1_0, f_c_1_1⟩ := xF_isP c_1; simp only [vp_in_iff, Int32.lt_iff_toInt_lt, Int32.le_iff_toInt_le, q_n0, q_n1, q_n2, q_n3, q_n4, q_n5, q_n6, q_n7, q_n10, q_n14, q_n15, q_n20, q_n60, q_n1288] at f_c_1_0 f_c_1_1 ⊢; omega
        have hf : x_fe_add S a b d f = ((-3), S) := by unfold x_fe_add; rw [if_neg c_1, if_neg c_2, if_neg c_4]
        rw [hf]
        exact hI
set_option maxRecDepth 100000 in
set_option maxHeartbeats 4000000 in
theorem xK_fe_add (S : q_S) (a b d f : Int32) (x y z : Nat) (h5 : x ≠ 5) (h6 : x ≠ 6) (h7 : x ≠ 7) (h8 : x ≠ 8) (h9 : x ≠ 9) : (x_fe_add S a b d f).2 x y z = S x y z := by
  by_cases c_1 : x_fe_isProgram S a = 0
  · -- yes
    have hf : x_fe_add S a b d f = ((-1), S) := by unfold x_fe_add; rw [if_pos c_1]
    rw [hf]
  · -- no
    by_cases c_2 : x_fe_isInstruction S b d f = 0
    · -- yes
      have hf : x_fe_add S a b d f = ((-1), S) := by unfold x_fe_add; rw [if_neg c_1, if_pos c_2]
      rw [hf]
    · -- no
      by_cases c_4 : q_i (S 5 a.toNatClampNeg 3) < 14
      · -- yes
        have hf : x_fe_add S a b d f = (q_i (S 5 a.toNatClampNeg 3), x_fe_forgetAllOf (x_pr_put (q_st S 5 a.toNatClampNeg 3 (.int ((q_i (S 5 a.toNatClampNeg 3)) + 1))) a.toNatClampNeg (q_i (S 5 a.toNatClampNeg 3)) b d f) a) := by unfold x_fe_add; rw [if_neg c_1, if_neg c_2, if_pos c_4]
        rw [hf]
        exact ((xK_fe_forgetAllOf (x_pr_put (q_st S 5 a.toNatClampNeg 3 (.int ((q_i (S 5 a.toNatClampNeg 3)) + 1))) a.toNatClampNeg (q_i (S 5 a.toNatClampNeg 3)) b d f) a x y z h9)).trans (((xK_pr_put (q_st S 5 a.toNatClampNeg 3 (.int ((q_i (S 5 a.toNatClampNeg 3)) + 1))) a.toNatClampNeg (q_i (S 5 a.toNatClampNeg 3)) b d f x y z h6 h7 h8)).trans ((q_kj h5)))
      · -- no
        have hf : x_fe_add S a b d f = ((-3), S) := by unfold x_fe_add; rw [if_neg c_1, if_neg c_2, if_neg c_4]
        rw [hf]
def x_fe_change (S : q_S) (a b d f g : Int32) : Int32 × q_S :=
  if x_fe_isProgram S a = 0 then
    (0, S)
  else
    if x_fe_isInstruction S d f g = 0 then
      (0, S)
    else
      if x_pr_has S a.toNatClampNeg b = 0 then
        (0, S)
      else
        (1, x_fe_forgetAllOf (x_pr_put S a.toNatClampNeg b d f g) a)
set_option maxRecDepth 100000 in
set_option maxHeartbeats 4000000 in
theorem xC_fe_change (l : Launch) (G : q_G) (S : q_S) (a b d f g : Int32) (hI : xI S) : q_Mi xX G l xy_fe_change (q_ws (q_gw lw_tbl) xy_fe_change xb_fe_change 6 (some .boolean)) (q_rm 2) [.ref (q_a xX G 0 0), .int a, .int b, .int d, .int f, .int g] S (x_fe_change S a b d f g).1 (x_fe_change S a b d f g).2 := by
  refine q_met (cc := xb_fe_change) (maxL := 6) (ret := (some .boolean)) xOk (by decide) rfl (Nat.le_of_ble_eq_true rfl) ?_
  intro p e s m below meth c ls hC hr hlocks hW hS hl
  have hx := hC.1.1
  have hb := hC.1.2.1
  have hl : lv_has ls 6 [(0, .ref (q_a xX G 0 0)), (1, .int a), (2, .int b), (3, .int d), (4, .int f), (5, .int g)] := hl
  refine lv_iload_n hx hb xd_fe_change_0 rfl (lv_at hl 1 rfl) ?_
  refine q_calli hC hS (fun _ h => h) (q_runS (rest := []) hC hW (xC_fe_isProgram l G S a) (xc_fe_32 (q_rm 0) hC.1.2.2.2.2 ⟨Nat.le_of_ble_eq_true rfl, Nat.le_of_ble_eq_true rfl⟩ rfl rfl) rfl hl.1 rfl (Nat.le_of_ble_eq_true rfl) xd_fe_change_1 ⟨Nat.zero_le _, Nat.zero_le _⟩) (fun H locs hW hS => ?_)
  refine lv_if_eq (tgt := 31) hx hb xd_fe_change_4 (by decide) (fun c_1 => ?_) (fun c_1 => ?_)
  · -- taken
    refine lv_iconst (v := 0) hx hb xd_fe_change_31 (by decide) ?_
    have hf : x_fe_change S a b d f g = (0, S) := by unfold x_fe_change; rw [if_pos c_1]
    rw [hf]
    exact q_zret hC hr hlocks hW hS (by decide) rfl rfl xd_fe_change_32
  · -- not taken
    refine lv_iload_n hx hb xd_fe_change_7 rfl (lv_at hl 3 rfl) ?_
    refine lv_iload hx hb xd_fe_change_8 (lv_at hl 4 rfl) ?_
    refine lv_iload hx hb xd_fe_change_10 (lv_at hl 5 rfl) ?_
    refine q_calli hC hS (fun _ h => h) (q_runS (rest := []) hC hW (xC_fe_isInstruction l G S d f g) (xc_fe_36 (q_rm 1) hC.1.2.2.2.2 ⟨Nat.le_of_ble_eq_true rfl, Nat.le_of_ble_eq_true rfl⟩ rfl rfl) rfl hl.1 rfl (Nat.le_of_ble_eq_true rfl) xd_fe_change_12 ⟨Nat.zero_le _, Nat.zero_le _⟩) (fun H locs hW hS => ?_)
    refine lv_if_eq (tgt := 31) hx hb xd_fe_change_15 (by decide) (fun c_2 => ?_) (fun c_2 => ?_)
    · -- taken
      refine lv_iconst (v := 0) hx hb xd_fe_change_31 (by decide) ?_
      have hf : x_fe_change S a b d f g = (0, S) := by unfold x_fe_change; rw [if_neg c_1, if_pos c_2]
      rw [hf]
      exact q_zret hC hr hlocks hW hS (by decide) rfl rfl xd_fe_change_32
    · -- not taken
      refine lv_aload_n hx hb xd_fe_change_18 rfl (lv_at hl 0 rfl) ?_
      refine xg_fe_11 hC hW 0 Nat.one_pos xd_fe_change_19 ?_
      refine lv_iload_n hx hb xd_fe_change_22 rfl (lv_at hl 1 rfl) ?_
      have h_3 : vp_in a 3 := by obtain ⟨f_c_1_0, f_c_1_1⟩ := xF_isP c_1; simp only [vp_in_iff, Int32.lt_iff_toInt_lt, Int32.le_iff_toInt_le, q_n0, q_n1, q_n2, q_n3, q_n4, q_n5, q_n6, q_n7, q_n10, q_n14, q_n15, q_n20, q_n60, q_n1288] at f_c_1_0 f_c_1_1 ⊢; omega
      refine xal_1 hC hW 0 Nat.one_pos h_3 xd_fe_change_23 ?_
      refine lv_iload_n hx hb xd_fe_change_24 rfl (lv_at hl 2 rfl) ?_
      refine q_calli hC hS (fun _ h => h) (q_runV (rest := []) hC hW (xC_pr_has l G S a.toNatClampNeg b (q_lt h_3)) (xc_fe_51 (q_rm 0) hC.1.2.2.2.2 ⟨Nat.le_of_ble_eq_true rfl, Nat.le_of_ble_eq_true rfl⟩ rfl rfl) (q_lt h_3) rfl rfl rfl hl.1 rfl (Nat.le_of_ble_eq_true rfl) xd_fe_change_25 ⟨Nat.zero_le _, Nat.zero_le _⟩) (fun H locs hW hS => ?_)
      refine lv_if_ne (tgt := 33) hx hb xd_fe_change_28 (by decide) (fun c_4 => ?_) (fun c_4 => ?_)
      · -- taken
        refine lv_aload_n hx hb xd_fe_change_33 rfl (lv_at hl 0 rfl) ?_
        refine xg_fe_11 hC hW 0 Nat.one_pos xd_fe_change_34 ?_
        refine lv_iload_n hx hb xd_fe_change_37 rfl (lv_at hl 1 rfl) ?_
        have h_5 : vp_in a 3 := by obtain ⟨f_c_1_0, f_c_1_1⟩ := xF_isP c_1; obtain ⟨f_c_4_0, f_c_4_1⟩ := xF_pr_has c_4; have b1 : 0 ≤ (q_i (S 5 a.toNatClampNeg 3)).toInt ∧ (q_i (S 5 a.toNatClampNeg 3)).toInt ≤ 14 := hI 5 a.toNatClampNeg 3; simp only [vp_in_iff, Int32.lt_iff_toInt_lt, Int32.le_iff_toInt_le, q_n0, q_n1, q_n2, q_n3, q_n4, q_n5, q_n6, q_n7, q_n10, q_n14, q_n15, q_n20, q_n60, q_n1288] at f_c_1_0 f_c_1_1 f_c_4_0 f_c_4_1 ⊢; omega
        refine xal_1 hC hW 0 Nat.one_pos h_5 xd_fe_change_38 ?_
        refine lv_iload_n hx hb xd_fe_change_39 rfl (lv_at hl 2 rfl) ?_
        refine lv_iload_n hx hb xd_fe_change_40 rfl (lv_at hl 3 rfl) ?_
        refine lv_iload hx hb xd_fe_change_41 (lv_at hl 4 rfl) ?_
        refine lv_iload hx hb xd_fe_change_43 (lv_at hl 5 rfl) ?_
        refine q_callv hC hS (fun _ h => h) (q_runV (rest := []) hC hW (xC_pr_put l G S a.toNatClampNeg b d f g (q_lt h_5) hI) (xc_fe_44 (q_rm 1) hC.1.2.2.2.2 ⟨Nat.le_of_ble_eq_true rfl, Nat.le_of_ble_eq_true rfl⟩ rfl rfl) (q_lt h_5) rfl rfl rfl hl.1 rfl (Nat.le_of_ble_eq_true rfl) xd_fe_change_45 ⟨Nat.zero_le _, Nat.zero_le _⟩) (fun H locs hW hS => ?_)
        refine lv_aload_n hx hb xd_fe_change_48 rfl (lv_at hl 0 rfl) ?_
        refine lv_iload_n hx hb xd_fe_change_49 rfl (lv_at hl 1 rfl) ?_
        have hI_6 : xI (x_pr_put S a.toNatClampNeg b d f g) := (xI_pr_put S a.toNatClampNeg b d f g (q_lt h_5) hI)
        refine q_callv hC hS (fun _ h => h) (q_runV (rest := []) hC hW (xC_fe_forgetAllOf l G (x_pr_put S a.toNatClampNeg b d f g) a hI_6) (xc_fe_48 (q_rm 1) hC.1.2.2.2.2 ⟨Nat.le_of_ble_eq_true rfl, Nat.le_of_ble_eq_true rfl⟩ rfl rfl) Nat.one_pos rfl rfl rfl hl.1 rfl (Nat.le_of_ble_eq_true rfl) xd_fe_change_50 ⟨Nat.zero_le _, Nat.zero_le _⟩) (fun H locs hW hS => ?_)
        refine lv_iconst (v := 1) hx hb xd_fe_change_53 (by decide) ?_
        have hf : x_fe_change S a b d f g = (1, x_fe_forgetAllOf (x_pr_put S a.toNatClampNeg b d f g) a) := by unfold x_fe_change; rw [if_neg c_1, if_neg c_2, if_neg c_4]
        rw [hf]
        exact q_zret hC hr hlocks hW hS (by decide) rfl rfl xd_fe_change_54
      · -- not taken
        refine lv_iconst (v := 0) hx hb xd_fe_change_31 (by decide) ?_
        have hf : x_fe_change S a b d f g = (0, S) := by unfold x_fe_change; rw [if_neg c_1, if_neg c_2, if_pos c_4]
        rw [hf]
        exact q_zret hC hr hlocks hW hS (by decide) rfl rfl xd_fe_change_32
set_option maxRecDepth 100000 in
set_option maxHeartbeats 4000000 in
theorem xI_fe_change (S : q_S) (a b d f g : Int32) (hI : xI S) : xI ((x_fe_change S a b d f g).2) := by
  by_cases c_1 : x_fe_isProgram S a = 0
  · -- yes
    have hf : x_fe_change S a b d f g = (0, S) := by unfold x_fe_change; rw [if_pos c_1]
    rw [hf]
    exact hI
  · -- no
    by_cases c_2 : x_fe_isInstruction S d f g = 0
    · -- yes
      have hf : x_fe_change S a b d f g = (0, S) := by unfold x_fe_change; rw [if_neg c_1, if_pos c_2]
      rw [hf]
      exact hI
    · -- no
      by_cases c_4 : x_pr_has S a.toNatClampNeg b = 0
      · -- yes
        have h_3 : vp_in a 3 := by obtain ⟨f_c_1_0, f_c_1_1⟩ := xF_isP c_1; simp only [vp_in_iff, Int32.lt_iff_toInt_lt, Int32.le_iff_toInt_le, q_n0, q_n1, q_n2, q_n3, q_n4, q_n5, q_n6, q_n7, q_n10, q_n14, q_n15, q_n20, q_n60, q_n1288] at f_c_1_0 f_c_1_1 ⊢; omega
        have hf : x_fe_change S a b d f g = (0, S) := by unfold x_fe_change; rw [if_neg c_1, if_neg c_2, if_pos c_4]
        rw [hf]
        exact hI
      · -- no
        have h_3 : vp_in a 3 := by obtain ⟨f_c_1_0, f_c_1_1⟩ := xF_isP c_1; simp only [vp_in_iff, Int32.lt_iff_toInt_lt, Int32.le_iff_toInt_le, q_n0, q_n1, q_n2, q_n3, q_n4, q_n5, q_n6, q_n7, q_n10, q_n14, q_n15, q_n20, q_n60, q_n1288] at f_c_1_0 f_c_1_1 ⊢; omega
        have h_5 : vp_in a 3 := by obtain ⟨f_c_1_0, f_c_1_1⟩ := xF_isP c_1; obtain ⟨f_c_4_0, f_c_4_1⟩ := xF_pr_has c_4; have b1 : 0 ≤ (q_i (S 5 a.toNatClampNeg 3)).toInt ∧ (q_i (S 5 a.toNatClampNeg 3)).toInt ≤ 14 := hI 5 a.toNatClampNeg 3; simp only [vp_in_iff, Int32.lt_iff_toInt_lt, Int32.le_iff_toInt_le, q_n0, q_n1, q_n2, q_n3, q_n4, q_n5, q_n6, q_n7, q_n10, q_n14, q_n15, q_n20, q_n60, q_n1288] at f_c_1_0 f_c_1_1 f_c_4_0 f_c_4_1 ⊢; omega
        have hI_6 : xI (x_pr_put S a.toNatClampNeg b d f g) := (xI_pr_put S a.toNatClampNeg b d f g (q_lt h_5) hI)
        have hf : x_fe_change S a b d f g = (1, x_fe_forgetAllOf (x_pr_put S a.toNatClampNeg b d f g) a) := by unfold x_fe_change; rw [if_neg c_1, if_neg c_2, if_neg c_4]
        rw [hf]
        exact (xI_fe_forgetAllOf (x_pr_put S a.toNatClampNeg b d f g) a hI_6)
set_option maxRecDepth 100000 in
set_option maxHeartbeats 4000000 in
theorem xK_fe_change (S : q_S) (a b d f g : Int32) (x y z : Nat) (h6 : x ≠ 6) (h7 : x ≠ 7) (h8 : x ≠ 8) (h9 : x ≠ 9) : (x_fe_change S a b d f g).2 x y z = S x y z := by
  by_cases c_1 : x_fe_isProgram S a = 0
  · -- yes
    have hf : x_fe_change S a b d f g = (0, S) := by unfold x_fe_change; rw [if_pos c_1]
    rw [hf]
  · -- no
    by_cases c_2 : x_fe_isInstruction S d f g = 0
    · -- yes
      have hf : x_fe_change S a b d f g = (0, S) := by unfold x_fe_change; rw [if_neg c_1, if_pos c_2]
      rw [hf]
    · -- no
      by_cases c_4 : x_pr_has S a.toNatClampNeg b = 0
      · -- yes
        have hf : x_fe_change S a b d f g = (0, S) := by unfold x_fe_change; rw [if_neg c_1, if_neg c_2, if_pos c_4]
        rw [hf]
      · -- no
        have hf : x_fe_change S a b d f g = (1, x_fe_forgetAllOf (x_pr_put S a.toNatClampNeg b d f g) a) := by unfold x_fe_change; rw [if_neg c_1, if_neg c_2, if_neg c_4]
        rw [hf]
        exact ((xK_fe_forgetAllOf (x_pr_put S a.toNatClampNeg b d f g) a x y z h9)).trans (((xK_pr_put S a.toNatClampNeg b d f g x y z h6 h7 h8)))
def x_fe_start (S : q_S) (a b : Int32) : Int32 × q_S :=
  if x_fe_isProgram S a = 0 then
    ((-1), S)
  else
    if 0 ≤ x_fe_leastFree S then
      (x_fe_leastFree S, x_fe_run (x_wf_begin S ((x_fe_leastFree S).toNatClampNeg) a b) ((x_fe_leastFree S).toNatClampNeg))
    else
      ((-3), S)
set_option maxRecDepth 100000 in
set_option maxHeartbeats 4000000 in
theorem xC_fe_start (l : Launch) (G : q_G) (S : q_S) (a b : Int32) (hI : xI S) (hJ : xJ S) : q_Mi xX G l xy_fe_start (q_ws (q_gw lw_tbl) xy_fe_start xb_fe_start 4 (some .int)) (q_rm 4) [.ref (q_a xX G 0 0), .int a, .int b] S (x_fe_start S a b).1 (x_fe_start S a b).2 := by
  refine q_met (cc := xb_fe_start) (maxL := 4) (ret := (some .int)) xOk (by decide) rfl (Nat.le_of_ble_eq_true rfl) ?_
  intro p e s m below meth c ls hC hr hlocks hW hS hl
  have hx := hC.1.1
  have hb := hC.1.2.1
  have hl : lv_has ls 4 [(0, .ref (q_a xX G 0 0)), (1, .int a), (2, .int b)] := hl
  refine lv_iload_n hx hb xd_fe_start_0 rfl (lv_at hl 1 rfl) ?_
  refine q_calli hC hS (fun _ h => h) (q_runS (rest := []) hC hW (xC_fe_isProgram l G S a) (xc_fe_32 (q_rm 0) hC.1.2.2.2.2 ⟨Nat.le_of_ble_eq_true rfl, Nat.le_of_ble_eq_true rfl⟩ rfl rfl) rfl hl.1 rfl (Nat.le_of_ble_eq_true rfl) xd_fe_start_1 ⟨Nat.zero_le _, Nat.zero_le _⟩) (fun H locs hW hS => ?_)
  refine lv_if_ne (tgt := 9) hx hb xd_fe_start_4 (by decide) (fun c_1 => ?_) (fun c_1 => ?_)
  · -- taken
    refine lv_aload_n hx hb xd_fe_start_9 rfl (lv_at hl 0 rfl) ?_
    refine q_calli hC hS (fun _ h => h) (q_runV (rest := []) hC hW (xC_fe_leastFree l G S) (xc_fe_54 (q_rm 0) hC.1.2.2.2.2 ⟨Nat.le_of_ble_eq_true rfl, Nat.le_of_ble_eq_true rfl⟩ rfl rfl) Nat.one_pos rfl rfl rfl hl.1 rfl (Nat.le_of_ble_eq_true rfl) xd_fe_start_10 ⟨Nat.zero_le _, Nat.zero_le _⟩) (fun H locs hW hS => ?_)
    refine lv_istore_n (lv' := [(3, .int (x_fe_leastFree S)), (0, .ref (q_a xX G 0 0)), (1, .int a), (2, .int b)]) hx hb xd_fe_start_13 rfl hl (by decide) rfl (fun ls hl => ?_)
    refine lv_iload_n hx hb xd_fe_start_14 rfl (lv_at hl 0 rfl) ?_
    refine lv_if_ge (tgt := 21) hx hb xd_fe_start_15 (by decide) (fun c_2 => ?_) (fun c_2 => ?_)
    · -- taken
      refine lv_aload_n hx hb xd_fe_start_21 rfl (lv_at hl 1 rfl) ?_
      refine xg_fe_17 hC hW 0 Nat.one_pos xd_fe_start_22 ?_
      refine lv_iload_n hx hb xd_fe_start_25 rfl (lv_at hl 0 rfl) ?_
      have h_3 : vp_in (x_fe_leastFree S) 6 := xF_lf 7 S 0 rfl (by have q := c_2; exact fun z => absurd (Int32.lt_of_le_of_lt q z) (by decide))
      refine xal_2 hC hW 0 Nat.one_pos h_3 xd_fe_start_26 ?_
      refine lv_iload_n hx hb xd_fe_start_27 rfl (lv_at hl 2 rfl) ?_
      refine lv_iload_n hx hb xd_fe_start_28 rfl (lv_at hl 3 rfl) ?_
      refine q_callv hC hS (fun _ h => h) (q_runV (rest := []) hC hW (xC_wf_begin l G S ((x_fe_leastFree S).toNatClampNeg) a b (q_lt h_3) hI (xF_P2 c_1)) (xc_fe_58 (q_rm 1) hC.1.2.2.2.2 ⟨Nat.le_of_ble_eq_true rfl, Nat.le_of_ble_eq_true rfl⟩ rfl rfl) (q_lt h_3) rfl rfl rfl hl.1 rfl (Nat.le_of_ble_eq_true rfl) xd_fe_start_29 ⟨Nat.zero_le _, Nat.zero_le _⟩) (fun H locs hW hS => ?_)
      refine lv_aload_n hx hb xd_fe_start_32 rfl (lv_at hl 1 rfl) ?_
      refine lv_aload_n hx hb xd_fe_start_33 rfl (lv_at hl 1 rfl) ?_
      refine xg_fe_17 hC hW 0 Nat.one_pos xd_fe_start_34 ?_
      refine lv_iload_n hx hb xd_fe_start_37 rfl (lv_at hl 0 rfl) ?_
      have h_4 : vp_in (x_fe_leastFree S) 6 := xF_lf 7 S 0 rfl (by have q := c_2; exact fun z => absurd (Int32.lt_of_le_of_lt q z) (by decide))
      refine xal_2 hC hW 0 Nat.one_pos h_4 xd_fe_start_38 ?_
      have hI_5 : xI (x_wf_begin S ((x_fe_leastFree S).toNatClampNeg) a b) := (xI_wf_begin S ((x_fe_leastFree S).toNatClampNeg) a b (q_lt h_3) hI (xF_P2 c_1))
      have hJ_6 : xJ (x_wf_begin S ((x_fe_leastFree S).toNatClampNeg) a b) := xJ_keep hJ (fun x y z hx => ((xK_wf_begin S ((x_fe_leastFree S).toNatClampNeg) a b x y z (show x ≠ 9 by omega) (show x ≠ 10 by omega) (show x ≠ 11 by omega) (show x ≠ 12 by omega) (show x ≠ 13 by omega) (show x ≠ 14 by omega) (show x ≠ 15 by omega) (show x ≠ 18 by omega))))
      refine q_callv hC hS (fun _ h => h) (q_runV (rest := []) hC hW (xC_fe_run l G (x_wf_begin S ((x_fe_leastFree S).toNatClampNeg) a b) ((x_fe_leastFree S).toNatClampNeg) (q_lt h_4) hI_5 hJ_6) (xc_fe_62 (q_rm 3) hC.1.2.2.2.2 ⟨Nat.le_of_ble_eq_true rfl, Nat.le_of_ble_eq_true rfl⟩ rfl rfl) Nat.one_pos rfl rfl rfl hl.1 rfl (Nat.le_of_ble_eq_true rfl) xd_fe_start_39 ⟨Nat.zero_le _, Nat.zero_le _⟩) (fun H locs hW hS => ?_)
      refine lv_iload_n hx hb xd_fe_start_42 rfl (lv_at hl 0 rfl) ?_
      refine W.eq (g2 := F0 m 43 ls [.int (x_fe_leastFree S)]) rfl ?_
      have hf : x_fe_start S a b = (x_fe_leastFree S, x_fe_run (x_wf_begin S ((x_fe_leastFree S).toNatClampNeg) a b) ((x_fe_leastFree S).toNatClampNeg)) := by unfold x_fe_start; rw [if_neg c_1, if_pos c_2]
      rw [hf]
      exact q_iret hC hr hlocks hW hS rfl rfl xd_fe_start_43
    · -- not taken
      refine lv_bipush (v := (-3)) hx hb xd_fe_start_18 (by decide) ?_
      have hf : x_fe_start S a b = ((-3), S) := by unfold x_fe_start; rw [if_neg c_1, if_neg c_2]
      rw [hf]
      exact q_iret hC hr hlocks hW hS rfl rfl xd_fe_start_20
  · -- not taken
    refine lv_iconst (v := (-1)) hx hb xd_fe_start_7 (by decide) ?_
    have hf : x_fe_start S a b = ((-1), S) := by unfold x_fe_start; rw [if_pos c_1]
    rw [hf]
    exact q_iret hC hr hlocks hW hS rfl rfl xd_fe_start_8
set_option maxRecDepth 100000 in
set_option maxHeartbeats 4000000 in
theorem xI_fe_start (S : q_S) (a b : Int32) (hI : xI S) (hJ : xJ S) : xI ((x_fe_start S a b).2) := by
  by_cases c_1 : x_fe_isProgram S a = 0
  · -- yes
    have hf : x_fe_start S a b = ((-1), S) := by unfold x_fe_start; rw [if_pos c_1]
    rw [hf]
    exact hI
  · -- no
    by_cases c_2 : 0 ≤ x_fe_leastFree S
    · -- yes
      have h_3 : vp_in (x_fe_leastFree S) 6 := xF_lf 7 S 0 rfl (by have q := c_2; exact fun z => absurd (Int32.lt_of_le_of_lt q z) (by decide))
      have h_4 : vp_in (x_fe_leastFree S) 6 := xF_lf 7 S 0 rfl (by have q := c_2; exact fun z => absurd (Int32.lt_of_le_of_lt q z) (by decide))
      have hI_5 : xI (x_wf_begin S ((x_fe_leastFree S).toNatClampNeg) a b) := (xI_wf_begin S ((x_fe_leastFree S).toNatClampNeg) a b (q_lt h_3) hI (xF_P2 c_1))
      have hJ_6 : xJ (x_wf_begin S ((x_fe_leastFree S).toNatClampNeg) a b) := xJ_keep hJ (fun x y z hx => ((xK_wf_begin S ((x_fe_leastFree S).toNatClampNeg) a b x y z (show x ≠ 9 by omega) (show x ≠ 10 by omega) (show x ≠ 11 by omega) (show x ≠ 12 by omega) (show x ≠ 13 by omega) (show x ≠ 14 by omega) (show x ≠ 15 by omega) (show x ≠ 18 by omega))))
      have hf : x_fe_start S a b = (x_fe_leastFree S, x_fe_run (x_wf_begin S ((x_fe_leastFree S).toNatClampNeg) a b) ((x_fe_leastFree S).toNatClampNeg)) := by unfold x_fe_start; rw [if_neg c_1, if_pos c_2]
      rw [hf]
      exact (xI_fe_run (x_wf_begin S ((x_fe_leastFree S).toNatClampNeg) a b) ((x_fe_leastFree S).toNatClampNeg) (q_lt h_4) hI_5 hJ_6)
    · -- no
      have hf : x_fe_start S a b = ((-3), S) := by unfold x_fe_start; rw [if_neg c_1, if_neg c_2]
      rw [hf]
      exact hI
set_option maxRecDepth 100000 in
set_option maxHeartbeats 4000000 in
theorem xK_fe_start (S : q_S) (a b : Int32) (x y z : Nat) (h0 : x ≠ 0) (h3 : x ≠ 3) (h4 : x ≠ 4) (h9 : x ≠ 9) (h10 : x ≠ 10) (h11 : x ≠ 11) (h12 : x ≠ 12) (h13 : x ≠ 13) (h14 : x ≠ 14) (h15 : x ≠ 15) (h16 : x ≠ 16) (h17 : x ≠ 17) (h18 : x ≠ 18) (h19 : x ≠ 19) (h20 : x ≠ 20) (h21 : x ≠ 21) : (x_fe_start S a b).2 x y z = S x y z := by
  by_cases c_1 : x_fe_isProgram S a = 0
  · -- yes
    have hf : x_fe_start S a b = ((-1), S) := by unfold x_fe_start; rw [if_pos c_1]
    rw [hf]
  · -- no
    by_cases c_2 : 0 ≤ x_fe_leastFree S
    · -- yes
      have hf : x_fe_start S a b = (x_fe_leastFree S, x_fe_run (x_wf_begin S ((x_fe_leastFree S).toNatClampNeg) a b) ((x_fe_leastFree S).toNatClampNeg)) := by unfold x_fe_start; rw [if_neg c_1, if_pos c_2]
      rw [hf]
      exact ((xK_fe_run (x_wf_begin S ((x_fe_leastFree S).toNatClampNeg) a b) ((x_fe_leastFree S).toNatClampNeg) x y z h0 h3 h4 h9 h10 h11 h12 h13 h14 h15 h16 h17 h18 h19 h20 h21)).trans (((xK_wf_begin S ((x_fe_leastFree S).toNatClampNeg) a b x y z h9 h10 h11 h12 h13 h14 h15 h18)))
    · -- no
      have hf : x_fe_start S a b = ((-3), S) := by unfold x_fe_start; rw [if_neg c_1, if_neg c_2]
      rw [hf]
def x_fe_remove (S : q_S) (a : Int32) : Int32 × q_S :=
  if x_fe_isThere S a = 0 then
    (0, S)
  else
    (1, q_st (x_fe_dropTask S a.toNatClampNeg) 9 a.toNatClampNeg 6 (.int 0))
set_option maxRecDepth 100000 in
set_option maxHeartbeats 4000000 in
theorem xC_fe_remove (l : Launch) (G : q_G) (S : q_S) (a : Int32) (hI : xI S) : q_Mi xX G l xy_fe_remove (q_ws (q_gw lw_tbl) xy_fe_remove xb_fe_remove 2 (some .boolean)) (q_rm 2) [.ref (q_a xX G 0 0), .int a] S (x_fe_remove S a).1 (x_fe_remove S a).2 := by
  refine q_met (cc := xb_fe_remove) (maxL := 2) (ret := (some .boolean)) xOk (by decide) rfl (Nat.le_of_ble_eq_true rfl) ?_
  intro p e s m below meth c ls hC hr hlocks hW hS hl
  have hx := hC.1.1
  have hb := hC.1.2.1
  have hl : lv_has ls 2 [(0, .ref (q_a xX G 0 0)), (1, .int a)] := hl
  refine lv_aload_n hx hb xd_fe_remove_0 rfl (lv_at hl 0 rfl) ?_
  refine lv_iload_n hx hb xd_fe_remove_1 rfl (lv_at hl 1 rfl) ?_
  refine q_calli hC hS (fun _ h => h) (q_runV (rest := []) hC hW (xC_fe_isThere l G S a) (xc_fe_66 (q_rm 0) hC.1.2.2.2.2 ⟨Nat.le_of_ble_eq_true rfl, Nat.le_of_ble_eq_true rfl⟩ rfl rfl) Nat.one_pos rfl rfl rfl hl.1 rfl (Nat.le_of_ble_eq_true rfl) xd_fe_remove_2 ⟨Nat.zero_le _, Nat.zero_le _⟩) (fun H locs hW hS => ?_)
  refine lv_if_ne (tgt := 10) hx hb xd_fe_remove_5 (by decide) (fun c_1 => ?_) (fun c_1 => ?_)
  · -- taken
    refine lv_aload_n hx hb xd_fe_remove_10 rfl (lv_at hl 0 rfl) ?_
    refine lv_aload_n hx hb xd_fe_remove_11 rfl (lv_at hl 0 rfl) ?_
    refine xg_fe_17 hC hW 0 Nat.one_pos xd_fe_remove_12 ?_
    refine lv_iload_n hx hb xd_fe_remove_15 rfl (lv_at hl 1 rfl) ?_
    have h_2 : vp_in a 6 := by obtain ⟨f_c_1_0, f_c_1_1⟩ := xF_isT c_1; simp only [vp_in_iff, Int32.lt_iff_toInt_lt, Int32.le_iff_toInt_le, q_n0, q_n1, q_n2, q_n3, q_n4, q_n5, q_n6, q_n7, q_n10, q_n14, q_n15, q_n20, q_n60, q_n1288] at f_c_1_0 f_c_1_1 ⊢; omega
    refine xal_2 hC hW 0 Nat.one_pos h_2 xd_fe_remove_16 ?_
    refine q_callv hC hS (fun _ h => h) (q_runV (rest := []) hC hW (xC_fe_dropTask l G S a.toNatClampNeg (q_lt h_2) hI) (xc_fe_69 (q_rm 1) hC.1.2.2.2.2 ⟨Nat.le_of_ble_eq_true rfl, Nat.le_of_ble_eq_true rfl⟩ rfl rfl) Nat.one_pos rfl rfl rfl hl.1 rfl (Nat.le_of_ble_eq_true rfl) xd_fe_remove_17 ⟨Nat.zero_le _, Nat.zero_le _⟩) (fun H locs hW hS => ?_)
    refine lv_aload_n hx hb xd_fe_remove_20 rfl (lv_at hl 0 rfl) ?_
    refine xg_fe_17 hC hW 0 Nat.one_pos xd_fe_remove_21 ?_
    refine lv_iload_n hx hb xd_fe_remove_24 rfl (lv_at hl 1 rfl) ?_
    have h_3 : vp_in a 6 := by obtain ⟨f_c_1_0, f_c_1_1⟩ := xF_isT c_1; simp only [vp_in_iff, Int32.lt_iff_toInt_lt, Int32.le_iff_toInt_le, q_n0, q_n1, q_n2, q_n3, q_n4, q_n5, q_n6, q_n7, q_n10, q_n14, q_n15, q_n20, q_n60, q_n1288] at f_c_1_0 f_c_1_1 ⊢; omega
    refine xal_2 hC hW 0 Nat.one_pos h_3 xd_fe_remove_25 ?_
    refine lv_iconst (v := 0) hx hb xd_fe_remove_26 (by decide) ?_
    refine xg_fe_72p hC hW hS (fun _ h => h) a.toNatClampNeg (q_lt h_3) rfl rfl xd_fe_remove_27 (fun H locs hW hS => ?_)
    refine lv_iconst (v := 1) hx hb xd_fe_remove_30 (by decide) ?_
    have hf : x_fe_remove S a = (1, q_st (x_fe_dropTask S a.toNatClampNeg) 9 a.toNatClampNeg 6 (.int 0)) := by unfold x_fe_remove; rw [if_neg c_1]
    rw [hf]
    exact q_zret hC hr hlocks hW hS (by decide) rfl rfl xd_fe_remove_31
  · -- not taken
    refine lv_iconst (v := 0) hx hb xd_fe_remove_8 (by decide) ?_
    have hf : x_fe_remove S a = (0, S) := by unfold x_fe_remove; rw [if_pos c_1]
    rw [hf]
    exact q_zret hC hr hlocks hW hS (by decide) rfl rfl xd_fe_remove_9
set_option maxRecDepth 100000 in
set_option maxHeartbeats 4000000 in
theorem xI_fe_remove (S : q_S) (a : Int32) (hI : xI S) : xI ((x_fe_remove S a).2) := by
  by_cases c_1 : x_fe_isThere S a = 0
  · -- yes
    have hf : x_fe_remove S a = (0, S) := by unfold x_fe_remove; rw [if_pos c_1]
    rw [hf]
    exact hI
  · -- no
    have h_2 : vp_in a 6 := by obtain ⟨f_c_1_0, f_c_1_1⟩ := xF_isT c_1; simp only [vp_in_iff, Int32.lt_iff_toInt_lt, Int32.le_iff_toInt_le, q_n0, q_n1, q_n2, q_n3, q_n4, q_n5, q_n6, q_n7, q_n10, q_n14, q_n15, q_n20, q_n60, q_n1288] at f_c_1_0 f_c_1_1 ⊢; omega
    have h_3 : vp_in a 6 := by obtain ⟨f_c_1_0, f_c_1_1⟩ := xF_isT c_1; simp only [vp_in_iff, Int32.lt_iff_toInt_lt, Int32.le_iff_toInt_le, q_n0, q_n1, q_n2, q_n3, q_n4, q_n5, q_n6, q_n7, q_n10, q_n14, q_n15, q_n20, q_n60, q_n1288] at f_c_1_0 f_c_1_1 ⊢; omega
    have hf : x_fe_remove S a = (1, q_st (x_fe_dropTask S a.toNatClampNeg) 9 a.toNatClampNeg 6 (.int 0)) := by unfold x_fe_remove; rw [if_neg c_1]
    rw [hf]
    exact (q_Is (xI_fe_dropTask S a.toNatClampNeg (q_lt h_2) hI) rfl)
set_option maxRecDepth 100000 in
set_option maxHeartbeats 4000000 in
theorem xK_fe_remove (S : q_S) (a : Int32) (x y z : Nat) (h3 : x ≠ 3) (h4 : x ≠ 4) (h9 : x ≠ 9) (h21 : x ≠ 21) : (x_fe_remove S a).2 x y z = S x y z := by
  by_cases c_1 : x_fe_isThere S a = 0
  · -- yes
    have hf : x_fe_remove S a = (0, S) := by unfold x_fe_remove; rw [if_pos c_1]
    rw [hf]
  · -- no
    have hf : x_fe_remove S a = (1, q_st (x_fe_dropTask S a.toNatClampNeg) 9 a.toNatClampNeg 6 (.int 0)) := by unfold x_fe_remove; rw [if_neg c_1]
    rw [hf]
    exact (q_kj h9).trans (((xK_fe_dropTask S a.toNatClampNeg x y z h3 h4 h21)))
def x_fe_signal (S : q_S) (a b d : Int32) : Int32 × q_S :=
  if x_fe_isThere S a = 0 then
    ((-1), S)
  else
    if b < 0 then
      ((-1), S)
    else
      if b < 4 then
        if x_wf_hasEnded S a.toNatClampNeg = 0 then
          if x_ke_isFull S a.toNatClampNeg = 0 then
            if x_wf_waitsFor (x_fe_remember S a.toNatClampNeg) a.toNatClampNeg 7 b = 0 then
              if x_wf_hasEnded (x_fe_remember S a.toNatClampNeg) a.toNatClampNeg = 0 then
                (0, x_ke_keep (x_fe_remember S a.toNatClampNeg) a.toNatClampNeg b d)
              else
                (0, x_fe_remember S a.toNatClampNeg)
            else
              (1, x_fe_happen (x_fe_remember S a.toNatClampNeg) a.toNatClampNeg 7 b d)
          else
            ((-3), S)
        else
          ((-2), S)
      else
        ((-1), S)
set_option maxRecDepth 100000 in
set_option maxHeartbeats 4000000 in
theorem xC_fe_signal (l : Launch) (G : q_G) (S : q_S) (a b d : Int32) (hI : xI S) (hJ : xJ S) : q_Mi xX G l xy_fe_signal (q_ws (q_gw lw_tbl) xy_fe_signal xb_fe_signal 5 (some .int)) (q_rm 5) [.ref (q_a xX G 0 0), .int a, .int b, .int d] S (x_fe_signal S a b d).1 (x_fe_signal S a b d).2 := by
  refine q_met (cc := xb_fe_signal) (maxL := 5) (ret := (some .int)) xOk (by decide) rfl (Nat.le_of_ble_eq_true rfl) ?_
  intro p e s m below meth c ls hC hr hlocks hW hS hl
  have hx := hC.1.1
  have hb := hC.1.2.1
  have hl : lv_has ls 5 [(0, .ref (q_a xX G 0 0)), (1, .int a), (2, .int b), (3, .int d)] := hl
  refine lv_aload_n hx hb xd_fe_signal_0 rfl (lv_at hl 0 rfl) ?_
  refine lv_iload_n hx hb xd_fe_signal_1 rfl (lv_at hl 1 rfl) ?_
  refine q_calli hC hS (fun _ h => h) (q_runV (rest := []) hC hW (xC_fe_isThere l G S a) (xc_fe_66 (q_rm 0) hC.1.2.2.2.2 ⟨Nat.le_of_ble_eq_true rfl, Nat.le_of_ble_eq_true rfl⟩ rfl rfl) Nat.one_pos rfl rfl rfl hl.1 rfl (Nat.le_of_ble_eq_true rfl) xd_fe_signal_2 ⟨Nat.zero_le _, Nat.zero_le _⟩) (fun H locs hW hS => ?_)
  refine lv_if_eq (tgt := 17) hx hb xd_fe_signal_5 (by decide) (fun c_1 => ?_) (fun c_1 => ?_)
  · -- taken
    refine lv_iconst (v := (-1)) hx hb xd_fe_signal_17 (by decide) ?_
    have hf : x_fe_signal S a b d = ((-1), S) := by unfold x_fe_signal; rw [if_pos c_1]
    rw [hf]
    exact q_iret hC hr hlocks hW hS rfl rfl xd_fe_signal_18
  · -- not taken
    refine lv_iload_n hx hb xd_fe_signal_8 rfl (lv_at hl 2 rfl) ?_
    refine lv_if_lt (tgt := 17) hx hb xd_fe_signal_9 (by decide) (fun c_2 => ?_) (fun c_2 => ?_)
    · -- taken
      refine lv_iconst (v := (-1)) hx hb xd_fe_signal_17 (by decide) ?_
      have hf : x_fe_signal S a b d = ((-1), S) := by unfold x_fe_signal; rw [if_neg c_1, if_pos c_2]
      rw [hf]
      exact q_iret hC hr hlocks hW hS rfl rfl xd_fe_signal_18
    · -- not taken
      refine lv_iload_n hx hb xd_fe_signal_12 rfl (lv_at hl 2 rfl) ?_
      refine lv_iconst (v := 4) hx hb xd_fe_signal_13 (by decide) ?_
      refine lv_icmp_lt (tgt := 19) hx hb xd_fe_signal_14 (by decide) (fun c_3 => ?_) (fun c_3 => ?_)
      · -- taken
        refine lv_aload_n hx hb xd_fe_signal_19 rfl (lv_at hl 0 rfl) ?_
        refine xg_fe_17 hC hW 0 Nat.one_pos xd_fe_signal_20 ?_
        refine lv_iload_n hx hb xd_fe_signal_23 rfl (lv_at hl 1 rfl) ?_
        have h_4 : vp_in a 6 := by obtain ⟨f_c_1_0, f_c_1_1⟩ := xF_isT c_1; simp only [vp_in_iff, Int32.lt_iff_toInt_lt, Int32.le_iff_toInt_le, q_n0, q_n1, q_n2, q_n3, q_n4, q_n5, q_n6, q_n7, q_n10, q_n14, q_n15, q_n20, q_n60, q_n1288] at f_c_1_0 f_c_1_1 c_2 c_3 ⊢; omega
        refine xal_2 hC hW 0 Nat.one_pos h_4 xd_fe_signal_24 ?_
        refine lv_astore (lv' := [(4, .ref (q_a xX G 9 a.toNatClampNeg)), (0, .ref (q_a xX G 0 0)), (1, .int a), (2, .int b), (3, .int d)]) hx hb xd_fe_signal_25 hl (by decide) rfl (fun ls hl => ?_)
        refine lv_aload hx hb xd_fe_signal_27 (lv_at hl 0 rfl) ?_
        refine q_calli hC hS (fun _ h => h) (q_runV (rest := []) hC hW (xC_wf_hasEnded l G S a.toNatClampNeg (q_lt h_4)) (xc_fe_76 (q_rm 0) hC.1.2.2.2.2 ⟨Nat.le_of_ble_eq_true rfl, Nat.le_of_ble_eq_true rfl⟩ rfl rfl) (q_lt h_4) rfl rfl rfl hl.1 rfl (Nat.le_of_ble_eq_true rfl) xd_fe_signal_29 ⟨Nat.zero_le _, Nat.zero_le _⟩) (fun H locs hW hS => ?_)
        refine lv_if_eq (tgt := 38) hx hb xd_fe_signal_32 (by decide) (fun c_5 => ?_) (fun c_5 => ?_)
        · -- taken
          refine lv_aload hx hb xd_fe_signal_38 (lv_at hl 0 rfl) ?_
          refine xg_fe_80 hC hW a.toNatClampNeg (q_lt h_4) xd_fe_signal_40 ?_
          refine q_calli hC hS (fun _ h => h) (q_runV (rest := []) hC hW (xC_ke_isFull l G S a.toNatClampNeg (q_lt h_4)) (xc_fe_84 (q_rm 0) hC.1.2.2.2.2 ⟨Nat.le_of_ble_eq_true rfl, Nat.le_of_ble_eq_true rfl⟩ rfl rfl) (q_lt h_4) rfl rfl rfl hl.1 rfl (Nat.le_of_ble_eq_true rfl) xd_fe_signal_43 ⟨Nat.zero_le _, Nat.zero_le _⟩) (fun H locs hW hS => ?_)
          refine lv_if_eq (tgt := 52) hx hb xd_fe_signal_46 (by decide) (fun c_6 => ?_) (fun c_6 => ?_)
          · -- taken
            refine lv_aload_n hx hb xd_fe_signal_52 rfl (lv_at hl 1 rfl) ?_
            refine lv_aload hx hb xd_fe_signal_53 (lv_at hl 0 rfl) ?_
            refine q_callv hC hS (fun _ h => h) (q_runV (rest := []) hC hW (xC_fe_remember l G S a.toNatClampNeg (q_lt h_4) hI hJ) (xc_fe_89 (q_rm 4) hC.1.2.2.2.2 ⟨Nat.le_of_ble_eq_true rfl, Nat.le_of_ble_eq_true rfl⟩ rfl rfl) Nat.one_pos rfl rfl rfl hl.1 rfl (Nat.le_of_ble_eq_true rfl) xd_fe_signal_55 ⟨Nat.zero_le _, Nat.zero_le _⟩) (fun H locs hW hS => ?_)
            refine lv_aload hx hb xd_fe_signal_58 (lv_at hl 0 rfl) ?_
            refine lv_bipush (v := 7) hx hb xd_fe_signal_60 (by decide) ?_
            refine lv_iload_n hx hb xd_fe_signal_62 rfl (lv_at hl 3 rfl) ?_
            refine q_calli hC hS (fun _ h => h) (q_runV (rest := []) hC hW (xC_wf_waitsFor l G (x_fe_remember S a.toNatClampNeg) a.toNatClampNeg 7 b (q_lt h_4)) (xc_fe_92 (q_rm 0) hC.1.2.2.2.2 ⟨Nat.le_of_ble_eq_true rfl, Nat.le_of_ble_eq_true rfl⟩ rfl rfl) (q_lt h_4) rfl rfl rfl hl.1 rfl (Nat.le_of_ble_eq_true rfl) xd_fe_signal_63 ⟨Nat.zero_le _, Nat.zero_le _⟩) (fun H locs hW hS => ?_)
            refine lv_if_eq (tgt := 81) hx hb xd_fe_signal_66 (by decide) (fun c_7 => ?_) (fun c_7 => ?_)
            · -- taken
              refine lv_aload hx hb xd_fe_signal_81 (lv_at hl 0 rfl) ?_
              refine q_calli hC hS (fun _ h => h) (q_runV (rest := []) hC hW (xC_wf_hasEnded l G (x_fe_remember S a.toNatClampNeg) a.toNatClampNeg (q_lt h_4)) (xc_fe_76 (q_rm 0) hC.1.2.2.2.2 ⟨Nat.le_of_ble_eq_true rfl, Nat.le_of_ble_eq_true rfl⟩ rfl rfl) (q_lt h_4) rfl rfl rfl hl.1 rfl (Nat.le_of_ble_eq_true rfl) xd_fe_signal_83 ⟨Nat.zero_le _, Nat.zero_le _⟩) (fun H locs hW hS => ?_)
              refine lv_if_ne (tgt := 99) hx hb xd_fe_signal_86 (by decide) (fun c_8 => ?_) (fun c_8 => ?_)
              · -- taken
                refine lv_iconst (v := 0) hx hb xd_fe_signal_99 (by decide) ?_
                have hf : x_fe_signal S a b d = (0, x_fe_remember S a.toNatClampNeg) := by unfold x_fe_signal; rw [if_neg c_1, if_neg c_2, if_pos c_3, if_pos c_5, if_pos c_6, if_pos c_7, if_neg c_8]
                rw [hf]
                exact q_iret hC hr hlocks hW hS rfl rfl xd_fe_signal_100
              · -- not taken
                refine lv_aload hx hb xd_fe_signal_89 (lv_at hl 0 rfl) ?_
                refine xg_fe_80 hC hW a.toNatClampNeg (q_lt h_4) xd_fe_signal_91 ?_
                refine lv_iload_n hx hb xd_fe_signal_94 rfl (lv_at hl 3 rfl) ?_
                refine lv_iload_n hx hb xd_fe_signal_95 rfl (lv_at hl 4 rfl) ?_
                have hI_9 : xI (x_fe_remember S a.toNatClampNeg) := (xI_fe_remember S a.toNatClampNeg (q_lt h_4) hI hJ)
                refine q_callv hC hS (fun _ h => h) (q_runV (rest := []) hC hW (xC_ke_keep l G (x_fe_remember S a.toNatClampNeg) a.toNatClampNeg b d (q_lt h_4) hI_9) (xc_fe_100 (q_rm 1) hC.1.2.2.2.2 ⟨Nat.le_of_ble_eq_true rfl, Nat.le_of_ble_eq_true rfl⟩ rfl rfl) (q_lt h_4) rfl rfl rfl hl.1 rfl (Nat.le_of_ble_eq_true rfl) xd_fe_signal_96 ⟨Nat.zero_le _, Nat.zero_le _⟩) (fun H locs hW hS => ?_)
                refine lv_iconst (v := 0) hx hb xd_fe_signal_99 (by decide) ?_
                have hf : x_fe_signal S a b d = (0, x_ke_keep (x_fe_remember S a.toNatClampNeg) a.toNatClampNeg b d) := by unfold x_fe_signal; rw [if_neg c_1, if_neg c_2, if_pos c_3, if_pos c_5, if_pos c_6, if_pos c_7, if_pos c_8]
                rw [hf]
                exact q_iret hC hr hlocks hW hS rfl rfl xd_fe_signal_100
            · -- not taken
              refine lv_aload_n hx hb xd_fe_signal_69 rfl (lv_at hl 1 rfl) ?_
              refine lv_aload hx hb xd_fe_signal_70 (lv_at hl 0 rfl) ?_
              refine lv_bipush (v := 7) hx hb xd_fe_signal_72 (by decide) ?_
              refine lv_iload_n hx hb xd_fe_signal_74 rfl (lv_at hl 3 rfl) ?_
              refine lv_iload_n hx hb xd_fe_signal_75 rfl (lv_at hl 4 rfl) ?_
              have hI_10 : xI (x_fe_remember S a.toNatClampNeg) := (xI_fe_remember S a.toNatClampNeg (q_lt h_4) hI hJ)
              have hJ_11 : xJ (x_fe_remember S a.toNatClampNeg) := xJ_keep hJ (fun x y z hx => ((xK_fe_remember S a.toNatClampNeg x y z (show x ≠ 0 by omega) (show x ≠ 3 by omega) (show x ≠ 4 by omega) (show x ≠ 9 by omega) (show x ≠ 10 by omega) (show x ≠ 11 by omega) (show x ≠ 12 by omega) (show x ≠ 13 by omega) (show x ≠ 14 by omega) (show x ≠ 15 by omega) (show x ≠ 16 by omega) (show x ≠ 17 by omega) (show x ≠ 18 by omega) (show x ≠ 19 by omega) (show x ≠ 20 by omega) (show x ≠ 21 by omega))))
              refine q_callv hC hS (fun _ h => h) (q_runV (rest := []) hC hW (xC_fe_happen l G (x_fe_remember S a.toNatClampNeg) a.toNatClampNeg 7 b d (q_lt h_4) hI_10 hJ_11) (xc_fe_96 (q_rm 4) hC.1.2.2.2.2 ⟨Nat.le_of_ble_eq_true rfl, Nat.le_of_ble_eq_true rfl⟩ rfl rfl) Nat.one_pos rfl rfl rfl hl.1 rfl (Nat.le_of_ble_eq_true rfl) xd_fe_signal_76 ⟨Nat.zero_le _, Nat.zero_le _⟩) (fun H locs hW hS => ?_)
              refine lv_iconst (v := 1) hx hb xd_fe_signal_79 (by decide) ?_
              have hf : x_fe_signal S a b d = (1, x_fe_happen (x_fe_remember S a.toNatClampNeg) a.toNatClampNeg 7 b d) := by unfold x_fe_signal; rw [if_neg c_1, if_neg c_2, if_pos c_3, if_pos c_5, if_pos c_6, if_neg c_7]
              rw [hf]
              exact q_iret hC hr hlocks hW hS rfl rfl xd_fe_signal_80
          · -- not taken
            refine lv_bipush (v := (-3)) hx hb xd_fe_signal_49 (by decide) ?_
            have hf : x_fe_signal S a b d = ((-3), S) := by unfold x_fe_signal; rw [if_neg c_1, if_neg c_2, if_pos c_3, if_pos c_5, if_neg c_6]
            rw [hf]
            exact q_iret hC hr hlocks hW hS rfl rfl xd_fe_signal_51
        · -- not taken
          refine lv_bipush (v := (-2)) hx hb xd_fe_signal_35 (by decide) ?_
          have hf : x_fe_signal S a b d = ((-2), S) := by unfold x_fe_signal; rw [if_neg c_1, if_neg c_2, if_pos c_3, if_neg c_5]
          rw [hf]
          exact q_iret hC hr hlocks hW hS rfl rfl xd_fe_signal_37
      · -- not taken
        refine lv_iconst (v := (-1)) hx hb xd_fe_signal_17 (by decide) ?_
        have hf : x_fe_signal S a b d = ((-1), S) := by unfold x_fe_signal; rw [if_neg c_1, if_neg c_2, if_neg c_3]
        rw [hf]
        exact q_iret hC hr hlocks hW hS rfl rfl xd_fe_signal_18
set_option maxRecDepth 100000 in
set_option maxHeartbeats 4000000 in
theorem xI_fe_signal (S : q_S) (a b d : Int32) (hI : xI S) (hJ : xJ S) : xI ((x_fe_signal S a b d).2) := by
  by_cases c_1 : x_fe_isThere S a = 0
  · -- yes
    have hf : x_fe_signal S a b d = ((-1), S) := by unfold x_fe_signal; rw [if_pos c_1]
    rw [hf]
    exact hI
  · -- no
    by_cases c_2 : b < 0
    · -- yes
      have hf : x_fe_signal S a b d = ((-1), S) := by unfold x_fe_signal; rw [if_neg c_1, if_pos c_2]
      rw [hf]
      exact hI
    · -- no
      by_cases c_3 : b < 4
      · -- yes
        by_cases c_5 : x_wf_hasEnded S a.toNatClampNeg = 0
        · -- yes
          by_cases c_6 : x_ke_isFull S a.toNatClampNeg = 0
          · -- yes
            by_cases c_7 : x_wf_waitsFor (x_fe_remember S a.toNatClampNeg) a.toNatClampNeg 7 b = 0
            · -- yes
              by_cases c_8 : x_wf_hasEnded (x_fe_remember S a.toNatClampNeg) a.toNatClampNeg = 0
              · -- yes
                have h_4 : vp_in a 6 := by obtain ⟨f_c_1_0, f_c_1_1⟩ := xF_isT c_1; simp only [vp_in_iff, Int32.lt_iff_toInt_lt, Int32.le_iff_toInt_le, q_n0, q_n1, q_n2, q_n3, q_n4, q_n5, q_n6, q_n7, q_n10, q_n14, q_n15, q_n20, q_n60, q_n1288] at f_c_1_0 f_c_1_1 c_2 c_3 ⊢; omega
                have hI_9 : xI (x_fe_remember S a.toNatClampNeg) := (xI_fe_remember S a.toNatClampNeg (q_lt h_4) hI hJ)
                have hf : x_fe_signal S a b d = (0, x_ke_keep (x_fe_remember S a.toNatClampNeg) a.toNatClampNeg b d) := by unfold x_fe_signal; rw [if_neg c_1, if_neg c_2, if_pos c_3, if_pos c_5, if_pos c_6, if_pos c_7, if_pos c_8]
                rw [hf]
                exact (xI_ke_keep (x_fe_remember S a.toNatClampNeg) a.toNatClampNeg b d (q_lt h_4) hI_9)
              · -- no
                have h_4 : vp_in a 6 := by obtain ⟨f_c_1_0, f_c_1_1⟩ := xF_isT c_1; simp only [vp_in_iff, Int32.lt_iff_toInt_lt, Int32.le_iff_toInt_le, q_n0, q_n1, q_n2, q_n3, q_n4, q_n5, q_n6, q_n7, q_n10, q_n14, q_n15, q_n20, q_n60, q_n1288] at f_c_1_0 f_c_1_1 c_2 c_3 ⊢; omega
                have hf : x_fe_signal S a b d = (0, x_fe_remember S a.toNatClampNeg) := by unfold x_fe_signal; rw [if_neg c_1, if_neg c_2, if_pos c_3, if_pos c_5, if_pos c_6, if_pos c_7, if_neg c_8]
                rw [hf]
                exact (xI_fe_remember S a.toNatClampNeg (q_lt h_4) hI hJ)
            · -- no
              have h_4 : vp_in a 6 := by obtain ⟨f_c_1_0, f_c_1_1⟩ := xF_isT c_1; simp only [vp_in_iff, Int32.lt_iff_toInt_lt, Int32.le_iff_toInt_le, q_n0, q_n1, q_n2, q_n3, q_n4, q_n5, q_n6, q_n7, q_n10, q_n14, q_n15, q_n20, q_n60, q_n1288] at f_c_1_0 f_c_1_1 c_2 c_3 ⊢; omega
              have hI_10 : xI (x_fe_remember S a.toNatClampNeg) := (xI_fe_remember S a.toNatClampNeg (q_lt h_4) hI hJ)
              have hJ_11 : xJ (x_fe_remember S a.toNatClampNeg) := xJ_keep hJ (fun x y z hx => ((xK_fe_remember S a.toNatClampNeg x y z (show x ≠ 0 by omega) (show x ≠ 3 by omega) (show x ≠ 4 by omega) (show x ≠ 9 by omega) (show x ≠ 10 by omega) (show x ≠ 11 by omega) (show x ≠ 12 by omega) (show x ≠ 13 by omega) (show x ≠ 14 by omega) (show x ≠ 15 by omega) (show x ≠ 16 by omega) (show x ≠ 17 by omega) (show x ≠ 18 by omega) (show x ≠ 19 by omega) (show x ≠ 20 by omega) (show x ≠ 21 by omega))))
              have hf : x_fe_signal S a b d = (1, x_fe_happen (x_fe_remember S a.toNatClampNeg) a.toNatClampNeg 7 b d) := by unfold x_fe_signal; rw [if_neg c_1, if_neg c_2, if_pos c_3, if_pos c_5, if_pos c_6, if_neg c_7]
              rw [hf]
              exact (xI_fe_happen (x_fe_remember S a.toNatClampNeg) a.toNatClampNeg 7 b d (q_lt h_4) hI_10 hJ_11)
          · -- no
            have h_4 : vp_in a 6 := by obtain ⟨f_c_1_0, f_c_1_1⟩ := xF_isT c_1; simp only [vp_in_iff, Int32.lt_iff_toInt_lt, Int32.le_iff_toInt_le, q_n0, q_n1, q_n2, q_n3, q_n4, q_n5, q_n6, q_n7, q_n10, q_n14, q_n15, q_n20, q_n60, q_n1288] at f_c_1_0 f_c_1_1 c_2 c_3 ⊢; omega
            have hf : x_fe_signal S a b d = ((-3), S) := by unfold x_fe_signal; rw [if_neg c_1, if_neg c_2, if_pos c_3, if_pos c_5, if_neg c_6]
            rw [hf]
            exact hI
        · -- no
          have h_4 : vp_in a 6 := by obtain ⟨f_c_1_0, f_c_1_1⟩ := xF_isT c_1; simp only [vp_in_iff, Int32.lt_iff_toInt_lt, Int32.le_iff_toInt_le, q_n0, q_n1, q_n2, q_n3, q_n4, q_n5, q_n6, q_n7, q_n10, q_n14, q_n15, q_n20, q_n60, q_n1288] at f_c_1_0 f_c_1_1 c_2 c_3 ⊢; omega
          have hf : x_fe_signal S a b d = ((-2), S) := by unfold x_fe_signal; rw [if_neg c_1, if_neg c_2, if_pos c_3, if_neg c_5]
          rw [hf]
          exact hI
      · -- no
        have hf : x_fe_signal S a b d = ((-1), S) := by unfold x_fe_signal; rw [if_neg c_1, if_neg c_2, if_neg c_3]
        rw [hf]
        exact hI
set_option maxRecDepth 100000 in
set_option maxHeartbeats 4000000 in
theorem xK_fe_signal (S : q_S) (a b d : Int32) (x y z : Nat) (h0 : x ≠ 0) (h3 : x ≠ 3) (h4 : x ≠ 4) (h9 : x ≠ 9) (h10 : x ≠ 10) (h11 : x ≠ 11) (h12 : x ≠ 12) (h13 : x ≠ 13) (h14 : x ≠ 14) (h15 : x ≠ 15) (h16 : x ≠ 16) (h17 : x ≠ 17) (h18 : x ≠ 18) (h19 : x ≠ 19) (h20 : x ≠ 20) (h21 : x ≠ 21) : (x_fe_signal S a b d).2 x y z = S x y z := by
  by_cases c_1 : x_fe_isThere S a = 0
  · -- yes
    have hf : x_fe_signal S a b d = ((-1), S) := by unfold x_fe_signal; rw [if_pos c_1]
    rw [hf]
  · -- no
    by_cases c_2 : b < 0
    · -- yes
      have hf : x_fe_signal S a b d = ((-1), S) := by unfold x_fe_signal; rw [if_neg c_1, if_pos c_2]
      rw [hf]
    · -- no
      by_cases c_3 : b < 4
      · -- yes
        by_cases c_5 : x_wf_hasEnded S a.toNatClampNeg = 0
        · -- yes
          by_cases c_6 : x_ke_isFull S a.toNatClampNeg = 0
          · -- yes
            by_cases c_7 : x_wf_waitsFor (x_fe_remember S a.toNatClampNeg) a.toNatClampNeg 7 b = 0
            · -- yes
              by_cases c_8 : x_wf_hasEnded (x_fe_remember S a.toNatClampNeg) a.toNatClampNeg = 0
              · -- yes
                have hf : x_fe_signal S a b d = (0, x_ke_keep (x_fe_remember S a.toNatClampNeg) a.toNatClampNeg b d) := by unfold x_fe_signal; rw [if_neg c_1, if_neg c_2, if_pos c_3, if_pos c_5, if_pos c_6, if_pos c_7, if_pos c_8]
                rw [hf]
                exact ((xK_ke_keep (x_fe_remember S a.toNatClampNeg) a.toNatClampNeg b d x y z h15 h16 h17)).trans (((xK_fe_remember S a.toNatClampNeg x y z h0 h3 h4 h9 h10 h11 h12 h13 h14 h15 h16 h17 h18 h19 h20 h21)))
              · -- no
                have hf : x_fe_signal S a b d = (0, x_fe_remember S a.toNatClampNeg) := by unfold x_fe_signal; rw [if_neg c_1, if_neg c_2, if_pos c_3, if_pos c_5, if_pos c_6, if_pos c_7, if_neg c_8]
                rw [hf]
                exact ((xK_fe_remember S a.toNatClampNeg x y z h0 h3 h4 h9 h10 h11 h12 h13 h14 h15 h16 h17 h18 h19 h20 h21))
            · -- no
              have hf : x_fe_signal S a b d = (1, x_fe_happen (x_fe_remember S a.toNatClampNeg) a.toNatClampNeg 7 b d) := by unfold x_fe_signal; rw [if_neg c_1, if_neg c_2, if_pos c_3, if_pos c_5, if_pos c_6, if_neg c_7]
              rw [hf]
              exact ((xK_fe_happen (x_fe_remember S a.toNatClampNeg) a.toNatClampNeg 7 b d x y z h0 h3 h4 h9 h10 h11 h12 h13 h14 h15 h16 h17 h18 h19 h20 h21)).trans (((xK_fe_remember S a.toNatClampNeg x y z h0 h3 h4 h9 h10 h11 h12 h13 h14 h15 h16 h17 h18 h19 h20 h21)))
          · -- no
            have hf : x_fe_signal S a b d = ((-3), S) := by unfold x_fe_signal; rw [if_neg c_1, if_neg c_2, if_pos c_3, if_pos c_5, if_neg c_6]
            rw [hf]
        · -- no
          have hf : x_fe_signal S a b d = ((-2), S) := by unfold x_fe_signal; rw [if_neg c_1, if_neg c_2, if_pos c_3, if_neg c_5]
          rw [hf]
      · -- no
        have hf : x_fe_signal S a b d = ((-1), S) := by unfold x_fe_signal; rw [if_neg c_1, if_neg c_2, if_neg c_3]
        rw [hf]
def x_fe_take_2 : Nat → q_S → Nat → Int32 × q_S
  | 0, S, _ => (0, S)
  | n + 1, S, t =>
    if q_i (S 3 0 1) ≤ nI t then
      ((-2), S)
    else
      if q_i (S 0 0 3) < q_i (S 21 ((q_i (S 4 0 ((nI t).toNatClampNeg))).toNatClampNeg) 4) then
        x_fe_take_2 n S (t + 1)
      else
        (q_i (S 4 0 ((nI t).toNatClampNeg)), x_ta_goOut (x_tl_drop S (q_i (S 4 0 ((nI t).toNatClampNeg)))) ((q_i (S 4 0 ((nI t).toNatClampNeg))).toNatClampNeg) (q_i (S 0 0 3)))
set_option maxRecDepth 100000 in
set_option maxHeartbeats 4000000 in
theorem xL_fe_take_2 (l : Launch) (G : q_G)  {p : Program} {e : Env} {s : State} {m : MethodId} {below : List Frame} {meth : Method} {c : Code} (hC : q_C xX G p m c xb_fe_take 4 s ([.ref (q_a xX G 0 0)] : List Value).toArray (q_ws (q_gw lw_tbl) xy_fe_take xb_fe_take 4 (some .int)) xR_fe) (hr : meth.sig.returnType = (some .int)) (hlocks : meth.locks = false) : ∀ (n : Nat) (S : q_S) (t : Nat) (H : Heap) (locs : List Loc) (ls : Array Slot), t + n = 7 → t ≤ 6 → xI S → q_w xX G s S H → va_S (q_A xX G) s.heap H locs → lv_has ls 4 [(0, .ref (q_a xX G 0 0)), (1, .int (nI t))] → W p l e (headSpec (q_ws (q_gw lw_tbl) xy_fe_take xb_fe_take 4 (some .int)) (q_rm 1)).room s m ([.ref (q_a xX G 0 0)] : List Value).toArray below meth c H locs 0 0 (MQ below (va_Qi (fun (r' : Int32) (u : q_S) => r' = (x_fe_take_2 n S t).1 ∧ u = (x_fe_take_2 n S t).2) (q_P xX G) (q_A xX G)) ([.ref (q_a xX G 0 0)] : List Value).toArray s 0 0 (q_A xX G)) (F0 m 2 ls []) := by
  have hx := hC.1.1
  have hb := hC.1.2.1
  intro n
  induction n with
  | zero =>
    intro S t H locs ls ht hu hI hW hS hl
    exfalso
    omega
  | succ n ih =>
    intro S t H locs ls ht hu hI hW hS hl
    refine lv_iload_n hx hb xd_fe_take_2 rfl (lv_at hl 1 rfl) ?_
    refine lv_aload_n hx hb xd_fe_take_3 rfl (lv_at hl 0 rfl) ?_
    refine xg_fe_24 hC hW 0 Nat.one_pos xd_fe_take_4 ?_
    refine xg_fe_103 hC hW 0 Nat.one_pos (rfl) xd_fe_take_7 ?_
    refine lv_icmp_ge (tgt := 68) hx hb xd_fe_take_10 (by decide) (fun c_1 => ?_) (fun c_1 => ?_)
    · -- taken
      refine lv_bipush (v := (-2)) hx hb xd_fe_take_68 (by decide) ?_
      have hf : x_fe_take_2 (n + 1) S t = ((-2), S) := by rw [x_fe_take_2, if_pos c_1]
      rw [hf]
      exact q_iret hC hr hlocks hW hS rfl rfl xd_fe_take_70
    · -- not taken
      refine lv_aload_n hx hb xd_fe_take_13 rfl (lv_at hl 0 rfl) ?_
      refine xg_fe_24 hC hW 0 Nat.one_pos xd_fe_take_14 ?_
      refine xg_fe_104 hC hW 0 Nat.one_pos xd_fe_take_17 ?_
      refine lv_iload_n hx hb xd_fe_take_20 rfl (lv_at hl 1 rfl) ?_
      have h_2 : vp_in (nI t) 6 := by have b1 : 0 ≤ (q_i (S 3 0 1)).toInt ∧ (q_i (S 3 0 1)).toInt ≤ 6 := hI 3 0 1; have n_t := nI_toInt (n := t) (by omega); have m_t := q_nT (n := t) (by omega); simp only [vp_in_iff, Int32.lt_iff_toInt_lt, Int32.le_iff_toInt_le, q_n0, q_n1, q_n2, q_n3, q_n4, q_n5, q_n6, q_n7, q_n10, q_n14, q_n15, q_n20, q_n60, q_n1288] at c_1 ⊢; omega
      refine xal_4 hC hW 0 Nat.one_pos h_2 (rfl) xd_fe_take_21 ?_
      refine lv_istore_n (lv' := [(2, .int (q_i (S 4 0 ((nI t).toNatClampNeg)))), (0, .ref (q_a xX G 0 0)), (1, .int (nI t))]) hx hb xd_fe_take_22 rfl hl (by decide) rfl (fun ls hl => ?_)
      refine lv_aload_n hx hb xd_fe_take_23 rfl (lv_at hl 1 rfl) ?_
      refine xg_fe_17 hC hW 0 Nat.one_pos xd_fe_take_24 ?_
      refine lv_iload_n hx hb xd_fe_take_27 rfl (lv_at hl 0 rfl) ?_
      have h_3 : vp_in (q_i (S 4 0 ((nI t).toNatClampNeg))) 6 := by have b1 : 0 ≤ (q_i (S 4 0 ((nI t).toNatClampNeg))).toInt ∧ (q_i (S 4 0 ((nI t).toNatClampNeg))).toInt ≤ 5 := hI 4 0 ((nI t).toNatClampNeg); have b2 : 0 ≤ (q_i (S 3 0 1)).toInt ∧ (q_i (S 3 0 1)).toInt ≤ 6 := hI 3 0 1; have n_t := nI_toInt (n := t) (by omega); have m_t := q_nT (n := t) (by omega); simp only [vp_in_iff, Int32.lt_iff_toInt_lt, Int32.le_iff_toInt_le, q_n0, q_n1, q_n2, q_n3, q_n4, q_n5, q_n6, q_n7, q_n10, q_n14, q_n15, q_n20, q_n60, q_n1288] at c_1 ⊢; omega
      refine xal_2 hC hW 0 Nat.one_pos h_3 xd_fe_take_28 ?_
      refine xg_fe_107 hC hW ((q_i (S 4 0 ((nI t).toNatClampNeg))).toNatClampNeg) (q_lt h_3) xd_fe_take_29 ?_
      refine lv_astore_n (lv' := [(3, .ref (q_a xX G 21 ((q_i (S 4 0 ((nI t).toNatClampNeg))).toNatClampNeg))), (2, .int (q_i (S 4 0 ((nI t).toNatClampNeg)))), (0, .ref (q_a xX G 0 0)), (1, .int (nI t))]) hx hb xd_fe_take_32 rfl hl (by decide) rfl (fun ls hl => ?_)
      refine lv_aload_n hx hb xd_fe_take_33 rfl (lv_at hl 0 rfl) ?_
      refine xg_fe_111 hC hW ((q_i (S 4 0 ((nI t).toNatClampNeg))).toNatClampNeg) (q_lt h_3) (rfl) xd_fe_take_34 ?_
      refine W.eq (g2 := F0 m 37 ls [.int (q_i (S 21 ((q_i (S 4 0 ((nI t).toNatClampNeg))).toNatClampNeg) 4))]) rfl ?_
      refine lv_aload_n hx hb xd_fe_take_37 rfl (lv_at hl 2 rfl) ?_
      refine xg_fe_116 hC hW 0 Nat.one_pos (rfl) xd_fe_take_38 ?_
      refine lv_icmp_gt (tgt := 62) hx hb xd_fe_take_41 (by decide) (fun c_4 => ?_) (fun c_4 => ?_)
      · -- taken
        refine lv_iinc (v := nI t + 1) (lv' := [(1, .int (nI t + 1)), (3, .ref (q_a xX G 21 ((q_i (S 4 0 ((nI t).toNatClampNeg))).toNatClampNeg))), (2, .int (q_i (S 4 0 ((nI t).toNatClampNeg)))), (0, .ref (q_a xX G 0 0))]) hx hb xd_fe_take_62 hl (k := 3) rfl rfl (by decide) rfl (fun ls hl => ?_)
        refine lv_goto (tgt := 2) hx hb xd_fe_take_65 (by decide) ?_
        have hf : x_fe_take_2 (n + 1) S t = x_fe_take_2 n S (t + 1) := by rw [x_fe_take_2, if_neg c_1, if_pos c_4]
        rw [hf]
        have hl2 : lv_has ls 4 [(0, .ref (q_a xX G 0 0)), (1, .int (nI (t + 1)))] := by rw [← nI_1 t]; exact lv_sub hl [3, 0] rfl
        exact ih S (t + 1) _ _ ls (by have b1 : 0 ≤ (q_i (S 4 0 ((nI t).toNatClampNeg))).toInt ∧ (q_i (S 4 0 ((nI t).toNatClampNeg))).toInt ≤ 5 := hI 4 0 ((nI t).toNatClampNeg); have b2 : 0 ≤ (q_i (S 3 0 1)).toInt ∧ (q_i (S 3 0 1)).toInt ≤ 6 := hI 3 0 1; have n_t := nI_toInt (n := t) (by omega); have m_t := q_nT (n := t) (by omega); simp only [Int32.lt_iff_toInt_lt, Int32.le_iff_toInt_le, q_n0, q_n1, q_n2, q_n3, q_n4, q_n5, q_n6, q_n7, q_n10, q_n14, q_n15, q_n20, q_n60, q_n1288] at c_1 c_4; omega) (by have b1 : 0 ≤ (q_i (S 4 0 ((nI t).toNatClampNeg))).toInt ∧ (q_i (S 4 0 ((nI t).toNatClampNeg))).toInt ≤ 5 := hI 4 0 ((nI t).toNatClampNeg); have b2 : 0 ≤ (q_i (S 3 0 1)).toInt ∧ (q_i (S 3 0 1)).toInt ≤ 6 := hI 3 0 1; have n_t := nI_toInt (n := t) (by omega); have m_t := q_nT (n := t) (by omega); simp only [Int32.lt_iff_toInt_lt, Int32.le_iff_toInt_le, q_n0, q_n1, q_n2, q_n3, q_n4, q_n5, q_n6, q_n7, q_n10, q_n14, q_n15, q_n20, q_n60, q_n1288] at c_1 c_4; omega) hI hW hS hl2
      · -- not taken
        refine lv_aload_n hx hb xd_fe_take_44 rfl (lv_at hl 2 rfl) ?_
        refine xg_fe_24 hC hW 0 Nat.one_pos xd_fe_take_45 ?_
        refine lv_iload_n hx hb xd_fe_take_48 rfl (lv_at hl 1 rfl) ?_
        refine q_callv hC hS (fun _ h => h) (q_runV (rest := []) hC hW (xC_tl_drop l G S (q_i (S 4 0 ((nI t).toNatClampNeg))) hI) (xc_fe_119 (q_rm 0) hC.1.2.2.2.2 ⟨Nat.le_of_ble_eq_true rfl, Nat.le_of_ble_eq_true rfl⟩ rfl rfl) Nat.one_pos rfl rfl rfl hl.1 rfl (Nat.le_of_ble_eq_true rfl) xd_fe_take_49 ⟨Nat.zero_le _, Nat.zero_le _⟩) (fun H locs hW hS => ?_)
        refine lv_aload_n hx hb xd_fe_take_52 rfl (lv_at hl 0 rfl) ?_
        refine lv_aload_n hx hb xd_fe_take_53 rfl (lv_at hl 2 rfl) ?_
        refine xg_fe_116 hC hW 0 Nat.one_pos (q_kc (xK_tl_drop S (q_i (S 4 0 ((nI t).toNatClampNeg))) _ _ _ (by decide) (by decide)) (rfl)) xd_fe_take_54 ?_
        have hI_5 : xI (x_tl_drop S (q_i (S 4 0 ((nI t).toNatClampNeg)))) := (xI_tl_drop S (q_i (S 4 0 ((nI t).toNatClampNeg))) hI)
        refine q_callv hC hS (fun _ h => h) (q_runV (rest := []) hC hW (xC_ta_goOut l G (x_tl_drop S (q_i (S 4 0 ((nI t).toNatClampNeg)))) ((q_i (S 4 0 ((nI t).toNatClampNeg))).toNatClampNeg) (q_i (S 0 0 3)) (q_lt h_3) hI_5) (xc_fe_122 (q_rm 0) hC.1.2.2.2.2 ⟨Nat.le_of_ble_eq_true rfl, Nat.le_of_ble_eq_true rfl⟩ rfl rfl) (q_lt h_3) rfl rfl rfl hl.1 rfl (Nat.le_of_ble_eq_true rfl) xd_fe_take_57 ⟨Nat.zero_le _, Nat.zero_le _⟩) (fun H locs hW hS => ?_)
        refine lv_iload_n hx hb xd_fe_take_60 rfl (lv_at hl 1 rfl) ?_
        have hf : x_fe_take_2 (n + 1) S t = (q_i (S 4 0 ((nI t).toNatClampNeg)), x_ta_goOut (x_tl_drop S (q_i (S 4 0 ((nI t).toNatClampNeg)))) ((q_i (S 4 0 ((nI t).toNatClampNeg))).toNatClampNeg) (q_i (S 0 0 3))) := by rw [x_fe_take_2, if_neg c_1, if_neg c_4]
        rw [hf]
        exact q_iret hC hr hlocks hW hS rfl rfl xd_fe_take_61
set_option maxRecDepth 100000 in
set_option maxHeartbeats 4000000 in
theorem xK_fe_take_2 : ∀ (n : Nat) (S : q_S) (t : Nat) (x y z : Nat) (h3 : x ≠ 3) (h4 : x ≠ 4) (h21 : x ≠ 21), (x_fe_take_2 n S t).2 x y z = S x y z := by
  intro n
  induction n with
  | zero => intro S t x y z h3 h4 h21; rfl
  | succ n ih =>
    intro S t x y z h3 h4 h21
    by_cases c_1 : q_i (S 3 0 1) ≤ nI t
    · -- yes
      have hf : x_fe_take_2 (n + 1) S t = ((-2), S) := by rw [x_fe_take_2, if_pos c_1]
      rw [hf]
    · -- no
      by_cases c_4 : q_i (S 0 0 3) < q_i (S 21 ((q_i (S 4 0 ((nI t).toNatClampNeg))).toNatClampNeg) 4)
      · -- yes
        have hf : x_fe_take_2 (n + 1) S t = x_fe_take_2 n S (t + 1) := by rw [x_fe_take_2, if_neg c_1, if_pos c_4]
        rw [hf]
        exact (ih S (t + 1) x y z h3 h4 h21).trans (rfl)
      · -- no
        have hf : x_fe_take_2 (n + 1) S t = (q_i (S 4 0 ((nI t).toNatClampNeg)), x_ta_goOut (x_tl_drop S (q_i (S 4 0 ((nI t).toNatClampNeg)))) ((q_i (S 4 0 ((nI t).toNatClampNeg))).toNatClampNeg) (q_i (S 0 0 3))) := by rw [x_fe_take_2, if_neg c_1, if_neg c_4]
        rw [hf]
        exact ((xK_ta_goOut (x_tl_drop S (q_i (S 4 0 ((nI t).toNatClampNeg)))) ((q_i (S 4 0 ((nI t).toNatClampNeg))).toNatClampNeg) (q_i (S 0 0 3)) x y z h21)).trans (((xK_tl_drop S (q_i (S 4 0 ((nI t).toNatClampNeg))) x y z h3 h4)))
set_option maxRecDepth 100000 in
set_option maxHeartbeats 4000000 in
theorem xI_fe_take_2  : ∀ (n : Nat) (S : q_S) (t : Nat), t + n = 7 → t ≤ 6 → xI S → xI ((x_fe_take_2 n S t).2) := by
  intro n
  induction n with
  | zero =>
    intro S t ht hu hI
    exfalso
    omega
  | succ n ih =>
    intro S t ht hu hI
    by_cases c_1 : q_i (S 3 0 1) ≤ nI t
    · -- yes
      have hf : x_fe_take_2 (n + 1) S t = ((-2), S) := by rw [x_fe_take_2, if_pos c_1]
      rw [hf]
      exact hI
    · -- no
      by_cases c_4 : q_i (S 0 0 3) < q_i (S 21 ((q_i (S 4 0 ((nI t).toNatClampNeg))).toNatClampNeg) 4)
      · -- yes
        have h_2 : vp_in (nI t) 6 := by have b1 : 0 ≤ (q_i (S 3 0 1)).toInt ∧ (q_i (S 3 0 1)).toInt ≤ 6 := hI 3 0 1; have n_t := nI_toInt (n := t) (by omega); have m_t := q_nT (n := t) (by omega); simp only [vp_in_iff, Int32.lt_iff_toInt_lt, Int32.le_iff_toInt_le, q_n0, q_n1, q_n2, q_n3, q_n4, q_n5, q_n6, q_n7, q_n10, q_n14, q_n15, q_n20, q_n60, q_n1288] at c_1 ⊢; omega
        have h_3 : vp_in (q_i (S 4 0 ((nI t).toNatClampNeg))) 6 := by have b1 : 0 ≤ (q_i (S 4 0 ((nI t).toNatClampNeg))).toInt ∧ (q_i (S 4 0 ((nI t).toNatClampNeg))).toInt ≤ 5 := hI 4 0 ((nI t).toNatClampNeg); have b2 : 0 ≤ (q_i (S 3 0 1)).toInt ∧ (q_i (S 3 0 1)).toInt ≤ 6 := hI 3 0 1; have n_t := nI_toInt (n := t) (by omega); have m_t := q_nT (n := t) (by omega); simp only [vp_in_iff, Int32.lt_iff_toInt_lt, Int32.le_iff_toInt_le, q_n0, q_n1, q_n2, q_n3, q_n4, q_n5, q_n6, q_n7, q_n10, q_n14, q_n15, q_n20, q_n60, q_n1288] at c_1 ⊢; omega
        have hf : x_fe_take_2 (n + 1) S t = x_fe_take_2 n S (t + 1) := by rw [x_fe_take_2, if_neg c_1, if_pos c_4]
        rw [hf]
        exact ih S (t + 1) (by have b1 : 0 ≤ (q_i (S 4 0 ((nI t).toNatClampNeg))).toInt ∧ (q_i (S 4 0 ((nI t).toNatClampNeg))).toInt ≤ 5 := hI 4 0 ((nI t).toNatClampNeg); have b2 : 0 ≤ (q_i (S 3 0 1)).toInt ∧ (q_i (S 3 0 1)).toInt ≤ 6 := hI 3 0 1; have n_t := nI_toInt (n := t) (by omega); have m_t := q_nT (n := t) (by omega); simp only [Int32.lt_iff_toInt_lt, Int32.le_iff_toInt_le, q_n0, q_n1, q_n2, q_n3, q_n4, q_n5, q_n6, q_n7, q_n10, q_n14, q_n15, q_n20, q_n60, q_n1288] at c_1 c_4; omega) (by have b1 : 0 ≤ (q_i (S 4 0 ((nI t).toNatClampNeg))).toInt ∧ (q_i (S 4 0 ((nI t).toNatClampNeg))).toInt ≤ 5 := hI 4 0 ((nI t).toNatClampNeg); have b2 : 0 ≤ (q_i (S 3 0 1)).toInt ∧ (q_i (S 3 0 1)).toInt ≤ 6 := hI 3 0 1; have n_t := nI_toInt (n := t) (by omega); have m_t := q_nT (n := t) (by omega); simp only [Int32.lt_iff_toInt_lt, Int32.le_iff_toInt_le, q_n0, q_n1, q_n2, q_n3, q_n4, q_n5, q_n6, q_n7, q_n10, q_n14, q_n15, q_n20, q_n60, q_n1288] at c_1 c_4; omega) hI
      · -- no
        have h_2 : vp_in (nI t) 6 := by have b1 : 0 ≤ (q_i (S 3 0 1)).toInt ∧ (q_i (S 3 0 1)).toInt ≤ 6 := hI 3 0 1; have n_t := nI_toInt (n := t) (by omega); have m_t := q_nT (n := t) (by omega); simp only [vp_in_iff, Int32.lt_iff_toInt_lt, Int32.le_iff_toInt_le, q_n0, q_n1, q_n2, q_n3, q_n4, q_n5, q_n6, q_n7, q_n10, q_n14, q_n15, q_n20, q_n60, q_n1288] at c_1 ⊢; omega
        have h_3 : vp_in (q_i (S 4 0 ((nI t).toNatClampNeg))) 6 := by have b1 : 0 ≤ (q_i (S 4 0 ((nI t).toNatClampNeg))).toInt ∧ (q_i (S 4 0 ((nI t).toNatClampNeg))).toInt ≤ 5 := hI 4 0 ((nI t).toNatClampNeg); have b2 : 0 ≤ (q_i (S 3 0 1)).toInt ∧ (q_i (S 3 0 1)).toInt ≤ 6 := hI 3 0 1; have n_t := nI_toInt (n := t) (by omega); have m_t := q_nT (n := t) (by omega); simp only [vp_in_iff, Int32.lt_iff_toInt_lt, Int32.le_iff_toInt_le, q_n0, q_n1, q_n2, q_n3, q_n4, q_n5, q_n6, q_n7, q_n10, q_n14, q_n15, q_n20, q_n60, q_n1288] at c_1 ⊢; omega
        have hI_5 : xI (x_tl_drop S (q_i (S 4 0 ((nI t).toNatClampNeg)))) := (xI_tl_drop S (q_i (S 4 0 ((nI t).toNatClampNeg))) hI)
        have hf : x_fe_take_2 (n + 1) S t = (q_i (S 4 0 ((nI t).toNatClampNeg)), x_ta_goOut (x_tl_drop S (q_i (S 4 0 ((nI t).toNatClampNeg)))) ((q_i (S 4 0 ((nI t).toNatClampNeg))).toNatClampNeg) (q_i (S 0 0 3))) := by rw [x_fe_take_2, if_neg c_1, if_neg c_4]
        rw [hf]
        exact (xI_ta_goOut (x_tl_drop S (q_i (S 4 0 ((nI t).toNatClampNeg)))) ((q_i (S 4 0 ((nI t).toNatClampNeg))).toNatClampNeg) (q_i (S 0 0 3)) (q_lt h_3) hI_5)
def x_fe_take (S : q_S) : Int32 × q_S :=
  x_fe_take_2 7 S 0
set_option maxRecDepth 100000 in
set_option maxHeartbeats 4000000 in
theorem xC_fe_take (l : Launch) (G : q_G) (S : q_S) (hI : xI S) : q_Mi xX G l xy_fe_take (q_ws (q_gw lw_tbl) xy_fe_take xb_fe_take 4 (some .int)) (q_rm 1) [.ref (q_a xX G 0 0)] S (x_fe_take S).1 (x_fe_take S).2 := by
  refine q_met (cc := xb_fe_take) (maxL := 4) (ret := (some .int)) xOk (by decide) rfl (Nat.le_of_ble_eq_true rfl) ?_
  intro p e s m below meth c ls hC hr hlocks hW hS hl
  have hx := hC.1.1
  have hb := hC.1.2.1
  have hl : lv_has ls 4 [(0, .ref (q_a xX G 0 0))] := hl
  refine lv_iconst (v := 0) hx hb xd_fe_take_0 (by decide) ?_
  refine lv_istore_n (lv' := [(1, .int 0), (0, .ref (q_a xX G 0 0))]) hx hb xd_fe_take_1 rfl hl (by decide) rfl (fun ls hl => ?_)
  have hf : x_fe_take S = x_fe_take_2 7 S 0 := by unfold x_fe_take; rfl
  rw [hf]
  have hl2 : lv_has ls 4 [(0, .ref (q_a xX G 0 0)), (1, .int (nI 0))] := by rw [(show nI 0 = 0 from rfl)]; exact lv_sub hl [1, 0] rfl
  exact xL_fe_take_2 l G   hC hr hlocks 7 S 0 _ _ ls (by omega) (by omega) hI hW hS hl2
set_option maxRecDepth 100000 in
set_option maxHeartbeats 4000000 in
theorem xI_fe_take (S : q_S) (hI : xI S) : xI ((x_fe_take S).2) := by
  have hf : x_fe_take S = x_fe_take_2 7 S 0 := by unfold x_fe_take; rfl
  rw [hf]
  exact xI_fe_take_2   7 S 0 (by omega) (by omega) hI
set_option maxRecDepth 100000 in
set_option maxHeartbeats 4000000 in
theorem xK_fe_take (S : q_S) (x y z : Nat) (h3 : x ≠ 3) (h4 : x ≠ 4) (h21 : x ≠ 21) : (x_fe_take S).2 x y z = S x y z := by
  have hf : x_fe_take S = x_fe_take_2 7 S 0 := by unfold x_fe_take; rfl
  rw [hf]
  exact (xK_fe_take_2 7 S 0 x y z h3 h4 h21).trans (rfl)
def x_fe_answer (S : q_S) (a b d : Int32) : Int32 × q_S :=
  if x_fe_isThere S a = 0 then
    ((-1), S)
  else
    if q_i (S 21 a.toNatClampNeg 2) = 0 then
      ((-2), S)
    else
      if b = 0 then
        (q_i ((x_fe_goWrong S a.toNatClampNeg) 9 a.toNatClampNeg 10), x_fe_goWrong S a.toNatClampNeg)
      else
        (q_i ((x_fe_happen (x_fe_remember S a.toNatClampNeg) a.toNatClampNeg 3 (q_i ((x_fe_remember S a.toNatClampNeg) 21 a.toNatClampNeg 0)) d) 9 a.toNatClampNeg 10), x_fe_happen (x_fe_remember S a.toNatClampNeg) a.toNatClampNeg 3 (q_i ((x_fe_remember S a.toNatClampNeg) 21 a.toNatClampNeg 0)) d)
set_option maxRecDepth 100000 in
set_option maxHeartbeats 4000000 in
theorem xC_fe_answer (l : Launch) (G : q_G) (S : q_S) (a b d : Int32) (hI : xI S) (hJ : xJ S) : q_Mi xX G l xy_fe_answer (q_ws (q_gw lw_tbl) xy_fe_answer xb_fe_answer 5 (some .int)) (q_rm 6) [.ref (q_a xX G 0 0), .int a, .int b, .int d] S (x_fe_answer S a b d).1 (x_fe_answer S a b d).2 := by
  refine q_met (cc := xb_fe_answer) (maxL := 5) (ret := (some .int)) xOk (by decide) rfl (Nat.le_of_ble_eq_true rfl) ?_
  intro p e s m below meth c ls hC hr hlocks hW hS hl
  have hx := hC.1.1
  have hb := hC.1.2.1
  have hl : lv_has ls 5 [(0, .ref (q_a xX G 0 0)), (1, .int a), (2, .int b), (3, .int d)] := hl
  refine lv_aload_n hx hb xd_fe_answer_0 rfl (lv_at hl 0 rfl) ?_
  refine lv_iload_n hx hb xd_fe_answer_1 rfl (lv_at hl 1 rfl) ?_
  refine q_calli hC hS (fun _ h => h) (q_runV (rest := []) hC hW (xC_fe_isThere l G S a) (xc_fe_66 (q_rm 0) hC.1.2.2.2.2 ⟨Nat.le_of_ble_eq_true rfl, Nat.le_of_ble_eq_true rfl⟩ rfl rfl) Nat.one_pos rfl rfl rfl hl.1 rfl (Nat.le_of_ble_eq_true rfl) xd_fe_answer_2 ⟨Nat.zero_le _, Nat.zero_le _⟩) (fun H locs hW hS => ?_)
  refine lv_if_ne (tgt := 10) hx hb xd_fe_answer_5 (by decide) (fun c_1 => ?_) (fun c_1 => ?_)
  · -- taken
    refine lv_aload_n hx hb xd_fe_answer_10 rfl (lv_at hl 0 rfl) ?_
    refine xg_fe_17 hC hW 0 Nat.one_pos xd_fe_answer_11 ?_
    refine lv_iload_n hx hb xd_fe_answer_14 rfl (lv_at hl 1 rfl) ?_
    have h_2 : vp_in a 6 := by obtain ⟨f_c_1_0, f_c_1_1⟩ := xF_isT c_1; simp only [vp_in_iff, Int32.lt_iff_toInt_lt, Int32.le_iff_toInt_le, q_n0, q_n1, q_n2, q_n3, q_n4, q_n5, q_n6, q_n7, q_n10, q_n14, q_n15, q_n20, q_n60, q_n1288] at f_c_1_0 f_c_1_1 ⊢; omega
    refine xal_2 hC hW 0 Nat.one_pos h_2 xd_fe_answer_15 ?_
    refine lv_astore (lv' := [(4, .ref (q_a xX G 9 a.toNatClampNeg)), (0, .ref (q_a xX G 0 0)), (1, .int a), (2, .int b), (3, .int d)]) hx hb xd_fe_answer_16 hl (by decide) rfl (fun ls hl => ?_)
    refine lv_aload hx hb xd_fe_answer_18 (lv_at hl 0 rfl) ?_
    refine xg_fe_107 hC hW a.toNatClampNeg (q_lt h_2) xd_fe_answer_20 ?_
    refine xg_fe_125 hC hW a.toNatClampNeg (q_lt h_2) (rfl) xd_fe_answer_23 ?_
    refine lv_if_ne (tgt := 32) hx hb xd_fe_answer_26 (by decide) (fun c_3 => ?_) (fun c_3 => ?_)
    · -- taken
      refine lv_iload_n hx hb xd_fe_answer_32 rfl (lv_at hl 3 rfl) ?_
      refine lv_if_eq (tgt := 61) hx hb xd_fe_answer_33 (by decide) (fun c_4 => ?_) (fun c_4 => ?_)
      · -- taken
        refine lv_aload_n hx hb xd_fe_answer_61 rfl (lv_at hl 1 rfl) ?_
        refine lv_aload hx hb xd_fe_answer_62 (lv_at hl 0 rfl) ?_
        refine q_callv hC hS (fun _ h => h) (q_runV (rest := []) hC hW (xC_fe_goWrong l G S a.toNatClampNeg (q_lt h_2) hI hJ) (xc_fe_131 (q_rm 5) hC.1.2.2.2.2 ⟨Nat.le_of_ble_eq_true rfl, Nat.le_of_ble_eq_true rfl⟩ rfl rfl) Nat.one_pos rfl rfl rfl hl.1 rfl (Nat.le_of_ble_eq_true rfl) xd_fe_answer_64 ⟨Nat.zero_le _, Nat.zero_le _⟩) (fun H locs hW hS => ?_)
        refine lv_aload hx hb xd_fe_answer_67 (lv_at hl 0 rfl) ?_
        refine xg_fe_134 hC hW a.toNatClampNeg (q_lt h_2) (rfl) xd_fe_answer_69 ?_
        have hf : x_fe_answer S a b d = (q_i ((x_fe_goWrong S a.toNatClampNeg) 9 a.toNatClampNeg 10), x_fe_goWrong S a.toNatClampNeg) := by unfold x_fe_answer; rw [if_neg c_1, if_neg c_3, if_pos c_4]
        rw [hf]
        exact q_iret hC hr hlocks hW hS rfl rfl xd_fe_answer_72
      · -- not taken
        refine lv_aload_n hx hb xd_fe_answer_36 rfl (lv_at hl 1 rfl) ?_
        refine lv_aload hx hb xd_fe_answer_37 (lv_at hl 0 rfl) ?_
        refine q_callv hC hS (fun _ h => h) (q_runV (rest := []) hC hW (xC_fe_remember l G S a.toNatClampNeg (q_lt h_2) hI hJ) (xc_fe_89 (q_rm 4) hC.1.2.2.2.2 ⟨Nat.le_of_ble_eq_true rfl, Nat.le_of_ble_eq_true rfl⟩ rfl rfl) Nat.one_pos rfl rfl rfl hl.1 rfl (Nat.le_of_ble_eq_true rfl) xd_fe_answer_39 ⟨Nat.zero_le _, Nat.zero_le _⟩) (fun H locs hW hS => ?_)
        refine lv_aload_n hx hb xd_fe_answer_42 rfl (lv_at hl 1 rfl) ?_
        refine lv_aload hx hb xd_fe_answer_43 (lv_at hl 0 rfl) ?_
        refine lv_iconst (v := 3) hx hb xd_fe_answer_45 (by decide) ?_
        refine lv_aload hx hb xd_fe_answer_46 (lv_at hl 0 rfl) ?_
        refine xg_fe_107 hC hW a.toNatClampNeg (q_lt h_2) xd_fe_answer_48 ?_
        refine xg_fe_128 hC hW a.toNatClampNeg (q_lt h_2) (rfl) xd_fe_answer_51 ?_
        refine lv_iload_n hx hb xd_fe_answer_54 rfl (lv_at hl 4 rfl) ?_
        have hI_5 : xI (x_fe_remember S a.toNatClampNeg) := (xI_fe_remember S a.toNatClampNeg (q_lt h_2) hI hJ)
        have hJ_6 : xJ (x_fe_remember S a.toNatClampNeg) := xJ_keep hJ (fun x y z hx => ((xK_fe_remember S a.toNatClampNeg x y z (show x ≠ 0 by omega) (show x ≠ 3 by omega) (show x ≠ 4 by omega) (show x ≠ 9 by omega) (show x ≠ 10 by omega) (show x ≠ 11 by omega) (show x ≠ 12 by omega) (show x ≠ 13 by omega) (show x ≠ 14 by omega) (show x ≠ 15 by omega) (show x ≠ 16 by omega) (show x ≠ 17 by omega) (show x ≠ 18 by omega) (show x ≠ 19 by omega) (show x ≠ 20 by omega) (show x ≠ 21 by omega))))
        refine q_callv hC hS (fun _ h => h) (q_runV (rest := []) hC hW (xC_fe_happen l G (x_fe_remember S a.toNatClampNeg) a.toNatClampNeg 3 (q_i ((x_fe_remember S a.toNatClampNeg) 21 a.toNatClampNeg 0)) d (q_lt h_2) hI_5 hJ_6) (xc_fe_96 (q_rm 4) hC.1.2.2.2.2 ⟨Nat.le_of_ble_eq_true rfl, Nat.le_of_ble_eq_true rfl⟩ rfl rfl) Nat.one_pos rfl rfl rfl hl.1 rfl (Nat.le_of_ble_eq_true rfl) xd_fe_answer_55 ⟨Nat.zero_le _, Nat.zero_le _⟩) (fun H locs hW hS => ?_)
        refine lv_goto (tgt := 67) hx hb xd_fe_answer_58 (by decide) ?_
        refine lv_aload hx hb xd_fe_answer_67 (lv_at hl 0 rfl) ?_
        refine xg_fe_134 hC hW a.toNatClampNeg (q_lt h_2) (rfl) xd_fe_answer_69 ?_
        have hf : x_fe_answer S a b d = (q_i ((x_fe_happen (x_fe_remember S a.toNatClampNeg) a.toNatClampNeg 3 (q_i ((x_fe_remember S a.toNatClampNeg) 21 a.toNatClampNeg 0)) d) 9 a.toNatClampNeg 10), x_fe_happen (x_fe_remember S a.toNatClampNeg) a.toNatClampNeg 3 (q_i ((x_fe_remember S a.toNatClampNeg) 21 a.toNatClampNeg 0)) d) := by unfold x_fe_answer; rw [if_neg c_1, if_neg c_3, if_neg c_4]
        rw [hf]
        exact q_iret hC hr hlocks hW hS rfl rfl xd_fe_answer_72
    · -- not taken
      refine lv_bipush (v := (-2)) hx hb xd_fe_answer_29 (by decide) ?_
      have hf : x_fe_answer S a b d = ((-2), S) := by unfold x_fe_answer; rw [if_neg c_1, if_pos c_3]
      rw [hf]
      exact q_iret hC hr hlocks hW hS rfl rfl xd_fe_answer_31
  · -- not taken
    refine lv_iconst (v := (-1)) hx hb xd_fe_answer_8 (by decide) ?_
    have hf : x_fe_answer S a b d = ((-1), S) := by unfold x_fe_answer; rw [if_pos c_1]
    rw [hf]
    exact q_iret hC hr hlocks hW hS rfl rfl xd_fe_answer_9
set_option maxRecDepth 100000 in
set_option maxHeartbeats 4000000 in
theorem xI_fe_answer (S : q_S) (a b d : Int32) (hI : xI S) (hJ : xJ S) : xI ((x_fe_answer S a b d).2) := by
  by_cases c_1 : x_fe_isThere S a = 0
  · -- yes
    have hf : x_fe_answer S a b d = ((-1), S) := by unfold x_fe_answer; rw [if_pos c_1]
    rw [hf]
    exact hI
  · -- no
    by_cases c_3 : q_i (S 21 a.toNatClampNeg 2) = 0
    · -- yes
      have h_2 : vp_in a 6 := by obtain ⟨f_c_1_0, f_c_1_1⟩ := xF_isT c_1; simp only [vp_in_iff, Int32.lt_iff_toInt_lt, Int32.le_iff_toInt_le, q_n0, q_n1, q_n2, q_n3, q_n4, q_n5, q_n6, q_n7, q_n10, q_n14, q_n15, q_n20, q_n60, q_n1288] at f_c_1_0 f_c_1_1 ⊢; omega
      have hf : x_fe_answer S a b d = ((-2), S) := by unfold x_fe_answer; rw [if_neg c_1, if_pos c_3]
      rw [hf]
      exact hI
    · -- no
      by_cases c_4 : b = 0
      · -- yes
        have h_2 : vp_in a 6 := by obtain ⟨f_c_1_0, f_c_1_1⟩ := xF_isT c_1; simp only [vp_in_iff, Int32.lt_iff_toInt_lt, Int32.le_iff_toInt_le, q_n0, q_n1, q_n2, q_n3, q_n4, q_n5, q_n6, q_n7, q_n10, q_n14, q_n15, q_n20, q_n60, q_n1288] at f_c_1_0 f_c_1_1 ⊢; omega
        have hf : x_fe_answer S a b d = (q_i ((x_fe_goWrong S a.toNatClampNeg) 9 a.toNatClampNeg 10), x_fe_goWrong S a.toNatClampNeg) := by unfold x_fe_answer; rw [if_neg c_1, if_neg c_3, if_pos c_4]
        rw [hf]
        exact (xI_fe_goWrong S a.toNatClampNeg (q_lt h_2) hI hJ)
      · -- no
        have h_2 : vp_in a 6 := by obtain ⟨f_c_1_0, f_c_1_1⟩ := xF_isT c_1; simp only [vp_in_iff, Int32.lt_iff_toInt_lt, Int32.le_iff_toInt_le, q_n0, q_n1, q_n2, q_n3, q_n4, q_n5, q_n6, q_n7, q_n10, q_n14, q_n15, q_n20, q_n60, q_n1288] at f_c_1_0 f_c_1_1 ⊢; omega
        have hI_5 : xI (x_fe_remember S a.toNatClampNeg) := (xI_fe_remember S a.toNatClampNeg (q_lt h_2) hI hJ)
        have hJ_6 : xJ (x_fe_remember S a.toNatClampNeg) := xJ_keep hJ (fun x y z hx => ((xK_fe_remember S a.toNatClampNeg x y z (show x ≠ 0 by omega) (show x ≠ 3 by omega) (show x ≠ 4 by omega) (show x ≠ 9 by omega) (show x ≠ 10 by omega) (show x ≠ 11 by omega) (show x ≠ 12 by omega) (show x ≠ 13 by omega) (show x ≠ 14 by omega) (show x ≠ 15 by omega) (show x ≠ 16 by omega) (show x ≠ 17 by omega) (show x ≠ 18 by omega) (show x ≠ 19 by omega) (show x ≠ 20 by omega) (show x ≠ 21 by omega))))
        have hf : x_fe_answer S a b d = (q_i ((x_fe_happen (x_fe_remember S a.toNatClampNeg) a.toNatClampNeg 3 (q_i ((x_fe_remember S a.toNatClampNeg) 21 a.toNatClampNeg 0)) d) 9 a.toNatClampNeg 10), x_fe_happen (x_fe_remember S a.toNatClampNeg) a.toNatClampNeg 3 (q_i ((x_fe_remember S a.toNatClampNeg) 21 a.toNatClampNeg 0)) d) := by unfold x_fe_answer; rw [if_neg c_1, if_neg c_3, if_neg c_4]
        rw [hf]
        exact (xI_fe_happen (x_fe_remember S a.toNatClampNeg) a.toNatClampNeg 3 (q_i ((x_fe_remember S a.toNatClampNeg) 21 a.toNatClampNeg 0)) d (q_lt h_2) hI_5 hJ_6)
set_option maxRecDepth 100000 in
set_option maxHeartbeats 4000000 in
theorem xK_fe_answer (S : q_S) (a b d : Int32) (x y z : Nat) (h0 : x ≠ 0) (h3 : x ≠ 3) (h4 : x ≠ 4) (h9 : x ≠ 9) (h10 : x ≠ 10) (h11 : x ≠ 11) (h12 : x ≠ 12) (h13 : x ≠ 13) (h14 : x ≠ 14) (h15 : x ≠ 15) (h16 : x ≠ 16) (h17 : x ≠ 17) (h18 : x ≠ 18) (h19 : x ≠ 19) (h20 : x ≠ 20) (h21 : x ≠ 21) : (x_fe_answer S a b d).2 x y z = S x y z := by
  by_cases c_1 : x_fe_isThere S a = 0
  · -- yes
    have hf : x_fe_answer S a b d = ((-1), S) := by unfold x_fe_answer; rw [if_pos c_1]
    rw [hf]
  · -- no
    by_cases c_3 : q_i (S 21 a.toNatClampNeg 2) = 0
    · -- yes
      have hf : x_fe_answer S a b d = ((-2), S) := by unfold x_fe_answer; rw [if_neg c_1, if_pos c_3]
      rw [hf]
    · -- no
      by_cases c_4 : b = 0
      · -- yes
        have hf : x_fe_answer S a b d = (q_i ((x_fe_goWrong S a.toNatClampNeg) 9 a.toNatClampNeg 10), x_fe_goWrong S a.toNatClampNeg) := by unfold x_fe_answer; rw [if_neg c_1, if_neg c_3, if_pos c_4]
        rw [hf]
        exact ((xK_fe_goWrong S a.toNatClampNeg x y z h0 h3 h4 h9 h10 h11 h12 h13 h14 h15 h16 h17 h18 h19 h20 h21))
      · -- no
        have hf : x_fe_answer S a b d = (q_i ((x_fe_happen (x_fe_remember S a.toNatClampNeg) a.toNatClampNeg 3 (q_i ((x_fe_remember S a.toNatClampNeg) 21 a.toNatClampNeg 0)) d) 9 a.toNatClampNeg 10), x_fe_happen (x_fe_remember S a.toNatClampNeg) a.toNatClampNeg 3 (q_i ((x_fe_remember S a.toNatClampNeg) 21 a.toNatClampNeg 0)) d) := by unfold x_fe_answer; rw [if_neg c_1, if_neg c_3, if_neg c_4]
        rw [hf]
        exact ((xK_fe_happen (x_fe_remember S a.toNatClampNeg) a.toNatClampNeg 3 (q_i ((x_fe_remember S a.toNatClampNeg) 21 a.toNatClampNeg 0)) d x y z h0 h3 h4 h9 h10 h11 h12 h13 h14 h15 h16 h17 h18 h19 h20 h21)).trans (((xK_fe_remember S a.toNatClampNeg x y z h0 h3 h4 h9 h10 h11 h12 h13 h14 h15 h16 h17 h18 h19 h20 h21)))
def x_fe_forget (S : q_S) (a : Int32) : Int32 × q_S :=
  if x_fe_isThere S a = 0 then
    (0, S)
  else
    if x_wf_hasEnded S a.toNatClampNeg = 0 then
      if q_i (S 9 a.toNatClampNeg 7) = 0 then
        (1, q_st S 9 a.toNatClampNeg 7 (.int 1))
      else
        (0, S)
    else
      (0, S)
set_option maxRecDepth 100000 in
set_option maxHeartbeats 4000000 in
theorem xC_fe_forget (l : Launch) (G : q_G) (S : q_S) (a : Int32) (hI : xI S) : q_Mi xX G l xy_fe_forget (q_ws (q_gw lw_tbl) xy_fe_forget xb_fe_forget 2 (some .boolean)) (q_rm 1) [.ref (q_a xX G 0 0), .int a] S (x_fe_forget S a).1 (x_fe_forget S a).2 := by
  refine q_met (cc := xb_fe_forget) (maxL := 2) (ret := (some .boolean)) xOk (by decide) rfl (Nat.le_of_ble_eq_true rfl) ?_
  intro p e s m below meth c ls hC hr hlocks hW hS hl
  have hx := hC.1.1
  have hb := hC.1.2.1
  have hl : lv_has ls 2 [(0, .ref (q_a xX G 0 0)), (1, .int a)] := hl
  refine lv_aload_n hx hb xd_fe_forget_0 rfl (lv_at hl 0 rfl) ?_
  refine lv_iload_n hx hb xd_fe_forget_1 rfl (lv_at hl 1 rfl) ?_
  refine q_calli hC hS (fun _ h => h) (q_runV (rest := []) hC hW (xC_fe_isThere l G S a) (xc_fe_66 (q_rm 0) hC.1.2.2.2.2 ⟨Nat.le_of_ble_eq_true rfl, Nat.le_of_ble_eq_true rfl⟩ rfl rfl) Nat.one_pos rfl rfl rfl hl.1 rfl (Nat.le_of_ble_eq_true rfl) xd_fe_forget_2 ⟨Nat.zero_le _, Nat.zero_le _⟩) (fun H locs hW hS => ?_)
  refine lv_if_eq (tgt := 32) hx hb xd_fe_forget_5 (by decide) (fun c_1 => ?_) (fun c_1 => ?_)
  · -- taken
    refine lv_iconst (v := 0) hx hb xd_fe_forget_32 (by decide) ?_
    have hf : x_fe_forget S a = (0, S) := by unfold x_fe_forget; rw [if_pos c_1]
    rw [hf]
    exact q_zret hC hr hlocks hW hS (by decide) rfl rfl xd_fe_forget_33
  · -- not taken
    refine lv_aload_n hx hb xd_fe_forget_8 rfl (lv_at hl 0 rfl) ?_
    refine xg_fe_17 hC hW 0 Nat.one_pos xd_fe_forget_9 ?_
    refine lv_iload_n hx hb xd_fe_forget_12 rfl (lv_at hl 1 rfl) ?_
    have h_2 : vp_in a 6 := by obtain ⟨f_c_1_0, f_c_1_1⟩ := xF_isT c_1; simp only [vp_in_iff, Int32.lt_iff_toInt_lt, Int32.le_iff_toInt_le, q_n0, q_n1, q_n2, q_n3, q_n4, q_n5, q_n6, q_n7, q_n10, q_n14, q_n15, q_n20, q_n60, q_n1288] at f_c_1_0 f_c_1_1 ⊢; omega
    refine xal_2 hC hW 0 Nat.one_pos h_2 xd_fe_forget_13 ?_
    refine q_calli hC hS (fun _ h => h) (q_runV (rest := []) hC hW (xC_wf_hasEnded l G S a.toNatClampNeg (q_lt h_2)) (xc_fe_76 (q_rm 0) hC.1.2.2.2.2 ⟨Nat.le_of_ble_eq_true rfl, Nat.le_of_ble_eq_true rfl⟩ rfl rfl) (q_lt h_2) rfl rfl rfl hl.1 rfl (Nat.le_of_ble_eq_true rfl) xd_fe_forget_14 ⟨Nat.zero_le _, Nat.zero_le _⟩) (fun H locs hW hS => ?_)
    refine lv_if_ne (tgt := 32) hx hb xd_fe_forget_17 (by decide) (fun c_3 => ?_) (fun c_3 => ?_)
    · -- taken
      refine lv_iconst (v := 0) hx hb xd_fe_forget_32 (by decide) ?_
      have hf : x_fe_forget S a = (0, S) := by unfold x_fe_forget; rw [if_neg c_1, if_neg c_3]
      rw [hf]
      exact q_zret hC hr hlocks hW hS (by decide) rfl rfl xd_fe_forget_33
    · -- not taken
      refine lv_aload_n hx hb xd_fe_forget_20 rfl (lv_at hl 0 rfl) ?_
      refine xg_fe_17 hC hW 0 Nat.one_pos xd_fe_forget_21 ?_
      refine lv_iload_n hx hb xd_fe_forget_24 rfl (lv_at hl 1 rfl) ?_
      have h_4 : vp_in a 6 := by obtain ⟨f_c_1_0, f_c_1_1⟩ := xF_isT c_1; simp only [vp_in_iff, Int32.lt_iff_toInt_lt, Int32.le_iff_toInt_le, q_n0, q_n1, q_n2, q_n3, q_n4, q_n5, q_n6, q_n7, q_n10, q_n14, q_n15, q_n20, q_n60, q_n1288] at f_c_1_0 f_c_1_1 ⊢; omega
      refine xal_2 hC hW 0 Nat.one_pos h_4 xd_fe_forget_25 ?_
      refine xg_fe_143 hC hW a.toNatClampNeg (q_lt h_4) (rfl) xd_fe_forget_26 ?_
      refine lv_if_eq (tgt := 34) hx hb xd_fe_forget_29 (by decide) (fun c_5 => ?_) (fun c_5 => ?_)
      · -- taken
        refine lv_aload_n hx hb xd_fe_forget_34 rfl (lv_at hl 0 rfl) ?_
        refine xg_fe_17 hC hW 0 Nat.one_pos xd_fe_forget_35 ?_
        refine lv_iload_n hx hb xd_fe_forget_38 rfl (lv_at hl 1 rfl) ?_
        have h_6 : vp_in a 6 := by obtain ⟨f_c_1_0, f_c_1_1⟩ := xF_isT c_1; simp only [vp_in_iff, Int32.lt_iff_toInt_lt, Int32.le_iff_toInt_le, q_n0, q_n1, q_n2, q_n3, q_n4, q_n5, q_n6, q_n7, q_n10, q_n14, q_n15, q_n20, q_n60, q_n1288] at f_c_1_0 f_c_1_1 ⊢; omega
        refine xal_2 hC hW 0 Nat.one_pos h_6 xd_fe_forget_39 ?_
        refine lv_iconst (v := 1) hx hb xd_fe_forget_40 (by decide) ?_
        refine xg_fe_143p hC hW hS (fun _ h => h) a.toNatClampNeg (q_lt h_6) rfl rfl xd_fe_forget_41 (fun H locs hW hS => ?_)
        refine lv_iconst (v := 1) hx hb xd_fe_forget_44 (by decide) ?_
        have hf : x_fe_forget S a = (1, q_st S 9 a.toNatClampNeg 7 (.int 1)) := by unfold x_fe_forget; rw [if_neg c_1, if_pos c_3, if_pos c_5]
        rw [hf]
        exact q_zret hC hr hlocks hW hS (by decide) rfl rfl xd_fe_forget_45
      · -- not taken
        refine lv_iconst (v := 0) hx hb xd_fe_forget_32 (by decide) ?_
        have hf : x_fe_forget S a = (0, S) := by unfold x_fe_forget; rw [if_neg c_1, if_pos c_3, if_neg c_5]
        rw [hf]
        exact q_zret hC hr hlocks hW hS (by decide) rfl rfl xd_fe_forget_33
set_option maxRecDepth 100000 in
set_option maxHeartbeats 4000000 in
theorem xI_fe_forget (S : q_S) (a : Int32) (hI : xI S) : xI ((x_fe_forget S a).2) := by
  by_cases c_1 : x_fe_isThere S a = 0
  · -- yes
    have hf : x_fe_forget S a = (0, S) := by unfold x_fe_forget; rw [if_pos c_1]
    rw [hf]
    exact hI
  · -- no
    by_cases c_3 : x_wf_hasEnded S a.toNatClampNeg = 0
    · -- yes
      by_cases c_5 : q_i (S 9 a.toNatClampNeg 7) = 0
      · -- yes
        have h_2 : vp_in a 6 := by obtain ⟨f_c_1_0, f_c_1_1⟩ := xF_isT c_1; simp only [vp_in_iff, Int32.lt_iff_toInt_lt, Int32.le_iff_toInt_le, q_n0, q_n1, q_n2, q_n3, q_n4, q_n5, q_n6, q_n7, q_n10, q_n14, q_n15, q_n20, q_n60, q_n1288] at f_c_1_0 f_c_1_1 ⊢; omega
        have h_4 : vp_in a 6 := by obtain ⟨f_c_1_0, f_c_1_1⟩ := xF_isT c_1; simp only [vp_in_iff, Int32.lt_iff_toInt_lt, Int32.le_iff_toInt_le, q_n0, q_n1, q_n2, q_n3, q_n4, q_n5, q_n6, q_n7, q_n10, q_n14, q_n15, q_n20, q_n60, q_n1288] at f_c_1_0 f_c_1_1 ⊢; omega
        have h_6 : vp_in a 6 := by obtain ⟨f_c_1_0, f_c_1_1⟩ := xF_isT c_1; simp only [vp_in_iff, Int32.lt_iff_toInt_lt, Int32.le_iff_toInt_le, q_n0, q_n1, q_n2, q_n3, q_n4, q_n5, q_n6, q_n7, q_n10, q_n14, q_n15, q_n20, q_n60, q_n1288] at f_c_1_0 f_c_1_1 ⊢; omega
        have hf : x_fe_forget S a = (1, q_st S 9 a.toNatClampNeg 7 (.int 1)) := by unfold x_fe_forget; rw [if_neg c_1, if_pos c_3, if_pos c_5]
        rw [hf]
        exact (q_Is hI rfl)
      · -- no
        have h_2 : vp_in a 6 := by obtain ⟨f_c_1_0, f_c_1_1⟩ := xF_isT c_1; simp only [vp_in_iff, Int32.lt_iff_toInt_lt, Int32.le_iff_toInt_le, q_n0, q_n1, q_n2, q_n3, q_n4, q_n5, q_n6, q_n7, q_n10, q_n14, q_n15, q_n20, q_n60, q_n1288] at f_c_1_0 f_c_1_1 ⊢; omega
        have h_4 : vp_in a 6 := by obtain ⟨f_c_1_0, f_c_1_1⟩ := xF_isT c_1; simp only [vp_in_iff, Int32.lt_iff_toInt_lt, Int32.le_iff_toInt_le, q_n0, q_n1, q_n2, q_n3, q_n4, q_n5, q_n6, q_n7, q_n10, q_n14, q_n15, q_n20, q_n60, q_n1288] at f_c_1_0 f_c_1_1 ⊢; omega
        have hf : x_fe_forget S a = (0, S) := by unfold x_fe_forget; rw [if_neg c_1, if_pos c_3, if_neg c_5]
        rw [hf]
        exact hI
    · -- no
      have h_2 : vp_in a 6 := by obtain ⟨f_c_1_0, f_c_1_1⟩ := xF_isT c_1; simp only [vp_in_iff, Int32.lt_iff_toInt_lt, Int32.le_iff_toInt_le, q_n0, q_n1, q_n2, q_n3, q_n4, q_n5, q_n6, q_n7, q_n10, q_n14, q_n15, q_n20, q_n60, q_n1288] at f_c_1_0 f_c_1_1 ⊢; omega
      have hf : x_fe_forget S a = (0, S) := by unfold x_fe_forget; rw [if_neg c_1, if_neg c_3]
      rw [hf]
      exact hI
set_option maxRecDepth 100000 in
set_option maxHeartbeats 4000000 in
theorem xK_fe_forget (S : q_S) (a : Int32) (x y z : Nat) (h9 : x ≠ 9) : (x_fe_forget S a).2 x y z = S x y z := by
  by_cases c_1 : x_fe_isThere S a = 0
  · -- yes
    have hf : x_fe_forget S a = (0, S) := by unfold x_fe_forget; rw [if_pos c_1]
    rw [hf]
  · -- no
    by_cases c_3 : x_wf_hasEnded S a.toNatClampNeg = 0
    · -- yes
      by_cases c_5 : q_i (S 9 a.toNatClampNeg 7) = 0
      · -- yes
        have hf : x_fe_forget S a = (1, q_st S 9 a.toNatClampNeg 7 (.int 1)) := by unfold x_fe_forget; rw [if_neg c_1, if_pos c_3, if_pos c_5]
        rw [hf]
        exact (q_kj h9)
      · -- no
        have hf : x_fe_forget S a = (0, S) := by unfold x_fe_forget; rw [if_neg c_1, if_pos c_3, if_neg c_5]
        rw [hf]
    · -- no
      have hf : x_fe_forget S a = (0, S) := by unfold x_fe_forget; rw [if_neg c_1, if_neg c_3]
      rw [hf]
