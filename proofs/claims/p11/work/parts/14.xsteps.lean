/-- every instruction that a program answers is as said -/
def xJ (S : q_S) : Prop := ∀ (p : Nat) (pl : Int32), p < 3 → ¬ x_fe_isInstruction S (x_pr_opAt S p pl) (x_pr_firstAt S p pl) (x_pr_secondAt S p pl) = 0
theorem xJ_opAt {S S' : q_S} (h : ∀ a b d, a = 5 ∨ a = 6 ∨ a = 7 ∨ a = 8 → S' a b d = S a b d) (p : Nat) (pl : Int32) : x_pr_opAt S' p pl = x_pr_opAt S p pl ∧ x_pr_firstAt S' p pl = x_pr_firstAt S p pl ∧ x_pr_secondAt S' p pl = x_pr_secondAt S p pl := by
  have e5 : ∀ b d, S' 5 b d = S 5 b d := fun b d => h 5 b d (Or.inl rfl)
  have e6 : ∀ b d, S' 6 b d = S 6 b d := fun b d => h 6 b d (Or.inr (Or.inl rfl))
  have e7 : ∀ b d, S' 7 b d = S 7 b d := fun b d => h 7 b d (Or.inr (Or.inr (Or.inl rfl)))
  have e8 : ∀ b d, S' 8 b d = S 8 b d := fun b d => h 8 b d (Or.inr (Or.inr (Or.inr rfl)))
  have eh : x_pr_has S' p pl = x_pr_has S p pl := by unfold x_pr_has; rw [e5]
  refine ⟨?_, ?_, ?_⟩
  · unfold x_pr_opAt; rw [eh, e6]
  · unfold x_pr_firstAt; rw [eh, e7]
  · unfold x_pr_secondAt; rw [eh, e8]
theorem x_isI_S (S S' : q_S) (a b d : Int32) : x_fe_isInstruction S' a b d = x_fe_isInstruction S a b d := rfl
theorem xJ_keep {S S' : q_S} (hJ : xJ S) (h : ∀ a b d, a = 5 ∨ a = 6 ∨ a = 7 ∨ a = 8 → S' a b d = S a b d) : xJ S' := by
  intro p pl hp
  obtain ⟨e1, e2, e3⟩ := xJ_opAt h p pl
  rw [e1, e2, e3, x_isI_S S S']
  exact hJ p pl hp
theorem xF_isW {S : q_S} {a b : Int32} (h : ¬ x_fe_isWithin S a b = 0) : b = 0 ∨ (¬ a < 0 ∧ ¬ b ≤ a) := by
  unfold x_fe_isWithin at h
  split at h
  · exact Or.inl (by assumption)
  · split at h
    · exact absurd rfl h
    · split at h
      · exact absurd rfl h
      · exact Or.inr ⟨by assumption, by assumption⟩
theorem xF_isI {S : q_S} {a b d : Int32} (h : ¬ x_fe_isInstruction S a b d = 0) : ¬ a < 0 ∧ ¬ 10 < a ∧ ¬ x_fe_isWithin S b (xL1 a.toNatClampNeg) = 0 ∧ ¬ x_fe_isWithin S d (xL2 a.toNatClampNeg) = 0 := by
  unfold x_fe_isInstruction at h
  split at h
  · exact absurd rfl h
  · split at h
    · exact absurd rfl h
    · split at h
      · exact absurd rfl h
      · split at h
        · exact absurd rfl h
        · exact ⟨by assumption, by assumption, by assumption, by assumption⟩
theorem xV_in {S : q_S} {a b : Int32} (h : ¬ x_fe_isWithin S a b = 0) (hb : b = 4) : vp_in a 4 := by
  rcases xF_isW h with q | ⟨q1, q2⟩
  · rw [hb] at q
    exact absurd q (by decide)
  · rw [hb] at q2
    simp only [vp_in_iff, Int32.lt_iff_toInt_lt, Int32.le_iff_toInt_le, q_n0, q_n4] at q1 q2 ⊢
    omega
theorem xV_bd {a : Int32} (h : vp_in a 4) : 0 ≤ a.toInt ∧ a.toInt ≤ 3 := by
  have h := vp_in_iff.mp h
  omega
theorem xJ_a {S : q_S} (hJ : xJ S) {p : Nat} {pl k : Int32} (hp : p < 3) (hop : x_pr_opAt S p pl = k) (hk : xL1 k.toNatClampNeg = 4) : vp_in (x_pr_firstAt S p pl) 4 := by
  have h := xF_isI (hJ p pl hp)
  rw [hop] at h
  exact xV_in h.2.2.1 hk
theorem xJ_b {S : q_S} (hJ : xJ S) {p : Nat} {pl k : Int32} (hp : p < 3) (hop : x_pr_opAt S p pl = k) (hk : xL2 k.toNatClampNeg = 4) : vp_in (x_pr_secondAt S p pl) 4 := by
  have h := xF_isI (hJ p pl hp)
  rw [hop] at h
  exact xV_in h.2.2.2 hk
theorem xJ_c1 {S : q_S} (hJ : xJ S) {p : Nat} {pl : Int32} (hp : p < 3) : (x_pr_opAt S p pl = 0 ∨ x_pr_opAt S p pl = 1 ∨ x_pr_opAt S p pl = 2 ∨ x_pr_opAt S p pl = 4) → vp_in (x_pr_firstAt S p pl) 4 := by
  rintro (h | h | h | h)
  · exact xJ_a hJ hp h (by decide)
  · exact xJ_a hJ hp h (by decide)
  · exact xJ_a hJ hp h (by decide)
  · exact xJ_a hJ hp h (by decide)
theorem xJ_c2 {S : q_S} (hJ : xJ S) {p : Nat} {pl : Int32} (hp : p < 3) : (x_pr_opAt S p pl = 1 ∨ x_pr_opAt S p pl = 2) → vp_in (x_pr_secondAt S p pl) 4 := by
  rintro (h | h)
  · exact xJ_b hJ hp h (by decide)
  · exact xJ_b hJ hp h (by decide)
theorem xO_in {i : Nat} {a : Int32} : ∀ (n : Nat) (S : q_S) (t : Nat), xI S → t + n = 5 → ¬ x_ke_oldest_L0 n S i a t < 0 → vp_in (x_ke_oldest_L0 n S i a t) 4 := by
  intro n
  induction n with
  | zero => intro S t hI ht _; show vp_in 0 4; unfold vp_in; decide +kernel
  | succ n ih =>
    intro S t hI ht h
    rw [x_ke_oldest_L0] at h ⊢
    split at h
    · exact absurd (show (-1 : Int32) < 0 by decide) h
    · rename_i q
      rw [if_neg q]
      split at h
      · rename_i q2
        rw [if_pos q2]
        have b1 : 0 ≤ (q_i (S 15 i 2)).toInt ∧ (q_i (S 15 i 2)).toInt ≤ 4 := hI 15 i 2
        have n_t := nI_toInt (n := t) (by omega)
        simp only [vp_in_iff, Int32.le_iff_toInt_le] at q ⊢
        omega
      · rename_i q2
        rw [if_neg q2]
        exact ih S (t + 1) hI (by omega) h
def x_fe_awaitSignal (S : q_S) (i : Nat) (a : Int32) : q_S :=
  if x_hi_isLeft (q_st (q_st S 9 i 10 (.int 3)) 9 i 13 (.int a)) i = 0 then
    if 0 ≤ x_ke_oldest (q_st (q_st S 9 i 10 (.int 3)) 9 i 13 (.int a)) i a then
      if (x_hi_pass (q_st (q_st S 9 i 10 (.int 3)) 9 i 13 (.int a)) i 7 a (q_i (S 17 i ((x_ke_oldest (q_st (q_st S 9 i 10 (.int 3)) 9 i 13 (.int a)) i a).toNatClampNeg)))).1 = 0 then
        q_st ((x_hi_pass (q_st (q_st S 9 i 10 (.int 3)) 9 i 13 (.int a)) i 7 a (q_i (S 17 i ((x_ke_oldest (q_st (q_st S 9 i 10 (.int 3)) 9 i 13 (.int a)) i a).toNatClampNeg)))).2) 9 i 10 (.int 7)
      else
        x_wf_resume (x_ke_drop ((x_hi_pass (q_st (q_st S 9 i 10 (.int 3)) 9 i 13 (.int a)) i 7 a (q_i (S 17 i ((x_ke_oldest (q_st (q_st S 9 i 10 (.int 3)) 9 i 13 (.int a)) i a).toNatClampNeg)))).2) i (x_ke_oldest (q_st (q_st S 9 i 10 (.int 3)) 9 i 13 (.int a)) i a)) i 7 (q_i (S 17 i ((x_ke_oldest (q_st (q_st S 9 i 10 (.int 3)) 9 i 13 (.int a)) i a).toNatClampNeg)))
    else
      q_st (q_st S 9 i 10 (.int 3)) 9 i 13 (.int a)
  else
    q_st (q_st S 9 i 10 (.int 3)) 9 i 13 (.int a)
set_option maxRecDepth 100000 in
set_option maxHeartbeats 4000000 in
theorem xC_fe_awaitSignal (l : Launch) (G : q_G) (S : q_S) (i : Nat) (a : Int32) (hi : i < 6) (hI : xI S) : q_Mv xX G l xy_fe_awaitSignal (q_ws (q_gw lw_tbl) xy_fe_awaitSignal xb_fe_awaitSignal 5 none) (q_rm 1) [.ref (q_a xX G 0 0), .ref (q_a xX G 9 i), .int a] S (x_fe_awaitSignal S i a) := by
  refine q_met (cc := xb_fe_awaitSignal) (maxL := 5) (ret := none) xOk (by decide) rfl (Nat.le_of_ble_eq_true rfl) ?_
  intro p e s m below meth c ls hC hr hlocks hW hS hl
  have hx := hC.1.1
  have hb := hC.1.2.1
  have hl : lv_has ls 5 [(0, .ref (q_a xX G 0 0)), (1, .ref (q_a xX G 9 i)), (2, .int a)] := hl
  refine lv_aload_n hx hb xd_fe_awaitSignal_0 rfl (lv_at hl 1 rfl) ?_
  refine lv_iconst (v := 3) hx hb xd_fe_awaitSignal_1 (by decide) ?_
  refine xg_fe_134p hC hW hS (fun _ h => h) i hi xd_fe_awaitSignal_2 (fun H locs hW hS => ?_)
  refine lv_aload_n hx hb xd_fe_awaitSignal_5 rfl (lv_at hl 1 rfl) ?_
  refine lv_iload_n hx hb xd_fe_awaitSignal_6 rfl (lv_at hl 2 rfl) ?_
  refine xg_fe_291p hC hW hS (fun _ h => h) i hi xd_fe_awaitSignal_7 (fun H locs hW hS => ?_)
  refine lv_aload_n hx hb xd_fe_awaitSignal_10 rfl (lv_at hl 1 rfl) ?_
  refine xg_fe_80 hC hW i hi xd_fe_awaitSignal_11 ?_
  refine lv_iload_n hx hb xd_fe_awaitSignal_14 rfl (lv_at hl 2 rfl) ?_
  have hI_1 : xI (q_st (q_st S 9 i 10 (.int 3)) 9 i 13 (.int a)) := (q_Is (q_Is hI rfl) rfl)
  refine q_calli hC hS (fun _ h => h) (q_runV (rest := []) hC hW (xC_ke_oldest l G (q_st (q_st S 9 i 10 (.int 3)) 9 i 13 (.int a)) i a hi hI_1) (xc_fe_301 (q_rm 0) hC.1.2.2.2.2 ⟨Nat.le_of_ble_eq_true rfl, Nat.le_of_ble_eq_true rfl⟩ rfl rfl) hi rfl rfl rfl hl.1 rfl (Nat.le_of_ble_eq_true rfl) xd_fe_awaitSignal_15 ⟨Nat.zero_le _, Nat.zero_le _⟩) (fun H locs hW hS => ?_)
  refine lv_istore_n (lv' := [(3, .int (x_ke_oldest (q_st (q_st S 9 i 10 (.int 3)) 9 i 13 (.int a)) i a)), (0, .ref (q_a xX G 0 0)), (1, .ref (q_a xX G 9 i)), (2, .int a)]) hx hb xd_fe_awaitSignal_18 rfl hl (by decide) rfl (fun ls hl => ?_)
  refine lv_aload_n hx hb xd_fe_awaitSignal_19 rfl (lv_at hl 2 rfl) ?_
  refine xg_fe_149 hC hW i hi xd_fe_awaitSignal_20 ?_
  refine q_calli hC hS (fun _ h => h) (q_runV (rest := []) hC hW (xC_hi_isLeft l G (q_st (q_st S 9 i 10 (.int 3)) 9 i 13 (.int a)) i hi) (xc_fe_252 (q_rm 0) hC.1.2.2.2.2 ⟨Nat.le_of_ble_eq_true rfl, Nat.le_of_ble_eq_true rfl⟩ rfl rfl) hi rfl rfl rfl hl.1 rfl (Nat.le_of_ble_eq_true rfl) xd_fe_awaitSignal_23 ⟨Nat.zero_le _, Nat.zero_le _⟩) (fun H locs hW hS => ?_)
  refine W.eq (g2 := F0 m 26 ls [.int (x_hi_isLeft (q_st (q_st S 9 i 10 (.int 3)) 9 i 13 (.int a)) i)]) rfl ?_
  refine lv_if_ne (tgt := 33) hx hb xd_fe_awaitSignal_26 (by decide) (fun c_2 => ?_) (fun c_2 => ?_)
  · -- taken
    have hf : x_fe_awaitSignal S i a = q_st (q_st S 9 i 10 (.int 3)) 9 i 13 (.int a) := by unfold x_fe_awaitSignal; rw [if_neg c_2]
    rw [hf]
    exact q_vret hC hr hlocks hW hS rfl xd_fe_awaitSignal_33
  · -- not taken
    refine lv_iload_n hx hb xd_fe_awaitSignal_29 rfl (lv_at hl 0 rfl) ?_
    refine lv_if_ge (tgt := 34) hx hb xd_fe_awaitSignal_30 (by decide) (fun c_3 => ?_) (fun c_3 => ?_)
    · -- taken
      refine lv_aload_n hx hb xd_fe_awaitSignal_34 rfl (lv_at hl 2 rfl) ?_
      refine xg_fe_80 hC hW i hi xd_fe_awaitSignal_35 ?_
      refine xg_fe_304 hC hW i hi xd_fe_awaitSignal_38 ?_
      refine lv_iload_n hx hb xd_fe_awaitSignal_41 rfl (lv_at hl 0 rfl) ?_
      have hI_5 : xI (q_st (q_st S 9 i 10 (.int 3)) 9 i 13 (.int a)) := (q_Is (q_Is hI rfl) rfl)
      have h_4 : vp_in (x_ke_oldest (q_st (q_st S 9 i 10 (.int 3)) 9 i 13 (.int a)) i a) 4 := xO_in 5 _ 0 hI_5 rfl (by have q := c_3; exact fun z => absurd (Int32.lt_of_le_of_lt q z) (by decide))
      refine xal_17 hC hW i hi h_4 (q_sj (by decide) (q_sj (by decide) (rfl))) xd_fe_awaitSignal_42 ?_
      refine lv_istore (lv' := [(4, .int (q_i (S 17 i ((x_ke_oldest (q_st (q_st S 9 i 10 (.int 3)) 9 i 13 (.int a)) i a).toNatClampNeg)))), (3, .int (x_ke_oldest (q_st (q_st S 9 i 10 (.int 3)) 9 i 13 (.int a)) i a)), (0, .ref (q_a xX G 0 0)), (1, .ref (q_a xX G 9 i)), (2, .int a)]) hx hb xd_fe_awaitSignal_43 hl (by decide) rfl (fun ls hl => ?_)
      refine lv_aload_n hx hb xd_fe_awaitSignal_45 rfl (lv_at hl 3 rfl) ?_
      refine xg_fe_149 hC hW i hi xd_fe_awaitSignal_46 ?_
      refine lv_bipush (v := 7) hx hb xd_fe_awaitSignal_49 (by decide) ?_
      refine lv_iload_n hx hb xd_fe_awaitSignal_51 rfl (lv_at hl 4 rfl) ?_
      refine lv_iload hx hb xd_fe_awaitSignal_52 (lv_at hl 0 rfl) ?_
      have hI_6 : xI (q_st (q_st S 9 i 10 (.int 3)) 9 i 13 (.int a)) := (q_Is (q_Is hI rfl) rfl)
      refine q_calli hC hS (fun _ h => h) (q_runV (rest := []) hC hW (xC_hi_pass l G (q_st (q_st S 9 i 10 (.int 3)) 9 i 13 (.int a)) i 7 a (q_i (S 17 i ((x_ke_oldest (q_st (q_st S 9 i 10 (.int 3)) 9 i 13 (.int a)) i a).toNatClampNeg))) hi hI_6) (xc_fe_225 (q_rm 0) hC.1.2.2.2.2 ⟨Nat.le_of_ble_eq_true rfl, Nat.le_of_ble_eq_true rfl⟩ rfl rfl) hi rfl rfl rfl hl.1 rfl (Nat.le_of_ble_eq_true rfl) xd_fe_awaitSignal_54 ⟨Nat.zero_le _, Nat.zero_le _⟩) (fun H locs hW hS => ?_)
      refine lv_if_ne (tgt := 67) hx hb xd_fe_awaitSignal_57 (by decide) (fun c_7 => ?_) (fun c_7 => ?_)
      · -- taken
        refine lv_aload_n hx hb xd_fe_awaitSignal_67 rfl (lv_at hl 3 rfl) ?_
        refine xg_fe_80 hC hW i hi xd_fe_awaitSignal_68 ?_
        refine lv_iload_n hx hb xd_fe_awaitSignal_71 rfl (lv_at hl 1 rfl) ?_
        have hI_8 : xI ((x_hi_pass (q_st (q_st S 9 i 10 (.int 3)) 9 i 13 (.int a)) i 7 a (q_i (S 17 i ((x_ke_oldest (q_st (q_st S 9 i 10 (.int 3)) 9 i 13 (.int a)) i a).toNatClampNeg)))).2) := (xI_hi_pass (q_st (q_st S 9 i 10 (.int 3)) 9 i 13 (.int a)) i 7 a (q_i (S 17 i ((x_ke_oldest (q_st (q_st S 9 i 10 (.int 3)) 9 i 13 (.int a)) i a).toNatClampNeg))) hi hI_6)
        refine q_callv hC hS (fun _ h => h) (q_runV (rest := []) hC hW (xC_ke_drop l G ((x_hi_pass (q_st (q_st S 9 i 10 (.int 3)) 9 i 13 (.int a)) i 7 a (q_i (S 17 i ((x_ke_oldest (q_st (q_st S 9 i 10 (.int 3)) 9 i 13 (.int a)) i a).toNatClampNeg)))).2) i (x_ke_oldest (q_st (q_st S 9 i 10 (.int 3)) 9 i 13 (.int a)) i a) hi hI_8) (xc_fe_305 (q_rm 0) hC.1.2.2.2.2 ⟨Nat.le_of_ble_eq_true rfl, Nat.le_of_ble_eq_true rfl⟩ rfl rfl) hi rfl rfl rfl hl.1 rfl (Nat.le_of_ble_eq_true rfl) xd_fe_awaitSignal_72 ⟨Nat.zero_le _, Nat.zero_le _⟩) (fun H locs hW hS => ?_)
        refine lv_aload_n hx hb xd_fe_awaitSignal_75 rfl (lv_at hl 3 rfl) ?_
        refine lv_bipush (v := 7) hx hb xd_fe_awaitSignal_76 (by decide) ?_
        refine lv_iload hx hb xd_fe_awaitSignal_78 (lv_at hl 0 rfl) ?_
        have hI_9 : xI (x_ke_drop ((x_hi_pass (q_st (q_st S 9 i 10 (.int 3)) 9 i 13 (.int a)) i 7 a (q_i (S 17 i ((x_ke_oldest (q_st (q_st S 9 i 10 (.int 3)) 9 i 13 (.int a)) i a).toNatClampNeg)))).2) i (x_ke_oldest (q_st (q_st S 9 i 10 (.int 3)) 9 i 13 (.int a)) i a)) := (xI_ke_drop ((x_hi_pass (q_st (q_st S 9 i 10 (.int 3)) 9 i 13 (.int a)) i 7 a (q_i (S 17 i ((x_ke_oldest (q_st (q_st S 9 i 10 (.int 3)) 9 i 13 (.int a)) i a).toNatClampNeg)))).2) i (x_ke_oldest (q_st (q_st S 9 i 10 (.int 3)) 9 i 13 (.int a)) i a) hi hI_8)
        refine q_callv hC hS (fun _ h => h) (q_runV (rest := []) hC hW (xC_wf_resume l G (x_ke_drop ((x_hi_pass (q_st (q_st S 9 i 10 (.int 3)) 9 i 13 (.int a)) i 7 a (q_i (S 17 i ((x_ke_oldest (q_st (q_st S 9 i 10 (.int 3)) 9 i 13 (.int a)) i a).toNatClampNeg)))).2) i (x_ke_oldest (q_st (q_st S 9 i 10 (.int 3)) 9 i 13 (.int a)) i a)) i 7 (q_i (S 17 i ((x_ke_oldest (q_st (q_st S 9 i 10 (.int 3)) 9 i 13 (.int a)) i a).toNatClampNeg))) hi hI_9) (xc_fe_231 (q_rm 0) hC.1.2.2.2.2 ⟨Nat.le_of_ble_eq_true rfl, Nat.le_of_ble_eq_true rfl⟩ rfl rfl) hi rfl rfl rfl hl.1 rfl (Nat.le_of_ble_eq_true rfl) xd_fe_awaitSignal_80 ⟨Nat.zero_le _, Nat.zero_le _⟩) (fun H locs hW hS => ?_)
        have hf : x_fe_awaitSignal S i a = x_wf_resume (x_ke_drop ((x_hi_pass (q_st (q_st S 9 i 10 (.int 3)) 9 i 13 (.int a)) i 7 a (q_i (S 17 i ((x_ke_oldest (q_st (q_st S 9 i 10 (.int 3)) 9 i 13 (.int a)) i a).toNatClampNeg)))).2) i (x_ke_oldest (q_st (q_st S 9 i 10 (.int 3)) 9 i 13 (.int a)) i a)) i 7 (q_i (S 17 i ((x_ke_oldest (q_st (q_st S 9 i 10 (.int 3)) 9 i 13 (.int a)) i a).toNatClampNeg))) := by unfold x_fe_awaitSignal; rw [if_pos c_2, if_pos c_3, if_neg c_7]
        rw [hf]
        exact q_vret hC hr hlocks hW hS rfl xd_fe_awaitSignal_83
      · -- not taken
        refine lv_aload_n hx hb xd_fe_awaitSignal_60 rfl (lv_at hl 3 rfl) ?_
        refine lv_bipush (v := 7) hx hb xd_fe_awaitSignal_61 (by decide) ?_
        refine xg_fe_134p hC hW hS (fun _ h => h) i hi xd_fe_awaitSignal_63 (fun H locs hW hS => ?_)
        have hf : x_fe_awaitSignal S i a = q_st ((x_hi_pass (q_st (q_st S 9 i 10 (.int 3)) 9 i 13 (.int a)) i 7 a (q_i (S 17 i ((x_ke_oldest (q_st (q_st S 9 i 10 (.int 3)) 9 i 13 (.int a)) i a).toNatClampNeg)))).2) 9 i 10 (.int 7) := by unfold x_fe_awaitSignal; rw [if_pos c_2, if_pos c_3, if_pos c_7]
        rw [hf]
        exact q_vret hC hr hlocks hW hS rfl xd_fe_awaitSignal_66
    · -- not taken
      have hf : x_fe_awaitSignal S i a = q_st (q_st S 9 i 10 (.int 3)) 9 i 13 (.int a) := by unfold x_fe_awaitSignal; rw [if_pos c_2, if_neg c_3]
      rw [hf]
      exact q_vret hC hr hlocks hW hS rfl xd_fe_awaitSignal_33
set_option maxRecDepth 100000 in
set_option maxHeartbeats 4000000 in
theorem xI_fe_awaitSignal (S : q_S) (i : Nat) (a : Int32) (hi : i < 6) (hI : xI S) : xI (x_fe_awaitSignal S i a) := by
  by_cases c_2 : x_hi_isLeft (q_st (q_st S 9 i 10 (.int 3)) 9 i 13 (.int a)) i = 0
  · -- yes
    by_cases c_3 : 0 ≤ x_ke_oldest (q_st (q_st S 9 i 10 (.int 3)) 9 i 13 (.int a)) i a
    · -- yes
      by_cases c_7 : (x_hi_pass (q_st (q_st S 9 i 10 (.int 3)) 9 i 13 (.int a)) i 7 a (q_i (S 17 i ((x_ke_oldest (q_st (q_st S 9 i 10 (.int 3)) 9 i 13 (.int a)) i a).toNatClampNeg)))).1 = 0
      · -- yes
        have hI_1 : xI (q_st (q_st S 9 i 10 (.int 3)) 9 i 13 (.int a)) := (q_Is (q_Is hI rfl) rfl)
        have hI_5 : xI (q_st (q_st S 9 i 10 (.int 3)) 9 i 13 (.int a)) := (q_Is (q_Is hI rfl) rfl)
        have h_4 : vp_in (x_ke_oldest (q_st (q_st S 9 i 10 (.int 3)) 9 i 13 (.int a)) i a) 4 := xO_in 5 _ 0 hI_5 rfl (by have q := c_3; exact fun z => absurd (Int32.lt_of_le_of_lt q z) (by decide))
        have hI_6 : xI (q_st (q_st S 9 i 10 (.int 3)) 9 i 13 (.int a)) := (q_Is (q_Is hI rfl) rfl)
        have hf : x_fe_awaitSignal S i a = q_st ((x_hi_pass (q_st (q_st S 9 i 10 (.int 3)) 9 i 13 (.int a)) i 7 a (q_i (S 17 i ((x_ke_oldest (q_st (q_st S 9 i 10 (.int 3)) 9 i 13 (.int a)) i a).toNatClampNeg)))).2) 9 i 10 (.int 7) := by unfold x_fe_awaitSignal; rw [if_pos c_2, if_pos c_3, if_pos c_7]
        rw [hf]
        exact (q_Is (xI_hi_pass (q_st (q_st S 9 i 10 (.int 3)) 9 i 13 (.int a)) i 7 a (q_i (S 17 i ((x_ke_oldest (q_st (q_st S 9 i 10 (.int 3)) 9 i 13 (.int a)) i a).toNatClampNeg))) hi hI_6) rfl)
      · -- no
        have hI_1 : xI (q_st (q_st S 9 i 10 (.int 3)) 9 i 13 (.int a)) := (q_Is (q_Is hI rfl) rfl)
        have hI_5 : xI (q_st (q_st S 9 i 10 (.int 3)) 9 i 13 (.int a)) := (q_Is (q_Is hI rfl) rfl)
        have h_4 : vp_in (x_ke_oldest (q_st (q_st S 9 i 10 (.int 3)) 9 i 13 (.int a)) i a) 4 := xO_in 5 _ 0 hI_5 rfl (by have q := c_3; exact fun z => absurd (Int32.lt_of_le_of_lt q z) (by decide))
        have hI_6 : xI (q_st (q_st S 9 i 10 (.int 3)) 9 i 13 (.int a)) := (q_Is (q_Is hI rfl) rfl)
        have hI_8 : xI ((x_hi_pass (q_st (q_st S 9 i 10 (.int 3)) 9 i 13 (.int a)) i 7 a (q_i (S 17 i ((x_ke_oldest (q_st (q_st S 9 i 10 (.int 3)) 9 i 13 (.int a)) i a).toNatClampNeg)))).2) := (xI_hi_pass (q_st (q_st S 9 i 10 (.int 3)) 9 i 13 (.int a)) i 7 a (q_i (S 17 i ((x_ke_oldest (q_st (q_st S 9 i 10 (.int 3)) 9 i 13 (.int a)) i a).toNatClampNeg))) hi hI_6)
        have hI_9 : xI (x_ke_drop ((x_hi_pass (q_st (q_st S 9 i 10 (.int 3)) 9 i 13 (.int a)) i 7 a (q_i (S 17 i ((x_ke_oldest (q_st (q_st S 9 i 10 (.int 3)) 9 i 13 (.int a)) i a).toNatClampNeg)))).2) i (x_ke_oldest (q_st (q_st S 9 i 10 (.int 3)) 9 i 13 (.int a)) i a)) := (xI_ke_drop ((x_hi_pass (q_st (q_st S 9 i 10 (.int 3)) 9 i 13 (.int a)) i 7 a (q_i (S 17 i ((x_ke_oldest (q_st (q_st S 9 i 10 (.int 3)) 9 i 13 (.int a)) i a).toNatClampNeg)))).2) i (x_ke_oldest (q_st (q_st S 9 i 10 (.int 3)) 9 i 13 (.int a)) i a) hi hI_8)
        have hf : x_fe_awaitSignal S i a = x_wf_resume (x_ke_drop ((x_hi_pass (q_st (q_st S 9 i 10 (.int 3)) 9 i 13 (.int a)) i 7 a (q_i (S 17 i ((x_ke_oldest (q_st (q_st S 9 i 10 (.int 3)) 9 i 13 (.int a)) i a).toNatClampNeg)))).2) i (x_ke_oldest (q_st (q_st S 9 i 10 (.int 3)) 9 i 13 (.int a)) i a)) i 7 (q_i (S 17 i ((x_ke_oldest (q_st (q_st S 9 i 10 (.int 3)) 9 i 13 (.int a)) i a).toNatClampNeg))) := by unfold x_fe_awaitSignal; rw [if_pos c_2, if_pos c_3, if_neg c_7]
        rw [hf]
        exact (xI_wf_resume (x_ke_drop ((x_hi_pass (q_st (q_st S 9 i 10 (.int 3)) 9 i 13 (.int a)) i 7 a (q_i (S 17 i ((x_ke_oldest (q_st (q_st S 9 i 10 (.int 3)) 9 i 13 (.int a)) i a).toNatClampNeg)))).2) i (x_ke_oldest (q_st (q_st S 9 i 10 (.int 3)) 9 i 13 (.int a)) i a)) i 7 (q_i (S 17 i ((x_ke_oldest (q_st (q_st S 9 i 10 (.int 3)) 9 i 13 (.int a)) i a).toNatClampNeg))) hi hI_9)
    · -- no
      have hI_1 : xI (q_st (q_st S 9 i 10 (.int 3)) 9 i 13 (.int a)) := (q_Is (q_Is hI rfl) rfl)
      have hf : x_fe_awaitSignal S i a = q_st (q_st S 9 i 10 (.int 3)) 9 i 13 (.int a) := by unfold x_fe_awaitSignal; rw [if_pos c_2, if_neg c_3]
      rw [hf]
      exact (q_Is (q_Is hI rfl) rfl)
  · -- no
    have hI_1 : xI (q_st (q_st S 9 i 10 (.int 3)) 9 i 13 (.int a)) := (q_Is (q_Is hI rfl) rfl)
    have hf : x_fe_awaitSignal S i a = q_st (q_st S 9 i 10 (.int 3)) 9 i 13 (.int a) := by unfold x_fe_awaitSignal; rw [if_neg c_2]
    rw [hf]
    exact (q_Is (q_Is hI rfl) rfl)
set_option maxRecDepth 100000 in
set_option maxHeartbeats 4000000 in
theorem xK_fe_awaitSignal (S : q_S) (i : Nat) (a : Int32) (x y z : Nat) (h9 : x ≠ 9) (h10 : x ≠ 10) (h11 : x ≠ 11) (h12 : x ≠ 12) (h13 : x ≠ 13) (h14 : x ≠ 14) (h15 : x ≠ 15) (h16 : x ≠ 16) (h17 : x ≠ 17) : (x_fe_awaitSignal S i a) x y z = S x y z := by
  by_cases c_2 : x_hi_isLeft (q_st (q_st S 9 i 10 (.int 3)) 9 i 13 (.int a)) i = 0
  · -- yes
    by_cases c_3 : 0 ≤ x_ke_oldest (q_st (q_st S 9 i 10 (.int 3)) 9 i 13 (.int a)) i a
    · -- yes
      by_cases c_7 : (x_hi_pass (q_st (q_st S 9 i 10 (.int 3)) 9 i 13 (.int a)) i 7 a (q_i (S 17 i ((x_ke_oldest (q_st (q_st S 9 i 10 (.int 3)) 9 i 13 (.int a)) i a).toNatClampNeg)))).1 = 0
      · -- yes
        have hf : x_fe_awaitSignal S i a = q_st ((x_hi_pass (q_st (q_st S 9 i 10 (.int 3)) 9 i 13 (.int a)) i 7 a (q_i (S 17 i ((x_ke_oldest (q_st (q_st S 9 i 10 (.int 3)) 9 i 13 (.int a)) i a).toNatClampNeg)))).2) 9 i 10 (.int 7) := by unfold x_fe_awaitSignal; rw [if_pos c_2, if_pos c_3, if_pos c_7]
        rw [hf]
        exact (q_kj h9).trans (((xK_hi_pass (q_st (q_st S 9 i 10 (.int 3)) 9 i 13 (.int a)) i 7 a (q_i (S 17 i ((x_ke_oldest (q_st (q_st S 9 i 10 (.int 3)) 9 i 13 (.int a)) i a).toNatClampNeg))) x y z h11 h12 h13 h14)).trans ((q_kj h9).trans ((q_kj h9))))
      · -- no
        have hf : x_fe_awaitSignal S i a = x_wf_resume (x_ke_drop ((x_hi_pass (q_st (q_st S 9 i 10 (.int 3)) 9 i 13 (.int a)) i 7 a (q_i (S 17 i ((x_ke_oldest (q_st (q_st S 9 i 10 (.int 3)) 9 i 13 (.int a)) i a).toNatClampNeg)))).2) i (x_ke_oldest (q_st (q_st S 9 i 10 (.int 3)) 9 i 13 (.int a)) i a)) i 7 (q_i (S 17 i ((x_ke_oldest (q_st (q_st S 9 i 10 (.int 3)) 9 i 13 (.int a)) i a).toNatClampNeg))) := by unfold x_fe_awaitSignal; rw [if_pos c_2, if_pos c_3, if_neg c_7]
        rw [hf]
        exact ((xK_wf_resume (x_ke_drop ((x_hi_pass (q_st (q_st S 9 i 10 (.int 3)) 9 i 13 (.int a)) i 7 a (q_i (S 17 i ((x_ke_oldest (q_st (q_st S 9 i 10 (.int 3)) 9 i 13 (.int a)) i a).toNatClampNeg)))).2) i (x_ke_oldest (q_st (q_st S 9 i 10 (.int 3)) 9 i 13 (.int a)) i a)) i 7 (q_i (S 17 i ((x_ke_oldest (q_st (q_st S 9 i 10 (.int 3)) 9 i 13 (.int a)) i a).toNatClampNeg))) x y z h9 h10)).trans (((xK_ke_drop ((x_hi_pass (q_st (q_st S 9 i 10 (.int 3)) 9 i 13 (.int a)) i 7 a (q_i (S 17 i ((x_ke_oldest (q_st (q_st S 9 i 10 (.int 3)) 9 i 13 (.int a)) i a).toNatClampNeg)))).2) i (x_ke_oldest (q_st (q_st S 9 i 10 (.int 3)) 9 i 13 (.int a)) i a) x y z h15 h16 h17)).trans (((xK_hi_pass (q_st (q_st S 9 i 10 (.int 3)) 9 i 13 (.int a)) i 7 a (q_i (S 17 i ((x_ke_oldest (q_st (q_st S 9 i 10 (.int 3)) 9 i 13 (.int a)) i a).toNatClampNeg))) x y z h11 h12 h13 h14)).trans ((q_kj h9).trans ((q_kj h9)))))
    · -- no
      have hf : x_fe_awaitSignal S i a = q_st (q_st S 9 i 10 (.int 3)) 9 i 13 (.int a) := by unfold x_fe_awaitSignal; rw [if_pos c_2, if_neg c_3]
      rw [hf]
      exact (q_kj h9).trans ((q_kj h9))
  · -- no
    have hf : x_fe_awaitSignal S i a = q_st (q_st S 9 i 10 (.int 3)) 9 i 13 (.int a) := by unfold x_fe_awaitSignal; rw [if_neg c_2]
    rw [hf]
    exact (q_kj h9).trans ((q_kj h9))
def x_fe_step (S : q_S) (i : Nat) : q_S :=
  if q_i (S 9 i 12) < 60 then
    if x_hi_isLeft (q_st S 9 i 12 (.int ((q_i (S 9 i 12)) + 1))) i = 0 then
      if x_pr_opAt (q_st (q_st S 9 i 12 (.int ((q_i (S 9 i 12)) + 1))) 0 0 4 (.int ((q_i (S 0 0 4)) + 1))) ((q_i (S 9 i 9)).toNatClampNeg) (q_i (S 9 i 11)) = 5 then
        x_fe_want (q_st (q_st (q_st S 9 i 12 (.int ((q_i (S 9 i 12)) + 1))) 0 0 4 (.int ((q_i (S 0 0 4)) + 1))) 9 i 14 (.int (x_pr_secondAt (q_st (q_st S 9 i 12 (.int ((q_i (S 9 i 12)) + 1))) 0 0 4 (.int ((q_i (S 0 0 4)) + 1))) ((q_i (S 9 i 9)).toNatClampNeg) (q_i (S 9 i 11))))) i 1 (x_pr_firstAt (q_st (q_st S 9 i 12 (.int ((q_i (S 9 i 12)) + 1))) 0 0 4 (.int ((q_i (S 0 0 4)) + 1))) ((q_i (S 9 i 9)).toNatClampNeg) (q_i (S 9 i 11))) (q_i (S 10 i ((x_pr_secondAt (q_st (q_st S 9 i 12 (.int ((q_i (S 9 i 12)) + 1))) 0 0 4 (.int ((q_i (S 0 0 4)) + 1))) ((q_i (S 9 i 9)).toNatClampNeg) (q_i (S 9 i 11))).toNatClampNeg)))
      else
        if x_pr_opAt (q_st (q_st S 9 i 12 (.int ((q_i (S 9 i 12)) + 1))) 0 0 4 (.int ((q_i (S 0 0 4)) + 1))) ((q_i (S 9 i 9)).toNatClampNeg) (q_i (S 9 i 11)) = 6 then
          x_fe_sleep (q_st (q_st S 9 i 12 (.int ((q_i (S 9 i 12)) + 1))) 0 0 4 (.int ((q_i (S 0 0 4)) + 1))) i (q_i (S 10 i ((x_pr_firstAt (q_st (q_st S 9 i 12 (.int ((q_i (S 9 i 12)) + 1))) 0 0 4 (.int ((q_i (S 0 0 4)) + 1))) ((q_i (S 9 i 9)).toNatClampNeg) (q_i (S 9 i 11))).toNatClampNeg)))
        else
          if x_pr_opAt (q_st (q_st S 9 i 12 (.int ((q_i (S 9 i 12)) + 1))) 0 0 4 (.int ((q_i (S 0 0 4)) + 1))) ((q_i (S 9 i 9)).toNatClampNeg) (q_i (S 9 i 11)) = 7 then
            x_fe_awaitSignal (q_st (q_st (q_st S 9 i 12 (.int ((q_i (S 9 i 12)) + 1))) 0 0 4 (.int ((q_i (S 0 0 4)) + 1))) 9 i 14 (.int (x_pr_secondAt (q_st (q_st S 9 i 12 (.int ((q_i (S 9 i 12)) + 1))) 0 0 4 (.int ((q_i (S 0 0 4)) + 1))) ((q_i (S 9 i 9)).toNatClampNeg) (q_i (S 9 i 11))))) i (x_pr_firstAt (q_st (q_st S 9 i 12 (.int ((q_i (S 9 i 12)) + 1))) 0 0 4 (.int ((q_i (S 0 0 4)) + 1))) ((q_i (S 9 i 9)).toNatClampNeg) (q_i (S 9 i 11)))
          else
            if x_pr_opAt (q_st (q_st S 9 i 12 (.int ((q_i (S 9 i 12)) + 1))) 0 0 4 (.int ((q_i (S 0 0 4)) + 1))) ((q_i (S 9 i 9)).toNatClampNeg) (q_i (S 9 i 11)) = 8 then
              x_wf_note (q_st (q_st S 9 i 12 (.int ((q_i (S 9 i 12)) + 1))) 0 0 4 (.int ((q_i (S 0 0 4)) + 1))) i (x_pr_firstAt (q_st (q_st S 9 i 12 (.int ((q_i (S 9 i 12)) + 1))) 0 0 4 (.int ((q_i (S 0 0 4)) + 1))) ((q_i (S 9 i 9)).toNatClampNeg) (q_i (S 9 i 11))) (q_i (S 10 i ((x_pr_secondAt (q_st (q_st S 9 i 12 (.int ((q_i (S 9 i 12)) + 1))) 0 0 4 (.int ((q_i (S 0 0 4)) + 1))) ((q_i (S 9 i 9)).toNatClampNeg) (q_i (S 9 i 11))).toNatClampNeg)))
            else
              if x_pr_opAt (q_st (q_st S 9 i 12 (.int ((q_i (S 9 i 12)) + 1))) 0 0 4 (.int ((q_i (S 0 0 4)) + 1))) ((q_i (S 9 i 9)).toNatClampNeg) (q_i (S 9 i 11)) = 9 then
                q_st (q_st (q_st S 9 i 12 (.int ((q_i (S 9 i 12)) + 1))) 0 0 4 (.int ((q_i (S 0 0 4)) + 1))) 9 i 8 (.int 1)
              else
                if x_pr_opAt (q_st (q_st S 9 i 12 (.int ((q_i (S 9 i 12)) + 1))) 0 0 4 (.int ((q_i (S 0 0 4)) + 1))) ((q_i (S 9 i 9)).toNatClampNeg) (q_i (S 9 i 11)) = 10 then
                  q_st (q_st (q_st (q_st S 9 i 12 (.int ((q_i (S 9 i 12)) + 1))) 0 0 4 (.int ((q_i (S 0 0 4)) + 1))) 9 i 15 (.int (q_i (S 10 i ((x_pr_firstAt (q_st (q_st S 9 i 12 (.int ((q_i (S 9 i 12)) + 1))) 0 0 4 (.int ((q_i (S 0 0 4)) + 1))) ((q_i (S 9 i 9)).toNatClampNeg) (q_i (S 9 i 11))).toNatClampNeg))))) 9 i 10 (.int 5)
                else
                  x_wf_compute (q_st (q_st S 9 i 12 (.int ((q_i (S 9 i 12)) + 1))) 0 0 4 (.int ((q_i (S 0 0 4)) + 1))) i (x_pr_opAt (q_st (q_st S 9 i 12 (.int ((q_i (S 9 i 12)) + 1))) 0 0 4 (.int ((q_i (S 0 0 4)) + 1))) ((q_i (S 9 i 9)).toNatClampNeg) (q_i (S 9 i 11))) (x_pr_firstAt (q_st (q_st S 9 i 12 (.int ((q_i (S 9 i 12)) + 1))) 0 0 4 (.int ((q_i (S 0 0 4)) + 1))) ((q_i (S 9 i 9)).toNatClampNeg) (q_i (S 9 i 11))) (x_pr_secondAt (q_st (q_st S 9 i 12 (.int ((q_i (S 9 i 12)) + 1))) 0 0 4 (.int ((q_i (S 0 0 4)) + 1))) ((q_i (S 9 i 9)).toNatClampNeg) (q_i (S 9 i 11)))
    else
      if x_pr_opAt (q_st (q_st S 9 i 12 (.int ((q_i (S 9 i 12)) + 1))) 0 0 5 (.int ((q_i (S 0 0 5)) + 1))) ((q_i (S 9 i 9)).toNatClampNeg) (q_i (S 9 i 11)) = 5 then
        x_fe_want (q_st (q_st (q_st S 9 i 12 (.int ((q_i (S 9 i 12)) + 1))) 0 0 5 (.int ((q_i (S 0 0 5)) + 1))) 9 i 14 (.int (x_pr_secondAt (q_st (q_st S 9 i 12 (.int ((q_i (S 9 i 12)) + 1))) 0 0 5 (.int ((q_i (S 0 0 5)) + 1))) ((q_i (S 9 i 9)).toNatClampNeg) (q_i (S 9 i 11))))) i 1 (x_pr_firstAt (q_st (q_st S 9 i 12 (.int ((q_i (S 9 i 12)) + 1))) 0 0 5 (.int ((q_i (S 0 0 5)) + 1))) ((q_i (S 9 i 9)).toNatClampNeg) (q_i (S 9 i 11))) (q_i (S 10 i ((x_pr_secondAt (q_st (q_st S 9 i 12 (.int ((q_i (S 9 i 12)) + 1))) 0 0 5 (.int ((q_i (S 0 0 5)) + 1))) ((q_i (S 9 i 9)).toNatClampNeg) (q_i (S 9 i 11))).toNatClampNeg)))
      else
        if x_pr_opAt (q_st (q_st S 9 i 12 (.int ((q_i (S 9 i 12)) + 1))) 0 0 5 (.int ((q_i (S 0 0 5)) + 1))) ((q_i (S 9 i 9)).toNatClampNeg) (q_i (S 9 i 11)) = 6 then
          x_fe_sleep (q_st (q_st S 9 i 12 (.int ((q_i (S 9 i 12)) + 1))) 0 0 5 (.int ((q_i (S 0 0 5)) + 1))) i (q_i (S 10 i ((x_pr_firstAt (q_st (q_st S 9 i 12 (.int ((q_i (S 9 i 12)) + 1))) 0 0 5 (.int ((q_i (S 0 0 5)) + 1))) ((q_i (S 9 i 9)).toNatClampNeg) (q_i (S 9 i 11))).toNatClampNeg)))
        else
          if x_pr_opAt (q_st (q_st S 9 i 12 (.int ((q_i (S 9 i 12)) + 1))) 0 0 5 (.int ((q_i (S 0 0 5)) + 1))) ((q_i (S 9 i 9)).toNatClampNeg) (q_i (S 9 i 11)) = 7 then
            x_fe_awaitSignal (q_st (q_st (q_st S 9 i 12 (.int ((q_i (S 9 i 12)) + 1))) 0 0 5 (.int ((q_i (S 0 0 5)) + 1))) 9 i 14 (.int (x_pr_secondAt (q_st (q_st S 9 i 12 (.int ((q_i (S 9 i 12)) + 1))) 0 0 5 (.int ((q_i (S 0 0 5)) + 1))) ((q_i (S 9 i 9)).toNatClampNeg) (q_i (S 9 i 11))))) i (x_pr_firstAt (q_st (q_st S 9 i 12 (.int ((q_i (S 9 i 12)) + 1))) 0 0 5 (.int ((q_i (S 0 0 5)) + 1))) ((q_i (S 9 i 9)).toNatClampNeg) (q_i (S 9 i 11)))
          else
            if x_pr_opAt (q_st (q_st S 9 i 12 (.int ((q_i (S 9 i 12)) + 1))) 0 0 5 (.int ((q_i (S 0 0 5)) + 1))) ((q_i (S 9 i 9)).toNatClampNeg) (q_i (S 9 i 11)) = 8 then
              x_wf_note (q_st (q_st S 9 i 12 (.int ((q_i (S 9 i 12)) + 1))) 0 0 5 (.int ((q_i (S 0 0 5)) + 1))) i (x_pr_firstAt (q_st (q_st S 9 i 12 (.int ((q_i (S 9 i 12)) + 1))) 0 0 5 (.int ((q_i (S 0 0 5)) + 1))) ((q_i (S 9 i 9)).toNatClampNeg) (q_i (S 9 i 11))) (q_i (S 10 i ((x_pr_secondAt (q_st (q_st S 9 i 12 (.int ((q_i (S 9 i 12)) + 1))) 0 0 5 (.int ((q_i (S 0 0 5)) + 1))) ((q_i (S 9 i 9)).toNatClampNeg) (q_i (S 9 i 11))).toNatClampNeg)))
            else
              if x_pr_opAt (q_st (q_st S 9 i 12 (.int ((q_i (S 9 i 12)) + 1))) 0 0 5 (.int ((q_i (S 0 0 5)) + 1))) ((q_i (S 9 i 9)).toNatClampNeg) (q_i (S 9 i 11)) = 9 then
                q_st (q_st (q_st S 9 i 12 (.int ((q_i (S 9 i 12)) + 1))) 0 0 5 (.int ((q_i (S 0 0 5)) + 1))) 9 i 8 (.int 1)
              else
                if x_pr_opAt (q_st (q_st S 9 i 12 (.int ((q_i (S 9 i 12)) + 1))) 0 0 5 (.int ((q_i (S 0 0 5)) + 1))) ((q_i (S 9 i 9)).toNatClampNeg) (q_i (S 9 i 11)) = 10 then
                  q_st (q_st (q_st (q_st S 9 i 12 (.int ((q_i (S 9 i 12)) + 1))) 0 0 5 (.int ((q_i (S 0 0 5)) + 1))) 9 i 15 (.int (q_i (S 10 i ((x_pr_firstAt (q_st (q_st S 9 i 12 (.int ((q_i (S 9 i 12)) + 1))) 0 0 5 (.int ((q_i (S 0 0 5)) + 1))) ((q_i (S 9 i 9)).toNatClampNeg) (q_i (S 9 i 11))).toNatClampNeg))))) 9 i 10 (.int 5)
                else
                  x_wf_compute (q_st (q_st S 9 i 12 (.int ((q_i (S 9 i 12)) + 1))) 0 0 5 (.int ((q_i (S 0 0 5)) + 1))) i (x_pr_opAt (q_st (q_st S 9 i 12 (.int ((q_i (S 9 i 12)) + 1))) 0 0 5 (.int ((q_i (S 0 0 5)) + 1))) ((q_i (S 9 i 9)).toNatClampNeg) (q_i (S 9 i 11))) (x_pr_firstAt (q_st (q_st S 9 i 12 (.int ((q_i (S 9 i 12)) + 1))) 0 0 5 (.int ((q_i (S 0 0 5)) + 1))) ((q_i (S 9 i 9)).toNatClampNeg) (q_i (S 9 i 11))) (x_pr_secondAt (q_st (q_st S 9 i 12 (.int ((q_i (S 9 i 12)) + 1))) 0 0 5 (.int ((q_i (S 0 0 5)) + 1))) ((q_i (S 9 i 9)).toNatClampNeg) (q_i (S 9 i 11)))
  else
    q_st S 9 i 10 (.int 7)
set_option maxRecDepth 100000 in
set_option maxHeartbeats 4000000 in
theorem xC_fe_step (l : Launch) (G : q_G) (S : q_S) (i : Nat) (hi : i < 6) (hI : xI S) (hJ : xJ S) : q_Mv xX G l xy_fe_step (q_ws (q_gw lw_tbl) xy_fe_step xb_fe_step 6 none) (q_rm 2) [.ref (q_a xX G 0 0), .ref (q_a xX G 9 i)] S (x_fe_step S i) := by
  refine q_met (cc := xb_fe_step) (maxL := 6) (ret := none) xOk (by decide) rfl (Nat.le_of_ble_eq_true rfl) ?_
  intro p e s m below meth c ls hC hr hlocks hW hS hl
  have hx := hC.1.1
  have hb := hC.1.2.1
  have hl : lv_has ls 6 [(0, .ref (q_a xX G 0 0)), (1, .ref (q_a xX G 9 i))] := hl
  refine lv_aload_n hx hb xd_fe_step_0 rfl (lv_at hl 1 rfl) ?_
  refine xg_fe_228 hC hW i hi (rfl) xd_fe_step_1 ?_
  refine lv_bipush (v := 60) hx hb xd_fe_step_4 (by decide) ?_
  refine lv_icmp_lt (tgt := 16) hx hb xd_fe_step_6 (by decide) (fun c_1 => ?_) (fun c_1 => ?_)
  · -- taken
    refine lv_aload_n hx hb xd_fe_step_16 rfl (lv_at hl 1 rfl) ?_
    refine lv_dup hx hb xd_fe_step_17 rfl ?_
    refine xg_fe_228 hC hW i hi (rfl) xd_fe_step_18 ?_
    refine lv_iconst (v := 1) hx hb xd_fe_step_21 (by decide) ?_
    refine lv_iadd hx hb xd_fe_step_22 ?_
    refine xg_fe_228p hC hW hS (fun _ h => h) i hi xd_fe_step_23 (fun H locs hW hS => ?_)
    refine lv_aload_n hx hb xd_fe_step_26 rfl (lv_at hl 1 rfl) ?_
    refine xg_fe_149 hC hW i hi xd_fe_step_27 ?_
    refine q_calli hC hS (fun _ h => h) (q_runV (rest := []) hC hW (xC_hi_isLeft l G (q_st S 9 i 12 (.int ((q_i (S 9 i 12)) + 1))) i hi) (xc_fe_252 (q_rm 0) hC.1.2.2.2.2 ⟨Nat.le_of_ble_eq_true rfl, Nat.le_of_ble_eq_true rfl⟩ rfl rfl) hi rfl rfl rfl hl.1 rfl (Nat.le_of_ble_eq_true rfl) xd_fe_step_30 ⟨Nat.zero_le _, Nat.zero_le _⟩) (fun H locs hW hS => ?_)
    refine lv_if_eq (tgt := 49) hx hb xd_fe_step_33 (by decide) (fun c_2 => ?_) (fun c_2 => ?_)
    · -- taken
      refine lv_aload_n hx hb xd_fe_step_49 rfl (lv_at hl 0 rfl) ?_
      refine lv_dup hx hb xd_fe_step_50 rfl ?_
      refine xg_fe_192 hC hW 0 Nat.one_pos (q_sj (by decide) (rfl)) xd_fe_step_51 ?_
      refine lv_iconst (v := 1) hx hb xd_fe_step_54 (by decide) ?_
      refine lv_iadd hx hb xd_fe_step_55 ?_
      refine xg_fe_192p hC hW hS (fun _ h => h) 0 Nat.one_pos xd_fe_step_56 (fun H locs hW hS => ?_)
      refine lv_aload_n hx hb xd_fe_step_59 rfl (lv_at hl 0 rfl) ?_
      refine xg_fe_11 hC hW 0 Nat.one_pos xd_fe_step_60 ?_
      refine lv_aload_n hx hb xd_fe_step_63 rfl (lv_at hl 1 rfl) ?_
      refine xg_fe_146 hC hW i hi (q_sj (by decide) (q_sk (by decide) (rfl))) xd_fe_step_64 ?_
      have h_3 : vp_in (q_i (S 9 i 9)) 3 := by have b1 : 0 ≤ (q_i (S 9 i 9)).toInt ∧ (q_i (S 9 i 9)).toInt ≤ 2 := hI 9 i 9; have b2 : 0 ≤ (q_i (S 9 i 12)).toInt ∧ (q_i (S 9 i 12)).toInt ≤ 60 := hI 9 i 12; simp only [vp_in_iff, Int32.lt_iff_toInt_lt, Int32.le_iff_toInt_le, q_n0, q_n1, q_n2, q_n3, q_n4, q_n5, q_n6, q_n7, q_n10, q_n14, q_n15, q_n20, q_n60, q_n1288] at c_1 ⊢; omega
      refine xal_1 hC hW 0 Nat.one_pos h_3 xd_fe_step_67 ?_
      refine lv_astore_n (lv' := [(2, .ref (q_a xX G 5 ((q_i (S 9 i 9)).toNatClampNeg))), (0, .ref (q_a xX G 0 0)), (1, .ref (q_a xX G 9 i))]) hx hb xd_fe_step_68 rfl hl (by decide) rfl (fun ls hl => ?_)
      refine lv_aload_n hx hb xd_fe_step_69 rfl (lv_at hl 0 rfl) ?_
      refine lv_aload_n hx hb xd_fe_step_70 rfl (lv_at hl 2 rfl) ?_
      refine W.eq (g2 := F0 m 71 ls [.ref (q_a xX G 9 i), .ref (q_a xX G 5 ((q_i (S 9 i 9)).toNatClampNeg))]) rfl ?_
      refine xg_fe_159 hC hW i hi (q_sj (by decide) (q_sk (by decide) (rfl))) xd_fe_step_71 ?_
      have hJ_4 : xJ (q_st (q_st S 9 i 12 (.int ((q_i (S 9 i 12)) + 1))) 0 0 4 (.int ((q_i (S 0 0 4)) + 1))) := xJ_keep hJ (fun x y z hx => (q_kj (show x ≠ 0 by omega)).trans ((q_kj (show x ≠ 9 by omega))))
      have hI_5 : xI (q_st (q_st S 9 i 12 (.int ((q_i (S 9 i 12)) + 1))) 0 0 4 (.int ((q_i (S 0 0 4)) + 1))) := (q_Is (xI_st hI (by have b1 : 0 ≤ (q_i (S 9 i 12)).toInt ∧ (q_i (S 9 i 12)).toInt ≤ 60 := hI 9 i 12; have d_1 := q_inc (x := (q_i (S 9 i 12))) (by omega); simp only [Int32.lt_iff_toInt_lt, Int32.le_iff_toInt_le, q_n0, q_n1, q_n2, q_n3, q_n4, q_n5, q_n6, q_n7, q_n10, q_n14, q_n15, q_n20, q_n60, q_n1288] at c_1; show 0 ≤ ((q_i (S 9 i 12)) + 1).toInt ∧ ((q_i (S 9 i 12)) + 1).toInt ≤ 60; rw [q_inc (by omega)]; omega)) rfl)
      refine q_calli hC hS (fun _ h => h) (q_runV (rest := []) hC hW (xC_pr_opAt l G (q_st (q_st S 9 i 12 (.int ((q_i (S 9 i 12)) + 1))) 0 0 4 (.int ((q_i (S 0 0 4)) + 1))) ((q_i (S 9 i 9)).toNatClampNeg) (q_i (S 9 i 11)) (q_lt h_3) hI_5) (xc_fe_261 (q_rm 1) hC.1.2.2.2.2 ⟨Nat.le_of_ble_eq_true rfl, Nat.le_of_ble_eq_true rfl⟩ rfl rfl) (q_lt h_3) rfl rfl rfl hl.1 rfl (Nat.le_of_ble_eq_true rfl) xd_fe_step_74 ⟨Nat.zero_le _, Nat.zero_le _⟩) (fun H locs hW hS => ?_)
      refine lv_istore_n (lv' := [(3, .int (x_pr_opAt (q_st (q_st S 9 i 12 (.int ((q_i (S 9 i 12)) + 1))) 0 0 4 (.int ((q_i (S 0 0 4)) + 1))) ((q_i (S 9 i 9)).toNatClampNeg) (q_i (S 9 i 11)))), (2, .ref (q_a xX G 5 ((q_i (S 9 i 9)).toNatClampNeg))), (0, .ref (q_a xX G 0 0)), (1, .ref (q_a xX G 9 i))]) hx hb xd_fe_step_77 rfl hl (by decide) rfl (fun ls hl => ?_)
      refine lv_aload_n hx hb xd_fe_step_78 rfl (lv_at hl 1 rfl) ?_
      refine lv_aload_n hx hb xd_fe_step_79 rfl (lv_at hl 3 rfl) ?_
      refine xg_fe_159 hC hW i hi (q_sj (by decide) (q_sk (by decide) (rfl))) xd_fe_step_80 ?_
      have hI_6 : xI (q_st (q_st S 9 i 12 (.int ((q_i (S 9 i 12)) + 1))) 0 0 4 (.int ((q_i (S 0 0 4)) + 1))) := (q_Is (xI_st hI (by have b1 : 0 ≤ (q_i (S 9 i 12)).toInt ∧ (q_i (S 9 i 12)).toInt ≤ 60 := hI 9 i 12; have d_1 := q_inc (x := (q_i (S 9 i 12))) (by omega); simp only [Int32.lt_iff_toInt_lt, Int32.le_iff_toInt_le, q_n0, q_n1, q_n2, q_n3, q_n4, q_n5, q_n6, q_n7, q_n10, q_n14, q_n15, q_n20, q_n60, q_n1288] at c_1; show 0 ≤ ((q_i (S 9 i 12)) + 1).toInt ∧ ((q_i (S 9 i 12)) + 1).toInt ≤ 60; rw [q_inc (by omega)]; omega)) rfl)
      refine q_calli hC hS (fun _ h => h) (q_runV (rest := []) hC hW (xC_pr_firstAt l G (q_st (q_st S 9 i 12 (.int ((q_i (S 9 i 12)) + 1))) 0 0 4 (.int ((q_i (S 0 0 4)) + 1))) ((q_i (S 9 i 9)).toNatClampNeg) (q_i (S 9 i 11)) (q_lt h_3) hI_6) (xc_fe_265 (q_rm 1) hC.1.2.2.2.2 ⟨Nat.le_of_ble_eq_true rfl, Nat.le_of_ble_eq_true rfl⟩ rfl rfl) (q_lt h_3) rfl rfl rfl hl.1 rfl (Nat.le_of_ble_eq_true rfl) xd_fe_step_83 ⟨Nat.zero_le _, Nat.zero_le _⟩) (fun H locs hW hS => ?_)
      refine lv_istore (lv' := [(4, .int (x_pr_firstAt (q_st (q_st S 9 i 12 (.int ((q_i (S 9 i 12)) + 1))) 0 0 4 (.int ((q_i (S 0 0 4)) + 1))) ((q_i (S 9 i 9)).toNatClampNeg) (q_i (S 9 i 11)))), (3, .int (x_pr_opAt (q_st (q_st S 9 i 12 (.int ((q_i (S 9 i 12)) + 1))) 0 0 4 (.int ((q_i (S 0 0 4)) + 1))) ((q_i (S 9 i 9)).toNatClampNeg) (q_i (S 9 i 11)))), (2, .ref (q_a xX G 5 ((q_i (S 9 i 9)).toNatClampNeg))), (0, .ref (q_a xX G 0 0)), (1, .ref (q_a xX G 9 i))]) hx hb xd_fe_step_86 hl (by decide) rfl (fun ls hl => ?_)
      refine lv_aload_n hx hb xd_fe_step_88 rfl (lv_at hl 2 rfl) ?_
      refine lv_aload_n hx hb xd_fe_step_89 rfl (lv_at hl 4 rfl) ?_
      refine xg_fe_159 hC hW i hi (q_sj (by decide) (q_sk (by decide) (rfl))) xd_fe_step_90 ?_
      have hI_7 : xI (q_st (q_st S 9 i 12 (.int ((q_i (S 9 i 12)) + 1))) 0 0 4 (.int ((q_i (S 0 0 4)) + 1))) := (q_Is (xI_st hI (by have b1 : 0 ≤ (q_i (S 9 i 12)).toInt ∧ (q_i (S 9 i 12)).toInt ≤ 60 := hI 9 i 12; have d_1 := q_inc (x := (q_i (S 9 i 12))) (by omega); simp only [Int32.lt_iff_toInt_lt, Int32.le_iff_toInt_le, q_n0, q_n1, q_n2, q_n3, q_n4, q_n5, q_n6, q_n7, q_n10, q_n14, q_n15, q_n20, q_n60, q_n1288] at c_1; show 0 ≤ ((q_i (S 9 i 12)) + 1).toInt ∧ ((q_i (S 9 i 12)) + 1).toInt ≤ 60; rw [q_inc (by omega)]; omega)) rfl)
      refine q_calli hC hS (fun _ h => h) (q_runV (rest := []) hC hW (xC_pr_secondAt l G (q_st (q_st S 9 i 12 (.int ((q_i (S 9 i 12)) + 1))) 0 0 4 (.int ((q_i (S 0 0 4)) + 1))) ((q_i (S 9 i 9)).toNatClampNeg) (q_i (S 9 i 11)) (q_lt h_3) hI_7) (xc_fe_268 (q_rm 1) hC.1.2.2.2.2 ⟨Nat.le_of_ble_eq_true rfl, Nat.le_of_ble_eq_true rfl⟩ rfl rfl) (q_lt h_3) rfl rfl rfl hl.1 rfl (Nat.le_of_ble_eq_true rfl) xd_fe_step_93 ⟨Nat.zero_le _, Nat.zero_le _⟩) (fun H locs hW hS => ?_)
      refine lv_istore (lv' := [(5, .int (x_pr_secondAt (q_st (q_st S 9 i 12 (.int ((q_i (S 9 i 12)) + 1))) 0 0 4 (.int ((q_i (S 0 0 4)) + 1))) ((q_i (S 9 i 9)).toNatClampNeg) (q_i (S 9 i 11)))), (4, .int (x_pr_firstAt (q_st (q_st S 9 i 12 (.int ((q_i (S 9 i 12)) + 1))) 0 0 4 (.int ((q_i (S 0 0 4)) + 1))) ((q_i (S 9 i 9)).toNatClampNeg) (q_i (S 9 i 11)))), (3, .int (x_pr_opAt (q_st (q_st S 9 i 12 (.int ((q_i (S 9 i 12)) + 1))) 0 0 4 (.int ((q_i (S 0 0 4)) + 1))) ((q_i (S 9 i 9)).toNatClampNeg) (q_i (S 9 i 11)))), (2, .ref (q_a xX G 5 ((q_i (S 9 i 9)).toNatClampNeg))), (0, .ref (q_a xX G 0 0)), (1, .ref (q_a xX G 9 i))]) hx hb xd_fe_step_96 hl (by decide) rfl (fun ls hl => ?_)
      refine lv_iload_n hx hb xd_fe_step_98 rfl (lv_at hl 2 rfl) ?_
      refine W.eq (g2 := F0 m 99 ls [.int (x_pr_opAt (q_st (q_st S 9 i 12 (.int ((q_i (S 9 i 12)) + 1))) 0 0 4 (.int ((q_i (S 0 0 4)) + 1))) ((q_i (S 9 i 9)).toNatClampNeg) (q_i (S 9 i 11)))]) rfl ?_
      by_cases c_8 : x_pr_opAt (q_st (q_st S 9 i 12 (.int ((q_i (S 9 i 12)) + 1))) 0 0 4 (.int ((q_i (S 0 0 4)) + 1))) ((q_i (S 9 i 9)).toNatClampNeg) (q_i (S 9 i 11)) = 5
      · -- case 5
        refine lv_tableIn (off := 37) (tgt := 136) hx hb xd_fe_step_99 (by rw [c_8]; decide) (by rw [c_8]; decide) (by rw [c_8]; decide) (by decide) ?_
        refine lv_aload_n hx hb xd_fe_step_136 rfl (lv_at hl 5 rfl) ?_
        refine lv_iload hx hb xd_fe_step_137 (lv_at hl 0 rfl) ?_
        refine xg_fe_271p hC hW hS (fun _ h => h) i hi xd_fe_step_139 (fun H locs hW hS => ?_)
        refine lv_aload_n hx hb xd_fe_step_142 rfl (lv_at hl 4 rfl) ?_
        refine lv_aload_n hx hb xd_fe_step_143 rfl (lv_at hl 5 rfl) ?_
        refine lv_iconst (v := 1) hx hb xd_fe_step_144 (by decide) ?_
        refine lv_iload hx hb xd_fe_step_145 (lv_at hl 1 rfl) ?_
        refine lv_aload_n hx hb xd_fe_step_147 rfl (lv_at hl 5 rfl) ?_
        refine xg_fe_176 hC hW i hi xd_fe_step_148 ?_
        refine lv_iload hx hb xd_fe_step_151 (lv_at hl 0 rfl) ?_
        have h_9 : vp_in (x_pr_secondAt (q_st (q_st S 9 i 12 (.int ((q_i (S 9 i 12)) + 1))) 0 0 4 (.int ((q_i (S 0 0 4)) + 1))) ((q_i (S 9 i 9)).toNatClampNeg) (q_i (S 9 i 11))) 4 := xJ_b hJ_4 (q_lt h_3) c_8 (by decide)
        refine xal_10 hC hW i hi h_9 (q_sj (by decide) (q_sj (by decide) (q_sj (by decide) (rfl)))) xd_fe_step_153 ?_
        have hI_10 : xI (q_st (q_st (q_st S 9 i 12 (.int ((q_i (S 9 i 12)) + 1))) 0 0 4 (.int ((q_i (S 0 0 4)) + 1))) 9 i 14 (.int (x_pr_secondAt (q_st (q_st S 9 i 12 (.int ((q_i (S 9 i 12)) + 1))) 0 0 4 (.int ((q_i (S 0 0 4)) + 1))) ((q_i (S 9 i 9)).toNatClampNeg) (q_i (S 9 i 11))))) := (xI_st (q_Is (xI_st hI (by have b1 : 0 ≤ (q_i (S 9 i 12)).toInt ∧ (q_i (S 9 i 12)).toInt ≤ 60 := hI 9 i 12; have b2 : 0 ≤ (q_i (S 9 i 9)).toInt ∧ (q_i (S 9 i 9)).toInt ≤ 2 := hI 9 i 9; have d_1 := q_inc (x := (q_i (S 9 i 12))) (by omega); simp only [Int32.lt_iff_toInt_lt, Int32.le_iff_toInt_le, q_n0, q_n1, q_n2, q_n3, q_n4, q_n5, q_n6, q_n7, q_n10, q_n14, q_n15, q_n20, q_n60, q_n1288] at c_1; show 0 ≤ ((q_i (S 9 i 12)) + 1).toInt ∧ ((q_i (S 9 i 12)) + 1).toInt ≤ 60; rw [q_inc (by omega)]; omega)) rfl) (by exact xV_bd (xJ_b hJ_4 (q_lt h_3) c_8 (by decide))))
        refine q_callv hC hS (fun _ h => h) (q_runV (rest := []) hC hW (xC_fe_want l G (q_st (q_st (q_st S 9 i 12 (.int ((q_i (S 9 i 12)) + 1))) 0 0 4 (.int ((q_i (S 0 0 4)) + 1))) 9 i 14 (.int (x_pr_secondAt (q_st (q_st S 9 i 12 (.int ((q_i (S 9 i 12)) + 1))) 0 0 4 (.int ((q_i (S 0 0 4)) + 1))) ((q_i (S 9 i 9)).toNatClampNeg) (q_i (S 9 i 11))))) i 1 (x_pr_firstAt (q_st (q_st S 9 i 12 (.int ((q_i (S 9 i 12)) + 1))) 0 0 4 (.int ((q_i (S 0 0 4)) + 1))) ((q_i (S 9 i 9)).toNatClampNeg) (q_i (S 9 i 11))) (q_i (S 10 i ((x_pr_secondAt (q_st (q_st S 9 i 12 (.int ((q_i (S 9 i 12)) + 1))) 0 0 4 (.int ((q_i (S 0 0 4)) + 1))) ((q_i (S 9 i 9)).toNatClampNeg) (q_i (S 9 i 11))).toNatClampNeg))) hi hI_10) (xc_fe_274 (q_rm 1) hC.1.2.2.2.2 ⟨Nat.le_of_ble_eq_true rfl, Nat.le_of_ble_eq_true rfl⟩ rfl rfl) Nat.one_pos rfl rfl rfl hl.1 rfl (Nat.le_of_ble_eq_true rfl) xd_fe_step_154 ⟨Nat.zero_le _, Nat.zero_le _⟩) (fun H locs hW hS => ?_)
        refine lv_goto (tgt := 243) hx hb xd_fe_step_157 (by decide) ?_
        have hf : x_fe_step S i = x_fe_want (q_st (q_st (q_st S 9 i 12 (.int ((q_i (S 9 i 12)) + 1))) 0 0 4 (.int ((q_i (S 0 0 4)) + 1))) 9 i 14 (.int (x_pr_secondAt (q_st (q_st S 9 i 12 (.int ((q_i (S 9 i 12)) + 1))) 0 0 4 (.int ((q_i (S 0 0 4)) + 1))) ((q_i (S 9 i 9)).toNatClampNeg) (q_i (S 9 i 11))))) i 1 (x_pr_firstAt (q_st (q_st S 9 i 12 (.int ((q_i (S 9 i 12)) + 1))) 0 0 4 (.int ((q_i (S 0 0 4)) + 1))) ((q_i (S 9 i 9)).toNatClampNeg) (q_i (S 9 i 11))) (q_i (S 10 i ((x_pr_secondAt (q_st (q_st S 9 i 12 (.int ((q_i (S 9 i 12)) + 1))) 0 0 4 (.int ((q_i (S 0 0 4)) + 1))) ((q_i (S 9 i 9)).toNatClampNeg) (q_i (S 9 i 11))).toNatClampNeg))) := by unfold x_fe_step; rw [if_pos c_1, if_pos c_2, if_pos c_8]
        rw [hf]
        exact q_vret hC hr hlocks hW hS rfl xd_fe_step_243
      · -- others
        by_cases c_11 : x_pr_opAt (q_st (q_st S 9 i 12 (.int ((q_i (S 9 i 12)) + 1))) 0 0 4 (.int ((q_i (S 0 0 4)) + 1))) ((q_i (S 9 i 9)).toNatClampNeg) (q_i (S 9 i 11)) = 6
        · -- case 6
          refine lv_tableIn (off := 61) (tgt := 160) hx hb xd_fe_step_99 (by rw [c_11]; decide) (by rw [c_11]; decide) (by rw [c_11]; decide) (by decide) ?_
          refine lv_aload_n hx hb xd_fe_step_160 rfl (lv_at hl 4 rfl) ?_
          refine lv_aload_n hx hb xd_fe_step_161 rfl (lv_at hl 5 rfl) ?_
          refine lv_aload_n hx hb xd_fe_step_162 rfl (lv_at hl 5 rfl) ?_
          refine xg_fe_176 hC hW i hi xd_fe_step_163 ?_
          refine lv_iload hx hb xd_fe_step_166 (lv_at hl 1 rfl) ?_
          have h_12 : vp_in (x_pr_firstAt (q_st (q_st S 9 i 12 (.int ((q_i (S 9 i 12)) + 1))) 0 0 4 (.int ((q_i (S 0 0 4)) + 1))) ((q_i (S 9 i 9)).toNatClampNeg) (q_i (S 9 i 11))) 4 := xJ_a hJ_4 (q_lt h_3) c_11 (by decide)
          refine xal_10 hC hW i hi h_12 (q_sj (by decide) (q_sj (by decide) (rfl))) xd_fe_step_168 ?_
          have hI_13 : xI (q_st (q_st S 9 i 12 (.int ((q_i (S 9 i 12)) + 1))) 0 0 4 (.int ((q_i (S 0 0 4)) + 1))) := (q_Is (xI_st hI (by have b1 : 0 ≤ (q_i (S 9 i 12)).toInt ∧ (q_i (S 9 i 12)).toInt ≤ 60 := hI 9 i 12; have b2 : 0 ≤ (q_i (S 9 i 9)).toInt ∧ (q_i (S 9 i 9)).toInt ≤ 2 := hI 9 i 9; have d_1 := q_inc (x := (q_i (S 9 i 12))) (by omega); simp only [Int32.lt_iff_toInt_lt, Int32.le_iff_toInt_le, q_n0, q_n1, q_n2, q_n3, q_n4, q_n5, q_n6, q_n7, q_n10, q_n14, q_n15, q_n20, q_n60, q_n1288] at c_1; show 0 ≤ ((q_i (S 9 i 12)) + 1).toInt ∧ ((q_i (S 9 i 12)) + 1).toInt ≤ 60; rw [q_inc (by omega)]; omega)) rfl)
          refine q_callv hC hS (fun _ h => h) (q_runV (rest := []) hC hW (xC_fe_sleep l G (q_st (q_st S 9 i 12 (.int ((q_i (S 9 i 12)) + 1))) 0 0 4 (.int ((q_i (S 0 0 4)) + 1))) i (q_i (S 10 i ((x_pr_firstAt (q_st (q_st S 9 i 12 (.int ((q_i (S 9 i 12)) + 1))) 0 0 4 (.int ((q_i (S 0 0 4)) + 1))) ((q_i (S 9 i 9)).toNatClampNeg) (q_i (S 9 i 11))).toNatClampNeg))) hi hI_13) (xc_fe_277 (q_rm 1) hC.1.2.2.2.2 ⟨Nat.le_of_ble_eq_true rfl, Nat.le_of_ble_eq_true rfl⟩ rfl rfl) Nat.one_pos rfl rfl rfl hl.1 rfl (Nat.le_of_ble_eq_true rfl) xd_fe_step_169 ⟨Nat.zero_le _, Nat.zero_le _⟩) (fun H locs hW hS => ?_)
          refine lv_goto (tgt := 243) hx hb xd_fe_step_172 (by decide) ?_
          have hf : x_fe_step S i = x_fe_sleep (q_st (q_st S 9 i 12 (.int ((q_i (S 9 i 12)) + 1))) 0 0 4 (.int ((q_i (S 0 0 4)) + 1))) i (q_i (S 10 i ((x_pr_firstAt (q_st (q_st S 9 i 12 (.int ((q_i (S 9 i 12)) + 1))) 0 0 4 (.int ((q_i (S 0 0 4)) + 1))) ((q_i (S 9 i 9)).toNatClampNeg) (q_i (S 9 i 11))).toNatClampNeg))) := by unfold x_fe_step; rw [if_pos c_1, if_pos c_2, if_neg c_8, if_pos c_11]
          rw [hf]
          exact q_vret hC hr hlocks hW hS rfl xd_fe_step_243
        · -- others
          by_cases c_14 : x_pr_opAt (q_st (q_st S 9 i 12 (.int ((q_i (S 9 i 12)) + 1))) 0 0 4 (.int ((q_i (S 0 0 4)) + 1))) ((q_i (S 9 i 9)).toNatClampNeg) (q_i (S 9 i 11)) = 7
          · -- case 7
            refine lv_tableIn (off := 76) (tgt := 175) hx hb xd_fe_step_99 (by rw [c_14]; decide) (by rw [c_14]; decide) (by rw [c_14]; decide) (by decide) ?_
            refine lv_aload_n hx hb xd_fe_step_175 rfl (lv_at hl 5 rfl) ?_
            refine lv_iload hx hb xd_fe_step_176 (lv_at hl 0 rfl) ?_
            refine xg_fe_271p hC hW hS (fun _ h => h) i hi xd_fe_step_178 (fun H locs hW hS => ?_)
            refine lv_aload_n hx hb xd_fe_step_181 rfl (lv_at hl 4 rfl) ?_
            refine lv_aload_n hx hb xd_fe_step_182 rfl (lv_at hl 5 rfl) ?_
            refine lv_iload hx hb xd_fe_step_183 (lv_at hl 1 rfl) ?_
            have hI_15 : xI (q_st (q_st (q_st S 9 i 12 (.int ((q_i (S 9 i 12)) + 1))) 0 0 4 (.int ((q_i (S 0 0 4)) + 1))) 9 i 14 (.int (x_pr_secondAt (q_st (q_st S 9 i 12 (.int ((q_i (S 9 i 12)) + 1))) 0 0 4 (.int ((q_i (S 0 0 4)) + 1))) ((q_i (S 9 i 9)).toNatClampNeg) (q_i (S 9 i 11))))) := (xI_st (q_Is (xI_st hI (by have b1 : 0 ≤ (q_i (S 9 i 12)).toInt ∧ (q_i (S 9 i 12)).toInt ≤ 60 := hI 9 i 12; have b2 : 0 ≤ (q_i (S 9 i 9)).toInt ∧ (q_i (S 9 i 9)).toInt ≤ 2 := hI 9 i 9; have d_1 := q_inc (x := (q_i (S 9 i 12))) (by omega); simp only [Int32.lt_iff_toInt_lt, Int32.le_iff_toInt_le, q_n0, q_n1, q_n2, q_n3, q_n4, q_n5, q_n6, q_n7, q_n10, q_n14, q_n15, q_n20, q_n60, q_n1288] at c_1; show 0 ≤ ((q_i (S 9 i 12)) + 1).toInt ∧ ((q_i (S 9 i 12)) + 1).toInt ≤ 60; rw [q_inc (by omega)]; omega)) rfl) (by exact xV_bd (xJ_b hJ_4 (q_lt h_3) c_14 (by decide))))
            refine q_callv hC hS (fun _ h => h) (q_runV (rest := []) hC hW (xC_fe_awaitSignal l G (q_st (q_st (q_st S 9 i 12 (.int ((q_i (S 9 i 12)) + 1))) 0 0 4 (.int ((q_i (S 0 0 4)) + 1))) 9 i 14 (.int (x_pr_secondAt (q_st (q_st S 9 i 12 (.int ((q_i (S 9 i 12)) + 1))) 0 0 4 (.int ((q_i (S 0 0 4)) + 1))) ((q_i (S 9 i 9)).toNatClampNeg) (q_i (S 9 i 11))))) i (x_pr_firstAt (q_st (q_st S 9 i 12 (.int ((q_i (S 9 i 12)) + 1))) 0 0 4 (.int ((q_i (S 0 0 4)) + 1))) ((q_i (S 9 i 9)).toNatClampNeg) (q_i (S 9 i 11))) hi hI_15) (xc_fe_281 (q_rm 1) hC.1.2.2.2.2 ⟨Nat.le_of_ble_eq_true rfl, Nat.le_of_ble_eq_true rfl⟩ rfl rfl) Nat.one_pos rfl rfl rfl hl.1 rfl (Nat.le_of_ble_eq_true rfl) xd_fe_step_185 ⟨Nat.zero_le _, Nat.zero_le _⟩) (fun H locs hW hS => ?_)
            refine lv_goto (tgt := 243) hx hb xd_fe_step_188 (by decide) ?_
            have hf : x_fe_step S i = x_fe_awaitSignal (q_st (q_st (q_st S 9 i 12 (.int ((q_i (S 9 i 12)) + 1))) 0 0 4 (.int ((q_i (S 0 0 4)) + 1))) 9 i 14 (.int (x_pr_secondAt (q_st (q_st S 9 i 12 (.int ((q_i (S 9 i 12)) + 1))) 0 0 4 (.int ((q_i (S 0 0 4)) + 1))) ((q_i (S 9 i 9)).toNatClampNeg) (q_i (S 9 i 11))))) i (x_pr_firstAt (q_st (q_st S 9 i 12 (.int ((q_i (S 9 i 12)) + 1))) 0 0 4 (.int ((q_i (S 0 0 4)) + 1))) ((q_i (S 9 i 9)).toNatClampNeg) (q_i (S 9 i 11))) := by unfold x_fe_step; rw [if_pos c_1, if_pos c_2, if_neg c_8, if_neg c_11, if_pos c_14]
            rw [hf]
            exact q_vret hC hr hlocks hW hS rfl xd_fe_step_243
          · -- others
            by_cases c_16 : x_pr_opAt (q_st (q_st S 9 i 12 (.int ((q_i (S 9 i 12)) + 1))) 0 0 4 (.int ((q_i (S 0 0 4)) + 1))) ((q_i (S 9 i 9)).toNatClampNeg) (q_i (S 9 i 11)) = 8
            · -- case 8
              refine lv_tableIn (off := 92) (tgt := 191) hx hb xd_fe_step_99 (by rw [c_16]; decide) (by rw [c_16]; decide) (by rw [c_16]; decide) (by decide) ?_
              refine lv_aload_n hx hb xd_fe_step_191 rfl (lv_at hl 5 rfl) ?_
              refine lv_iload hx hb xd_fe_step_192 (lv_at hl 1 rfl) ?_
              refine lv_aload_n hx hb xd_fe_step_194 rfl (lv_at hl 5 rfl) ?_
              refine xg_fe_176 hC hW i hi xd_fe_step_195 ?_
              refine lv_iload hx hb xd_fe_step_198 (lv_at hl 0 rfl) ?_
              have h_17 : vp_in (x_pr_secondAt (q_st (q_st S 9 i 12 (.int ((q_i (S 9 i 12)) + 1))) 0 0 4 (.int ((q_i (S 0 0 4)) + 1))) ((q_i (S 9 i 9)).toNatClampNeg) (q_i (S 9 i 11))) 4 := xJ_b hJ_4 (q_lt h_3) c_16 (by decide)
              refine xal_10 hC hW i hi h_17 (q_sj (by decide) (q_sj (by decide) (rfl))) xd_fe_step_200 ?_
              have hI_18 : xI (q_st (q_st S 9 i 12 (.int ((q_i (S 9 i 12)) + 1))) 0 0 4 (.int ((q_i (S 0 0 4)) + 1))) := (q_Is (xI_st hI (by have b1 : 0 ≤ (q_i (S 9 i 12)).toInt ∧ (q_i (S 9 i 12)).toInt ≤ 60 := hI 9 i 12; have b2 : 0 ≤ (q_i (S 9 i 9)).toInt ∧ (q_i (S 9 i 9)).toInt ≤ 2 := hI 9 i 9; have d_1 := q_inc (x := (q_i (S 9 i 12))) (by omega); simp only [Int32.lt_iff_toInt_lt, Int32.le_iff_toInt_le, q_n0, q_n1, q_n2, q_n3, q_n4, q_n5, q_n6, q_n7, q_n10, q_n14, q_n15, q_n20, q_n60, q_n1288] at c_1; show 0 ≤ ((q_i (S 9 i 12)) + 1).toInt ∧ ((q_i (S 9 i 12)) + 1).toInt ≤ 60; rw [q_inc (by omega)]; omega)) rfl)
              refine q_callv hC hS (fun _ h => h) (q_runV (rest := []) hC hW (xC_wf_note l G (q_st (q_st S 9 i 12 (.int ((q_i (S 9 i 12)) + 1))) 0 0 4 (.int ((q_i (S 0 0 4)) + 1))) i (x_pr_firstAt (q_st (q_st S 9 i 12 (.int ((q_i (S 9 i 12)) + 1))) 0 0 4 (.int ((q_i (S 0 0 4)) + 1))) ((q_i (S 9 i 9)).toNatClampNeg) (q_i (S 9 i 11))) (q_i (S 10 i ((x_pr_secondAt (q_st (q_st S 9 i 12 (.int ((q_i (S 9 i 12)) + 1))) 0 0 4 (.int ((q_i (S 0 0 4)) + 1))) ((q_i (S 9 i 9)).toNatClampNeg) (q_i (S 9 i 11))).toNatClampNeg))) hi hI_18) (xc_fe_284 (q_rm 0) hC.1.2.2.2.2 ⟨Nat.le_of_ble_eq_true rfl, Nat.le_of_ble_eq_true rfl⟩ rfl rfl) hi rfl rfl rfl hl.1 rfl (Nat.le_of_ble_eq_true rfl) xd_fe_step_201 ⟨Nat.zero_le _, Nat.zero_le _⟩) (fun H locs hW hS => ?_)
              refine lv_goto (tgt := 243) hx hb xd_fe_step_204 (by decide) ?_
              have hf : x_fe_step S i = x_wf_note (q_st (q_st S 9 i 12 (.int ((q_i (S 9 i 12)) + 1))) 0 0 4 (.int ((q_i (S 0 0 4)) + 1))) i (x_pr_firstAt (q_st (q_st S 9 i 12 (.int ((q_i (S 9 i 12)) + 1))) 0 0 4 (.int ((q_i (S 0 0 4)) + 1))) ((q_i (S 9 i 9)).toNatClampNeg) (q_i (S 9 i 11))) (q_i (S 10 i ((x_pr_secondAt (q_st (q_st S 9 i 12 (.int ((q_i (S 9 i 12)) + 1))) 0 0 4 (.int ((q_i (S 0 0 4)) + 1))) ((q_i (S 9 i 9)).toNatClampNeg) (q_i (S 9 i 11))).toNatClampNeg))) := by unfold x_fe_step; rw [if_pos c_1, if_pos c_2, if_neg c_8, if_neg c_11, if_neg c_14, if_pos c_16]
              rw [hf]
              exact q_vret hC hr hlocks hW hS rfl xd_fe_step_243
            · -- others
              by_cases c_19 : x_pr_opAt (q_st (q_st S 9 i 12 (.int ((q_i (S 9 i 12)) + 1))) 0 0 4 (.int ((q_i (S 0 0 4)) + 1))) ((q_i (S 9 i 9)).toNatClampNeg) (q_i (S 9 i 11)) = 9
              · -- case 9
                refine lv_tableIn (off := 108) (tgt := 207) hx hb xd_fe_step_99 (by rw [c_19]; decide) (by rw [c_19]; decide) (by rw [c_19]; decide) (by decide) ?_
                refine lv_aload_n hx hb xd_fe_step_207 rfl (lv_at hl 5 rfl) ?_
                refine lv_iconst (v := 1) hx hb xd_fe_step_208 (by decide) ?_
                refine xg_fe_243p hC hW hS (fun _ h => h) i hi rfl rfl xd_fe_step_209 (fun H locs hW hS => ?_)
                refine lv_goto (tgt := 243) hx hb xd_fe_step_212 (by decide) ?_
                have hf : x_fe_step S i = q_st (q_st (q_st S 9 i 12 (.int ((q_i (S 9 i 12)) + 1))) 0 0 4 (.int ((q_i (S 0 0 4)) + 1))) 9 i 8 (.int 1) := by unfold x_fe_step; rw [if_pos c_1, if_pos c_2, if_neg c_8, if_neg c_11, if_neg c_14, if_neg c_16, if_pos c_19]
                rw [hf]
                exact q_vret hC hr hlocks hW hS rfl xd_fe_step_243
              · -- others
                by_cases c_20 : x_pr_opAt (q_st (q_st S 9 i 12 (.int ((q_i (S 9 i 12)) + 1))) 0 0 4 (.int ((q_i (S 0 0 4)) + 1))) ((q_i (S 9 i 9)).toNatClampNeg) (q_i (S 9 i 11)) = 10
                · -- case 10
                  refine lv_tableIn (off := 116) (tgt := 215) hx hb xd_fe_step_99 (by rw [c_20]; decide) (by rw [c_20]; decide) (by rw [c_20]; decide) (by decide) ?_
                  refine lv_aload_n hx hb xd_fe_step_215 rfl (lv_at hl 5 rfl) ?_
                  refine lv_aload_n hx hb xd_fe_step_216 rfl (lv_at hl 5 rfl) ?_
                  refine xg_fe_176 hC hW i hi xd_fe_step_217 ?_
                  refine lv_iload hx hb xd_fe_step_220 (lv_at hl 1 rfl) ?_
                  have h_21 : vp_in (x_pr_firstAt (q_st (q_st S 9 i 12 (.int ((q_i (S 9 i 12)) + 1))) 0 0 4 (.int ((q_i (S 0 0 4)) + 1))) ((q_i (S 9 i 9)).toNatClampNeg) (q_i (S 9 i 11))) 4 := xJ_a hJ_4 (q_lt h_3) c_20 (by decide)
                  refine xal_10 hC hW i hi h_21 (q_sj (by decide) (q_sj (by decide) (rfl))) xd_fe_step_222 ?_
                  refine xg_fe_169p hC hW hS (fun _ h => h) i hi xd_fe_step_223 (fun H locs hW hS => ?_)
                  refine lv_aload_n hx hb xd_fe_step_226 rfl (lv_at hl 5 rfl) ?_
                  refine lv_iconst (v := 5) hx hb xd_fe_step_227 (by decide) ?_
                  refine xg_fe_134p hC hW hS (fun _ h => h) i hi xd_fe_step_228 (fun H locs hW hS => ?_)
                  refine lv_goto (tgt := 243) hx hb xd_fe_step_231 (by decide) ?_
                  have hf : x_fe_step S i = q_st (q_st (q_st (q_st S 9 i 12 (.int ((q_i (S 9 i 12)) + 1))) 0 0 4 (.int ((q_i (S 0 0 4)) + 1))) 9 i 15 (.int (q_i (S 10 i ((x_pr_firstAt (q_st (q_st S 9 i 12 (.int ((q_i (S 9 i 12)) + 1))) 0 0 4 (.int ((q_i (S 0 0 4)) + 1))) ((q_i (S 9 i 9)).toNatClampNeg) (q_i (S 9 i 11))).toNatClampNeg))))) 9 i 10 (.int 5) := by unfold x_fe_step; rw [if_pos c_1, if_pos c_2, if_neg c_8, if_neg c_11, if_neg c_14, if_neg c_16, if_neg c_19, if_pos c_20]
                  rw [hf]
                  exact q_vret hC hr hlocks hW hS rfl xd_fe_step_243
                · -- others
                  refine lv_tableOut (tgt := 234) hx hb xd_fe_step_99 (by have n0 := lv_neT c_8 (a := 5) (by decide); have n1 := lv_neT c_11 (a := 6) (by decide); have n2 := lv_neT c_14 (a := 7) (by decide); have n3 := lv_neT c_16 (a := 8) (by decide); have n4 := lv_neT c_19 (a := 9) (by decide); have n5 := lv_neT c_20 (a := 10) (by decide); omega) (by decide) ?_
                  refine lv_aload_n hx hb xd_fe_step_234 rfl (lv_at hl 5 rfl) ?_
                  refine lv_iload_n hx hb xd_fe_step_235 rfl (lv_at hl 2 rfl) ?_
                  refine lv_iload hx hb xd_fe_step_236 (lv_at hl 1 rfl) ?_
                  refine lv_iload hx hb xd_fe_step_238 (lv_at hl 0 rfl) ?_
                  have hI_22 : xI (q_st (q_st S 9 i 12 (.int ((q_i (S 9 i 12)) + 1))) 0 0 4 (.int ((q_i (S 0 0 4)) + 1))) := (q_Is (xI_st hI (by have b1 : 0 ≤ (q_i (S 9 i 12)).toInt ∧ (q_i (S 9 i 12)).toInt ≤ 60 := hI 9 i 12; have b2 : 0 ≤ (q_i (S 9 i 9)).toInt ∧ (q_i (S 9 i 9)).toInt ≤ 2 := hI 9 i 9; have d_1 := q_inc (x := (q_i (S 9 i 12))) (by omega); simp only [Int32.lt_iff_toInt_lt, Int32.le_iff_toInt_le, q_n0, q_n1, q_n2, q_n3, q_n4, q_n5, q_n6, q_n7, q_n10, q_n14, q_n15, q_n20, q_n60, q_n1288] at c_1; show 0 ≤ ((q_i (S 9 i 12)) + 1).toInt ∧ ((q_i (S 9 i 12)) + 1).toInt ≤ 60; rw [q_inc (by omega)]; omega)) rfl)
                  refine q_callv hC hS (fun _ h => h) (q_runV (rest := []) hC hW (xC_wf_compute l G (q_st (q_st S 9 i 12 (.int ((q_i (S 9 i 12)) + 1))) 0 0 4 (.int ((q_i (S 0 0 4)) + 1))) i (x_pr_opAt (q_st (q_st S 9 i 12 (.int ((q_i (S 9 i 12)) + 1))) 0 0 4 (.int ((q_i (S 0 0 4)) + 1))) ((q_i (S 9 i 9)).toNatClampNeg) (q_i (S 9 i 11))) (x_pr_firstAt (q_st (q_st S 9 i 12 (.int ((q_i (S 9 i 12)) + 1))) 0 0 4 (.int ((q_i (S 0 0 4)) + 1))) ((q_i (S 9 i 9)).toNatClampNeg) (q_i (S 9 i 11))) (x_pr_secondAt (q_st (q_st S 9 i 12 (.int ((q_i (S 9 i 12)) + 1))) 0 0 4 (.int ((q_i (S 0 0 4)) + 1))) ((q_i (S 9 i 9)).toNatClampNeg) (q_i (S 9 i 11))) hi hI_22 (xJ_c1 hJ_4 (q_lt h_3)) (xJ_c2 hJ_4 (q_lt h_3))) (xc_fe_287 (q_rm 0) hC.1.2.2.2.2 ⟨Nat.le_of_ble_eq_true rfl, Nat.le_of_ble_eq_true rfl⟩ rfl rfl) hi rfl rfl rfl hl.1 rfl (Nat.le_of_ble_eq_true rfl) xd_fe_step_240 ⟨Nat.zero_le _, Nat.zero_le _⟩) (fun H locs hW hS => ?_)
                  have hf : x_fe_step S i = x_wf_compute (q_st (q_st S 9 i 12 (.int ((q_i (S 9 i 12)) + 1))) 0 0 4 (.int ((q_i (S 0 0 4)) + 1))) i (x_pr_opAt (q_st (q_st S 9 i 12 (.int ((q_i (S 9 i 12)) + 1))) 0 0 4 (.int ((q_i (S 0 0 4)) + 1))) ((q_i (S 9 i 9)).toNatClampNeg) (q_i (S 9 i 11))) (x_pr_firstAt (q_st (q_st S 9 i 12 (.int ((q_i (S 9 i 12)) + 1))) 0 0 4 (.int ((q_i (S 0 0 4)) + 1))) ((q_i (S 9 i 9)).toNatClampNeg) (q_i (S 9 i 11))) (x_pr_secondAt (q_st (q_st S 9 i 12 (.int ((q_i (S 9 i 12)) + 1))) 0 0 4 (.int ((q_i (S 0 0 4)) + 1))) ((q_i (S 9 i 9)).toNatClampNeg) (q_i (S 9 i 11))) := by unfold x_fe_step; rw [if_pos c_1, if_pos c_2, if_neg c_8, if_neg c_11, if_neg c_14, if_neg c_16, if_neg c_19, if_neg c_20]
                  rw [hf]
                  exact q_vret hC hr hlocks hW hS rfl xd_fe_step_243
    · -- not taken
      refine lv_aload_n hx hb xd_fe_step_36 rfl (lv_at hl 0 rfl) ?_
      refine lv_dup hx hb xd_fe_step_37 rfl ?_
      refine xg_fe_195 hC hW 0 Nat.one_pos (q_sj (by decide) (rfl)) xd_fe_step_38 ?_
      refine lv_iconst (v := 1) hx hb xd_fe_step_41 (by decide) ?_
      refine lv_iadd hx hb xd_fe_step_42 ?_
      refine xg_fe_195p hC hW hS (fun _ h => h) 0 Nat.one_pos xd_fe_step_43 (fun H locs hW hS => ?_)
      refine lv_goto (tgt := 59) hx hb xd_fe_step_46 (by decide) ?_
      refine lv_aload_n hx hb xd_fe_step_59 rfl (lv_at hl 0 rfl) ?_
      refine xg_fe_11 hC hW 0 Nat.one_pos xd_fe_step_60 ?_
      refine lv_aload_n hx hb xd_fe_step_63 rfl (lv_at hl 1 rfl) ?_
      refine xg_fe_146 hC hW i hi (q_sj (by decide) (q_sk (by decide) (rfl))) xd_fe_step_64 ?_
      have h_23 : vp_in (q_i (S 9 i 9)) 3 := by have b1 : 0 ≤ (q_i (S 9 i 9)).toInt ∧ (q_i (S 9 i 9)).toInt ≤ 2 := hI 9 i 9; have b2 : 0 ≤ (q_i (S 9 i 12)).toInt ∧ (q_i (S 9 i 12)).toInt ≤ 60 := hI 9 i 12; simp only [vp_in_iff, Int32.lt_iff_toInt_lt, Int32.le_iff_toInt_le, q_n0, q_n1, q_n2, q_n3, q_n4, q_n5, q_n6, q_n7, q_n10, q_n14, q_n15, q_n20, q_n60, q_n1288] at c_1 ⊢; omega
      refine xal_1 hC hW 0 Nat.one_pos h_23 xd_fe_step_67 ?_
      refine lv_astore_n (lv' := [(2, .ref (q_a xX G 5 ((q_i (S 9 i 9)).toNatClampNeg))), (0, .ref (q_a xX G 0 0)), (1, .ref (q_a xX G 9 i))]) hx hb xd_fe_step_68 rfl hl (by decide) rfl (fun ls hl => ?_)
      refine lv_aload_n hx hb xd_fe_step_69 rfl (lv_at hl 0 rfl) ?_
      refine lv_aload_n hx hb xd_fe_step_70 rfl (lv_at hl 2 rfl) ?_
      refine W.eq (g2 := F0 m 71 ls [.ref (q_a xX G 9 i), .ref (q_a xX G 5 ((q_i (S 9 i 9)).toNatClampNeg))]) rfl ?_
      refine xg_fe_159 hC hW i hi (q_sj (by decide) (q_sk (by decide) (rfl))) xd_fe_step_71 ?_
      have hJ_24 : xJ (q_st (q_st S 9 i 12 (.int ((q_i (S 9 i 12)) + 1))) 0 0 5 (.int ((q_i (S 0 0 5)) + 1))) := xJ_keep hJ (fun x y z hx => (q_kj (show x ≠ 0 by omega)).trans ((q_kj (show x ≠ 9 by omega))))
      have hI_25 : xI (q_st (q_st S 9 i 12 (.int ((q_i (S 9 i 12)) + 1))) 0 0 5 (.int ((q_i (S 0 0 5)) + 1))) := (q_Is (xI_st hI (by have b1 : 0 ≤ (q_i (S 9 i 12)).toInt ∧ (q_i (S 9 i 12)).toInt ≤ 60 := hI 9 i 12; have d_1 := q_inc (x := (q_i (S 9 i 12))) (by omega); simp only [Int32.lt_iff_toInt_lt, Int32.le_iff_toInt_le, q_n0, q_n1, q_n2, q_n3, q_n4, q_n5, q_n6, q_n7, q_n10, q_n14, q_n15, q_n20, q_n60, q_n1288] at c_1; show 0 ≤ ((q_i (S 9 i 12)) + 1).toInt ∧ ((q_i (S 9 i 12)) + 1).toInt ≤ 60; rw [q_inc (by omega)]; omega)) rfl)
      refine q_calli hC hS (fun _ h => h) (q_runV (rest := []) hC hW (xC_pr_opAt l G (q_st (q_st S 9 i 12 (.int ((q_i (S 9 i 12)) + 1))) 0 0 5 (.int ((q_i (S 0 0 5)) + 1))) ((q_i (S 9 i 9)).toNatClampNeg) (q_i (S 9 i 11)) (q_lt h_23) hI_25) (xc_fe_261 (q_rm 1) hC.1.2.2.2.2 ⟨Nat.le_of_ble_eq_true rfl, Nat.le_of_ble_eq_true rfl⟩ rfl rfl) (q_lt h_23) rfl rfl rfl hl.1 rfl (Nat.le_of_ble_eq_true rfl) xd_fe_step_74 ⟨Nat.zero_le _, Nat.zero_le _⟩) (fun H locs hW hS => ?_)
      refine lv_istore_n (lv' := [(3, .int (x_pr_opAt (q_st (q_st S 9 i 12 (.int ((q_i (S 9 i 12)) + 1))) 0 0 5 (.int ((q_i (S 0 0 5)) + 1))) ((q_i (S 9 i 9)).toNatClampNeg) (q_i (S 9 i 11)))), (2, .ref (q_a xX G 5 ((q_i (S 9 i 9)).toNatClampNeg))), (0, .ref (q_a xX G 0 0)), (1, .ref (q_a xX G 9 i))]) hx hb xd_fe_step_77 rfl hl (by decide) rfl (fun ls hl => ?_)
      refine lv_aload_n hx hb xd_fe_step_78 rfl (lv_at hl 1 rfl) ?_
      refine lv_aload_n hx hb xd_fe_step_79 rfl (lv_at hl 3 rfl) ?_
      refine xg_fe_159 hC hW i hi (q_sj (by decide) (q_sk (by decide) (rfl))) xd_fe_step_80 ?_
      have hI_26 : xI (q_st (q_st S 9 i 12 (.int ((q_i (S 9 i 12)) + 1))) 0 0 5 (.int ((q_i (S 0 0 5)) + 1))) := (q_Is (xI_st hI (by have b1 : 0 ≤ (q_i (S 9 i 12)).toInt ∧ (q_i (S 9 i 12)).toInt ≤ 60 := hI 9 i 12; have d_1 := q_inc (x := (q_i (S 9 i 12))) (by omega); simp only [Int32.lt_iff_toInt_lt, Int32.le_iff_toInt_le, q_n0, q_n1, q_n2, q_n3, q_n4, q_n5, q_n6, q_n7, q_n10, q_n14, q_n15, q_n20, q_n60, q_n1288] at c_1; show 0 ≤ ((q_i (S 9 i 12)) + 1).toInt ∧ ((q_i (S 9 i 12)) + 1).toInt ≤ 60; rw [q_inc (by omega)]; omega)) rfl)
      refine q_calli hC hS (fun _ h => h) (q_runV (rest := []) hC hW (xC_pr_firstAt l G (q_st (q_st S 9 i 12 (.int ((q_i (S 9 i 12)) + 1))) 0 0 5 (.int ((q_i (S 0 0 5)) + 1))) ((q_i (S 9 i 9)).toNatClampNeg) (q_i (S 9 i 11)) (q_lt h_23) hI_26) (xc_fe_265 (q_rm 1) hC.1.2.2.2.2 ⟨Nat.le_of_ble_eq_true rfl, Nat.le_of_ble_eq_true rfl⟩ rfl rfl) (q_lt h_23) rfl rfl rfl hl.1 rfl (Nat.le_of_ble_eq_true rfl) xd_fe_step_83 ⟨Nat.zero_le _, Nat.zero_le _⟩) (fun H locs hW hS => ?_)
      refine lv_istore (lv' := [(4, .int (x_pr_firstAt (q_st (q_st S 9 i 12 (.int ((q_i (S 9 i 12)) + 1))) 0 0 5 (.int ((q_i (S 0 0 5)) + 1))) ((q_i (S 9 i 9)).toNatClampNeg) (q_i (S 9 i 11)))), (3, .int (x_pr_opAt (q_st (q_st S 9 i 12 (.int ((q_i (S 9 i 12)) + 1))) 0 0 5 (.int ((q_i (S 0 0 5)) + 1))) ((q_i (S 9 i 9)).toNatClampNeg) (q_i (S 9 i 11)))), (2, .ref (q_a xX G 5 ((q_i (S 9 i 9)).toNatClampNeg))), (0, .ref (q_a xX G 0 0)), (1, .ref (q_a xX G 9 i))]) hx hb xd_fe_step_86 hl (by decide) rfl (fun ls hl => ?_)
      refine lv_aload_n hx hb xd_fe_step_88 rfl (lv_at hl 2 rfl) ?_
      refine lv_aload_n hx hb xd_fe_step_89 rfl (lv_at hl 4 rfl) ?_
      refine xg_fe_159 hC hW i hi (q_sj (by decide) (q_sk (by decide) (rfl))) xd_fe_step_90 ?_
      have hI_27 : xI (q_st (q_st S 9 i 12 (.int ((q_i (S 9 i 12)) + 1))) 0 0 5 (.int ((q_i (S 0 0 5)) + 1))) := (q_Is (xI_st hI (by have b1 : 0 ≤ (q_i (S 9 i 12)).toInt ∧ (q_i (S 9 i 12)).toInt ≤ 60 := hI 9 i 12; have d_1 := q_inc (x := (q_i (S 9 i 12))) (by omega); simp only [Int32.lt_iff_toInt_lt, Int32.le_iff_toInt_le, q_n0, q_n1, q_n2, q_n3, q_n4, q_n5, q_n6, q_n7, q_n10, q_n14, q_n15, q_n20, q_n60, q_n1288] at c_1; show 0 ≤ ((q_i (S 9 i 12)) + 1).toInt ∧ ((q_i (S 9 i 12)) + 1).toInt ≤ 60; rw [q_inc (by omega)]; omega)) rfl)
      refine q_calli hC hS (fun _ h => h) (q_runV (rest := []) hC hW (xC_pr_secondAt l G (q_st (q_st S 9 i 12 (.int ((q_i (S 9 i 12)) + 1))) 0 0 5 (.int ((q_i (S 0 0 5)) + 1))) ((q_i (S 9 i 9)).toNatClampNeg) (q_i (S 9 i 11)) (q_lt h_23) hI_27) (xc_fe_268 (q_rm 1) hC.1.2.2.2.2 ⟨Nat.le_of_ble_eq_true rfl, Nat.le_of_ble_eq_true rfl⟩ rfl rfl) (q_lt h_23) rfl rfl rfl hl.1 rfl (Nat.le_of_ble_eq_true rfl) xd_fe_step_93 ⟨Nat.zero_le _, Nat.zero_le _⟩) (fun H locs hW hS => ?_)
      refine lv_istore (lv' := [(5, .int (x_pr_secondAt (q_st (q_st S 9 i 12 (.int ((q_i (S 9 i 12)) + 1))) 0 0 5 (.int ((q_i (S 0 0 5)) + 1))) ((q_i (S 9 i 9)).toNatClampNeg) (q_i (S 9 i 11)))), (4, .int (x_pr_firstAt (q_st (q_st S 9 i 12 (.int ((q_i (S 9 i 12)) + 1))) 0 0 5 (.int ((q_i (S 0 0 5)) + 1))) ((q_i (S 9 i 9)).toNatClampNeg) (q_i (S 9 i 11)))), (3, .int (x_pr_opAt (q_st (q_st S 9 i 12 (.int ((q_i (S 9 i 12)) + 1))) 0 0 5 (.int ((q_i (S 0 0 5)) + 1))) ((q_i (S 9 i 9)).toNatClampNeg) (q_i (S 9 i 11)))), (2, .ref (q_a xX G 5 ((q_i (S 9 i 9)).toNatClampNeg))), (0, .ref (q_a xX G 0 0)), (1, .ref (q_a xX G 9 i))]) hx hb xd_fe_step_96 hl (by decide) rfl (fun ls hl => ?_)
      refine lv_iload_n hx hb xd_fe_step_98 rfl (lv_at hl 2 rfl) ?_
      refine W.eq (g2 := F0 m 99 ls [.int (x_pr_opAt (q_st (q_st S 9 i 12 (.int ((q_i (S 9 i 12)) + 1))) 0 0 5 (.int ((q_i (S 0 0 5)) + 1))) ((q_i (S 9 i 9)).toNatClampNeg) (q_i (S 9 i 11)))]) rfl ?_
      by_cases c_28 : x_pr_opAt (q_st (q_st S 9 i 12 (.int ((q_i (S 9 i 12)) + 1))) 0 0 5 (.int ((q_i (S 0 0 5)) + 1))) ((q_i (S 9 i 9)).toNatClampNeg) (q_i (S 9 i 11)) = 5
      · -- case 5
        refine lv_tableIn (off := 37) (tgt := 136) hx hb xd_fe_step_99 (by rw [c_28]; decide) (by rw [c_28]; decide) (by rw [c_28]; decide) (by decide) ?_
        refine lv_aload_n hx hb xd_fe_step_136 rfl (lv_at hl 5 rfl) ?_
        refine lv_iload hx hb xd_fe_step_137 (lv_at hl 0 rfl) ?_
        refine xg_fe_271p hC hW hS (fun _ h => h) i hi xd_fe_step_139 (fun H locs hW hS => ?_)
        refine lv_aload_n hx hb xd_fe_step_142 rfl (lv_at hl 4 rfl) ?_
        refine lv_aload_n hx hb xd_fe_step_143 rfl (lv_at hl 5 rfl) ?_
        refine lv_iconst (v := 1) hx hb xd_fe_step_144 (by decide) ?_
        refine lv_iload hx hb xd_fe_step_145 (lv_at hl 1 rfl) ?_
        refine lv_aload_n hx hb xd_fe_step_147 rfl (lv_at hl 5 rfl) ?_
        refine xg_fe_176 hC hW i hi xd_fe_step_148 ?_
        refine lv_iload hx hb xd_fe_step_151 (lv_at hl 0 rfl) ?_
        have h_29 : vp_in (x_pr_secondAt (q_st (q_st S 9 i 12 (.int ((q_i (S 9 i 12)) + 1))) 0 0 5 (.int ((q_i (S 0 0 5)) + 1))) ((q_i (S 9 i 9)).toNatClampNeg) (q_i (S 9 i 11))) 4 := xJ_b hJ_24 (q_lt h_23) c_28 (by decide)
        refine xal_10 hC hW i hi h_29 (q_sj (by decide) (q_sj (by decide) (q_sj (by decide) (rfl)))) xd_fe_step_153 ?_
        have hI_30 : xI (q_st (q_st (q_st S 9 i 12 (.int ((q_i (S 9 i 12)) + 1))) 0 0 5 (.int ((q_i (S 0 0 5)) + 1))) 9 i 14 (.int (x_pr_secondAt (q_st (q_st S 9 i 12 (.int ((q_i (S 9 i 12)) + 1))) 0 0 5 (.int ((q_i (S 0 0 5)) + 1))) ((q_i (S 9 i 9)).toNatClampNeg) (q_i (S 9 i 11))))) := (xI_st (q_Is (xI_st hI (by have b1 : 0 ≤ (q_i (S 9 i 12)).toInt ∧ (q_i (S 9 i 12)).toInt ≤ 60 := hI 9 i 12; have b2 : 0 ≤ (q_i (S 9 i 9)).toInt ∧ (q_i (S 9 i 9)).toInt ≤ 2 := hI 9 i 9; have d_1 := q_inc (x := (q_i (S 9 i 12))) (by omega); simp only [Int32.lt_iff_toInt_lt, Int32.le_iff_toInt_le, q_n0, q_n1, q_n2, q_n3, q_n4, q_n5, q_n6, q_n7, q_n10, q_n14, q_n15, q_n20, q_n60, q_n1288] at c_1; show 0 ≤ ((q_i (S 9 i 12)) + 1).toInt ∧ ((q_i (S 9 i 12)) + 1).toInt ≤ 60; rw [q_inc (by omega)]; omega)) rfl) (by exact xV_bd (xJ_b hJ_24 (q_lt h_23) c_28 (by decide))))
        refine q_callv hC hS (fun _ h => h) (q_runV (rest := []) hC hW (xC_fe_want l G (q_st (q_st (q_st S 9 i 12 (.int ((q_i (S 9 i 12)) + 1))) 0 0 5 (.int ((q_i (S 0 0 5)) + 1))) 9 i 14 (.int (x_pr_secondAt (q_st (q_st S 9 i 12 (.int ((q_i (S 9 i 12)) + 1))) 0 0 5 (.int ((q_i (S 0 0 5)) + 1))) ((q_i (S 9 i 9)).toNatClampNeg) (q_i (S 9 i 11))))) i 1 (x_pr_firstAt (q_st (q_st S 9 i 12 (.int ((q_i (S 9 i 12)) + 1))) 0 0 5 (.int ((q_i (S 0 0 5)) + 1))) ((q_i (S 9 i 9)).toNatClampNeg) (q_i (S 9 i 11))) (q_i (S 10 i ((x_pr_secondAt (q_st (q_st S 9 i 12 (.int ((q_i (S 9 i 12)) + 1))) 0 0 5 (.int ((q_i (S 0 0 5)) + 1))) ((q_i (S 9 i 9)).toNatClampNeg) (q_i (S 9 i 11))).toNatClampNeg))) hi hI_30) (xc_fe_274 (q_rm 1) hC.1.2.2.2.2 ⟨Nat.le_of_ble_eq_true rfl, Nat.le_of_ble_eq_true rfl⟩ rfl rfl) Nat.one_pos rfl rfl rfl hl.1 rfl (Nat.le_of_ble_eq_true rfl) xd_fe_step_154 ⟨Nat.zero_le _, Nat.zero_le _⟩) (fun H locs hW hS => ?_)
        refine lv_goto (tgt := 243) hx hb xd_fe_step_157 (by decide) ?_
        have hf : x_fe_step S i = x_fe_want (q_st (q_st (q_st S 9 i 12 (.int ((q_i (S 9 i 12)) + 1))) 0 0 5 (.int ((q_i (S 0 0 5)) + 1))) 9 i 14 (.int (x_pr_secondAt (q_st (q_st S 9 i 12 (.int ((q_i (S 9 i 12)) + 1))) 0 0 5 (.int ((q_i (S 0 0 5)) + 1))) ((q_i (S 9 i 9)).toNatClampNeg) (q_i (S 9 i 11))))) i 1 (x_pr_firstAt (q_st (q_st S 9 i 12 (.int ((q_i (S 9 i 12)) + 1))) 0 0 5 (.int ((q_i (S 0 0 5)) + 1))) ((q_i (S 9 i 9)).toNatClampNeg) (q_i (S 9 i 11))) (q_i (S 10 i ((x_pr_secondAt (q_st (q_st S 9 i 12 (.int ((q_i (S 9 i 12)) + 1))) 0 0 5 (.int ((q_i (S 0 0 5)) + 1))) ((q_i (S 9 i 9)).toNatClampNeg) (q_i (S 9 i 11))).toNatClampNeg))) := by unfold x_fe_step; rw [if_pos c_1, if_neg c_2, if_pos c_28]
        rw [hf]
        exact q_vret hC hr hlocks hW hS rfl xd_fe_step_243
      · -- others
        by_cases c_31 : x_pr_opAt (q_st (q_st S 9 i 12 (.int ((q_i (S 9 i 12)) + 1))) 0 0 5 (.int ((q_i (S 0 0 5)) + 1))) ((q_i (S 9 i 9)).toNatClampNeg) (q_i (S 9 i 11)) = 6
        · -- case 6
          refine lv_tableIn (off := 61) (tgt := 160) hx hb xd_fe_step_99 (by rw [c_31]; decide) (by rw [c_31]; decide) (by rw [c_31]; decide) (by decide) ?_
          refine lv_aload_n hx hb xd_fe_step_160 rfl (lv_at hl 4 rfl) ?_
          refine lv_aload_n hx hb xd_fe_step_161 rfl (lv_at hl 5 rfl) ?_
          refine lv_aload_n hx hb xd_fe_step_162 rfl (lv_at hl 5 rfl) ?_
          refine xg_fe_176 hC hW i hi xd_fe_step_163 ?_
          refine lv_iload hx hb xd_fe_step_166 (lv_at hl 1 rfl) ?_
          have h_32 : vp_in (x_pr_firstAt (q_st (q_st S 9 i 12 (.int ((q_i (S 9 i 12)) + 1))) 0 0 5 (.int ((q_i (S 0 0 5)) + 1))) ((q_i (S 9 i 9)).toNatClampNeg) (q_i (S 9 i 11))) 4 := xJ_a hJ_24 (q_lt h_23) c_31 (by decide)
          refine xal_10 hC hW i hi h_32 (q_sj (by decide) (q_sj (by decide) (rfl))) xd_fe_step_168 ?_
          have hI_33 : xI (q_st (q_st S 9 i 12 (.int ((q_i (S 9 i 12)) + 1))) 0 0 5 (.int ((q_i (S 0 0 5)) + 1))) := (q_Is (xI_st hI (by have b1 : 0 ≤ (q_i (S 9 i 12)).toInt ∧ (q_i (S 9 i 12)).toInt ≤ 60 := hI 9 i 12; have b2 : 0 ≤ (q_i (S 9 i 9)).toInt ∧ (q_i (S 9 i 9)).toInt ≤ 2 := hI 9 i 9; have d_1 := q_inc (x := (q_i (S 9 i 12))) (by omega); simp only [Int32.lt_iff_toInt_lt, Int32.le_iff_toInt_le, q_n0, q_n1, q_n2, q_n3, q_n4, q_n5, q_n6, q_n7, q_n10, q_n14, q_n15, q_n20, q_n60, q_n1288] at c_1; show 0 ≤ ((q_i (S 9 i 12)) + 1).toInt ∧ ((q_i (S 9 i 12)) + 1).toInt ≤ 60; rw [q_inc (by omega)]; omega)) rfl)
          refine q_callv hC hS (fun _ h => h) (q_runV (rest := []) hC hW (xC_fe_sleep l G (q_st (q_st S 9 i 12 (.int ((q_i (S 9 i 12)) + 1))) 0 0 5 (.int ((q_i (S 0 0 5)) + 1))) i (q_i (S 10 i ((x_pr_firstAt (q_st (q_st S 9 i 12 (.int ((q_i (S 9 i 12)) + 1))) 0 0 5 (.int ((q_i (S 0 0 5)) + 1))) ((q_i (S 9 i 9)).toNatClampNeg) (q_i (S 9 i 11))).toNatClampNeg))) hi hI_33) (xc_fe_277 (q_rm 1) hC.1.2.2.2.2 ⟨Nat.le_of_ble_eq_true rfl, Nat.le_of_ble_eq_true rfl⟩ rfl rfl) Nat.one_pos rfl rfl rfl hl.1 rfl (Nat.le_of_ble_eq_true rfl) xd_fe_step_169 ⟨Nat.zero_le _, Nat.zero_le _⟩) (fun H locs hW hS => ?_)
          refine lv_goto (tgt := 243) hx hb xd_fe_step_172 (by decide) ?_
          have hf : x_fe_step S i = x_fe_sleep (q_st (q_st S 9 i 12 (.int ((q_i (S 9 i 12)) + 1))) 0 0 5 (.int ((q_i (S 0 0 5)) + 1))) i (q_i (S 10 i ((x_pr_firstAt (q_st (q_st S 9 i 12 (.int ((q_i (S 9 i 12)) + 1))) 0 0 5 (.int ((q_i (S 0 0 5)) + 1))) ((q_i (S 9 i 9)).toNatClampNeg) (q_i (S 9 i 11))).toNatClampNeg))) := by unfold x_fe_step; rw [if_pos c_1, if_neg c_2, if_neg c_28, if_pos c_31]
          rw [hf]
          exact q_vret hC hr hlocks hW hS rfl xd_fe_step_243
        · -- others
          by_cases c_34 : x_pr_opAt (q_st (q_st S 9 i 12 (.int ((q_i (S 9 i 12)) + 1))) 0 0 5 (.int ((q_i (S 0 0 5)) + 1))) ((q_i (S 9 i 9)).toNatClampNeg) (q_i (S 9 i 11)) = 7
          · -- case 7
            refine lv_tableIn (off := 76) (tgt := 175) hx hb xd_fe_step_99 (by rw [c_34]; decide) (by rw [c_34]; decide) (by rw [c_34]; decide) (by decide) ?_
            refine lv_aload_n hx hb xd_fe_step_175 rfl (lv_at hl 5 rfl) ?_
            refine lv_iload hx hb xd_fe_step_176 (lv_at hl 0 rfl) ?_
            refine xg_fe_271p hC hW hS (fun _ h => h) i hi xd_fe_step_178 (fun H locs hW hS => ?_)
            refine lv_aload_n hx hb xd_fe_step_181 rfl (lv_at hl 4 rfl) ?_
            refine lv_aload_n hx hb xd_fe_step_182 rfl (lv_at hl 5 rfl) ?_
            refine lv_iload hx hb xd_fe_step_183 (lv_at hl 1 rfl) ?_
            have hI_35 : xI (q_st (q_st (q_st S 9 i 12 (.int ((q_i (S 9 i 12)) + 1))) 0 0 5 (.int ((q_i (S 0 0 5)) + 1))) 9 i 14 (.int (x_pr_secondAt (q_st (q_st S 9 i 12 (.int ((q_i (S 9 i 12)) + 1))) 0 0 5 (.int ((q_i (S 0 0 5)) + 1))) ((q_i (S 9 i 9)).toNatClampNeg) (q_i (S 9 i 11))))) := (xI_st (q_Is (xI_st hI (by have b1 : 0 ≤ (q_i (S 9 i 12)).toInt ∧ (q_i (S 9 i 12)).toInt ≤ 60 := hI 9 i 12; have b2 : 0 ≤ (q_i (S 9 i 9)).toInt ∧ (q_i (S 9 i 9)).toInt ≤ 2 := hI 9 i 9; have d_1 := q_inc (x := (q_i (S 9 i 12))) (by omega); simp only [Int32.lt_iff_toInt_lt, Int32.le_iff_toInt_le, q_n0, q_n1, q_n2, q_n3, q_n4, q_n5, q_n6, q_n7, q_n10, q_n14, q_n15, q_n20, q_n60, q_n1288] at c_1; show 0 ≤ ((q_i (S 9 i 12)) + 1).toInt ∧ ((q_i (S 9 i 12)) + 1).toInt ≤ 60; rw [q_inc (by omega)]; omega)) rfl) (by exact xV_bd (xJ_b hJ_24 (q_lt h_23) c_34 (by decide))))
            refine q_callv hC hS (fun _ h => h) (q_runV (rest := []) hC hW (xC_fe_awaitSignal l G (q_st (q_st (q_st S 9 i 12 (.int ((q_i (S 9 i 12)) + 1))) 0 0 5 (.int ((q_i (S 0 0 5)) + 1))) 9 i 14 (.int (x_pr_secondAt (q_st (q_st S 9 i 12 (.int ((q_i (S 9 i 12)) + 1))) 0 0 5 (.int ((q_i (S 0 0 5)) + 1))) ((q_i (S 9 i 9)).toNatClampNeg) (q_i (S 9 i 11))))) i (x_pr_firstAt (q_st (q_st S 9 i 12 (.int ((q_i (S 9 i 12)) + 1))) 0 0 5 (.int ((q_i (S 0 0 5)) + 1))) ((q_i (S 9 i 9)).toNatClampNeg) (q_i (S 9 i 11))) hi hI_35) (xc_fe_281 (q_rm 1) hC.1.2.2.2.2 ⟨Nat.le_of_ble_eq_true rfl, Nat.le_of_ble_eq_true rfl⟩ rfl rfl) Nat.one_pos rfl rfl rfl hl.1 rfl (Nat.le_of_ble_eq_true rfl) xd_fe_step_185 ⟨Nat.zero_le _, Nat.zero_le _⟩) (fun H locs hW hS => ?_)
            refine lv_goto (tgt := 243) hx hb xd_fe_step_188 (by decide) ?_
            have hf : x_fe_step S i = x_fe_awaitSignal (q_st (q_st (q_st S 9 i 12 (.int ((q_i (S 9 i 12)) + 1))) 0 0 5 (.int ((q_i (S 0 0 5)) + 1))) 9 i 14 (.int (x_pr_secondAt (q_st (q_st S 9 i 12 (.int ((q_i (S 9 i 12)) + 1))) 0 0 5 (.int ((q_i (S 0 0 5)) + 1))) ((q_i (S 9 i 9)).toNatClampNeg) (q_i (S 9 i 11))))) i (x_pr_firstAt (q_st (q_st S 9 i 12 (.int ((q_i (S 9 i 12)) + 1))) 0 0 5 (.int ((q_i (S 0 0 5)) + 1))) ((q_i (S 9 i 9)).toNatClampNeg) (q_i (S 9 i 11))) := by unfold x_fe_step; rw [if_pos c_1, if_neg c_2, if_neg c_28, if_neg c_31, if_pos c_34]
            rw [hf]
            exact q_vret hC hr hlocks hW hS rfl xd_fe_step_243
          · -- others
            by_cases c_36 : x_pr_opAt (q_st (q_st S 9 i 12 (.int ((q_i (S 9 i 12)) + 1))) 0 0 5 (.int ((q_i (S 0 0 5)) + 1))) ((q_i (S 9 i 9)).toNatClampNeg) (q_i (S 9 i 11)) = 8
            · -- case 8
              refine lv_tableIn (off := 92) (tgt := 191) hx hb xd_fe_step_99 (by rw [c_36]; decide) (by rw [c_36]; decide) (by rw [c_36]; decide) (by decide) ?_
              refine lv_aload_n hx hb xd_fe_step_191 rfl (lv_at hl 5 rfl) ?_
              refine lv_iload hx hb xd_fe_step_192 (lv_at hl 1 rfl) ?_
              refine lv_aload_n hx hb xd_fe_step_194 rfl (lv_at hl 5 rfl) ?_
              refine xg_fe_176 hC hW i hi xd_fe_step_195 ?_
              refine lv_iload hx hb xd_fe_step_198 (lv_at hl 0 rfl) ?_
              have h_37 : vp_in (x_pr_secondAt (q_st (q_st S 9 i 12 (.int ((q_i (S 9 i 12)) + 1))) 0 0 5 (.int ((q_i (S 0 0 5)) + 1))) ((q_i (S 9 i 9)).toNatClampNeg) (q_i (S 9 i 11))) 4 := xJ_b hJ_24 (q_lt h_23) c_36 (by decide)
              refine xal_10 hC hW i hi h_37 (q_sj (by decide) (q_sj (by decide) (rfl))) xd_fe_step_200 ?_
              have hI_38 : xI (q_st (q_st S 9 i 12 (.int ((q_i (S 9 i 12)) + 1))) 0 0 5 (.int ((q_i (S 0 0 5)) + 1))) := (q_Is (xI_st hI (by have b1 : 0 ≤ (q_i (S 9 i 12)).toInt ∧ (q_i (S 9 i 12)).toInt ≤ 60 := hI 9 i 12; have b2 : 0 ≤ (q_i (S 9 i 9)).toInt ∧ (q_i (S 9 i 9)).toInt ≤ 2 := hI 9 i 9; have d_1 := q_inc (x := (q_i (S 9 i 12))) (by omega); simp only [Int32.lt_iff_toInt_lt, Int32.le_iff_toInt_le, q_n0, q_n1, q_n2, q_n3, q_n4, q_n5, q_n6, q_n7, q_n10, q_n14, q_n15, q_n20, q_n60, q_n1288] at c_1; show 0 ≤ ((q_i (S 9 i 12)) + 1).toInt ∧ ((q_i (S 9 i 12)) + 1).toInt ≤ 60; rw [q_inc (by omega)]; omega)) rfl)
              refine q_callv hC hS (fun _ h => h) (q_runV (rest := []) hC hW (xC_wf_note l G (q_st (q_st S 9 i 12 (.int ((q_i (S 9 i 12)) + 1))) 0 0 5 (.int ((q_i (S 0 0 5)) + 1))) i (x_pr_firstAt (q_st (q_st S 9 i 12 (.int ((q_i (S 9 i 12)) + 1))) 0 0 5 (.int ((q_i (S 0 0 5)) + 1))) ((q_i (S 9 i 9)).toNatClampNeg) (q_i (S 9 i 11))) (q_i (S 10 i ((x_pr_secondAt (q_st (q_st S 9 i 12 (.int ((q_i (S 9 i 12)) + 1))) 0 0 5 (.int ((q_i (S 0 0 5)) + 1))) ((q_i (S 9 i 9)).toNatClampNeg) (q_i (S 9 i 11))).toNatClampNeg))) hi hI_38) (xc_fe_284 (q_rm 0) hC.1.2.2.2.2 ⟨Nat.le_of_ble_eq_true rfl, Nat.le_of_ble_eq_true rfl⟩ rfl rfl) hi rfl rfl rfl hl.1 rfl (Nat.le_of_ble_eq_true rfl) xd_fe_step_201 ⟨Nat.zero_le _, Nat.zero_le _⟩) (fun H locs hW hS => ?_)
              refine lv_goto (tgt := 243) hx hb xd_fe_step_204 (by decide) ?_
              have hf : x_fe_step S i = x_wf_note (q_st (q_st S 9 i 12 (.int ((q_i (S 9 i 12)) + 1))) 0 0 5 (.int ((q_i (S 0 0 5)) + 1))) i (x_pr_firstAt (q_st (q_st S 9 i 12 (.int ((q_i (S 9 i 12)) + 1))) 0 0 5 (.int ((q_i (S 0 0 5)) + 1))) ((q_i (S 9 i 9)).toNatClampNeg) (q_i (S 9 i 11))) (q_i (S 10 i ((x_pr_secondAt (q_st (q_st S 9 i 12 (.int ((q_i (S 9 i 12)) + 1))) 0 0 5 (.int ((q_i (S 0 0 5)) + 1))) ((q_i (S 9 i 9)).toNatClampNeg) (q_i (S 9 i 11))).toNatClampNeg))) := by unfold x_fe_step; rw [if_pos c_1, if_neg c_2, if_neg c_28, if_neg c_31, if_neg c_34, if_pos c_36]
              rw [hf]
              exact q_vret hC hr hlocks hW hS rfl xd_fe_step_243
            · -- others
              by_cases c_39 : x_pr_opAt (q_st (q_st S 9 i 12 (.int ((q_i (S 9 i 12)) + 1))) 0 0 5 (.int ((q_i (S 0 0 5)) + 1))) ((q_i (S 9 i 9)).toNatClampNeg) (q_i (S 9 i 11)) = 9
              · -- case 9
                refine lv_tableIn (off := 108) (tgt := 207) hx hb xd_fe_step_99 (by rw [c_39]; decide) (by rw [c_39]; decide) (by rw [c_39]; decide) (by decide) ?_
                refine lv_aload_n hx hb xd_fe_step_207 rfl (lv_at hl 5 rfl) ?_
                refine lv_iconst (v := 1) hx hb xd_fe_step_208 (by decide) ?_
                refine xg_fe_243p hC hW hS (fun _ h => h) i hi rfl rfl xd_fe_step_209 (fun H locs hW hS => ?_)
                refine lv_goto (tgt := 243) hx hb xd_fe_step_212 (by decide) ?_
                have hf : x_fe_step S i = q_st (q_st (q_st S 9 i 12 (.int ((q_i (S 9 i 12)) + 1))) 0 0 5 (.int ((q_i (S 0 0 5)) + 1))) 9 i 8 (.int 1) := by unfold x_fe_step; rw [if_pos c_1, if_neg c_2, if_neg c_28, if_neg c_31, if_neg c_34, if_neg c_36, if_pos c_39]
                rw [hf]
                exact q_vret hC hr hlocks hW hS rfl xd_fe_step_243
              · -- others
                by_cases c_40 : x_pr_opAt (q_st (q_st S 9 i 12 (.int ((q_i (S 9 i 12)) + 1))) 0 0 5 (.int ((q_i (S 0 0 5)) + 1))) ((q_i (S 9 i 9)).toNatClampNeg) (q_i (S 9 i 11)) = 10
                · -- case 10
                  refine lv_tableIn (off := 116) (tgt := 215) hx hb xd_fe_step_99 (by rw [c_40]; decide) (by rw [c_40]; decide) (by rw [c_40]; decide) (by decide) ?_
                  refine lv_aload_n hx hb xd_fe_step_215 rfl (lv_at hl 5 rfl) ?_
                  refine lv_aload_n hx hb xd_fe_step_216 rfl (lv_at hl 5 rfl) ?_
                  refine xg_fe_176 hC hW i hi xd_fe_step_217 ?_
                  refine lv_iload hx hb xd_fe_step_220 (lv_at hl 1 rfl) ?_
                  have h_41 : vp_in (x_pr_firstAt (q_st (q_st S 9 i 12 (.int ((q_i (S 9 i 12)) + 1))) 0 0 5 (.int ((q_i (S 0 0 5)) + 1))) ((q_i (S 9 i 9)).toNatClampNeg) (q_i (S 9 i 11))) 4 := xJ_a hJ_24 (q_lt h_23) c_40 (by decide)
                  refine xal_10 hC hW i hi h_41 (q_sj (by decide) (q_sj (by decide) (rfl))) xd_fe_step_222 ?_
                  refine xg_fe_169p hC hW hS (fun _ h => h) i hi xd_fe_step_223 (fun H locs hW hS => ?_)
                  refine lv_aload_n hx hb xd_fe_step_226 rfl (lv_at hl 5 rfl) ?_
                  refine lv_iconst (v := 5) hx hb xd_fe_step_227 (by decide) ?_
                  refine xg_fe_134p hC hW hS (fun _ h => h) i hi xd_fe_step_228 (fun H locs hW hS => ?_)
                  refine lv_goto (tgt := 243) hx hb xd_fe_step_231 (by decide) ?_
                  have hf : x_fe_step S i = q_st (q_st (q_st (q_st S 9 i 12 (.int ((q_i (S 9 i 12)) + 1))) 0 0 5 (.int ((q_i (S 0 0 5)) + 1))) 9 i 15 (.int (q_i (S 10 i ((x_pr_firstAt (q_st (q_st S 9 i 12 (.int ((q_i (S 9 i 12)) + 1))) 0 0 5 (.int ((q_i (S 0 0 5)) + 1))) ((q_i (S 9 i 9)).toNatClampNeg) (q_i (S 9 i 11))).toNatClampNeg))))) 9 i 10 (.int 5) := by unfold x_fe_step; rw [if_pos c_1, if_neg c_2, if_neg c_28, if_neg c_31, if_neg c_34, if_neg c_36, if_neg c_39, if_pos c_40]
                  rw [hf]
                  exact q_vret hC hr hlocks hW hS rfl xd_fe_step_243
                · -- others
                  refine lv_tableOut (tgt := 234) hx hb xd_fe_step_99 (by have n0 := lv_neT c_28 (a := 5) (by decide); have n1 := lv_neT c_31 (a := 6) (by decide); have n2 := lv_neT c_34 (a := 7) (by decide); have n3 := lv_neT c_36 (a := 8) (by decide); have n4 := lv_neT c_39 (a := 9) (by decide); have n5 := lv_neT c_40 (a := 10) (by decide); omega) (by decide) ?_
                  refine lv_aload_n hx hb xd_fe_step_234 rfl (lv_at hl 5 rfl) ?_
                  refine lv_iload_n hx hb xd_fe_step_235 rfl (lv_at hl 2 rfl) ?_
                  refine lv_iload hx hb xd_fe_step_236 (lv_at hl 1 rfl) ?_
                  refine lv_iload hx hb xd_fe_step_238 (lv_at hl 0 rfl) ?_
                  have hI_42 : xI (q_st (q_st S 9 i 12 (.int ((q_i (S 9 i 12)) + 1))) 0 0 5 (.int ((q_i (S 0 0 5)) + 1))) := (q_Is (xI_st hI (by have b1 : 0 ≤ (q_i (S 9 i 12)).toInt ∧ (q_i (S 9 i 12)).toInt ≤ 60 := hI 9 i 12; have b2 : 0 ≤ (q_i (S 9 i 9)).toInt ∧ (q_i (S 9 i 9)).toInt ≤ 2 := hI 9 i 9; have d_1 := q_inc (x := (q_i (S 9 i 12))) (by omega); simp only [Int32.lt_iff_toInt_lt, Int32.le_iff_toInt_le, q_n0, q_n1, q_n2, q_n3, q_n4, q_n5, q_n6, q_n7, q_n10, q_n14, q_n15, q_n20, q_n60, q_n1288] at c_1; show 0 ≤ ((q_i (S 9 i 12)) + 1).toInt ∧ ((q_i (S 9 i 12)) + 1).toInt ≤ 60; rw [q_inc (by omega)]; omega)) rfl)
                  refine q_callv hC hS (fun _ h => h) (q_runV (rest := []) hC hW (xC_wf_compute l G (q_st (q_st S 9 i 12 (.int ((q_i (S 9 i 12)) + 1))) 0 0 5 (.int ((q_i (S 0 0 5)) + 1))) i (x_pr_opAt (q_st (q_st S 9 i 12 (.int ((q_i (S 9 i 12)) + 1))) 0 0 5 (.int ((q_i (S 0 0 5)) + 1))) ((q_i (S 9 i 9)).toNatClampNeg) (q_i (S 9 i 11))) (x_pr_firstAt (q_st (q_st S 9 i 12 (.int ((q_i (S 9 i 12)) + 1))) 0 0 5 (.int ((q_i (S 0 0 5)) + 1))) ((q_i (S 9 i 9)).toNatClampNeg) (q_i (S 9 i 11))) (x_pr_secondAt (q_st (q_st S 9 i 12 (.int ((q_i (S 9 i 12)) + 1))) 0 0 5 (.int ((q_i (S 0 0 5)) + 1))) ((q_i (S 9 i 9)).toNatClampNeg) (q_i (S 9 i 11))) hi hI_42 (xJ_c1 hJ_24 (q_lt h_23)) (xJ_c2 hJ_24 (q_lt h_23))) (xc_fe_287 (q_rm 0) hC.1.2.2.2.2 ⟨Nat.le_of_ble_eq_true rfl, Nat.le_of_ble_eq_true rfl⟩ rfl rfl) hi rfl rfl rfl hl.1 rfl (Nat.le_of_ble_eq_true rfl) xd_fe_step_240 ⟨Nat.zero_le _, Nat.zero_le _⟩) (fun H locs hW hS => ?_)
                  have hf : x_fe_step S i = x_wf_compute (q_st (q_st S 9 i 12 (.int ((q_i (S 9 i 12)) + 1))) 0 0 5 (.int ((q_i (S 0 0 5)) + 1))) i (x_pr_opAt (q_st (q_st S 9 i 12 (.int ((q_i (S 9 i 12)) + 1))) 0 0 5 (.int ((q_i (S 0 0 5)) + 1))) ((q_i (S 9 i 9)).toNatClampNeg) (q_i (S 9 i 11))) (x_pr_firstAt (q_st (q_st S 9 i 12 (.int ((q_i (S 9 i 12)) + 1))) 0 0 5 (.int ((q_i (S 0 0 5)) + 1))) ((q_i (S 9 i 9)).toNatClampNeg) (q_i (S 9 i 11))) (x_pr_secondAt (q_st (q_st S 9 i 12 (.int ((q_i (S 9 i 12)) + 1))) 0 0 5 (.int ((q_i (S 0 0 5)) + 1))) ((q_i (S 9 i 9)).toNatClampNeg) (q_i (S 9 i 11))) := by unfold x_fe_step; rw [if_pos c_1, if_neg c_2, if_neg c_28, if_neg c_31, if_neg c_34, if_neg c_36, if_neg c_39, if_neg c_40]
                  rw [hf]
                  exact q_vret hC hr hlocks hW hS rfl xd_fe_step_243
  · -- not taken
    refine lv_aload_n hx hb xd_fe_step_9 rfl (lv_at hl 1 rfl) ?_
    refine lv_bipush (v := 7) hx hb xd_fe_step_10 (by decide) ?_
    refine xg_fe_134p hC hW hS (fun _ h => h) i hi xd_fe_step_12 (fun H locs hW hS => ?_)
    have hf : x_fe_step S i = q_st S 9 i 10 (.int 7) := by unfold x_fe_step; rw [if_neg c_1]
    rw [hf]
    exact q_vret hC hr hlocks hW hS rfl xd_fe_step_15
set_option maxRecDepth 100000 in
set_option maxHeartbeats 4000000 in
theorem xI_fe_step (S : q_S) (i : Nat) (hi : i < 6) (hI : xI S) (hJ : xJ S) : xI (x_fe_step S i) := by
  by_cases c_1 : q_i (S 9 i 12) < 60
  · -- yes
    by_cases c_2 : x_hi_isLeft (q_st S 9 i 12 (.int ((q_i (S 9 i 12)) + 1))) i = 0
    · -- yes
      by_cases c_8 : x_pr_opAt (q_st (q_st S 9 i 12 (.int ((q_i (S 9 i 12)) + 1))) 0 0 4 (.int ((q_i (S 0 0 4)) + 1))) ((q_i (S 9 i 9)).toNatClampNeg) (q_i (S 9 i 11)) = 5
      · -- yes
        have h_3 : vp_in (q_i (S 9 i 9)) 3 := by have b1 : 0 ≤ (q_i (S 9 i 9)).toInt ∧ (q_i (S 9 i 9)).toInt ≤ 2 := hI 9 i 9; have b2 : 0 ≤ (q_i (S 9 i 12)).toInt ∧ (q_i (S 9 i 12)).toInt ≤ 60 := hI 9 i 12; simp only [vp_in_iff, Int32.lt_iff_toInt_lt, Int32.le_iff_toInt_le, q_n0, q_n1, q_n2, q_n3, q_n4, q_n5, q_n6, q_n7, q_n10, q_n14, q_n15, q_n20, q_n60, q_n1288] at c_1 ⊢; omega
        have hJ_4 : xJ (q_st (q_st S 9 i 12 (.int ((q_i (S 9 i 12)) + 1))) 0 0 4 (.int ((q_i (S 0 0 4)) + 1))) := xJ_keep hJ (fun x y z hx => (q_kj (show x ≠ 0 by omega)).trans ((q_kj (show x ≠ 9 by omega))))
        have hI_5 : xI (q_st (q_st S 9 i 12 (.int ((q_i (S 9 i 12)) + 1))) 0 0 4 (.int ((q_i (S 0 0 4)) + 1))) := (q_Is (xI_st hI (by have b1 : 0 ≤ (q_i (S 9 i 12)).toInt ∧ (q_i (S 9 i 12)).toInt ≤ 60 := hI 9 i 12; have d_1 := q_inc (x := (q_i (S 9 i 12))) (by omega); simp only [Int32.lt_iff_toInt_lt, Int32.le_iff_toInt_le, q_n0, q_n1, q_n2, q_n3, q_n4, q_n5, q_n6, q_n7, q_n10, q_n14, q_n15, q_n20, q_n60, q_n1288] at c_1; show 0 ≤ ((q_i (S 9 i 12)) + 1).toInt ∧ ((q_i (S 9 i 12)) + 1).toInt ≤ 60; rw [q_inc (by omega)]; omega)) rfl)
        have hI_6 : xI (q_st (q_st S 9 i 12 (.int ((q_i (S 9 i 12)) + 1))) 0 0 4 (.int ((q_i (S 0 0 4)) + 1))) := (q_Is (xI_st hI (by have b1 : 0 ≤ (q_i (S 9 i 12)).toInt ∧ (q_i (S 9 i 12)).toInt ≤ 60 := hI 9 i 12; have d_1 := q_inc (x := (q_i (S 9 i 12))) (by omega); simp only [Int32.lt_iff_toInt_lt, Int32.le_iff_toInt_le, q_n0, q_n1, q_n2, q_n3, q_n4, q_n5, q_n6, q_n7, q_n10, q_n14, q_n15, q_n20, q_n60, q_n1288] at c_1; show 0 ≤ ((q_i (S 9 i 12)) + 1).toInt ∧ ((q_i (S 9 i 12)) + 1).toInt ≤ 60; rw [q_inc (by omega)]; omega)) rfl)
        have hI_7 : xI (q_st (q_st S 9 i 12 (.int ((q_i (S 9 i 12)) + 1))) 0 0 4 (.int ((q_i (S 0 0 4)) + 1))) := (q_Is (xI_st hI (by have b1 : 0 ≤ (q_i (S 9 i 12)).toInt ∧ (q_i (S 9 i 12)).toInt ≤ 60 := hI 9 i 12; have d_1 := q_inc (x := (q_i (S 9 i 12))) (by omega); simp only [Int32.lt_iff_toInt_lt, Int32.le_iff_toInt_le, q_n0, q_n1, q_n2, q_n3, q_n4, q_n5, q_n6, q_n7, q_n10, q_n14, q_n15, q_n20, q_n60, q_n1288] at c_1; show 0 ≤ ((q_i (S 9 i 12)) + 1).toInt ∧ ((q_i (S 9 i 12)) + 1).toInt ≤ 60; rw [q_inc (by omega)]; omega)) rfl)
        have h_9 : vp_in (x_pr_secondAt (q_st (q_st S 9 i 12 (.int ((q_i (S 9 i 12)) + 1))) 0 0 4 (.int ((q_i (S 0 0 4)) + 1))) ((q_i (S 9 i 9)).toNatClampNeg) (q_i (S 9 i 11))) 4 := xJ_b hJ_4 (q_lt h_3) c_8 (by decide)
        have hI_10 : xI (q_st (q_st (q_st S 9 i 12 (.int ((q_i (S 9 i 12)) + 1))) 0 0 4 (.int ((q_i (S 0 0 4)) + 1))) 9 i 14 (.int (x_pr_secondAt (q_st (q_st S 9 i 12 (.int ((q_i (S 9 i 12)) + 1))) 0 0 4 (.int ((q_i (S 0 0 4)) + 1))) ((q_i (S 9 i 9)).toNatClampNeg) (q_i (S 9 i 11))))) := (xI_st (q_Is (xI_st hI (by have b1 : 0 ≤ (q_i (S 9 i 12)).toInt ∧ (q_i (S 9 i 12)).toInt ≤ 60 := hI 9 i 12; have b2 : 0 ≤ (q_i (S 9 i 9)).toInt ∧ (q_i (S 9 i 9)).toInt ≤ 2 := hI 9 i 9; have d_1 := q_inc (x := (q_i (S 9 i 12))) (by omega); simp only [Int32.lt_iff_toInt_lt, Int32.le_iff_toInt_le, q_n0, q_n1, q_n2, q_n3, q_n4, q_n5, q_n6, q_n7, q_n10, q_n14, q_n15, q_n20, q_n60, q_n1288] at c_1; show 0 ≤ ((q_i (S 9 i 12)) + 1).toInt ∧ ((q_i (S 9 i 12)) + 1).toInt ≤ 60; rw [q_inc (by omega)]; omega)) rfl) (by exact xV_bd (xJ_b hJ_4 (q_lt h_3) c_8 (by decide))))
        have hf : x_fe_step S i = x_fe_want (q_st (q_st (q_st S 9 i 12 (.int ((q_i (S 9 i 12)) + 1))) 0 0 4 (.int ((q_i (S 0 0 4)) + 1))) 9 i 14 (.int (x_pr_secondAt (q_st (q_st S 9 i 12 (.int ((q_i (S 9 i 12)) + 1))) 0 0 4 (.int ((q_i (S 0 0 4)) + 1))) ((q_i (S 9 i 9)).toNatClampNeg) (q_i (S 9 i 11))))) i 1 (x_pr_firstAt (q_st (q_st S 9 i 12 (.int ((q_i (S 9 i 12)) + 1))) 0 0 4 (.int ((q_i (S 0 0 4)) + 1))) ((q_i (S 9 i 9)).toNatClampNeg) (q_i (S 9 i 11))) (q_i (S 10 i ((x_pr_secondAt (q_st (q_st S 9 i 12 (.int ((q_i (S 9 i 12)) + 1))) 0 0 4 (.int ((q_i (S 0 0 4)) + 1))) ((q_i (S 9 i 9)).toNatClampNeg) (q_i (S 9 i 11))).toNatClampNeg))) := by unfold x_fe_step; rw [if_pos c_1, if_pos c_2, if_pos c_8]
        rw [hf]
        exact (xI_fe_want (q_st (q_st (q_st S 9 i 12 (.int ((q_i (S 9 i 12)) + 1))) 0 0 4 (.int ((q_i (S 0 0 4)) + 1))) 9 i 14 (.int (x_pr_secondAt (q_st (q_st S 9 i 12 (.int ((q_i (S 9 i 12)) + 1))) 0 0 4 (.int ((q_i (S 0 0 4)) + 1))) ((q_i (S 9 i 9)).toNatClampNeg) (q_i (S 9 i 11))))) i 1 (x_pr_firstAt (q_st (q_st S 9 i 12 (.int ((q_i (S 9 i 12)) + 1))) 0 0 4 (.int ((q_i (S 0 0 4)) + 1))) ((q_i (S 9 i 9)).toNatClampNeg) (q_i (S 9 i 11))) (q_i (S 10 i ((x_pr_secondAt (q_st (q_st S 9 i 12 (.int ((q_i (S 9 i 12)) + 1))) 0 0 4 (.int ((q_i (S 0 0 4)) + 1))) ((q_i (S 9 i 9)).toNatClampNeg) (q_i (S 9 i 11))).toNatClampNeg))) hi hI_10)
      · -- no
        by_cases c_11 : x_pr_opAt (q_st (q_st S 9 i 12 (.int ((q_i (S 9 i 12)) + 1))) 0 0 4 (.int ((q_i (S 0 0 4)) + 1))) ((q_i (S 9 i 9)).toNatClampNeg) (q_i (S 9 i 11)) = 6
        · -- yes
          have h_3 : vp_in (q_i (S 9 i 9)) 3 := by have b1 : 0 ≤ (q_i (S 9 i 9)).toInt ∧ (q_i (S 9 i 9)).toInt ≤ 2 := hI 9 i 9; have b2 : 0 ≤ (q_i (S 9 i 12)).toInt ∧ (q_i (S 9 i 12)).toInt ≤ 60 := hI 9 i 12; simp only [vp_in_iff, Int32.lt_iff_toInt_lt, Int32.le_iff_toInt_le, q_n0, q_n1, q_n2, q_n3, q_n4, q_n5, q_n6, q_n7, q_n10, q_n14, q_n15, q_n20, q_n60, q_n1288] at c_1 ⊢; omega
          have hJ_4 : xJ (q_st (q_st S 9 i 12 (.int ((q_i (S 9 i 12)) + 1))) 0 0 4 (.int ((q_i (S 0 0 4)) + 1))) := xJ_keep hJ (fun x y z hx => (q_kj (show x ≠ 0 by omega)).trans ((q_kj (show x ≠ 9 by omega))))
          have hI_5 : xI (q_st (q_st S 9 i 12 (.int ((q_i (S 9 i 12)) + 1))) 0 0 4 (.int ((q_i (S 0 0 4)) + 1))) := (q_Is (xI_st hI (by have b1 : 0 ≤ (q_i (S 9 i 12)).toInt ∧ (q_i (S 9 i 12)).toInt ≤ 60 := hI 9 i 12; have d_1 := q_inc (x := (q_i (S 9 i 12))) (by omega); simp only [Int32.lt_iff_toInt_lt, Int32.le_iff_toInt_le, q_n0, q_n1, q_n2, q_n3, q_n4, q_n5, q_n6, q_n7, q_n10, q_n14, q_n15, q_n20, q_n60, q_n1288] at c_1; show 0 ≤ ((q_i (S 9 i 12)) + 1).toInt ∧ ((q_i (S 9 i 12)) + 1).toInt ≤ 60; rw [q_inc (by omega)]; omega)) rfl)
          have hI_6 : xI (q_st (q_st S 9 i 12 (.int ((q_i (S 9 i 12)) + 1))) 0 0 4 (.int ((q_i (S 0 0 4)) + 1))) := (q_Is (xI_st hI (by have b1 : 0 ≤ (q_i (S 9 i 12)).toInt ∧ (q_i (S 9 i 12)).toInt ≤ 60 := hI 9 i 12; have d_1 := q_inc (x := (q_i (S 9 i 12))) (by omega); simp only [Int32.lt_iff_toInt_lt, Int32.le_iff_toInt_le, q_n0, q_n1, q_n2, q_n3, q_n4, q_n5, q_n6, q_n7, q_n10, q_n14, q_n15, q_n20, q_n60, q_n1288] at c_1; show 0 ≤ ((q_i (S 9 i 12)) + 1).toInt ∧ ((q_i (S 9 i 12)) + 1).toInt ≤ 60; rw [q_inc (by omega)]; omega)) rfl)
          have hI_7 : xI (q_st (q_st S 9 i 12 (.int ((q_i (S 9 i 12)) + 1))) 0 0 4 (.int ((q_i (S 0 0 4)) + 1))) := (q_Is (xI_st hI (by have b1 : 0 ≤ (q_i (S 9 i 12)).toInt ∧ (q_i (S 9 i 12)).toInt ≤ 60 := hI 9 i 12; have d_1 := q_inc (x := (q_i (S 9 i 12))) (by omega); simp only [Int32.lt_iff_toInt_lt, Int32.le_iff_toInt_le, q_n0, q_n1, q_n2, q_n3, q_n4, q_n5, q_n6, q_n7, q_n10, q_n14, q_n15, q_n20, q_n60, q_n1288] at c_1; show 0 ≤ ((q_i (S 9 i 12)) + 1).toInt ∧ ((q_i (S 9 i 12)) + 1).toInt ≤ 60; rw [q_inc (by omega)]; omega)) rfl)
          have h_12 : vp_in (x_pr_firstAt (q_st (q_st S 9 i 12 (.int ((q_i (S 9 i 12)) + 1))) 0 0 4 (.int ((q_i (S 0 0 4)) + 1))) ((q_i (S 9 i 9)).toNatClampNeg) (q_i (S 9 i 11))) 4 := xJ_a hJ_4 (q_lt h_3) c_11 (by decide)
          have hI_13 : xI (q_st (q_st S 9 i 12 (.int ((q_i (S 9 i 12)) + 1))) 0 0 4 (.int ((q_i (S 0 0 4)) + 1))) := (q_Is (xI_st hI (by have b1 : 0 ≤ (q_i (S 9 i 12)).toInt ∧ (q_i (S 9 i 12)).toInt ≤ 60 := hI 9 i 12; have b2 : 0 ≤ (q_i (S 9 i 9)).toInt ∧ (q_i (S 9 i 9)).toInt ≤ 2 := hI 9 i 9; have d_1 := q_inc (x := (q_i (S 9 i 12))) (by omega); simp only [Int32.lt_iff_toInt_lt, Int32.le_iff_toInt_le, q_n0, q_n1, q_n2, q_n3, q_n4, q_n5, q_n6, q_n7, q_n10, q_n14, q_n15, q_n20, q_n60, q_n1288] at c_1; show 0 ≤ ((q_i (S 9 i 12)) + 1).toInt ∧ ((q_i (S 9 i 12)) + 1).toInt ≤ 60; rw [q_inc (by omega)]; omega)) rfl)
          have hf : x_fe_step S i = x_fe_sleep (q_st (q_st S 9 i 12 (.int ((q_i (S 9 i 12)) + 1))) 0 0 4 (.int ((q_i (S 0 0 4)) + 1))) i (q_i (S 10 i ((x_pr_firstAt (q_st (q_st S 9 i 12 (.int ((q_i (S 9 i 12)) + 1))) 0 0 4 (.int ((q_i (S 0 0 4)) + 1))) ((q_i (S 9 i 9)).toNatClampNeg) (q_i (S 9 i 11))).toNatClampNeg))) := by unfold x_fe_step; rw [if_pos c_1, if_pos c_2, if_neg c_8, if_pos c_11]
          rw [hf]
          exact (xI_fe_sleep (q_st (q_st S 9 i 12 (.int ((q_i (S 9 i 12)) + 1))) 0 0 4 (.int ((q_i (S 0 0 4)) + 1))) i (q_i (S 10 i ((x_pr_firstAt (q_st (q_st S 9 i 12 (.int ((q_i (S 9 i 12)) + 1))) 0 0 4 (.int ((q_i (S 0 0 4)) + 1))) ((q_i (S 9 i 9)).toNatClampNeg) (q_i (S 9 i 11))).toNatClampNeg))) hi hI_13)
        · -- no
          by_cases c_14 : x_pr_opAt (q_st (q_st S 9 i 12 (.int ((q_i (S 9 i 12)) + 1))) 0 0 4 (.int ((q_i (S 0 0 4)) + 1))) ((q_i (S 9 i 9)).toNatClampNeg) (q_i (S 9 i 11)) = 7
          · -- yes
            have h_3 : vp_in (q_i (S 9 i 9)) 3 := by have b1 : 0 ≤ (q_i (S 9 i 9)).toInt ∧ (q_i (S 9 i 9)).toInt ≤ 2 := hI 9 i 9; have b2 : 0 ≤ (q_i (S 9 i 12)).toInt ∧ (q_i (S 9 i 12)).toInt ≤ 60 := hI 9 i 12; simp only [vp_in_iff, Int32.lt_iff_toInt_lt, Int32.le_iff_toInt_le, q_n0, q_n1, q_n2, q_n3, q_n4, q_n5, q_n6, q_n7, q_n10, q_n14, q_n15, q_n20, q_n60, q_n1288] at c_1 ⊢; omega
            have hJ_4 : xJ (q_st (q_st S 9 i 12 (.int ((q_i (S 9 i 12)) + 1))) 0 0 4 (.int ((q_i (S 0 0 4)) + 1))) := xJ_keep hJ (fun x y z hx => (q_kj (show x ≠ 0 by omega)).trans ((q_kj (show x ≠ 9 by omega))))
            have hI_5 : xI (q_st (q_st S 9 i 12 (.int ((q_i (S 9 i 12)) + 1))) 0 0 4 (.int ((q_i (S 0 0 4)) + 1))) := (q_Is (xI_st hI (by have b1 : 0 ≤ (q_i (S 9 i 12)).toInt ∧ (q_i (S 9 i 12)).toInt ≤ 60 := hI 9 i 12; have d_1 := q_inc (x := (q_i (S 9 i 12))) (by omega); simp only [Int32.lt_iff_toInt_lt, Int32.le_iff_toInt_le, q_n0, q_n1, q_n2, q_n3, q_n4, q_n5, q_n6, q_n7, q_n10, q_n14, q_n15, q_n20, q_n60, q_n1288] at c_1; show 0 ≤ ((q_i (S 9 i 12)) + 1).toInt ∧ ((q_i (S 9 i 12)) + 1).toInt ≤ 60; rw [q_inc (by omega)]; omega)) rfl)
            have hI_6 : xI (q_st (q_st S 9 i 12 (.int ((q_i (S 9 i 12)) + 1))) 0 0 4 (.int ((q_i (S 0 0 4)) + 1))) := (q_Is (xI_st hI (by have b1 : 0 ≤ (q_i (S 9 i 12)).toInt ∧ (q_i (S 9 i 12)).toInt ≤ 60 := hI 9 i 12; have d_1 := q_inc (x := (q_i (S 9 i 12))) (by omega); simp only [Int32.lt_iff_toInt_lt, Int32.le_iff_toInt_le, q_n0, q_n1, q_n2, q_n3, q_n4, q_n5, q_n6, q_n7, q_n10, q_n14, q_n15, q_n20, q_n60, q_n1288] at c_1; show 0 ≤ ((q_i (S 9 i 12)) + 1).toInt ∧ ((q_i (S 9 i 12)) + 1).toInt ≤ 60; rw [q_inc (by omega)]; omega)) rfl)
            have hI_7 : xI (q_st (q_st S 9 i 12 (.int ((q_i (S 9 i 12)) + 1))) 0 0 4 (.int ((q_i (S 0 0 4)) + 1))) := (q_Is (xI_st hI (by have b1 : 0 ≤ (q_i (S 9 i 12)).toInt ∧ (q_i (S 9 i 12)).toInt ≤ 60 := hI 9 i 12; have d_1 := q_inc (x := (q_i (S 9 i 12))) (by omega); simp only [Int32.lt_iff_toInt_lt, Int32.le_iff_toInt_le, q_n0, q_n1, q_n2, q_n3, q_n4, q_n5, q_n6, q_n7, q_n10, q_n14, q_n15, q_n20, q_n60, q_n1288] at c_1; show 0 ≤ ((q_i (S 9 i 12)) + 1).toInt ∧ ((q_i (S 9 i 12)) + 1).toInt ≤ 60; rw [q_inc (by omega)]; omega)) rfl)
            have hI_15 : xI (q_st (q_st (q_st S 9 i 12 (.int ((q_i (S 9 i 12)) + 1))) 0 0 4 (.int ((q_i (S 0 0 4)) + 1))) 9 i 14 (.int (x_pr_secondAt (q_st (q_st S 9 i 12 (.int ((q_i (S 9 i 12)) + 1))) 0 0 4 (.int ((q_i (S 0 0 4)) + 1))) ((q_i (S 9 i 9)).toNatClampNeg) (q_i (S 9 i 11))))) := (xI_st (q_Is (xI_st hI (by have b1 : 0 ≤ (q_i (S 9 i 12)).toInt ∧ (q_i (S 9 i 12)).toInt ≤ 60 := hI 9 i 12; have b2 : 0 ≤ (q_i (S 9 i 9)).toInt ∧ (q_i (S 9 i 9)).toInt ≤ 2 := hI 9 i 9; have d_1 := q_inc (x := (q_i (S 9 i 12))) (by omega); simp only [Int32.lt_iff_toInt_lt, Int32.le_iff_toInt_le, q_n0, q_n1, q_n2, q_n3, q_n4, q_n5, q_n6, q_n7, q_n10, q_n14, q_n15, q_n20, q_n60, q_n1288] at c_1; show 0 ≤ ((q_i (S 9 i 12)) + 1).toInt ∧ ((q_i (S 9 i 12)) + 1).toInt ≤ 60; rw [q_inc (by omega)]; omega)) rfl) (by exact xV_bd (xJ_b hJ_4 (q_lt h_3) c_14 (by decide))))
            have hf : x_fe_step S i = x_fe_awaitSignal (q_st (q_st (q_st S 9 i 12 (.int ((q_i (S 9 i 12)) + 1))) 0 0 4 (.int ((q_i (S 0 0 4)) + 1))) 9 i 14 (.int (x_pr_secondAt (q_st (q_st S 9 i 12 (.int ((q_i (S 9 i 12)) + 1))) 0 0 4 (.int ((q_i (S 0 0 4)) + 1))) ((q_i (S 9 i 9)).toNatClampNeg) (q_i (S 9 i 11))))) i (x_pr_firstAt (q_st (q_st S 9 i 12 (.int ((q_i (S 9 i 12)) + 1))) 0 0 4 (.int ((q_i (S 0 0 4)) + 1))) ((q_i (S 9 i 9)).toNatClampNeg) (q_i (S 9 i 11))) := by unfold x_fe_step; rw [if_pos c_1, if_pos c_2, if_neg c_8, if_neg c_11, if_pos c_14]
            rw [hf]
            exact (xI_fe_awaitSignal (q_st (q_st (q_st S 9 i 12 (.int ((q_i (S 9 i 12)) + 1))) 0 0 4 (.int ((q_i (S 0 0 4)) + 1))) 9 i 14 (.int (x_pr_secondAt (q_st (q_st S 9 i 12 (.int ((q_i (S 9 i 12)) + 1))) 0 0 4 (.int ((q_i (S 0 0 4)) + 1))) ((q_i (S 9 i 9)).toNatClampNeg) (q_i (S 9 i 11))))) i (x_pr_firstAt (q_st (q_st S 9 i 12 (.int ((q_i (S 9 i 12)) + 1))) 0 0 4 (.int ((q_i (S 0 0 4)) + 1))) ((q_i (S 9 i 9)).toNatClampNeg) (q_i (S 9 i 11))) hi hI_15)
          · -- no
            by_cases c_16 : x_pr_opAt (q_st (q_st S 9 i 12 (.int ((q_i (S 9 i 12)) + 1))) 0 0 4 (.int ((q_i (S 0 0 4)) + 1))) ((q_i (S 9 i 9)).toNatClampNeg) (q_i (S 9 i 11)) = 8
            · -- yes
              have h_3 : vp_in (q_i (S 9 i 9)) 3 := by have b1 : 0 ≤ (q_i (S 9 i 9)).toInt ∧ (q_i (S 9 i 9)).toInt ≤ 2 := hI 9 i 9; have b2 : 0 ≤ (q_i (S 9 i 12)).toInt ∧ (q_i (S 9 i 12)).toInt ≤ 60 := hI 9 i 12; simp only [vp_in_iff, Int32.lt_iff_toInt_lt, Int32.le_iff_toInt_le, q_n0, q_n1, q_n2, q_n3, q_n4, q_n5, q_n6, q_n7, q_n10, q_n14, q_n15, q_n20, q_n60, q_n1288] at c_1 ⊢; omega
              have hJ_4 : xJ (q_st (q_st S 9 i 12 (.int ((q_i (S 9 i 12)) + 1))) 0 0 4 (.int ((q_i (S 0 0 4)) + 1))) := xJ_keep hJ (fun x y z hx => (q_kj (show x ≠ 0 by omega)).trans ((q_kj (show x ≠ 9 by omega))))
              have hI_5 : xI (q_st (q_st S 9 i 12 (.int ((q_i (S 9 i 12)) + 1))) 0 0 4 (.int ((q_i (S 0 0 4)) + 1))) := (q_Is (xI_st hI (by have b1 : 0 ≤ (q_i (S 9 i 12)).toInt ∧ (q_i (S 9 i 12)).toInt ≤ 60 := hI 9 i 12; have d_1 := q_inc (x := (q_i (S 9 i 12))) (by omega); simp only [Int32.lt_iff_toInt_lt, Int32.le_iff_toInt_le, q_n0, q_n1, q_n2, q_n3, q_n4, q_n5, q_n6, q_n7, q_n10, q_n14, q_n15, q_n20, q_n60, q_n1288] at c_1; show 0 ≤ ((q_i (S 9 i 12)) + 1).toInt ∧ ((q_i (S 9 i 12)) + 1).toInt ≤ 60; rw [q_inc (by omega)]; omega)) rfl)
              have hI_6 : xI (q_st (q_st S 9 i 12 (.int ((q_i (S 9 i 12)) + 1))) 0 0 4 (.int ((q_i (S 0 0 4)) + 1))) := (q_Is (xI_st hI (by have b1 : 0 ≤ (q_i (S 9 i 12)).toInt ∧ (q_i (S 9 i 12)).toInt ≤ 60 := hI 9 i 12; have d_1 := q_inc (x := (q_i (S 9 i 12))) (by omega); simp only [Int32.lt_iff_toInt_lt, Int32.le_iff_toInt_le, q_n0, q_n1, q_n2, q_n3, q_n4, q_n5, q_n6, q_n7, q_n10, q_n14, q_n15, q_n20, q_n60, q_n1288] at c_1; show 0 ≤ ((q_i (S 9 i 12)) + 1).toInt ∧ ((q_i (S 9 i 12)) + 1).toInt ≤ 60; rw [q_inc (by omega)]; omega)) rfl)
              have hI_7 : xI (q_st (q_st S 9 i 12 (.int ((q_i (S 9 i 12)) + 1))) 0 0 4 (.int ((q_i (S 0 0 4)) + 1))) := (q_Is (xI_st hI (by have b1 : 0 ≤ (q_i (S 9 i 12)).toInt ∧ (q_i (S 9 i 12)).toInt ≤ 60 := hI 9 i 12; have d_1 := q_inc (x := (q_i (S 9 i 12))) (by omega); simp only [Int32.lt_iff_toInt_lt, Int32.le_iff_toInt_le, q_n0, q_n1, q_n2, q_n3, q_n4, q_n5, q_n6, q_n7, q_n10, q_n14, q_n15, q_n20, q_n60, q_n1288] at c_1; show 0 ≤ ((q_i (S 9 i 12)) + 1).toInt ∧ ((q_i (S 9 i 12)) + 1).toInt ≤ 60; rw [q_inc (by omega)]; omega)) rfl)
              have h_17 : vp_in (x_pr_secondAt (q_st (q_st S 9 i 12 (.int ((q_i (S 9 i 12)) + 1))) 0 0 4 (.int ((q_i (S 0 0 4)) + 1))) ((q_i (S 9 i 9)).toNatClampNeg) (q_i (S 9 i 11))) 4 := xJ_b hJ_4 (q_lt h_3) c_16 (by decide)
              have hI_18 : xI (q_st (q_st S 9 i 12 (.int ((q_i (S 9 i 12)) + 1))) 0 0 4 (.int ((q_i (S 0 0 4)) + 1))) := (q_Is (xI_st hI (by have b1 : 0 ≤ (q_i (S 9 i 12)).toInt ∧ (q_i (S 9 i 12)).toInt ≤ 60 := hI 9 i 12; have b2 : 0 ≤ (q_i (S 9 i 9)).toInt ∧ (q_i (S 9 i 9)).toInt ≤ 2 := hI 9 i 9; have d_1 := q_inc (x := (q_i (S 9 i 12))) (by omega); simp only [Int32.lt_iff_toInt_lt, Int32.le_iff_toInt_le, q_n0, q_n1, q_n2, q_n3, q_n4, q_n5, q_n6, q_n7, q_n10, q_n14, q_n15, q_n20, q_n60, q_n1288] at c_1; show 0 ≤ ((q_i (S 9 i 12)) + 1).toInt ∧ ((q_i (S 9 i 12)) + 1).toInt ≤ 60; rw [q_inc (by omega)]; omega)) rfl)
              have hf : x_fe_step S i = x_wf_note (q_st (q_st S 9 i 12 (.int ((q_i (S 9 i 12)) + 1))) 0 0 4 (.int ((q_i (S 0 0 4)) + 1))) i (x_pr_firstAt (q_st (q_st S 9 i 12 (.int ((q_i (S 9 i 12)) + 1))) 0 0 4 (.int ((q_i (S 0 0 4)) + 1))) ((q_i (S 9 i 9)).toNatClampNeg) (q_i (S 9 i 11))) (q_i (S 10 i ((x_pr_secondAt (q_st (q_st S 9 i 12 (.int ((q_i (S 9 i 12)) + 1))) 0 0 4 (.int ((q_i (S 0 0 4)) + 1))) ((q_i (S 9 i 9)).toNatClampNeg) (q_i (S 9 i 11))).toNatClampNeg))) := by unfold x_fe_step; rw [if_pos c_1, if_pos c_2, if_neg c_8, if_neg c_11, if_neg c_14, if_pos c_16]
              rw [hf]
              exact (xI_wf_note (q_st (q_st S 9 i 12 (.int ((q_i (S 9 i 12)) + 1))) 0 0 4 (.int ((q_i (S 0 0 4)) + 1))) i (x_pr_firstAt (q_st (q_st S 9 i 12 (.int ((q_i (S 9 i 12)) + 1))) 0 0 4 (.int ((q_i (S 0 0 4)) + 1))) ((q_i (S 9 i 9)).toNatClampNeg) (q_i (S 9 i 11))) (q_i (S 10 i ((x_pr_secondAt (q_st (q_st S 9 i 12 (.int ((q_i (S 9 i 12)) + 1))) 0 0 4 (.int ((q_i (S 0 0 4)) + 1))) ((q_i (S 9 i 9)).toNatClampNeg) (q_i (S 9 i 11))).toNatClampNeg))) hi hI_18)
            · -- no
              by_cases c_19 : x_pr_opAt (q_st (q_st S 9 i 12 (.int ((q_i (S 9 i 12)) + 1))) 0 0 4 (.int ((q_i (S 0 0 4)) + 1))) ((q_i (S 9 i 9)).toNatClampNeg) (q_i (S 9 i 11)) = 9
              · -- yes
                have h_3 : vp_in (q_i (S 9 i 9)) 3 := by have b1 : 0 ≤ (q_i (S 9 i 9)).toInt ∧ (q_i (S 9 i 9)).toInt ≤ 2 := hI 9 i 9; have b2 : 0 ≤ (q_i (S 9 i 12)).toInt ∧ (q_i (S 9 i 12)).toInt ≤ 60 := hI 9 i 12; simp only [vp_in_iff, Int32.lt_iff_toInt_lt, Int32.le_iff_toInt_le, q_n0, q_n1, q_n2, q_n3, q_n4, q_n5, q_n6, q_n7, q_n10, q_n14, q_n15, q_n20, q_n60, q_n1288] at c_1 ⊢; omega
                have hJ_4 : xJ (q_st (q_st S 9 i 12 (.int ((q_i (S 9 i 12)) + 1))) 0 0 4 (.int ((q_i (S 0 0 4)) + 1))) := xJ_keep hJ (fun x y z hx => (q_kj (show x ≠ 0 by omega)).trans ((q_kj (show x ≠ 9 by omega))))
                have hI_5 : xI (q_st (q_st S 9 i 12 (.int ((q_i (S 9 i 12)) + 1))) 0 0 4 (.int ((q_i (S 0 0 4)) + 1))) := (q_Is (xI_st hI (by have b1 : 0 ≤ (q_i (S 9 i 12)).toInt ∧ (q_i (S 9 i 12)).toInt ≤ 60 := hI 9 i 12; have d_1 := q_inc (x := (q_i (S 9 i 12))) (by omega); simp only [Int32.lt_iff_toInt_lt, Int32.le_iff_toInt_le, q_n0, q_n1, q_n2, q_n3, q_n4, q_n5, q_n6, q_n7, q_n10, q_n14, q_n15, q_n20, q_n60, q_n1288] at c_1; show 0 ≤ ((q_i (S 9 i 12)) + 1).toInt ∧ ((q_i (S 9 i 12)) + 1).toInt ≤ 60; rw [q_inc (by omega)]; omega)) rfl)
                have hI_6 : xI (q_st (q_st S 9 i 12 (.int ((q_i (S 9 i 12)) + 1))) 0 0 4 (.int ((q_i (S 0 0 4)) + 1))) := (q_Is (xI_st hI (by have b1 : 0 ≤ (q_i (S 9 i 12)).toInt ∧ (q_i (S 9 i 12)).toInt ≤ 60 := hI 9 i 12; have d_1 := q_inc (x := (q_i (S 9 i 12))) (by omega); simp only [Int32.lt_iff_toInt_lt, Int32.le_iff_toInt_le, q_n0, q_n1, q_n2, q_n3, q_n4, q_n5, q_n6, q_n7, q_n10, q_n14, q_n15, q_n20, q_n60, q_n1288] at c_1; show 0 ≤ ((q_i (S 9 i 12)) + 1).toInt ∧ ((q_i (S 9 i 12)) + 1).toInt ≤ 60; rw [q_inc (by omega)]; omega)) rfl)
                have hI_7 : xI (q_st (q_st S 9 i 12 (.int ((q_i (S 9 i 12)) + 1))) 0 0 4 (.int ((q_i (S 0 0 4)) + 1))) := (q_Is (xI_st hI (by have b1 : 0 ≤ (q_i (S 9 i 12)).toInt ∧ (q_i (S 9 i 12)).toInt ≤ 60 := hI 9 i 12; have d_1 := q_inc (x := (q_i (S 9 i 12))) (by omega); simp only [Int32.lt_iff_toInt_lt, Int32.le_iff_toInt_le, q_n0, q_n1, q_n2, q_n3, q_n4, q_n5, q_n6, q_n7, q_n10, q_n14, q_n15, q_n20, q_n60, q_n1288] at c_1; show 0 ≤ ((q_i (S 9 i 12)) + 1).toInt ∧ ((q_i (S 9 i 12)) + 1).toInt ≤ 60; rw [q_inc (by omega)]; omega)) rfl)
                have hf : x_fe_step S i = q_st (q_st (q_st S 9 i 12 (.int ((q_i (S 9 i 12)) + 1))) 0 0 4 (.int ((q_i (S 0 0 4)) + 1))) 9 i 8 (.int 1) := by unfold x_fe_step; rw [if_pos c_1, if_pos c_2, if_neg c_8, if_neg c_11, if_neg c_14, if_neg c_16, if_pos c_19]
                rw [hf]
                exact (q_Is (q_Is (xI_st hI (by have b1 : 0 ≤ (q_i (S 9 i 12)).toInt ∧ (q_i (S 9 i 12)).toInt ≤ 60 := hI 9 i 12; have b2 : 0 ≤ (q_i (S 9 i 9)).toInt ∧ (q_i (S 9 i 9)).toInt ≤ 2 := hI 9 i 9; have d_1 := q_inc (x := (q_i (S 9 i 12))) (by omega); simp only [Int32.lt_iff_toInt_lt, Int32.le_iff_toInt_le, q_n0, q_n1, q_n2, q_n3, q_n4, q_n5, q_n6, q_n7, q_n10, q_n14, q_n15, q_n20, q_n60, q_n1288] at c_1; show 0 ≤ ((q_i (S 9 i 12)) + 1).toInt ∧ ((q_i (S 9 i 12)) + 1).toInt ≤ 60; rw [q_inc (by omega)]; omega)) rfl) rfl)
              · -- no
                by_cases c_20 : x_pr_opAt (q_st (q_st S 9 i 12 (.int ((q_i (S 9 i 12)) + 1))) 0 0 4 (.int ((q_i (S 0 0 4)) + 1))) ((q_i (S 9 i 9)).toNatClampNeg) (q_i (S 9 i 11)) = 10
                · -- yes
                  have h_3 : vp_in (q_i (S 9 i 9)) 3 := by have b1 : 0 ≤ (q_i (S 9 i 9)).toInt ∧ (q_i (S 9 i 9)).toInt ≤ 2 := hI 9 i 9; have b2 : 0 ≤ (q_i (S 9 i 12)).toInt ∧ (q_i (S 9 i 12)).toInt ≤ 60 := hI 9 i 12; simp only [vp_in_iff, Int32.lt_iff_toInt_lt, Int32.le_iff_toInt_le, q_n0, q_n1, q_n2, q_n3, q_n4, q_n5, q_n6, q_n7, q_n10, q_n14, q_n15, q_n20, q_n60, q_n1288] at c_1 ⊢; omega
                  have hJ_4 : xJ (q_st (q_st S 9 i 12 (.int ((q_i (S 9 i 12)) + 1))) 0 0 4 (.int ((q_i (S 0 0 4)) + 1))) := xJ_keep hJ (fun x y z hx => (q_kj (show x ≠ 0 by omega)).trans ((q_kj (show x ≠ 9 by omega))))
                  have hI_5 : xI (q_st (q_st S 9 i 12 (.int ((q_i (S 9 i 12)) + 1))) 0 0 4 (.int ((q_i (S 0 0 4)) + 1))) := (q_Is (xI_st hI (by have b1 : 0 ≤ (q_i (S 9 i 12)).toInt ∧ (q_i (S 9 i 12)).toInt ≤ 60 := hI 9 i 12; have d_1 := q_inc (x := (q_i (S 9 i 12))) (by omega); simp only [Int32.lt_iff_toInt_lt, Int32.le_iff_toInt_le, q_n0, q_n1, q_n2, q_n3, q_n4, q_n5, q_n6, q_n7, q_n10, q_n14, q_n15, q_n20, q_n60, q_n1288] at c_1; show 0 ≤ ((q_i (S 9 i 12)) + 1).toInt ∧ ((q_i (S 9 i 12)) + 1).toInt ≤ 60; rw [q_inc (by omega)]; omega)) rfl)
                  have hI_6 : xI (q_st (q_st S 9 i 12 (.int ((q_i (S 9 i 12)) + 1))) 0 0 4 (.int ((q_i (S 0 0 4)) + 1))) := (q_Is (xI_st hI (by have b1 : 0 ≤ (q_i (S 9 i 12)).toInt ∧ (q_i (S 9 i 12)).toInt ≤ 60 := hI 9 i 12; have d_1 := q_inc (x := (q_i (S 9 i 12))) (by omega); simp only [Int32.lt_iff_toInt_lt, Int32.le_iff_toInt_le, q_n0, q_n1, q_n2, q_n3, q_n4, q_n5, q_n6, q_n7, q_n10, q_n14, q_n15, q_n20, q_n60, q_n1288] at c_1; show 0 ≤ ((q_i (S 9 i 12)) + 1).toInt ∧ ((q_i (S 9 i 12)) + 1).toInt ≤ 60; rw [q_inc (by omega)]; omega)) rfl)
                  have hI_7 : xI (q_st (q_st S 9 i 12 (.int ((q_i (S 9 i 12)) + 1))) 0 0 4 (.int ((q_i (S 0 0 4)) + 1))) := (q_Is (xI_st hI (by have b1 : 0 ≤ (q_i (S 9 i 12)).toInt ∧ (q_i (S 9 i 12)).toInt ≤ 60 := hI 9 i 12; have d_1 := q_inc (x := (q_i (S 9 i 12))) (by omega); simp only [Int32.lt_iff_toInt_lt, Int32.le_iff_toInt_le, q_n0, q_n1, q_n2, q_n3, q_n4, q_n5, q_n6, q_n7, q_n10, q_n14, q_n15, q_n20, q_n60, q_n1288] at c_1; show 0 ≤ ((q_i (S 9 i 12)) + 1).toInt ∧ ((q_i (S 9 i 12)) + 1).toInt ≤ 60; rw [q_inc (by omega)]; omega)) rfl)
                  have h_21 : vp_in (x_pr_firstAt (q_st (q_st S 9 i 12 (.int ((q_i (S 9 i 12)) + 1))) 0 0 4 (.int ((q_i (S 0 0 4)) + 1))) ((q_i (S 9 i 9)).toNatClampNeg) (q_i (S 9 i 11))) 4 := xJ_a hJ_4 (q_lt h_3) c_20 (by decide)
                  have hf : x_fe_step S i = q_st (q_st (q_st (q_st S 9 i 12 (.int ((q_i (S 9 i 12)) + 1))) 0 0 4 (.int ((q_i (S 0 0 4)) + 1))) 9 i 15 (.int (q_i (S 10 i ((x_pr_firstAt (q_st (q_st S 9 i 12 (.int ((q_i (S 9 i 12)) + 1))) 0 0 4 (.int ((q_i (S 0 0 4)) + 1))) ((q_i (S 9 i 9)).toNatClampNeg) (q_i (S 9 i 11))).toNatClampNeg))))) 9 i 10 (.int 5) := by unfold x_fe_step; rw [if_pos c_1, if_pos c_2, if_neg c_8, if_neg c_11, if_neg c_14, if_neg c_16, if_neg c_19, if_pos c_20]
                  rw [hf]
                  exact (q_Is (q_Is (q_Is (xI_st hI (by have b1 : 0 ≤ (q_i (S 9 i 12)).toInt ∧ (q_i (S 9 i 12)).toInt ≤ 60 := hI 9 i 12; have b2 : 0 ≤ (q_i (S 9 i 9)).toInt ∧ (q_i (S 9 i 9)).toInt ≤ 2 := hI 9 i 9; have d_1 := q_inc (x := (q_i (S 9 i 12))) (by omega); simp only [Int32.lt_iff_toInt_lt, Int32.le_iff_toInt_le, q_n0, q_n1, q_n2, q_n3, q_n4, q_n5, q_n6, q_n7, q_n10, q_n14, q_n15, q_n20, q_n60, q_n1288] at c_1; show 0 ≤ ((q_i (S 9 i 12)) + 1).toInt ∧ ((q_i (S 9 i 12)) + 1).toInt ≤ 60; rw [q_inc (by omega)]; omega)) rfl) rfl) rfl)
                · -- no
                  have h_3 : vp_in (q_i (S 9 i 9)) 3 := by have b1 : 0 ≤ (q_i (S 9 i 9)).toInt ∧ (q_i (S 9 i 9)).toInt ≤ 2 := hI 9 i 9; have b2 : 0 ≤ (q_i (S 9 i 12)).toInt ∧ (q_i (S 9 i 12)).toInt ≤ 60 := hI 9 i 12; simp only [vp_in_iff, Int32.lt_iff_toInt_lt, Int32.le_iff_toInt_le, q_n0, q_n1, q_n2, q_n3, q_n4, q_n5, q_n6, q_n7, q_n10, q_n14, q_n15, q_n20, q_n60, q_n1288] at c_1 ⊢; omega
                  have hJ_4 : xJ (q_st (q_st S 9 i 12 (.int ((q_i (S 9 i 12)) + 1))) 0 0 4 (.int ((q_i (S 0 0 4)) + 1))) := xJ_keep hJ (fun x y z hx => (q_kj (show x ≠ 0 by omega)).trans ((q_kj (show x ≠ 9 by omega))))
                  have hI_5 : xI (q_st (q_st S 9 i 12 (.int ((q_i (S 9 i 12)) + 1))) 0 0 4 (.int ((q_i (S 0 0 4)) + 1))) := (q_Is (xI_st hI (by have b1 : 0 ≤ (q_i (S 9 i 12)).toInt ∧ (q_i (S 9 i 12)).toInt ≤ 60 := hI 9 i 12; have d_1 := q_inc (x := (q_i (S 9 i 12))) (by omega); simp only [Int32.lt_iff_toInt_lt, Int32.le_iff_toInt_le, q_n0, q_n1, q_n2, q_n3, q_n4, q_n5, q_n6, q_n7, q_n10, q_n14, q_n15, q_n20, q_n60, q_n1288] at c_1; show 0 ≤ ((q_i (S 9 i 12)) + 1).toInt ∧ ((q_i (S 9 i 12)) + 1).toInt ≤ 60; rw [q_inc (by omega)]; omega)) rfl)
                  have hI_6 : xI (q_st (q_st S 9 i 12 (.int ((q_i (S 9 i 12)) + 1))) 0 0 4 (.int ((q_i (S 0 0 4)) + 1))) := (q_Is (xI_st hI (by have b1 : 0 ≤ (q_i (S 9 i 12)).toInt ∧ (q_i (S 9 i 12)).toInt ≤ 60 := hI 9 i 12; have d_1 := q_inc (x := (q_i (S 9 i 12))) (by omega); simp only [Int32.lt_iff_toInt_lt, Int32.le_iff_toInt_le, q_n0, q_n1, q_n2, q_n3, q_n4, q_n5, q_n6, q_n7, q_n10, q_n14, q_n15, q_n20, q_n60, q_n1288] at c_1; show 0 ≤ ((q_i (S 9 i 12)) + 1).toInt ∧ ((q_i (S 9 i 12)) + 1).toInt ≤ 60; rw [q_inc (by omega)]; omega)) rfl)
                  have hI_7 : xI (q_st (q_st S 9 i 12 (.int ((q_i (S 9 i 12)) + 1))) 0 0 4 (.int ((q_i (S 0 0 4)) + 1))) := (q_Is (xI_st hI (by have b1 : 0 ≤ (q_i (S 9 i 12)).toInt ∧ (q_i (S 9 i 12)).toInt ≤ 60 := hI 9 i 12; have d_1 := q_inc (x := (q_i (S 9 i 12))) (by omega); simp only [Int32.lt_iff_toInt_lt, Int32.le_iff_toInt_le, q_n0, q_n1, q_n2, q_n3, q_n4, q_n5, q_n6, q_n7, q_n10, q_n14, q_n15, q_n20, q_n60, q_n1288] at c_1; show 0 ≤ ((q_i (S 9 i 12)) + 1).toInt ∧ ((q_i (S 9 i 12)) + 1).toInt ≤ 60; rw [q_inc (by omega)]; omega)) rfl)
                  have hI_22 : xI (q_st (q_st S 9 i 12 (.int ((q_i (S 9 i 12)) + 1))) 0 0 4 (.int ((q_i (S 0 0 4)) + 1))) := (q_Is (xI_st hI (by have b1 : 0 ≤ (q_i (S 9 i 12)).toInt ∧ (q_i (S 9 i 12)).toInt ≤ 60 := hI 9 i 12; have b2 : 0 ≤ (q_i (S 9 i 9)).toInt ∧ (q_i (S 9 i 9)).toInt ≤ 2 := hI 9 i 9; have d_1 := q_inc (x := (q_i (S 9 i 12))) (by omega); simp only [Int32.lt_iff_toInt_lt, Int32.le_iff_toInt_le, q_n0, q_n1, q_n2, q_n3, q_n4, q_n5, q_n6, q_n7, q_n10, q_n14, q_n15, q_n20, q_n60, q_n1288] at c_1; show 0 ≤ ((q_i (S 9 i 12)) + 1).toInt ∧ ((q_i (S 9 i 12)) + 1).toInt ≤ 60; rw [q_inc (by omega)]; omega)) rfl)
                  have hf : x_fe_step S i = x_wf_compute (q_st (q_st S 9 i 12 (.int ((q_i (S 9 i 12)) + 1))) 0 0 4 (.int ((q_i (S 0 0 4)) + 1))) i (x_pr_opAt (q_st (q_st S 9 i 12 (.int ((q_i (S 9 i 12)) + 1))) 0 0 4 (.int ((q_i (S 0 0 4)) + 1))) ((q_i (S 9 i 9)).toNatClampNeg) (q_i (S 9 i 11))) (x_pr_firstAt (q_st (q_st S 9 i 12 (.int ((q_i (S 9 i 12)) + 1))) 0 0 4 (.int ((q_i (S 0 0 4)) + 1))) ((q_i (S 9 i 9)).toNatClampNeg) (q_i (S 9 i 11))) (x_pr_secondAt (q_st (q_st S 9 i 12 (.int ((q_i (S 9 i 12)) + 1))) 0 0 4 (.int ((q_i (S 0 0 4)) + 1))) ((q_i (S 9 i 9)).toNatClampNeg) (q_i (S 9 i 11))) := by unfold x_fe_step; rw [if_pos c_1, if_pos c_2, if_neg c_8, if_neg c_11, if_neg c_14, if_neg c_16, if_neg c_19, if_neg c_20]
                  rw [hf]
                  exact (xI_wf_compute (q_st (q_st S 9 i 12 (.int ((q_i (S 9 i 12)) + 1))) 0 0 4 (.int ((q_i (S 0 0 4)) + 1))) i (x_pr_opAt (q_st (q_st S 9 i 12 (.int ((q_i (S 9 i 12)) + 1))) 0 0 4 (.int ((q_i (S 0 0 4)) + 1))) ((q_i (S 9 i 9)).toNatClampNeg) (q_i (S 9 i 11))) (x_pr_firstAt (q_st (q_st S 9 i 12 (.int ((q_i (S 9 i 12)) + 1))) 0 0 4 (.int ((q_i (S 0 0 4)) + 1))) ((q_i (S 9 i 9)).toNatClampNeg) (q_i (S 9 i 11))) (x_pr_secondAt (q_st (q_st S 9 i 12 (.int ((q_i (S 9 i 12)) + 1))) 0 0 4 (.int ((q_i (S 0 0 4)) + 1))) ((q_i (S 9 i 9)).toNatClampNeg) (q_i (S 9 i 11))) hi hI_22 (xJ_c1 hJ_4 (q_lt h_3)) (xJ_c2 hJ_4 (q_lt h_3)))
    · -- no
      by_cases c_28 : x_pr_opAt (q_st (q_st S 9 i 12 (.int ((q_i (S 9 i 12)) + 1))) 0 0 5 (.int ((q_i (S 0 0 5)) + 1))) ((q_i (S 9 i 9)).toNatClampNeg) (q_i (S 9 i 11)) = 5
      · -- yes
        have h_23 : vp_in (q_i (S 9 i 9)) 3 := by have b1 : 0 ≤ (q_i (S 9 i 9)).toInt ∧ (q_i (S 9 i 9)).toInt ≤ 2 := hI 9 i 9; have b2 : 0 ≤ (q_i (S 9 i 12)).toInt ∧ (q_i (S 9 i 12)).toInt ≤ 60 := hI 9 i 12; simp only [vp_in_iff, Int32.lt_iff_toInt_lt, Int32.le_iff_toInt_le, q_n0, q_n1, q_n2, q_n3, q_n4, q_n5, q_n6, q_n7, q_n10, q_n14, q_n15, q_n20, q_n60, q_n1288] at c_1 ⊢; omega
        have hJ_24 : xJ (q_st (q_st S 9 i 12 (.int ((q_i (S 9 i 12)) + 1))) 0 0 5 (.int ((q_i (S 0 0 5)) + 1))) := xJ_keep hJ (fun x y z hx => (q_kj (show x ≠ 0 by omega)).trans ((q_kj (show x ≠ 9 by omega))))
        have hI_25 : xI (q_st (q_st S 9 i 12 (.int ((q_i (S 9 i 12)) + 1))) 0 0 5 (.int ((q_i (S 0 0 5)) + 1))) := (q_Is (xI_st hI (by have b1 : 0 ≤ (q_i (S 9 i 12)).toInt ∧ (q_i (S 9 i 12)).toInt ≤ 60 := hI 9 i 12; have d_1 := q_inc (x := (q_i (S 9 i 12))) (by omega); simp only [Int32.lt_iff_toInt_lt, Int32.le_iff_toInt_le, q_n0, q_n1, q_n2, q_n3, q_n4, q_n5, q_n6, q_n7, q_n10, q_n14, q_n15, q_n20, q_n60, q_n1288] at c_1; show 0 ≤ ((q_i (S 9 i 12)) + 1).toInt ∧ ((q_i (S 9 i 12)) + 1).toInt ≤ 60; rw [q_inc (by omega)]; omega)) rfl)
        have hI_26 : xI (q_st (q_st S 9 i 12 (.int ((q_i (S 9 i 12)) + 1))) 0 0 5 (.int ((q_i (S 0 0 5)) + 1))) := (q_Is (xI_st hI (by have b1 : 0 ≤ (q_i (S 9 i 12)).toInt ∧ (q_i (S 9 i 12)).toInt ≤ 60 := hI 9 i 12; have d_1 := q_inc (x := (q_i (S 9 i 12))) (by omega); simp only [Int32.lt_iff_toInt_lt, Int32.le_iff_toInt_le, q_n0, q_n1, q_n2, q_n3, q_n4, q_n5, q_n6, q_n7, q_n10, q_n14, q_n15, q_n20, q_n60, q_n1288] at c_1; show 0 ≤ ((q_i (S 9 i 12)) + 1).toInt ∧ ((q_i (S 9 i 12)) + 1).toInt ≤ 60; rw [q_inc (by omega)]; omega)) rfl)
        have hI_27 : xI (q_st (q_st S 9 i 12 (.int ((q_i (S 9 i 12)) + 1))) 0 0 5 (.int ((q_i (S 0 0 5)) + 1))) := (q_Is (xI_st hI (by have b1 : 0 ≤ (q_i (S 9 i 12)).toInt ∧ (q_i (S 9 i 12)).toInt ≤ 60 := hI 9 i 12; have d_1 := q_inc (x := (q_i (S 9 i 12))) (by omega); simp only [Int32.lt_iff_toInt_lt, Int32.le_iff_toInt_le, q_n0, q_n1, q_n2, q_n3, q_n4, q_n5, q_n6, q_n7, q_n10, q_n14, q_n15, q_n20, q_n60, q_n1288] at c_1; show 0 ≤ ((q_i (S 9 i 12)) + 1).toInt ∧ ((q_i (S 9 i 12)) + 1).toInt ≤ 60; rw [q_inc (by omega)]; omega)) rfl)
        have h_29 : vp_in (x_pr_secondAt (q_st (q_st S 9 i 12 (.int ((q_i (S 9 i 12)) + 1))) 0 0 5 (.int ((q_i (S 0 0 5)) + 1))) ((q_i (S 9 i 9)).toNatClampNeg) (q_i (S 9 i 11))) 4 := xJ_b hJ_24 (q_lt h_23) c_28 (by decide)
        have hI_30 : xI (q_st (q_st (q_st S 9 i 12 (.int ((q_i (S 9 i 12)) + 1))) 0 0 5 (.int ((q_i (S 0 0 5)) + 1))) 9 i 14 (.int (x_pr_secondAt (q_st (q_st S 9 i 12 (.int ((q_i (S 9 i 12)) + 1))) 0 0 5 (.int ((q_i (S 0 0 5)) + 1))) ((q_i (S 9 i 9)).toNatClampNeg) (q_i (S 9 i 11))))) := (xI_st (q_Is (xI_st hI (by have b1 : 0 ≤ (q_i (S 9 i 12)).toInt ∧ (q_i (S 9 i 12)).toInt ≤ 60 := hI 9 i 12; have b2 : 0 ≤ (q_i (S 9 i 9)).toInt ∧ (q_i (S 9 i 9)).toInt ≤ 2 := hI 9 i 9; have d_1 := q_inc (x := (q_i (S 9 i 12))) (by omega); simp only [Int32.lt_iff_toInt_lt, Int32.le_iff_toInt_le, q_n0, q_n1, q_n2, q_n3, q_n4, q_n5, q_n6, q_n7, q_n10, q_n14, q_n15, q_n20, q_n60, q_n1288] at c_1; show 0 ≤ ((q_i (S 9 i 12)) + 1).toInt ∧ ((q_i (S 9 i 12)) + 1).toInt ≤ 60; rw [q_inc (by omega)]; omega)) rfl) (by exact xV_bd (xJ_b hJ_24 (q_lt h_23) c_28 (by decide))))
        have hf : x_fe_step S i = x_fe_want (q_st (q_st (q_st S 9 i 12 (.int ((q_i (S 9 i 12)) + 1))) 0 0 5 (.int ((q_i (S 0 0 5)) + 1))) 9 i 14 (.int (x_pr_secondAt (q_st (q_st S 9 i 12 (.int ((q_i (S 9 i 12)) + 1))) 0 0 5 (.int ((q_i (S 0 0 5)) + 1))) ((q_i (S 9 i 9)).toNatClampNeg) (q_i (S 9 i 11))))) i 1 (x_pr_firstAt (q_st (q_st S 9 i 12 (.int ((q_i (S 9 i 12)) + 1))) 0 0 5 (.int ((q_i (S 0 0 5)) + 1))) ((q_i (S 9 i 9)).toNatClampNeg) (q_i (S 9 i 11))) (q_i (S 10 i ((x_pr_secondAt (q_st (q_st S 9 i 12 (.int ((q_i (S 9 i 12)) + 1))) 0 0 5 (.int ((q_i (S 0 0 5)) + 1))) ((q_i (S 9 i 9)).toNatClampNeg) (q_i (S 9 i 11))).toNatClampNeg))) := by unfold x_fe_step; rw [if_pos c_1, if_neg c_2, if_pos c_28]
        rw [hf]
        exact (xI_fe_want (q_st (q_st (q_st S 9 i 12 (.int ((q_i (S 9 i 12)) + 1))) 0 0 5 (.int ((q_i (S 0 0 5)) + 1))) 9 i 14 (.int (x_pr_secondAt (q_st (q_st S 9 i 12 (.int ((q_i (S 9 i 12)) + 1))) 0 0 5 (.int ((q_i (S 0 0 5)) + 1))) ((q_i (S 9 i 9)).toNatClampNeg) (q_i (S 9 i 11))))) i 1 (x_pr_firstAt (q_st (q_st S 9 i 12 (.int ((q_i (S 9 i 12)) + 1))) 0 0 5 (.int ((q_i (S 0 0 5)) + 1))) ((q_i (S 9 i 9)).toNatClampNeg) (q_i (S 9 i 11))) (q_i (S 10 i ((x_pr_secondAt (q_st (q_st S 9 i 12 (.int ((q_i (S 9 i 12)) + 1))) 0 0 5 (.int ((q_i (S 0 0 5)) + 1))) ((q_i (S 9 i 9)).toNatClampNeg) (q_i (S 9 i 11))).toNatClampNeg))) hi hI_30)
      · -- no
        by_cases c_31 : x_pr_opAt (q_st (q_st S 9 i 12 (.int ((q_i (S 9 i 12)) + 1))) 0 0 5 (.int ((q_i (S 0 0 5)) + 1))) ((q_i (S 9 i 9)).toNatClampNeg) (q_i (S 9 i 11)) = 6
        · -- yes
          have h_23 : vp_in (q_i (S 9 i 9)) 3 := by have b1 : 0 ≤ (q_i (S 9 i 9)).toInt ∧ (q_i (S 9 i 9)).toInt ≤ 2 := hI 9 i 9; have b2 : 0 ≤ (q_i (S 9 i 12)).toInt ∧ (q_i (S 9 i 12)).toInt ≤ 60 := hI 9 i 12; simp only [vp_in_iff, Int32.lt_iff_toInt_lt, Int32.le_iff_toInt_le, q_n0, q_n1, q_n2, q_n3, q_n4, q_n5, q_n6, q_n7, q_n10, q_n14, q_n15, q_n20, q_n60, q_n1288] at c_1 ⊢; omega
          have hJ_24 : xJ (q_st (q_st S 9 i 12 (.int ((q_i (S 9 i 12)) + 1))) 0 0 5 (.int ((q_i (S 0 0 5)) + 1))) := xJ_keep hJ (fun x y z hx => (q_kj (show x ≠ 0 by omega)).trans ((q_kj (show x ≠ 9 by omega))))
          have hI_25 : xI (q_st (q_st S 9 i 12 (.int ((q_i (S 9 i 12)) + 1))) 0 0 5 (.int ((q_i (S 0 0 5)) + 1))) := (q_Is (xI_st hI (by have b1 : 0 ≤ (q_i (S 9 i 12)).toInt ∧ (q_i (S 9 i 12)).toInt ≤ 60 := hI 9 i 12; have d_1 := q_inc (x := (q_i (S 9 i 12))) (by omega); simp only [Int32.lt_iff_toInt_lt, Int32.le_iff_toInt_le, q_n0, q_n1, q_n2, q_n3, q_n4, q_n5, q_n6, q_n7, q_n10, q_n14, q_n15, q_n20, q_n60, q_n1288] at c_1; show 0 ≤ ((q_i (S 9 i 12)) + 1).toInt ∧ ((q_i (S 9 i 12)) + 1).toInt ≤ 60; rw [q_inc (by omega)]; omega)) rfl)
          have hI_26 : xI (q_st (q_st S 9 i 12 (.int ((q_i (S 9 i 12)) + 1))) 0 0 5 (.int ((q_i (S 0 0 5)) + 1))) := (q_Is (xI_st hI (by have b1 : 0 ≤ (q_i (S 9 i 12)).toInt ∧ (q_i (S 9 i 12)).toInt ≤ 60 := hI 9 i 12; have d_1 := q_inc (x := (q_i (S 9 i 12))) (by omega); simp only [Int32.lt_iff_toInt_lt, Int32.le_iff_toInt_le, q_n0, q_n1, q_n2, q_n3, q_n4, q_n5, q_n6, q_n7, q_n10, q_n14, q_n15, q_n20, q_n60, q_n1288] at c_1; show 0 ≤ ((q_i (S 9 i 12)) + 1).toInt ∧ ((q_i (S 9 i 12)) + 1).toInt ≤ 60; rw [q_inc (by omega)]; omega)) rfl)
          have hI_27 : xI (q_st (q_st S 9 i 12 (.int ((q_i (S 9 i 12)) + 1))) 0 0 5 (.int ((q_i (S 0 0 5)) + 1))) := (q_Is (xI_st hI (by have b1 : 0 ≤ (q_i (S 9 i 12)).toInt ∧ (q_i (S 9 i 12)).toInt ≤ 60 := hI 9 i 12; have d_1 := q_inc (x := (q_i (S 9 i 12))) (by omega); simp only [Int32.lt_iff_toInt_lt, Int32.le_iff_toInt_le, q_n0, q_n1, q_n2, q_n3, q_n4, q_n5, q_n6, q_n7, q_n10, q_n14, q_n15, q_n20, q_n60, q_n1288] at c_1; show 0 ≤ ((q_i (S 9 i 12)) + 1).toInt ∧ ((q_i (S 9 i 12)) + 1).toInt ≤ 60; rw [q_inc (by omega)]; omega)) rfl)
          have h_32 : vp_in (x_pr_firstAt (q_st (q_st S 9 i 12 (.int ((q_i (S 9 i 12)) + 1))) 0 0 5 (.int ((q_i (S 0 0 5)) + 1))) ((q_i (S 9 i 9)).toNatClampNeg) (q_i (S 9 i 11))) 4 := xJ_a hJ_24 (q_lt h_23) c_31 (by decide)
          have hI_33 : xI (q_st (q_st S 9 i 12 (.int ((q_i (S 9 i 12)) + 1))) 0 0 5 (.int ((q_i (S 0 0 5)) + 1))) := (q_Is (xI_st hI (by have b1 : 0 ≤ (q_i (S 9 i 12)).toInt ∧ (q_i (S 9 i 12)).toInt ≤ 60 := hI 9 i 12; have b2 : 0 ≤ (q_i (S 9 i 9)).toInt ∧ (q_i (S 9 i 9)).toInt ≤ 2 := hI 9 i 9; have d_1 := q_inc (x := (q_i (S 9 i 12))) (by omega); simp only [Int32.lt_iff_toInt_lt, Int32.le_iff_toInt_le, q_n0, q_n1, q_n2, q_n3, q_n4, q_n5, q_n6, q_n7, q_n10, q_n14, q_n15, q_n20, q_n60, q_n1288] at c_1; show 0 ≤ ((q_i (S 9 i 12)) + 1).toInt ∧ ((q_i (S 9 i 12)) + 1).toInt ≤ 60; rw [q_inc (by omega)]; omega)) rfl)
          have hf : x_fe_step S i = x_fe_sleep (q_st (q_st S 9 i 12 (.int ((q_i (S 9 i 12)) + 1))) 0 0 5 (.int ((q_i (S 0 0 5)) + 1))) i (q_i (S 10 i ((x_pr_firstAt (q_st (q_st S 9 i 12 (.int ((q_i (S 9 i 12)) + 1))) 0 0 5 (.int ((q_i (S 0 0 5)) + 1))) ((q_i (S 9 i 9)).toNatClampNeg) (q_i (S 9 i 11))).toNatClampNeg))) := by unfold x_fe_step; rw [if_pos c_1, if_neg c_2, if_neg c_28, if_pos c_31]
          rw [hf]
          exact (xI_fe_sleep (q_st (q_st S 9 i 12 (.int ((q_i (S 9 i 12)) + 1))) 0 0 5 (.int ((q_i (S 0 0 5)) + 1))) i (q_i (S 10 i ((x_pr_firstAt (q_st (q_st S 9 i 12 (.int ((q_i (S 9 i 12)) + 1))) 0 0 5 (.int ((q_i (S 0 0 5)) + 1))) ((q_i (S 9 i 9)).toNatClampNeg) (q_i (S 9 i 11))).toNatClampNeg))) hi hI_33)
        · -- no
          by_cases c_34 : x_pr_opAt (q_st (q_st S 9 i 12 (.int ((q_i (S 9 i 12)) + 1))) 0 0 5 (.int ((q_i (S 0 0 5)) + 1))) ((q_i (S 9 i 9)).toNatClampNeg) (q_i (S 9 i 11)) = 7
          · -- yes
            have h_23 : vp_in (q_i (S 9 i 9)) 3 := by have b1 : 0 ≤ (q_i (S 9 i 9)).toInt ∧ (q_i (S 9 i 9)).toInt ≤ 2 := hI 9 i 9; have b2 : 0 ≤ (q_i (S 9 i 12)).toInt ∧ (q_i (S 9 i 12)).toInt ≤ 60 := hI 9 i 12; simp only [vp_in_iff, Int32.lt_iff_toInt_lt, Int32.le_iff_toInt_le, q_n0, q_n1, q_n2, q_n3, q_n4, q_n5, q_n6, q_n7, q_n10, q_n14, q_n15, q_n20, q_n60, q_n1288] at c_1 ⊢; omega
            have hJ_24 : xJ (q_st (q_st S 9 i 12 (.int ((q_i (S 9 i 12)) + 1))) 0 0 5 (.int ((q_i (S 0 0 5)) + 1))) := xJ_keep hJ (fun x y z hx => (q_kj (show x ≠ 0 by omega)).trans ((q_kj (show x ≠ 9 by omega))))
            have hI_25 : xI (q_st (q_st S 9 i 12 (.int ((q_i (S 9 i 12)) + 1))) 0 0 5 (.int ((q_i (S 0 0 5)) + 1))) := (q_Is (xI_st hI (by have b1 : 0 ≤ (q_i (S 9 i 12)).toInt ∧ (q_i (S 9 i 12)).toInt ≤ 60 := hI 9 i 12; have d_1 := q_inc (x := (q_i (S 9 i 12))) (by omega); simp only [Int32.lt_iff_toInt_lt, Int32.le_iff_toInt_le, q_n0, q_n1, q_n2, q_n3, q_n4, q_n5, q_n6, q_n7, q_n10, q_n14, q_n15, q_n20, q_n60, q_n1288] at c_1; show 0 ≤ ((q_i (S 9 i 12)) + 1).toInt ∧ ((q_i (S 9 i 12)) + 1).toInt ≤ 60; rw [q_inc (by omega)]; omega)) rfl)
            have hI_26 : xI (q_st (q_st S 9 i 12 (.int ((q_i (S 9 i 12)) + 1))) 0 0 5 (.int ((q_i (S 0 0 5)) + 1))) := (q_Is (xI_st hI (by have b1 : 0 ≤ (q_i (S 9 i 12)).toInt ∧ (q_i (S 9 i 12)).toInt ≤ 60 := hI 9 i 12; have d_1 := q_inc (x := (q_i (S 9 i 12))) (by omega); simp only [Int32.lt_iff_toInt_lt, Int32.le_iff_toInt_le, q_n0, q_n1, q_n2, q_n3, q_n4, q_n5, q_n6, q_n7, q_n10, q_n14, q_n15, q_n20, q_n60, q_n1288] at c_1; show 0 ≤ ((q_i (S 9 i 12)) + 1).toInt ∧ ((q_i (S 9 i 12)) + 1).toInt ≤ 60; rw [q_inc (by omega)]; omega)) rfl)
            have hI_27 : xI (q_st (q_st S 9 i 12 (.int ((q_i (S 9 i 12)) + 1))) 0 0 5 (.int ((q_i (S 0 0 5)) + 1))) := (q_Is (xI_st hI (by have b1 : 0 ≤ (q_i (S 9 i 12)).toInt ∧ (q_i (S 9 i 12)).toInt ≤ 60 := hI 9 i 12; have d_1 := q_inc (x := (q_i (S 9 i 12))) (by omega); simp only [Int32.lt_iff_toInt_lt, Int32.le_iff_toInt_le, q_n0, q_n1, q_n2, q_n3, q_n4, q_n5, q_n6, q_n7, q_n10, q_n14, q_n15, q_n20, q_n60, q_n1288] at c_1; show 0 ≤ ((q_i (S 9 i 12)) + 1).toInt ∧ ((q_i (S 9 i 12)) + 1).toInt ≤ 60; rw [q_inc (by omega)]; omega)) rfl)
            have hI_35 : xI (q_st (q_st (q_st S 9 i 12 (.int ((q_i (S 9 i 12)) + 1))) 0 0 5 (.int ((q_i (S 0 0 5)) + 1))) 9 i 14 (.int (x_pr_secondAt (q_st (q_st S 9 i 12 (.int ((q_i (S 9 i 12)) + 1))) 0 0 5 (.int ((q_i (S 0 0 5)) + 1))) ((q_i (S 9 i 9)).toNatClampNeg) (q_i (S 9 i 11))))) := (xI_st (q_Is (xI_st hI (by have b1 : 0 ≤ (q_i (S 9 i 12)).toInt ∧ (q_i (S 9 i 12)).toInt ≤ 60 := hI 9 i 12; have b2 : 0 ≤ (q_i (S 9 i 9)).toInt ∧ (q_i (S 9 i 9)).toInt ≤ 2 := hI 9 i 9; have d_1 := q_inc (x := (q_i (S 9 i 12))) (by omega); simp only [Int32.lt_iff_toInt_lt, Int32.le_iff_toInt_le, q_n0, q_n1, q_n2, q_n3, q_n4, q_n5, q_n6, q_n7, q_n10, q_n14, q_n15, q_n20, q_n60, q_n1288] at c_1; show 0 ≤ ((q_i (S 9 i 12)) + 1).toInt ∧ ((q_i (S 9 i 12)) + 1).toInt ≤ 60; rw [q_inc (by omega)]; omega)) rfl) (by exact xV_bd (xJ_b hJ_24 (q_lt h_23) c_34 (by decide))))
            have hf : x_fe_step S i = x_fe_awaitSignal (q_st (q_st (q_st S 9 i 12 (.int ((q_i (S 9 i 12)) + 1))) 0 0 5 (.int ((q_i (S 0 0 5)) + 1))) 9 i 14 (.int (x_pr_secondAt (q_st (q_st S 9 i 12 (.int ((q_i (S 9 i 12)) + 1))) 0 0 5 (.int ((q_i (S 0 0 5)) + 1))) ((q_i (S 9 i 9)).toNatClampNeg) (q_i (S 9 i 11))))) i (x_pr_firstAt (q_st (q_st S 9 i 12 (.int ((q_i (S 9 i 12)) + 1))) 0 0 5 (.int ((q_i (S 0 0 5)) + 1))) ((q_i (S 9 i 9)).toNatClampNeg) (q_i (S 9 i 11))) := by unfold x_fe_step; rw [if_pos c_1, if_neg c_2, if_neg c_28, if_neg c_31, if_pos c_34]
            rw [hf]
            exact (xI_fe_awaitSignal (q_st (q_st (q_st S 9 i 12 (.int ((q_i (S 9 i 12)) + 1))) 0 0 5 (.int ((q_i (S 0 0 5)) + 1))) 9 i 14 (.int (x_pr_secondAt (q_st (q_st S 9 i 12 (.int ((q_i (S 9 i 12)) + 1))) 0 0 5 (.int ((q_i (S 0 0 5)) + 1))) ((q_i (S 9 i 9)).toNatClampNeg) (q_i (S 9 i 11))))) i (x_pr_firstAt (q_st (q_st S 9 i 12 (.int ((q_i (S 9 i 12)) + 1))) 0 0 5 (.int ((q_i (S 0 0 5)) + 1))) ((q_i (S 9 i 9)).toNatClampNeg) (q_i (S 9 i 11))) hi hI_35)
          · -- no
            by_cases c_36 : x_pr_opAt (q_st (q_st S 9 i 12 (.int ((q_i (S 9 i 12)) + 1))) 0 0 5 (.int ((q_i (S 0 0 5)) + 1))) ((q_i (S 9 i 9)).toNatClampNeg) (q_i (S 9 i 11)) = 8
            · -- yes
              have h_23 : vp_in (q_i (S 9 i 9)) 3 := by have b1 : 0 ≤ (q_i (S 9 i 9)).toInt ∧ (q_i (S 9 i 9)).toInt ≤ 2 := hI 9 i 9; have b2 : 0 ≤ (q_i (S 9 i 12)).toInt ∧ (q_i (S 9 i 12)).toInt ≤ 60 := hI 9 i 12; simp only [vp_in_iff, Int32.lt_iff_toInt_lt, Int32.le_iff_toInt_le, q_n0, q_n1, q_n2, q_n3, q_n4, q_n5, q_n6, q_n7, q_n10, q_n14, q_n15, q_n20, q_n60, q_n1288] at c_1 ⊢; omega
              have hJ_24 : xJ (q_st (q_st S 9 i 12 (.int ((q_i (S 9 i 12)) + 1))) 0 0 5 (.int ((q_i (S 0 0 5)) + 1))) := xJ_keep hJ (fun x y z hx => (q_kj (show x ≠ 0 by omega)).trans ((q_kj (show x ≠ 9 by omega))))
              have hI_25 : xI (q_st (q_st S 9 i 12 (.int ((q_i (S 9 i 12)) + 1))) 0 0 5 (.int ((q_i (S 0 0 5)) + 1))) := (q_Is (xI_st hI (by have b1 : 0 ≤ (q_i (S 9 i 12)).toInt ∧ (q_i (S 9 i 12)).toInt ≤ 60 := hI 9 i 12; have d_1 := q_inc (x := (q_i (S 9 i 12))) (by omega); simp only [Int32.lt_iff_toInt_lt, Int32.le_iff_toInt_le, q_n0, q_n1, q_n2, q_n3, q_n4, q_n5, q_n6, q_n7, q_n10, q_n14, q_n15, q_n20, q_n60, q_n1288] at c_1; show 0 ≤ ((q_i (S 9 i 12)) + 1).toInt ∧ ((q_i (S 9 i 12)) + 1).toInt ≤ 60; rw [q_inc (by omega)]; omega)) rfl)
              have hI_26 : xI (q_st (q_st S 9 i 12 (.int ((q_i (S 9 i 12)) + 1))) 0 0 5 (.int ((q_i (S 0 0 5)) + 1))) := (q_Is (xI_st hI (by have b1 : 0 ≤ (q_i (S 9 i 12)).toInt ∧ (q_i (S 9 i 12)).toInt ≤ 60 := hI 9 i 12; have d_1 := q_inc (x := (q_i (S 9 i 12))) (by omega); simp only [Int32.lt_iff_toInt_lt, Int32.le_iff_toInt_le, q_n0, q_n1, q_n2, q_n3, q_n4, q_n5, q_n6, q_n7, q_n10, q_n14, q_n15, q_n20, q_n60, q_n1288] at c_1; show 0 ≤ ((q_i (S 9 i 12)) + 1).toInt ∧ ((q_i (S 9 i 12)) + 1).toInt ≤ 60; rw [q_inc (by omega)]; omega)) rfl)
              have hI_27 : xI (q_st (q_st S 9 i 12 (.int ((q_i (S 9 i 12)) + 1))) 0 0 5 (.int ((q_i (S 0 0 5)) + 1))) := (q_Is (xI_st hI (by have b1 : 0 ≤ (q_i (S 9 i 12)).toInt ∧ (q_i (S 9 i 12)).toInt ≤ 60 := hI 9 i 12; have d_1 := q_inc (x := (q_i (S 9 i 12))) (by omega); simp only [Int32.lt_iff_toInt_lt, Int32.le_iff_toInt_le, q_n0, q_n1, q_n2, q_n3, q_n4, q_n5, q_n6, q_n7, q_n10, q_n14, q_n15, q_n20, q_n60, q_n1288] at c_1; show 0 ≤ ((q_i (S 9 i 12)) + 1).toInt ∧ ((q_i (S 9 i 12)) + 1).toInt ≤ 60; rw [q_inc (by omega)]; omega)) rfl)
              have h_37 : vp_in (x_pr_secondAt (q_st (q_st S 9 i 12 (.int ((q_i (S 9 i 12)) + 1))) 0 0 5 (.int ((q_i (S 0 0 5)) + 1))) ((q_i (S 9 i 9)).toNatClampNeg) (q_i (S 9 i 11))) 4 := xJ_b hJ_24 (q_lt h_23) c_36 (by decide)
              have hI_38 : xI (q_st (q_st S 9 i 12 (.int ((q_i (S 9 i 12)) + 1))) 0 0 5 (.int ((q_i (S 0 0 5)) + 1))) := (q_Is (xI_st hI (by have b1 : 0 ≤ (q_i (S 9 i 12)).toInt ∧ (q_i (S 9 i 12)).toInt ≤ 60 := hI 9 i 12; have b2 : 0 ≤ (q_i (S 9 i 9)).toInt ∧ (q_i (S 9 i 9)).toInt ≤ 2 := hI 9 i 9; have d_1 := q_inc (x := (q_i (S 9 i 12))) (by omega); simp only [Int32.lt_iff_toInt_lt, Int32.le_iff_toInt_le, q_n0, q_n1, q_n2, q_n3, q_n4, q_n5, q_n6, q_n7, q_n10, q_n14, q_n15, q_n20, q_n60, q_n1288] at c_1; show 0 ≤ ((q_i (S 9 i 12)) + 1).toInt ∧ ((q_i (S 9 i 12)) + 1).toInt ≤ 60; rw [q_inc (by omega)]; omega)) rfl)
              have hf : x_fe_step S i = x_wf_note (q_st (q_st S 9 i 12 (.int ((q_i (S 9 i 12)) + 1))) 0 0 5 (.int ((q_i (S 0 0 5)) + 1))) i (x_pr_firstAt (q_st (q_st S 9 i 12 (.int ((q_i (S 9 i 12)) + 1))) 0 0 5 (.int ((q_i (S 0 0 5)) + 1))) ((q_i (S 9 i 9)).toNatClampNeg) (q_i (S 9 i 11))) (q_i (S 10 i ((x_pr_secondAt (q_st (q_st S 9 i 12 (.int ((q_i (S 9 i 12)) + 1))) 0 0 5 (.int ((q_i (S 0 0 5)) + 1))) ((q_i (S 9 i 9)).toNatClampNeg) (q_i (S 9 i 11))).toNatClampNeg))) := by unfold x_fe_step; rw [if_pos c_1, if_neg c_2, if_neg c_28, if_neg c_31, if_neg c_34, if_pos c_36]
              rw [hf]
              exact (xI_wf_note (q_st (q_st S 9 i 12 (.int ((q_i (S 9 i 12)) + 1))) 0 0 5 (.int ((q_i (S 0 0 5)) + 1))) i (x_pr_firstAt (q_st (q_st S 9 i 12 (.int ((q_i (S 9 i 12)) + 1))) 0 0 5 (.int ((q_i (S 0 0 5)) + 1))) ((q_i (S 9 i 9)).toNatClampNeg) (q_i (S 9 i 11))) (q_i (S 10 i ((x_pr_secondAt (q_st (q_st S 9 i 12 (.int ((q_i (S 9 i 12)) + 1))) 0 0 5 (.int ((q_i (S 0 0 5)) + 1))) ((q_i (S 9 i 9)).toNatClampNeg) (q_i (S 9 i 11))).toNatClampNeg))) hi hI_38)
            · -- no
              by_cases c_39 : x_pr_opAt (q_st (q_st S 9 i 12 (.int ((q_i (S 9 i 12)) + 1))) 0 0 5 (.int ((q_i (S 0 0 5)) + 1))) ((q_i (S 9 i 9)).toNatClampNeg) (q_i (S 9 i 11)) = 9
              · -- yes
                have h_23 : vp_in (q_i (S 9 i 9)) 3 := by have b1 : 0 ≤ (q_i (S 9 i 9)).toInt ∧ (q_i (S 9 i 9)).toInt ≤ 2 := hI 9 i 9; have b2 : 0 ≤ (q_i (S 9 i 12)).toInt ∧ (q_i (S 9 i 12)).toInt ≤ 60 := hI 9 i 12; simp only [vp_in_iff, Int32.lt_iff_toInt_lt, Int32.le_iff_toInt_le, q_n0, q_n1, q_n2, q_n3, q_n4, q_n5, q_n6, q_n7, q_n10, q_n14, q_n15, q_n20, q_n60, q_n1288] at c_1 ⊢; omega
                have hJ_24 : xJ (q_st (q_st S 9 i 12 (.int ((q_i (S 9 i 12)) + 1))) 0 0 5 (.int ((q_i (S 0 0 5)) + 1))) := xJ_keep hJ (fun x y z hx => (q_kj (show x ≠ 0 by omega)).trans ((q_kj (show x ≠ 9 by omega))))
                have hI_25 : xI (q_st (q_st S 9 i 12 (.int ((q_i (S 9 i 12)) + 1))) 0 0 5 (.int ((q_i (S 0 0 5)) + 1))) := (q_Is (xI_st hI (by have b1 : 0 ≤ (q_i (S 9 i 12)).toInt ∧ (q_i (S 9 i 12)).toInt ≤ 60 := hI 9 i 12; have d_1 := q_inc (x := (q_i (S 9 i 12))) (by omega); simp only [Int32.lt_iff_toInt_lt, Int32.le_iff_toInt_le, q_n0, q_n1, q_n2, q_n3, q_n4, q_n5, q_n6, q_n7, q_n10, q_n14, q_n15, q_n20, q_n60, q_n1288] at c_1; show 0 ≤ ((q_i (S 9 i 12)) + 1).toInt ∧ ((q_i (S 9 i 12)) + 1).toInt ≤ 60; rw [q_inc (by omega)]; omega)) rfl)
                have hI_26 : xI (q_st (q_st S 9 i 12 (.int ((q_i (S 9 i 12)) + 1))) 0 0 5 (.int ((q_i (S 0 0 5)) + 1))) := (q_Is (xI_st hI (by have b1 : 0 ≤ (q_i (S 9 i 12)).toInt ∧ (q_i (S 9 i 12)).toInt ≤ 60 := hI 9 i 12; have d_1 := q_inc (x := (q_i (S 9 i 12))) (by omega); simp only [Int32.lt_iff_toInt_lt, Int32.le_iff_toInt_le, q_n0, q_n1, q_n2, q_n3, q_n4, q_n5, q_n6, q_n7, q_n10, q_n14, q_n15, q_n20, q_n60, q_n1288] at c_1; show 0 ≤ ((q_i (S 9 i 12)) + 1).toInt ∧ ((q_i (S 9 i 12)) + 1).toInt ≤ 60; rw [q_inc (by omega)]; omega)) rfl)
                have hI_27 : xI (q_st (q_st S 9 i 12 (.int ((q_i (S 9 i 12)) + 1))) 0 0 5 (.int ((q_i (S 0 0 5)) + 1))) := (q_Is (xI_st hI (by have b1 : 0 ≤ (q_i (S 9 i 12)).toInt ∧ (q_i (S 9 i 12)).toInt ≤ 60 := hI 9 i 12; have d_1 := q_inc (x := (q_i (S 9 i 12))) (by omega); simp only [Int32.lt_iff_toInt_lt, Int32.le_iff_toInt_le, q_n0, q_n1, q_n2, q_n3, q_n4, q_n5, q_n6, q_n7, q_n10, q_n14, q_n15, q_n20, q_n60, q_n1288] at c_1; show 0 ≤ ((q_i (S 9 i 12)) + 1).toInt ∧ ((q_i (S 9 i 12)) + 1).toInt ≤ 60; rw [q_inc (by omega)]; omega)) rfl)
                have hf : x_fe_step S i = q_st (q_st (q_st S 9 i 12 (.int ((q_i (S 9 i 12)) + 1))) 0 0 5 (.int ((q_i (S 0 0 5)) + 1))) 9 i 8 (.int 1) := by unfold x_fe_step; rw [if_pos c_1, if_neg c_2, if_neg c_28, if_neg c_31, if_neg c_34, if_neg c_36, if_pos c_39]
                rw [hf]
                exact (q_Is (q_Is (xI_st hI (by have b1 : 0 ≤ (q_i (S 9 i 12)).toInt ∧ (q_i (S 9 i 12)).toInt ≤ 60 := hI 9 i 12; have b2 : 0 ≤ (q_i (S 9 i 9)).toInt ∧ (q_i (S 9 i 9)).toInt ≤ 2 := hI 9 i 9; have d_1 := q_inc (x := (q_i (S 9 i 12))) (by omega); simp only [Int32.lt_iff_toInt_lt, Int32.le_iff_toInt_le, q_n0, q_n1, q_n2, q_n3, q_n4, q_n5, q_n6, q_n7, q_n10, q_n14, q_n15, q_n20, q_n60, q_n1288] at c_1; show 0 ≤ ((q_i (S 9 i 12)) + 1).toInt ∧ ((q_i (S 9 i 12)) + 1).toInt ≤ 60; rw [q_inc (by omega)]; omega)) rfl) rfl)
              · -- no
                by_cases c_40 : x_pr_opAt (q_st (q_st S 9 i 12 (.int ((q_i (S 9 i 12)) + 1))) 0 0 5 (.int ((q_i (S 0 0 5)) + 1))) ((q_i (S 9 i 9)).toNatClampNeg) (q_i (S 9 i 11)) = 10
                · -- yes
                  have h_23 : vp_in (q_i (S 9 i 9)) 3 := by have b1 : 0 ≤ (q_i (S 9 i 9)).toInt ∧ (q_i (S 9 i 9)).toInt ≤ 2 := hI 9 i 9; have b2 : 0 ≤ (q_i (S 9 i 12)).toInt ∧ (q_i (S 9 i 12)).toInt ≤ 60 := hI 9 i 12; simp only [vp_in_iff, Int32.lt_iff_toInt_lt, Int32.le_iff_toInt_le, q_n0, q_n1, q_n2, q_n3, q_n4, q_n5, q_n6, q_n7, q_n10, q_n14, q_n15, q_n20, q_n60, q_n1288] at c_1 ⊢; omega
                  have hJ_24 : xJ (q_st (q_st S 9 i 12 (.int ((q_i (S 9 i 12)) + 1))) 0 0 5 (.int ((q_i (S 0 0 5)) + 1))) := xJ_keep hJ (fun x y z hx => (q_kj (show x ≠ 0 by omega)).trans ((q_kj (show x ≠ 9 by omega))))
                  have hI_25 : xI (q_st (q_st S 9 i 12 (.int ((q_i (S 9 i 12)) + 1))) 0 0 5 (.int ((q_i (S 0 0 5)) + 1))) := (q_Is (xI_st hI (by have b1 : 0 ≤ (q_i (S 9 i 12)).toInt ∧ (q_i (S 9 i 12)).toInt ≤ 60 := hI 9 i 12; have d_1 := q_inc (x := (q_i (S 9 i 12))) (by omega); simp only [Int32.lt_iff_toInt_lt, Int32.le_iff_toInt_le, q_n0, q_n1, q_n2, q_n3, q_n4, q_n5, q_n6, q_n7, q_n10, q_n14, q_n15, q_n20, q_n60, q_n1288] at c_1; show 0 ≤ ((q_i (S 9 i 12)) + 1).toInt ∧ ((q_i (S 9 i 12)) + 1).toInt ≤ 60; rw [q_inc (by omega)]; omega)) rfl)
                  have hI_26 : xI (q_st (q_st S 9 i 12 (.int ((q_i (S 9 i 12)) + 1))) 0 0 5 (.int ((q_i (S 0 0 5)) + 1))) := (q_Is (xI_st hI (by have b1 : 0 ≤ (q_i (S 9 i 12)).toInt ∧ (q_i (S 9 i 12)).toInt ≤ 60 := hI 9 i 12; have d_1 := q_inc (x := (q_i (S 9 i 12))) (by omega); simp only [Int32.lt_iff_toInt_lt, Int32.le_iff_toInt_le, q_n0, q_n1, q_n2, q_n3, q_n4, q_n5, q_n6, q_n7, q_n10, q_n14, q_n15, q_n20, q_n60, q_n1288] at c_1; show 0 ≤ ((q_i (S 9 i 12)) + 1).toInt ∧ ((q_i (S 9 i 12)) + 1).toInt ≤ 60; rw [q_inc (by omega)]; omega)) rfl)
                  have hI_27 : xI (q_st (q_st S 9 i 12 (.int ((q_i (S 9 i 12)) + 1))) 0 0 5 (.int ((q_i (S 0 0 5)) + 1))) := (q_Is (xI_st hI (by have b1 : 0 ≤ (q_i (S 9 i 12)).toInt ∧ (q_i (S 9 i 12)).toInt ≤ 60 := hI 9 i 12; have d_1 := q_inc (x := (q_i (S 9 i 12))) (by omega); simp only [Int32.lt_iff_toInt_lt, Int32.le_iff_toInt_le, q_n0, q_n1, q_n2, q_n3, q_n4, q_n5, q_n6, q_n7, q_n10, q_n14, q_n15, q_n20, q_n60, q_n1288] at c_1; show 0 ≤ ((q_i (S 9 i 12)) + 1).toInt ∧ ((q_i (S 9 i 12)) + 1).toInt ≤ 60; rw [q_inc (by omega)]; omega)) rfl)
                  have h_41 : vp_in (x_pr_firstAt (q_st (q_st S 9 i 12 (.int ((q_i (S 9 i 12)) + 1))) 0 0 5 (.int ((q_i (S 0 0 5)) + 1))) ((q_i (S 9 i 9)).toNatClampNeg) (q_i (S 9 i 11))) 4 := xJ_a hJ_24 (q_lt h_23) c_40 (by decide)
                  have hf : x_fe_step S i = q_st (q_st (q_st (q_st S 9 i 12 (.int ((q_i (S 9 i 12)) + 1))) 0 0 5 (.int ((q_i (S 0 0 5)) + 1))) 9 i 15 (.int (q_i (S 10 i ((x_pr_firstAt (q_st (q_st S 9 i 12 (.int ((q_i (S 9 i 12)) + 1))) 0 0 5 (.int ((q_i (S 0 0 5)) + 1))) ((q_i (S 9 i 9)).toNatClampNeg) (q_i (S 9 i 11))).toNatClampNeg))))) 9 i 10 (.int 5) := by unfold x_fe_step; rw [if_pos c_1, if_neg c_2, if_neg c_28, if_neg c_31, if_neg c_34, if_neg c_36, if_neg c_39, if_pos c_40]
                  rw [hf]
                  exact (q_Is (q_Is (q_Is (xI_st hI (by have b1 : 0 ≤ (q_i (S 9 i 12)).toInt ∧ (q_i (S 9 i 12)).toInt ≤ 60 := hI 9 i 12; have b2 : 0 ≤ (q_i (S 9 i 9)).toInt ∧ (q_i (S 9 i 9)).toInt ≤ 2 := hI 9 i 9; have d_1 := q_inc (x := (q_i (S 9 i 12))) (by omega); simp only [Int32.lt_iff_toInt_lt, Int32.le_iff_toInt_le, q_n0, q_n1, q_n2, q_n3, q_n4, q_n5, q_n6, q_n7, q_n10, q_n14, q_n15, q_n20, q_n60, q_n1288] at c_1; show 0 ≤ ((q_i (S 9 i 12)) + 1).toInt ∧ ((q_i (S 9 i 12)) + 1).toInt ≤ 60; rw [q_inc (by omega)]; omega)) rfl) rfl) rfl)
                · -- no
                  have h_23 : vp_in (q_i (S 9 i 9)) 3 := by have b1 : 0 ≤ (q_i (S 9 i 9)).toInt ∧ (q_i (S 9 i 9)).toInt ≤ 2 := hI 9 i 9; have b2 : 0 ≤ (q_i (S 9 i 12)).toInt ∧ (q_i (S 9 i 12)).toInt ≤ 60 := hI 9 i 12; simp only [vp_in_iff, Int32.lt_iff_toInt_lt, Int32.le_iff_toInt_le, q_n0, q_n1, q_n2, q_n3, q_n4, q_n5, q_n6, q_n7, q_n10, q_n14, q_n15, q_n20, q_n60, q_n1288] at c_1 ⊢; omega
                  have hJ_24 : xJ (q_st (q_st S 9 i 12 (.int ((q_i (S 9 i 12)) + 1))) 0 0 5 (.int ((q_i (S 0 0 5)) + 1))) := xJ_keep hJ (fun x y z hx => (q_kj (show x ≠ 0 by omega)).trans ((q_kj (show x ≠ 9 by omega))))
                  have hI_25 : xI (q_st (q_st S 9 i 12 (.int ((q_i (S 9 i 12)) + 1))) 0 0 5 (.int ((q_i (S 0 0 5)) + 1))) := (q_Is (xI_st hI (by have b1 : 0 ≤ (q_i (S 9 i 12)).toInt ∧ (q_i (S 9 i 12)).toInt ≤ 60 := hI 9 i 12; have d_1 := q_inc (x := (q_i (S 9 i 12))) (by omega); simp only [Int32.lt_iff_toInt_lt, Int32.le_iff_toInt_le, q_n0, q_n1, q_n2, q_n3, q_n4, q_n5, q_n6, q_n7, q_n10, q_n14, q_n15, q_n20, q_n60, q_n1288] at c_1; show 0 ≤ ((q_i (S 9 i 12)) + 1).toInt ∧ ((q_i (S 9 i 12)) + 1).toInt ≤ 60; rw [q_inc (by omega)]; omega)) rfl)
                  have hI_26 : xI (q_st (q_st S 9 i 12 (.int ((q_i (S 9 i 12)) + 1))) 0 0 5 (.int ((q_i (S 0 0 5)) + 1))) := (q_Is (xI_st hI (by have b1 : 0 ≤ (q_i (S 9 i 12)).toInt ∧ (q_i (S 9 i 12)).toInt ≤ 60 := hI 9 i 12; have d_1 := q_inc (x := (q_i (S 9 i 12))) (by omega); simp only [Int32.lt_iff_toInt_lt, Int32.le_iff_toInt_le, q_n0, q_n1, q_n2, q_n3, q_n4, q_n5, q_n6, q_n7, q_n10, q_n14, q_n15, q_n20, q_n60, q_n1288] at c_1; show 0 ≤ ((q_i (S 9 i 12)) + 1).toInt ∧ ((q_i (S 9 i 12)) + 1).toInt ≤ 60; rw [q_inc (by omega)]; omega)) rfl)
                  have hI_27 : xI (q_st (q_st S 9 i 12 (.int ((q_i (S 9 i 12)) + 1))) 0 0 5 (.int ((q_i (S 0 0 5)) + 1))) := (q_Is (xI_st hI (by have b1 : 0 ≤ (q_i (S 9 i 12)).toInt ∧ (q_i (S 9 i 12)).toInt ≤ 60 := hI 9 i 12; have d_1 := q_inc (x := (q_i (S 9 i 12))) (by omega); simp only [Int32.lt_iff_toInt_lt, Int32.le_iff_toInt_le, q_n0, q_n1, q_n2, q_n3, q_n4, q_n5, q_n6, q_n7, q_n10, q_n14, q_n15, q_n20, q_n60, q_n1288] at c_1; show 0 ≤ ((q_i (S 9 i 12)) + 1).toInt ∧ ((q_i (S 9 i 12)) + 1).toInt ≤ 60; rw [q_inc (by omega)]; omega)) rfl)
                  have hI_42 : xI (q_st (q_st S 9 i 12 (.int ((q_i (S 9 i 12)) + 1))) 0 0 5 (.int ((q_i (S 0 0 5)) + 1))) := (q_Is (xI_st hI (by have b1 : 0 ≤ (q_i (S 9 i 12)).toInt ∧ (q_i (S 9 i 12)).toInt ≤ 60 := hI 9 i 12; have b2 : 0 ≤ (q_i (S 9 i 9)).toInt ∧ (q_i (S 9 i 9)).toInt ≤ 2 := hI 9 i 9; have d_1 := q_inc (x := (q_i (S 9 i 12))) (by omega); simp only [Int32.lt_iff_toInt_lt, Int32.le_iff_toInt_le, q_n0, q_n1, q_n2, q_n3, q_n4, q_n5, q_n6, q_n7, q_n10, q_n14, q_n15, q_n20, q_n60, q_n1288] at c_1; show 0 ≤ ((q_i (S 9 i 12)) + 1).toInt ∧ ((q_i (S 9 i 12)) + 1).toInt ≤ 60; rw [q_inc (by omega)]; omega)) rfl)
                  have hf : x_fe_step S i = x_wf_compute (q_st (q_st S 9 i 12 (.int ((q_i (S 9 i 12)) + 1))) 0 0 5 (.int ((q_i (S 0 0 5)) + 1))) i (x_pr_opAt (q_st (q_st S 9 i 12 (.int ((q_i (S 9 i 12)) + 1))) 0 0 5 (.int ((q_i (S 0 0 5)) + 1))) ((q_i (S 9 i 9)).toNatClampNeg) (q_i (S 9 i 11))) (x_pr_firstAt (q_st (q_st S 9 i 12 (.int ((q_i (S 9 i 12)) + 1))) 0 0 5 (.int ((q_i (S 0 0 5)) + 1))) ((q_i (S 9 i 9)).toNatClampNeg) (q_i (S 9 i 11))) (x_pr_secondAt (q_st (q_st S 9 i 12 (.int ((q_i (S 9 i 12)) + 1))) 0 0 5 (.int ((q_i (S 0 0 5)) + 1))) ((q_i (S 9 i 9)).toNatClampNeg) (q_i (S 9 i 11))) := by unfold x_fe_step; rw [if_pos c_1, if_neg c_2, if_neg c_28, if_neg c_31, if_neg c_34, if_neg c_36, if_neg c_39, if_neg c_40]
                  rw [hf]
                  exact (xI_wf_compute (q_st (q_st S 9 i 12 (.int ((q_i (S 9 i 12)) + 1))) 0 0 5 (.int ((q_i (S 0 0 5)) + 1))) i (x_pr_opAt (q_st (q_st S 9 i 12 (.int ((q_i (S 9 i 12)) + 1))) 0 0 5 (.int ((q_i (S 0 0 5)) + 1))) ((q_i (S 9 i 9)).toNatClampNeg) (q_i (S 9 i 11))) (x_pr_firstAt (q_st (q_st S 9 i 12 (.int ((q_i (S 9 i 12)) + 1))) 0 0 5 (.int ((q_i (S 0 0 5)) + 1))) ((q_i (S 9 i 9)).toNatClampNeg) (q_i (S 9 i 11))) (x_pr_secondAt (q_st (q_st S 9 i 12 (.int ((q_i (S 9 i 12)) + 1))) 0 0 5 (.int ((q_i (S 0 0 5)) + 1))) ((q_i (S 9 i 9)).toNatClampNeg) (q_i (S 9 i 11))) hi hI_42 (xJ_c1 hJ_24 (q_lt h_23)) (xJ_c2 hJ_24 (q_lt h_23)))
  · -- no
    have hf : x_fe_step S i = q_st S 9 i 10 (.int 7) := by unfold x_fe_step; rw [if_neg c_1]
    rw [hf]
    exact (q_Is hI rfl)
set_option maxRecDepth 100000 in
set_option maxHeartbeats 4000000 in
theorem xK_fe_step (S : q_S) (i : Nat) (x y z : Nat) (h0 : x ≠ 0) (h3 : x ≠ 3) (h4 : x ≠ 4) (h9 : x ≠ 9) (h10 : x ≠ 10) (h11 : x ≠ 11) (h12 : x ≠ 12) (h13 : x ≠ 13) (h14 : x ≠ 14) (h15 : x ≠ 15) (h16 : x ≠ 16) (h17 : x ≠ 17) (h18 : x ≠ 18) (h19 : x ≠ 19) (h20 : x ≠ 20) (h21 : x ≠ 21) : (x_fe_step S i) x y z = S x y z := by
  by_cases c_1 : q_i (S 9 i 12) < 60
  · -- yes
    by_cases c_2 : x_hi_isLeft (q_st S 9 i 12 (.int ((q_i (S 9 i 12)) + 1))) i = 0
    · -- yes
      by_cases c_8 : x_pr_opAt (q_st (q_st S 9 i 12 (.int ((q_i (S 9 i 12)) + 1))) 0 0 4 (.int ((q_i (S 0 0 4)) + 1))) ((q_i (S 9 i 9)).toNatClampNeg) (q_i (S 9 i 11)) = 5
      · -- yes
        have hf : x_fe_step S i = x_fe_want (q_st (q_st (q_st S 9 i 12 (.int ((q_i (S 9 i 12)) + 1))) 0 0 4 (.int ((q_i (S 0 0 4)) + 1))) 9 i 14 (.int (x_pr_secondAt (q_st (q_st S 9 i 12 (.int ((q_i (S 9 i 12)) + 1))) 0 0 4 (.int ((q_i (S 0 0 4)) + 1))) ((q_i (S 9 i 9)).toNatClampNeg) (q_i (S 9 i 11))))) i 1 (x_pr_firstAt (q_st (q_st S 9 i 12 (.int ((q_i (S 9 i 12)) + 1))) 0 0 4 (.int ((q_i (S 0 0 4)) + 1))) ((q_i (S 9 i 9)).toNatClampNeg) (q_i (S 9 i 11))) (q_i (S 10 i ((x_pr_secondAt (q_st (q_st S 9 i 12 (.int ((q_i (S 9 i 12)) + 1))) 0 0 4 (.int ((q_i (S 0 0 4)) + 1))) ((q_i (S 9 i 9)).toNatClampNeg) (q_i (S 9 i 11))).toNatClampNeg))) := by unfold x_fe_step; rw [if_pos c_1, if_pos c_2, if_pos c_8]
        rw [hf]
        exact ((xK_fe_want (q_st (q_st (q_st S 9 i 12 (.int ((q_i (S 9 i 12)) + 1))) 0 0 4 (.int ((q_i (S 0 0 4)) + 1))) 9 i 14 (.int (x_pr_secondAt (q_st (q_st S 9 i 12 (.int ((q_i (S 9 i 12)) + 1))) 0 0 4 (.int ((q_i (S 0 0 4)) + 1))) ((q_i (S 9 i 9)).toNatClampNeg) (q_i (S 9 i 11))))) i 1 (x_pr_firstAt (q_st (q_st S 9 i 12 (.int ((q_i (S 9 i 12)) + 1))) 0 0 4 (.int ((q_i (S 0 0 4)) + 1))) ((q_i (S 9 i 9)).toNatClampNeg) (q_i (S 9 i 11))) (q_i (S 10 i ((x_pr_secondAt (q_st (q_st S 9 i 12 (.int ((q_i (S 9 i 12)) + 1))) 0 0 4 (.int ((q_i (S 0 0 4)) + 1))) ((q_i (S 9 i 9)).toNatClampNeg) (q_i (S 9 i 11))).toNatClampNeg))) x y z h3 h4 h9 h11 h12 h13 h14 h21)).trans ((q_kj h9).trans ((q_kj h0).trans ((q_kj h9))))
      · -- no
        by_cases c_11 : x_pr_opAt (q_st (q_st S 9 i 12 (.int ((q_i (S 9 i 12)) + 1))) 0 0 4 (.int ((q_i (S 0 0 4)) + 1))) ((q_i (S 9 i 9)).toNatClampNeg) (q_i (S 9 i 11)) = 6
        · -- yes
          have hf : x_fe_step S i = x_fe_sleep (q_st (q_st S 9 i 12 (.int ((q_i (S 9 i 12)) + 1))) 0 0 4 (.int ((q_i (S 0 0 4)) + 1))) i (q_i (S 10 i ((x_pr_firstAt (q_st (q_st S 9 i 12 (.int ((q_i (S 9 i 12)) + 1))) 0 0 4 (.int ((q_i (S 0 0 4)) + 1))) ((q_i (S 9 i 9)).toNatClampNeg) (q_i (S 9 i 11))).toNatClampNeg))) := by unfold x_fe_step; rw [if_pos c_1, if_pos c_2, if_neg c_8, if_pos c_11]
          rw [hf]
          exact ((xK_fe_sleep (q_st (q_st S 9 i 12 (.int ((q_i (S 9 i 12)) + 1))) 0 0 4 (.int ((q_i (S 0 0 4)) + 1))) i (q_i (S 10 i ((x_pr_firstAt (q_st (q_st S 9 i 12 (.int ((q_i (S 9 i 12)) + 1))) 0 0 4 (.int ((q_i (S 0 0 4)) + 1))) ((q_i (S 9 i 9)).toNatClampNeg) (q_i (S 9 i 11))).toNatClampNeg))) x y z h9 h11 h12 h13 h14)).trans ((q_kj h0).trans ((q_kj h9)))
        · -- no
          by_cases c_14 : x_pr_opAt (q_st (q_st S 9 i 12 (.int ((q_i (S 9 i 12)) + 1))) 0 0 4 (.int ((q_i (S 0 0 4)) + 1))) ((q_i (S 9 i 9)).toNatClampNeg) (q_i (S 9 i 11)) = 7
          · -- yes
            have hf : x_fe_step S i = x_fe_awaitSignal (q_st (q_st (q_st S 9 i 12 (.int ((q_i (S 9 i 12)) + 1))) 0 0 4 (.int ((q_i (S 0 0 4)) + 1))) 9 i 14 (.int (x_pr_secondAt (q_st (q_st S 9 i 12 (.int ((q_i (S 9 i 12)) + 1))) 0 0 4 (.int ((q_i (S 0 0 4)) + 1))) ((q_i (S 9 i 9)).toNatClampNeg) (q_i (S 9 i 11))))) i (x_pr_firstAt (q_st (q_st S 9 i 12 (.int ((q_i (S 9 i 12)) + 1))) 0 0 4 (.int ((q_i (S 0 0 4)) + 1))) ((q_i (S 9 i 9)).toNatClampNeg) (q_i (S 9 i 11))) := by unfold x_fe_step; rw [if_pos c_1, if_pos c_2, if_neg c_8, if_neg c_11, if_pos c_14]
            rw [hf]
            exact ((xK_fe_awaitSignal (q_st (q_st (q_st S 9 i 12 (.int ((q_i (S 9 i 12)) + 1))) 0 0 4 (.int ((q_i (S 0 0 4)) + 1))) 9 i 14 (.int (x_pr_secondAt (q_st (q_st S 9 i 12 (.int ((q_i (S 9 i 12)) + 1))) 0 0 4 (.int ((q_i (S 0 0 4)) + 1))) ((q_i (S 9 i 9)).toNatClampNeg) (q_i (S 9 i 11))))) i (x_pr_firstAt (q_st (q_st S 9 i 12 (.int ((q_i (S 9 i 12)) + 1))) 0 0 4 (.int ((q_i (S 0 0 4)) + 1))) ((q_i (S 9 i 9)).toNatClampNeg) (q_i (S 9 i 11))) x y z h9 h10 h11 h12 h13 h14 h15 h16 h17)).trans ((q_kj h9).trans ((q_kj h0).trans ((q_kj h9))))
          · -- no
            by_cases c_16 : x_pr_opAt (q_st (q_st S 9 i 12 (.int ((q_i (S 9 i 12)) + 1))) 0 0 4 (.int ((q_i (S 0 0 4)) + 1))) ((q_i (S 9 i 9)).toNatClampNeg) (q_i (S 9 i 11)) = 8
            · -- yes
              have hf : x_fe_step S i = x_wf_note (q_st (q_st S 9 i 12 (.int ((q_i (S 9 i 12)) + 1))) 0 0 4 (.int ((q_i (S 0 0 4)) + 1))) i (x_pr_firstAt (q_st (q_st S 9 i 12 (.int ((q_i (S 9 i 12)) + 1))) 0 0 4 (.int ((q_i (S 0 0 4)) + 1))) ((q_i (S 9 i 9)).toNatClampNeg) (q_i (S 9 i 11))) (q_i (S 10 i ((x_pr_secondAt (q_st (q_st S 9 i 12 (.int ((q_i (S 9 i 12)) + 1))) 0 0 4 (.int ((q_i (S 0 0 4)) + 1))) ((q_i (S 9 i 9)).toNatClampNeg) (q_i (S 9 i 11))).toNatClampNeg))) := by unfold x_fe_step; rw [if_pos c_1, if_pos c_2, if_neg c_8, if_neg c_11, if_neg c_14, if_pos c_16]
              rw [hf]
              exact ((xK_wf_note (q_st (q_st S 9 i 12 (.int ((q_i (S 9 i 12)) + 1))) 0 0 4 (.int ((q_i (S 0 0 4)) + 1))) i (x_pr_firstAt (q_st (q_st S 9 i 12 (.int ((q_i (S 9 i 12)) + 1))) 0 0 4 (.int ((q_i (S 0 0 4)) + 1))) ((q_i (S 9 i 9)).toNatClampNeg) (q_i (S 9 i 11))) (q_i (S 10 i ((x_pr_secondAt (q_st (q_st S 9 i 12 (.int ((q_i (S 9 i 12)) + 1))) 0 0 4 (.int ((q_i (S 0 0 4)) + 1))) ((q_i (S 9 i 9)).toNatClampNeg) (q_i (S 9 i 11))).toNatClampNeg))) x y z h9 h18 h19 h20)).trans ((q_kj h0).trans ((q_kj h9)))
            · -- no
              by_cases c_19 : x_pr_opAt (q_st (q_st S 9 i 12 (.int ((q_i (S 9 i 12)) + 1))) 0 0 4 (.int ((q_i (S 0 0 4)) + 1))) ((q_i (S 9 i 9)).toNatClampNeg) (q_i (S 9 i 11)) = 9
              · -- yes
                have hf : x_fe_step S i = q_st (q_st (q_st S 9 i 12 (.int ((q_i (S 9 i 12)) + 1))) 0 0 4 (.int ((q_i (S 0 0 4)) + 1))) 9 i 8 (.int 1) := by unfold x_fe_step; rw [if_pos c_1, if_pos c_2, if_neg c_8, if_neg c_11, if_neg c_14, if_neg c_16, if_pos c_19]
                rw [hf]
                exact (q_kj h9).trans ((q_kj h0).trans ((q_kj h9)))
              · -- no
                by_cases c_20 : x_pr_opAt (q_st (q_st S 9 i 12 (.int ((q_i (S 9 i 12)) + 1))) 0 0 4 (.int ((q_i (S 0 0 4)) + 1))) ((q_i (S 9 i 9)).toNatClampNeg) (q_i (S 9 i 11)) = 10
                · -- yes
                  have hf : x_fe_step S i = q_st (q_st (q_st (q_st S 9 i 12 (.int ((q_i (S 9 i 12)) + 1))) 0 0 4 (.int ((q_i (S 0 0 4)) + 1))) 9 i 15 (.int (q_i (S 10 i ((x_pr_firstAt (q_st (q_st S 9 i 12 (.int ((q_i (S 9 i 12)) + 1))) 0 0 4 (.int ((q_i (S 0 0 4)) + 1))) ((q_i (S 9 i 9)).toNatClampNeg) (q_i (S 9 i 11))).toNatClampNeg))))) 9 i 10 (.int 5) := by unfold x_fe_step; rw [if_pos c_1, if_pos c_2, if_neg c_8, if_neg c_11, if_neg c_14, if_neg c_16, if_neg c_19, if_pos c_20]
                  rw [hf]
                  exact (q_kj h9).trans ((q_kj h9).trans ((q_kj h0).trans ((q_kj h9))))
                · -- no
                  have hf : x_fe_step S i = x_wf_compute (q_st (q_st S 9 i 12 (.int ((q_i (S 9 i 12)) + 1))) 0 0 4 (.int ((q_i (S 0 0 4)) + 1))) i (x_pr_opAt (q_st (q_st S 9 i 12 (.int ((q_i (S 9 i 12)) + 1))) 0 0 4 (.int ((q_i (S 0 0 4)) + 1))) ((q_i (S 9 i 9)).toNatClampNeg) (q_i (S 9 i 11))) (x_pr_firstAt (q_st (q_st S 9 i 12 (.int ((q_i (S 9 i 12)) + 1))) 0 0 4 (.int ((q_i (S 0 0 4)) + 1))) ((q_i (S 9 i 9)).toNatClampNeg) (q_i (S 9 i 11))) (x_pr_secondAt (q_st (q_st S 9 i 12 (.int ((q_i (S 9 i 12)) + 1))) 0 0 4 (.int ((q_i (S 0 0 4)) + 1))) ((q_i (S 9 i 9)).toNatClampNeg) (q_i (S 9 i 11))) := by unfold x_fe_step; rw [if_pos c_1, if_pos c_2, if_neg c_8, if_neg c_11, if_neg c_14, if_neg c_16, if_neg c_19, if_neg c_20]
                  rw [hf]
                  exact ((xK_wf_compute (q_st (q_st S 9 i 12 (.int ((q_i (S 9 i 12)) + 1))) 0 0 4 (.int ((q_i (S 0 0 4)) + 1))) i (x_pr_opAt (q_st (q_st S 9 i 12 (.int ((q_i (S 9 i 12)) + 1))) 0 0 4 (.int ((q_i (S 0 0 4)) + 1))) ((q_i (S 9 i 9)).toNatClampNeg) (q_i (S 9 i 11))) (x_pr_firstAt (q_st (q_st S 9 i 12 (.int ((q_i (S 9 i 12)) + 1))) 0 0 4 (.int ((q_i (S 0 0 4)) + 1))) ((q_i (S 9 i 9)).toNatClampNeg) (q_i (S 9 i 11))) (x_pr_secondAt (q_st (q_st S 9 i 12 (.int ((q_i (S 9 i 12)) + 1))) 0 0 4 (.int ((q_i (S 0 0 4)) + 1))) ((q_i (S 9 i 9)).toNatClampNeg) (q_i (S 9 i 11))) x y z h9 h10)).trans ((q_kj h0).trans ((q_kj h9)))
    · -- no
      by_cases c_28 : x_pr_opAt (q_st (q_st S 9 i 12 (.int ((q_i (S 9 i 12)) + 1))) 0 0 5 (.int ((q_i (S 0 0 5)) + 1))) ((q_i (S 9 i 9)).toNatClampNeg) (q_i (S 9 i 11)) = 5
      · -- yes
        have hf : x_fe_step S i = x_fe_want (q_st (q_st (q_st S 9 i 12 (.int ((q_i (S 9 i 12)) + 1))) 0 0 5 (.int ((q_i (S 0 0 5)) + 1))) 9 i 14 (.int (x_pr_secondAt (q_st (q_st S 9 i 12 (.int ((q_i (S 9 i 12)) + 1))) 0 0 5 (.int ((q_i (S 0 0 5)) + 1))) ((q_i (S 9 i 9)).toNatClampNeg) (q_i (S 9 i 11))))) i 1 (x_pr_firstAt (q_st (q_st S 9 i 12 (.int ((q_i (S 9 i 12)) + 1))) 0 0 5 (.int ((q_i (S 0 0 5)) + 1))) ((q_i (S 9 i 9)).toNatClampNeg) (q_i (S 9 i 11))) (q_i (S 10 i ((x_pr_secondAt (q_st (q_st S 9 i 12 (.int ((q_i (S 9 i 12)) + 1))) 0 0 5 (.int ((q_i (S 0 0 5)) + 1))) ((q_i (S 9 i 9)).toNatClampNeg) (q_i (S 9 i 11))).toNatClampNeg))) := by unfold x_fe_step; rw [if_pos c_1, if_neg c_2, if_pos c_28]
        rw [hf]
        exact ((xK_fe_want (q_st (q_st (q_st S 9 i 12 (.int ((q_i (S 9 i 12)) + 1))) 0 0 5 (.int ((q_i (S 0 0 5)) + 1))) 9 i 14 (.int (x_pr_secondAt (q_st (q_st S 9 i 12 (.int ((q_i (S 9 i 12)) + 1))) 0 0 5 (.int ((q_i (S 0 0 5)) + 1))) ((q_i (S 9 i 9)).toNatClampNeg) (q_i (S 9 i 11))))) i 1 (x_pr_firstAt (q_st (q_st S 9 i 12 (.int ((q_i (S 9 i 12)) + 1))) 0 0 5 (.int ((q_i (S 0 0 5)) + 1))) ((q_i (S 9 i 9)).toNatClampNeg) (q_i (S 9 i 11))) (q_i (S 10 i ((x_pr_secondAt (q_st (q_st S 9 i 12 (.int ((q_i (S 9 i 12)) + 1))) 0 0 5 (.int ((q_i (S 0 0 5)) + 1))) ((q_i (S 9 i 9)).toNatClampNeg) (q_i (S 9 i 11))).toNatClampNeg))) x y z h3 h4 h9 h11 h12 h13 h14 h21)).trans ((q_kj h9).trans ((q_kj h0).trans ((q_kj h9))))
      · -- no
        by_cases c_31 : x_pr_opAt (q_st (q_st S 9 i 12 (.int ((q_i (S 9 i 12)) + 1))) 0 0 5 (.int ((q_i (S 0 0 5)) + 1))) ((q_i (S 9 i 9)).toNatClampNeg) (q_i (S 9 i 11)) = 6
        · -- yes
          have hf : x_fe_step S i = x_fe_sleep (q_st (q_st S 9 i 12 (.int ((q_i (S 9 i 12)) + 1))) 0 0 5 (.int ((q_i (S 0 0 5)) + 1))) i (q_i (S 10 i ((x_pr_firstAt (q_st (q_st S 9 i 12 (.int ((q_i (S 9 i 12)) + 1))) 0 0 5 (.int ((q_i (S 0 0 5)) + 1))) ((q_i (S 9 i 9)).toNatClampNeg) (q_i (S 9 i 11))).toNatClampNeg))) := by unfold x_fe_step; rw [if_pos c_1, if_neg c_2, if_neg c_28, if_pos c_31]
          rw [hf]
          exact ((xK_fe_sleep (q_st (q_st S 9 i 12 (.int ((q_i (S 9 i 12)) + 1))) 0 0 5 (.int ((q_i (S 0 0 5)) + 1))) i (q_i (S 10 i ((x_pr_firstAt (q_st (q_st S 9 i 12 (.int ((q_i (S 9 i 12)) + 1))) 0 0 5 (.int ((q_i (S 0 0 5)) + 1))) ((q_i (S 9 i 9)).toNatClampNeg) (q_i (S 9 i 11))).toNatClampNeg))) x y z h9 h11 h12 h13 h14)).trans ((q_kj h0).trans ((q_kj h9)))
        · -- no
          by_cases c_34 : x_pr_opAt (q_st (q_st S 9 i 12 (.int ((q_i (S 9 i 12)) + 1))) 0 0 5 (.int ((q_i (S 0 0 5)) + 1))) ((q_i (S 9 i 9)).toNatClampNeg) (q_i (S 9 i 11)) = 7
          · -- yes
            have hf : x_fe_step S i = x_fe_awaitSignal (q_st (q_st (q_st S 9 i 12 (.int ((q_i (S 9 i 12)) + 1))) 0 0 5 (.int ((q_i (S 0 0 5)) + 1))) 9 i 14 (.int (x_pr_secondAt (q_st (q_st S 9 i 12 (.int ((q_i (S 9 i 12)) + 1))) 0 0 5 (.int ((q_i (S 0 0 5)) + 1))) ((q_i (S 9 i 9)).toNatClampNeg) (q_i (S 9 i 11))))) i (x_pr_firstAt (q_st (q_st S 9 i 12 (.int ((q_i (S 9 i 12)) + 1))) 0 0 5 (.int ((q_i (S 0 0 5)) + 1))) ((q_i (S 9 i 9)).toNatClampNeg) (q_i (S 9 i 11))) := by unfold x_fe_step; rw [if_pos c_1, if_neg c_2, if_neg c_28, if_neg c_31, if_pos c_34]
            rw [hf]
            exact ((xK_fe_awaitSignal (q_st (q_st (q_st S 9 i 12 (.int ((q_i (S 9 i 12)) + 1))) 0 0 5 (.int ((q_i (S 0 0 5)) + 1))) 9 i 14 (.int (x_pr_secondAt (q_st (q_st S 9 i 12 (.int ((q_i (S 9 i 12)) + 1))) 0 0 5 (.int ((q_i (S 0 0 5)) + 1))) ((q_i (S 9 i 9)).toNatClampNeg) (q_i (S 9 i 11))))) i (x_pr_firstAt (q_st (q_st S 9 i 12 (.int ((q_i (S 9 i 12)) + 1))) 0 0 5 (.int ((q_i (S 0 0 5)) + 1))) ((q_i (S 9 i 9)).toNatClampNeg) (q_i (S 9 i 11))) x y z h9 h10 h11 h12 h13 h14 h15 h16 h17)).trans ((q_kj h9).trans ((q_kj h0).trans ((q_kj h9))))
          · -- no
            by_cases c_36 : x_pr_opAt (q_st (q_st S 9 i 12 (.int ((q_i (S 9 i 12)) + 1))) 0 0 5 (.int ((q_i (S 0 0 5)) + 1))) ((q_i (S 9 i 9)).toNatClampNeg) (q_i (S 9 i 11)) = 8
            · -- yes
              have hf : x_fe_step S i = x_wf_note (q_st (q_st S 9 i 12 (.int ((q_i (S 9 i 12)) + 1))) 0 0 5 (.int ((q_i (S 0 0 5)) + 1))) i (x_pr_firstAt (q_st (q_st S 9 i 12 (.int ((q_i (S 9 i 12)) + 1))) 0 0 5 (.int ((q_i (S 0 0 5)) + 1))) ((q_i (S 9 i 9)).toNatClampNeg) (q_i (S 9 i 11))) (q_i (S 10 i ((x_pr_secondAt (q_st (q_st S 9 i 12 (.int ((q_i (S 9 i 12)) + 1))) 0 0 5 (.int ((q_i (S 0 0 5)) + 1))) ((q_i (S 9 i 9)).toNatClampNeg) (q_i (S 9 i 11))).toNatClampNeg))) := by unfold x_fe_step; rw [if_pos c_1, if_neg c_2, if_neg c_28, if_neg c_31, if_neg c_34, if_pos c_36]
              rw [hf]
              exact ((xK_wf_note (q_st (q_st S 9 i 12 (.int ((q_i (S 9 i 12)) + 1))) 0 0 5 (.int ((q_i (S 0 0 5)) + 1))) i (x_pr_firstAt (q_st (q_st S 9 i 12 (.int ((q_i (S 9 i 12)) + 1))) 0 0 5 (.int ((q_i (S 0 0 5)) + 1))) ((q_i (S 9 i 9)).toNatClampNeg) (q_i (S 9 i 11))) (q_i (S 10 i ((x_pr_secondAt (q_st (q_st S 9 i 12 (.int ((q_i (S 9 i 12)) + 1))) 0 0 5 (.int ((q_i (S 0 0 5)) + 1))) ((q_i (S 9 i 9)).toNatClampNeg) (q_i (S 9 i 11))).toNatClampNeg))) x y z h9 h18 h19 h20)).trans ((q_kj h0).trans ((q_kj h9)))
            · -- no
              by_cases c_39 : x_pr_opAt (q_st (q_st S 9 i 12 (.int ((q_i (S 9 i 12)) + 1))) 0 0 5 (.int ((q_i (S 0 0 5)) + 1))) ((q_i (S 9 i 9)).toNatClampNeg) (q_i (S 9 i 11)) = 9
              · -- yes
                have hf : x_fe_step S i = q_st (q_st (q_st S 9 i 12 (.int ((q_i (S 9 i 12)) + 1))) 0 0 5 (.int ((q_i (S 0 0 5)) + 1))) 9 i 8 (.int 1) := by unfold x_fe_step; rw [if_pos c_1, if_neg c_2, if_neg c_28, if_neg c_31, if_neg c_34, if_neg c_36, if_pos c_39]
                rw [hf]
                exact (q_kj h9).trans ((q_kj h0).trans ((q_kj h9)))
              · -- no
                by_cases c_40 : x_pr_opAt (q_st (q_st S 9 i 12 (.int ((q_i (S 9 i 12)) + 1))) 0 0 5 (.int ((q_i (S 0 0 5)) + 1))) ((q_i (S 9 i 9)).toNatClampNeg) (q_i (S 9 i 11)) = 10
                · -- yes
                  have hf : x_fe_step S i = q_st (q_st (q_st (q_st S 9 i 12 (.int ((q_i (S 9 i 12)) + 1))) 0 0 5 (.int ((q_i (S 0 0 5)) + 1))) 9 i 15 (.int (q_i (S 10 i ((x_pr_firstAt (q_st (q_st S 9 i 12 (.int ((q_i (S 9 i 12)) + 1))) 0 0 5 (.int ((q_i (S 0 0 5)) + 1))) ((q_i (S 9 i 9)).toNatClampNeg) (q_i (S 9 i 11))).toNatClampNeg))))) 9 i 10 (.int 5) := by unfold x_fe_step; rw [if_pos c_1, if_neg c_2, if_neg c_28, if_neg c_31, if_neg c_34, if_neg c_36, if_neg c_39, if_pos c_40]
                  rw [hf]
                  exact (q_kj h9).trans ((q_kj h9).trans ((q_kj h0).trans ((q_kj h9))))
                · -- no
                  have hf : x_fe_step S i = x_wf_compute (q_st (q_st S 9 i 12 (.int ((q_i (S 9 i 12)) + 1))) 0 0 5 (.int ((q_i (S 0 0 5)) + 1))) i (x_pr_opAt (q_st (q_st S 9 i 12 (.int ((q_i (S 9 i 12)) + 1))) 0 0 5 (.int ((q_i (S 0 0 5)) + 1))) ((q_i (S 9 i 9)).toNatClampNeg) (q_i (S 9 i 11))) (x_pr_firstAt (q_st (q_st S 9 i 12 (.int ((q_i (S 9 i 12)) + 1))) 0 0 5 (.int ((q_i (S 0 0 5)) + 1))) ((q_i (S 9 i 9)).toNatClampNeg) (q_i (S 9 i 11))) (x_pr_secondAt (q_st (q_st S 9 i 12 (.int ((q_i (S 9 i 12)) + 1))) 0 0 5 (.int ((q_i (S 0 0 5)) + 1))) ((q_i (S 9 i 9)).toNatClampNeg) (q_i (S 9 i 11))) := by unfold x_fe_step; rw [if_pos c_1, if_neg c_2, if_neg c_28, if_neg c_31, if_neg c_34, if_neg c_36, if_neg c_39, if_neg c_40]
                  rw [hf]
                  exact ((xK_wf_compute (q_st (q_st S 9 i 12 (.int ((q_i (S 9 i 12)) + 1))) 0 0 5 (.int ((q_i (S 0 0 5)) + 1))) i (x_pr_opAt (q_st (q_st S 9 i 12 (.int ((q_i (S 9 i 12)) + 1))) 0 0 5 (.int ((q_i (S 0 0 5)) + 1))) ((q_i (S 9 i 9)).toNatClampNeg) (q_i (S 9 i 11))) (x_pr_firstAt (q_st (q_st S 9 i 12 (.int ((q_i (S 9 i 12)) + 1))) 0 0 5 (.int ((q_i (S 0 0 5)) + 1))) ((q_i (S 9 i 9)).toNatClampNeg) (q_i (S 9 i 11))) (x_pr_secondAt (q_st (q_st S 9 i 12 (.int ((q_i (S 9 i 12)) + 1))) 0 0 5 (.int ((q_i (S 0 0 5)) + 1))) ((q_i (S 9 i 9)).toNatClampNeg) (q_i (S 9 i 11))) x y z h9 h10)).trans ((q_kj h0).trans ((q_kj h9)))
  · -- no
    have hf : x_fe_step S i = q_st S 9 i 10 (.int 7) := by unfold x_fe_step; rw [if_neg c_1]
    rw [hf]
    exact (q_kj h9)
