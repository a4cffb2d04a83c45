/-- behind n calls -/
def Pn (n : Nat) (S T : q_S) : Prop := xI S ∧ xJ S ∧ mAll T ∧ Rl c4 S T ∧ (0 ≤ (q_i (S 0 0 3)).toInt ∧ (q_i (S 0 0 3)).toInt ≤ 20 * n) ∧ (n = 0 → q_i (S 0 0 7) = q_i (T 33 0 6))
theorem pn_0 : Pn 0 xS0 mS0 := by
  refine ⟨xI_0, xJ_0, mAll_0, ⟨ce_0, fun k hk => ?_⟩, by show (0 : Int) ≤ (0 : Int) ∧ (0 : Int) ≤ 0; omega, fun _ => rfl⟩
  have nT : ¬ hasT xS0 mS0 k := by
    rintro (z | z)
    · exact z rfl
    · obtain ⟨n, n1, -⟩ := mLn_mem.mp z
      exact absurd n1 (Nat.not_lt_zero n)
  exact ⟨fun _ => rfl, fun _ => rfl, fun z => absurd rfl z, fun z => absurd z nT, fun _ => rfl⟩
theorem pn_s {n : Nat} {S T S' T' : q_S} (h : Pn n S T) (hI : xI S') (hJ : xJ S') (hA : mAll T') (hR : Rl c4 S' T') (ht : S' 0 0 3 = S 0 0 3) : Pn (n + 1) S' T' := ⟨hI, hJ, hA, hR, by rw [ht]; have := h.2.2.2.2.1; omega, fun z => by omega⟩
theorem tm_start (S : q_S) (a b : Int32) : (x_fe_start S a b).2 0 0 3 = S 0 0 3 := by
  unfold x_fe_start
  generalize x_fe_leastFree S = w
  repeat' split
  · rfl
  · exact xt_run (i := w.toNatClampNeg) (S := S) (xt_begin xt_r)
  · rfl
theorem tm_signal (S : q_S) (a b d : Int32) : (x_fe_signal S a b d).2 0 0 3 = S 0 0 3 := by
  have r : x_fe_remember S a.toNatClampNeg 0 0 3 = S 0 0 3 := xt_remember (i := a.toNatClampNeg) xt_r
  unfold x_fe_signal
  repeat' split
  all_goals first | rfl | exact r | exact xt_happen (i := a.toNatClampNeg) (S := S) r | exact (xK_ke_keep _ _ _ _ 0 0 3 (by decide) (by decide) (by decide)).trans r
theorem tm_answer (S : q_S) (a b d : Int32) : (x_fe_answer S a b d).2 0 0 3 = S 0 0 3 := by
  have r : x_fe_remember S a.toNatClampNeg 0 0 3 = S 0 0 3 := xt_remember (i := a.toNatClampNeg) xt_r
  unfold x_fe_answer
  repeat' split
  all_goals first | rfl | exact xt_happen (i := a.toNatClampNeg) (S := S) r | exact xt_goWrong (i := a.toNatClampNeg) xt_r
theorem lk_0 {l : Launch} {s : State} {b0 : Nat} {G2 : q_G} {w0 : Cond} (hts : ∀ w ∈ w0 :: q_gw lw_tbl, w.before #[.ref b0] s = true) : lw_ok0 mX G2 l s b0 mR_fm Pn := by
  intro n S T a b d f hn hP
  obtain ⟨hI, hJ, hA, hR, h0, h6⟩ := id hP
  exact ⟨_, _, ⟨_, _, _, _, _, _, mc_law_17 (q_rm 2) hts ⟨Nat.le_of_ble_eq_true rfl, Nat.le_of_ble_eq_true rfl⟩ rfl rfl, mC_fm_add l G2 T a b d f hA.1⟩, pn_s hP (xI_fe_add S a b d f hI) (xJ_add hI hJ a b d f) (mAll_add hA a b d f) (c_add hA hR a b d f).2 (xK_fe_add S a b d f 0 0 3 (by decide) (by decide) (by decide) (by decide) (by decide))⟩
theorem lk_1 {l : Launch} {s : State} {b0 : Nat} {G2 : q_G} {w0 : Cond} (hts : ∀ w ∈ w0 :: q_gw lw_tbl, w.before #[.ref b0] s = true) : lw_ok1 mX G2 l s b0 mR_fm Pn := by
  intro n S T a b d f g hn hP
  obtain ⟨hI, hJ, hA, hR, h0, h6⟩ := id hP
  exact ⟨_, _, ⟨_, _, _, _, _, _, mc_law_22 (q_rm 2) hts ⟨Nat.le_of_ble_eq_true rfl, Nat.le_of_ble_eq_true rfl⟩ rfl rfl, mC_fm_change l G2 T a b d f g hA.1⟩, pn_s hP (xI_fe_change S a b d f g hI) (xJ_change hI hJ a b d f g) (mAll_change hA a b d f g) (c_change hA hR a b d f g).2 (xK_fe_change S a b d f g 0 0 3 (by decide) (by decide) (by decide) (by decide))⟩
theorem lk_2 {l : Launch} {s : State} {b0 : Nat} {G2 : q_G} {w0 : Cond} (hts : ∀ w ∈ w0 :: q_gw lw_tbl, w.before #[.ref b0] s = true) : lw_ok2 mX G2 l s b0 mR_fm Pn := by
  intro n S T a b hn hP
  obtain ⟨hI, hJ, hA, hR, h0, h6⟩ := id hP
  exact ⟨_, _, ⟨_, _, _, _, _, _, mc_law_27 (q_rm 10) hts ⟨Nat.le_of_ble_eq_true rfl, Nat.le_of_ble_eq_true rfl⟩ rfl rfl, mC_fm_start l G2 T a b hA.1 hA.2.1 hA.2.2.1⟩, pn_s hP (xI_fe_start S a b hI hJ) (xJ_start hJ a b) (mAll_start hA a b) (c_start hI hJ hA hR a b).2 (tm_start S a b)⟩
theorem lk_3 {l : Launch} {s : State} {b0 : Nat} {G2 : q_G} {w0 : Cond} (hts : ∀ w ∈ w0 :: q_gw lw_tbl, w.before #[.ref b0] s = true) : lw_ok3 mX G2 l s b0 mR_fm Pn := by
  intro n S T a hn hP
  obtain ⟨hI, hJ, hA, hR, h0, h6⟩ := id hP
  exact ⟨_, _, ⟨_, _, _, _, _, _, mc_law_32 (q_rm 2) hts ⟨Nat.le_of_ble_eq_true rfl, Nat.le_of_ble_eq_true rfl⟩ rfl rfl, mC_fm_remove l G2 T a hA.1⟩, pn_s hP (xI_fe_remove S a hI) (xJ_remove hJ a) (mAll_remove hA a) (c_remove hA hR a).2 (xK_fe_remove S a 0 0 3 (by decide) (by decide) (by decide) (by decide))⟩
theorem lk_4 {l : Launch} {s : State} {b0 : Nat} {G2 : q_G} {w0 : Cond} (hts : ∀ w ∈ w0 :: q_gw lw_tbl, w.before #[.ref b0] s = true) : lw_ok4 mX G2 l s b0 mR_fm Pn := by
  intro n S T a b d hn hP
  obtain ⟨hI, hJ, hA, hR, h0, h6⟩ := id hP
  exact ⟨_, _, ⟨_, _, _, _, _, _, mc_law_37 (q_rm 12) hts ⟨Nat.le_of_ble_eq_true rfl, Nat.le_of_ble_eq_true rfl⟩ rfl rfl, mC_fm_signal l G2 T a b d hA.1 hA.2.1 hA.2.2.1 hA.2.2.2⟩, pn_s hP (xI_fe_signal S a b d hI hJ) (xJ_signal hJ a b d) (mAll_signal hA a b d) (c_signal hI hJ hA hR a b d).2 (tm_signal S a b d)⟩
theorem lk_5 {l : Launch} {s : State} {b0 : Nat} {G2 : q_G} {w0 : Cond} (hts : ∀ w ∈ w0 :: q_gw lw_tbl, w.before #[.ref b0] s = true) : lw_ok5 mX G2 l s b0 mR_fm Pn := by
  intro n S T hn hP
  obtain ⟨hI, hJ, hA, hR, h0, h6⟩ := id hP
  exact ⟨_, _, ⟨_, _, _, _, _, _, mc_law_42 (q_rm 1) hts ⟨Nat.le_of_ble_eq_true rfl, Nat.le_of_ble_eq_true rfl⟩ rfl rfl, mC_fm_take l G2 T hA.1⟩, pn_s hP (xI_fe_take S hI) (xJ_take hJ) (mAll_take hA) (c_take hA hR (fun _ => by show (0 : Int) ≤ 4; omega) h0.1).2 (xK_fe_take S 0 0 3 (by decide) (by decide) (by decide))⟩
theorem lk_6 {l : Launch} {s : State} {b0 : Nat} {G2 : q_G} {w0 : Cond} (hts : ∀ w ∈ w0 :: q_gw lw_tbl, w.before #[.ref b0] s = true) : lw_ok6 mX G2 l s b0 mR_fm Pn := by
  intro n S T a b d hn _ hP
  obtain ⟨hI, hJ, hA, hR, h0, h6⟩ := id hP
  exact ⟨_, _, ⟨_, _, _, _, _, _, mc_law_47 (q_rm 13) hts ⟨Nat.le_of_ble_eq_true rfl, Nat.le_of_ble_eq_true rfl⟩ rfl rfl, mC_fm_answer l G2 T a b d hA.1 hA.2.1 hA.2.2.1 hA.2.2.2⟩, pn_s hP (xI_fe_answer S a b d hI hJ) (xJ_answer hJ a b d) (mAll_answer hA a b d) (c_answer hI hJ hA hR a b d).2 (tm_answer S a b d)⟩
theorem lk_7 {l : Launch} {s : State} {b0 : Nat} {G2 : q_G} {w0 : Cond} (hts : ∀ w ∈ w0 :: q_gw lw_tbl, w.before #[.ref b0] s = true) : lw_ok7 mX G2 l s b0 mR_fm Pn := by
  intro n S T a hn hP
  obtain ⟨hI, hJ, hA, hR, h0, h6⟩ := id hP
  exact ⟨_, _, ⟨_, _, _, _, _, _, mc_law_52 (q_rm 13) hts ⟨Nat.le_of_ble_eq_true rfl, Nat.le_of_ble_eq_true rfl⟩ rfl rfl, mC_fm_tick l G2 T a hA.1 hA.2.1 hA.2.2.1 hA.2.2.2⟩, ⟨xI_fe_tick S a hI hJ, xJ_tick hJ a, mAll_tick hA a, (c_tick hI hJ hA hR h0.1 (by omega) a).2.1, ⟨(c_tick hI hJ hA hR h0.1 (by omega) a).2.2.1, by have := (c_tick hI hJ hA hR h0.1 (by omega) a).2.2.2; omega⟩, fun z => by omega⟩⟩
theorem lk_8 {l : Launch} {s : State} {b0 : Nat} {G2 : q_G} {w0 : Cond} (hts : ∀ w ∈ w0 :: q_gw lw_tbl, w.before #[.ref b0] s = true) : lw_ok8 mX G2 l s b0 mR_fm Pn := by
  intro n S T a hn hP
  obtain ⟨hI, hJ, hA, hR, h0, h6⟩ := id hP
  exact ⟨_, _, ⟨_, _, _, _, _, _, mc_law_56 (q_rm 2) hts ⟨Nat.le_of_ble_eq_true rfl, Nat.le_of_ble_eq_true rfl⟩ rfl rfl, mC_fm_forget l G2 T a hA.1⟩, pn_s hP (xI_fe_forget S a hI) (xJ_forget hJ a) (mAll_forget hA a) (c_forget hR a).2 (xK_fe_forget S a 0 0 3 (by decide))⟩
theorem lk_9 {l : Launch} {s : State} {b0 : Nat} {G2 : q_G} {w0 : Cond} (hts : ∀ w ∈ w0 :: q_gw lw_tbl, w.before #[.ref b0] s = true) : lw_ok9 mX G2 l s b0 mR_fm Pn := by
  intro n S T a b hn hP
  obtain ⟨hI, hJ, hA, hR, h0, h6⟩ := id hP
  exact ⟨_, _, ⟨_, _, _, _, _, _, mc_law_60 (q_rm 1) hts ⟨Nat.le_of_ble_eq_true rfl, Nat.le_of_ble_eq_true rfl⟩ rfl rfl, mC_fm_flow l G2 T a b hA.1⟩, c_flow hR a b, ⟨hI, hJ, hA, hR, by omega, fun z => by omega⟩⟩
theorem lk_10 {l : Launch} {s : State} {b0 : Nat} {G2 : q_G} {w0 : Cond} (hts : ∀ w ∈ w0 :: q_gw lw_tbl, w.before #[.ref b0] s = true) : lw_ok10 mX G2 l s b0 mR_fm Pn := by
  intro n S T a b d hn hP
  obtain ⟨hI, hJ, hA, hR, h0, h6⟩ := id hP
  exact ⟨_, _, ⟨_, _, _, _, _, _, mc_law_64 (q_rm 1) hts ⟨Nat.le_of_ble_eq_true rfl, Nat.le_of_ble_eq_true rfl⟩ rfl rfl, mC_fm_entry l G2 T a b d hA.1⟩, ⟨hI, hJ, hA, hR, by omega, fun z => by omega⟩⟩
theorem lk_11 {l : Launch} {s : State} {b0 : Nat} {G2 : q_G} {w0 : Cond} (hts : ∀ w ∈ w0 :: q_gw lw_tbl, w.before #[.ref b0] s = true) : lw_ok11 mX G2 l s b0 mR_fm Pn := by
  intro n S T a hn hP
  obtain ⟨hI, hJ, hA, hR, h0, h6⟩ := id hP
  exact ⟨_, _, ⟨_, _, _, _, _, _, mc_law_68 (q_rm 1) hts ⟨Nat.le_of_ble_eq_true rfl, Nat.le_of_ble_eq_true rfl⟩ rfl rfl, mC_fm_line l G2 T a hA.1⟩, ⟨hI, hJ, hA, hR, by omega, fun z => by omega⟩⟩
theorem lk_12 {l : Launch} {s : State} {b0 : Nat} {G2 : q_G} {w0 : Cond} (hts : ∀ w ∈ w0 :: q_gw lw_tbl, w.before #[.ref b0] s = true) : lw_ok12 mX G2 l s b0 mR_fm Pn := by
  intro n S T a hn hP
  obtain ⟨hI, hJ, hA, hR, h0, h6⟩ := id hP
  exact ⟨_, _, ⟨_, _, _, _, _, _, mc_law_72 (q_rm 1) hts ⟨Nat.le_of_ble_eq_true rfl, Nat.le_of_ble_eq_true rfl⟩ rfl rfl, mC_fm_count l G2 T a hA.1⟩, ⟨hI, hJ, hA, hR, by omega, fun z => by omega⟩⟩
theorem lk_all {l : Launch} {s : State} {b0 : Nat} {G2 : q_G} {w0 : Cond} (hts : ∀ w ∈ w0 :: q_gw lw_tbl, w.before #[.ref b0] s = true) : lw_Oks mX G2 l s b0 mR_fm Pn :=
  ⟨fun n S T h => ⟨h.1, h.2.1⟩, fun n S T hn h => pn_s h h.1 h.2.1 h.2.2.1 h.2.2.2.1 rfl, lk_0 hts, lk_1 hts, lk_2 hts, lk_3 hts, lk_4 hts, lk_5 hts, lk_6 hts, lk_7 hts, lk_8 hts, lk_9 hts, lk_10 hts, lk_11 hts, lk_12 hts⟩
