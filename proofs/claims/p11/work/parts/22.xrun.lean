/-- an instruction done: counted, then what it says -/
def xCnt (S : q_S) (i : Nat) : q_S := if x_hi_isLeft S i = 0 then q_st (q_st S 9 i 12 (.int (q_i (S 9 i 12) + 1))) 0 0 4 (.int (q_i (S 0 0 4) + 1)) else q_st (q_st S 9 i 12 (.int (q_i (S 9 i 12) + 1))) 0 0 5 (.int (q_i (S 0 0 5) + 1))
def xDo (U : q_S) (i : Nat) (op a b : Int32) : q_S :=
  if op = 5 then x_fe_want (q_st U 9 i 14 (.int b)) i 1 a (q_i (U 10 i b.toNatClampNeg))
  else if op = 6 then x_fe_sleep U i (q_i (U 10 i a.toNatClampNeg))
  else if op = 7 then x_fe_awaitSignal (q_st U 9 i 14 (.int b)) i a
  else if op = 8 then x_wf_note U i a (q_i (U 10 i b.toNatClampNeg))
  else if op = 9 then q_st U 9 i 8 (.int 1)
  else if op = 10 then q_st (q_st U 9 i 15 (.int (q_i (U 10 i a.toNatClampNeg)))) 9 i 10 (.int 5)
  else x_wf_compute U i op a b
theorem xCnt_o (S : q_S) (i a b d : Nat) (h9 : a ≠ 9) (h0 : a ≠ 0) : xCnt S i a b d = S a b d := by
  unfold xCnt
  split
  · exact (q_kj h0).trans (q_kj h9)
  · exact (q_kj h0).trans (q_kj h9)
theorem xCnt_9 (S : q_S) (i b d : Nat) (h : d ≠ 12) : xCnt S i 9 b d = S 9 b d := by
  unfold xCnt
  split
  · rw [q_kj (by decide), q_st_n S _ (fun q => h q.2.2)]
  · rw [q_kj (by decide), q_st_n S _ (fun q => h q.2.2)]
theorem xCnt_st (S : q_S) (i : Nat) : q_i (xCnt S i 9 i 12) = q_i (S 9 i 12) + 1 := by
  unfold xCnt
  split
  · rw [q_kj (by decide), q_ss]
  · rw [q_kj (by decide), q_ss]
set_option maxHeartbeats 1000000 in
theorem x_step_eq (S : q_S) (i : Nat) : x_fe_step S i = if q_i (S 9 i 12) < 60 then xDo (xCnt S i) i (x_pr_opAt S ((q_i (S 9 i 9)).toNatClampNeg) (q_i (S 9 i 11))) (x_pr_firstAt S ((q_i (S 9 i 9)).toNatClampNeg) (q_i (S 9 i 11))) (x_pr_secondAt S ((q_i (S 9 i 9)).toNatClampNeg) (q_i (S 9 i 11))) else q_st S 9 i 10 (.int 7) := by
  have hl : x_hi_isLeft (q_st S 9 i 12 (.int (q_i (S 9 i 12) + 1))) i = x_hi_isLeft S i := by
    unfold x_hi_isLeft
    rw [q_kj (by decide), q_kj (by decide)]
  unfold x_fe_step
  by_cases h1 : q_i (S 9 i 12) < 60
  · rw [if_pos h1, if_pos h1, hl]
    by_cases h2 : x_hi_isLeft S i = 0
    · rw [if_pos h2]
      have hU : xCnt S i = q_st (q_st S 9 i 12 (.int (q_i (S 9 i 12) + 1))) 0 0 4 (.int (q_i (S 0 0 4) + 1)) := by unfold xCnt; rw [if_pos h2]
      rw [← hU]
      obtain ⟨e1, e2, e3⟩ := xJ_opAt (S := S) (S' := xCnt S i) (fun a b d h => xCnt_o S i a b d (by omega) (by omega)) ((q_i (S 9 i 9)).toNatClampNeg) (q_i (S 9 i 11))
      rw [e1, e2, e3]
      unfold xDo
      rw [xCnt_o S i 10 _ _ (by decide) (by decide), xCnt_o S i 10 _ _ (by decide) (by decide)]
    · rw [if_neg h2]
      have hU : xCnt S i = q_st (q_st S 9 i 12 (.int (q_i (S 9 i 12) + 1))) 0 0 5 (.int (q_i (S 0 0 5) + 1)) := by unfold xCnt; rw [if_neg h2]
      rw [← hU]
      obtain ⟨e1, e2, e3⟩ := xJ_opAt (S := S) (S' := xCnt S i) (fun a b d h => xCnt_o S i a b d (by omega) (by omega)) ((q_i (S 9 i 9)).toNatClampNeg) (q_i (S 9 i 11))
      rw [e1, e2, e3]
      unfold xDo
      rw [xCnt_o S i 10 _ _ (by decide) (by decide), xCnt_o S i 10 _ _ (by decide) (by decide)]
  · rw [if_neg h1, if_neg h1]
theorem xp_want12 (S : q_S) (i : Nat) (a b d : Int32) : x_fe_want S i a b d 9 i 12 = S 9 i 12 := by
  unfold x_fe_want
  repeat' split
  · rw [q_st_n _ _ (by simp), xp_pass9]
  · rw [xK_tl_append _ _ 9 i 12 (by decide) (by decide)]
    unfold x_ta_renew
    rw [q_kj (by decide), q_kj (by decide), q_kj (by decide), q_kj (by decide), q_kj (by decide), q_st_n _ _ (by simp), q_st_n _ _ (by simp), xp_pass9]
  · rw [q_st_n _ _ (by simp), xp_pass9]
  · rw [q_st_n _ _ (by simp), q_st_n _ _ (by simp), xp_pass9]
theorem xp_sleep {S : q_S} {i : Nat} (hI : xI S) (a : Int32) : xl (x_fe_sleep S i a) i ≤ xl S i ∧ x_fe_sleep S i a 9 i 12 = S 9 i 12 := by
  have hp := xp_pass (i := i) hI 5 a 0
  have e : ∀ (S1 : q_S) (k : Nat) (v : Value), k ≠ 12 → (q_st S1 9 i k v) 9 i 12 = S1 9 i 12 := fun S1 k v h => q_st_n _ _ (fun q => h q.2.2.symm)
  unfold x_fe_sleep
  repeat' split
  · rw [xl_eq (S := (x_hi_pass S i 5 a 0).2) (fun k => q_kj (by decide)), e _ _ _ (by decide), xp_pass9]
    exact ⟨hp, rfl⟩
  · rw [xl_eq (S := (x_hi_pass S i 5 a 0).2) (fun k => (q_kj (by decide)).trans (q_kj (by decide))), e _ _ _ (by decide), e _ _ _ (by decide), xp_pass9]
    exact ⟨hp, rfl⟩
  · rw [xl_eq (S := (x_hi_pass S i 5 a 0).2) (fun k => q_kj (by decide)), e _ _ _ (by decide), xp_pass9]
    exact ⟨hp, rfl⟩
  · rw [xl_eq (S := (x_hi_pass S i 5 a 0).2) (fun k => q_kj (by decide)), e _ _ _ (by decide), xp_pass9]
    exact ⟨hp, rfl⟩
  · rw [xl_eq (S := S) (fun k => q_kj (by decide)), e _ _ _ (by decide)]
    exact ⟨Nat.le_refl _, rfl⟩
theorem xp_kdrop (S : q_S) (i : Nat) (a : Int32) (x y z : Nat) (h : x = 9 ∨ x = 11) : x_ke_drop S i a x y z = S x y z := xK_ke_drop S i a x y z (by omega) (by omega) (by omega)
theorem xp_await {S : q_S} {i : Nat} (hI : xI S) (a : Int32) : xl (x_fe_awaitSignal S i a) i ≤ xl S i ∧ x_fe_awaitSignal S i a 9 i 12 = S 9 i 12 := by
  obtain ⟨U, hU⟩ : ∃ U, U = q_st (q_st S 9 i 10 (.int 3)) 9 i 13 (.int a) := ⟨_, rfl⟩
  have hIU : xI U := by rw [hU]; exact q_Is (q_Is hI rfl) rfl
  have hl : xl U i = xl S i := by rw [hU]; exact xl_eq (fun k => (q_kj (by decide)).trans (q_kj (by decide)))
  have h12 : U 9 i 12 = S 9 i 12 := by rw [hU, q_st_n _ _ (by simp), q_st_n _ _ (by simp)]
  unfold x_fe_awaitSignal
  rw [← hU, ← hl, ← h12]
  have e : ∀ (S1 : q_S) (k : Nat) (v : Value), k ≠ 12 → (q_st S1 9 i k v) 9 i 12 = S1 9 i 12 := fun S1 k v h => q_st_n _ _ (fun q => h q.2.2.symm)
  repeat' split
  · rw [xl_eq (S := (x_hi_pass U i 7 a _).2) (fun k => q_kj (by decide)), e _ _ _ (by decide), xp_pass9]
    exact ⟨xp_pass hIU _ _ _, rfl⟩
  · rw [xl_eq (xp_resume _ i _ _).1, (xp_resume _ i _ _).2, xl_eq (S := (x_hi_pass U i 7 a _).2) (fun k => xp_kdrop _ _ _ _ _ _ (Or.inr rfl)), xp_kdrop _ _ _ _ _ _ (Or.inl rfl), xp_pass9]
    exact ⟨xp_pass hIU _ _ _, rfl⟩
  · exact ⟨Nat.le_refl _, rfl⟩
  · exact ⟨Nat.le_refl _, rfl⟩
theorem xp_note (S : q_S) (i : Nat) (a b : Int32) : xl (x_wf_note S i a b) i ≤ xl S i ∧ x_wf_note S i a b 9 i 12 = S 9 i 12 := by
  unfold x_wf_note
  split
  · exact ⟨Nat.le_of_eq (xl_eq (fun k => by simp [q_st])), by simp [q_st]⟩
  · exact ⟨Nat.le_of_eq (xl_eq (fun k => by simp [q_st])), by simp [q_st]⟩
theorem xp_comp (S : q_S) (i : Nat) (o a b : Int32) : xl (x_wf_compute S i o a b) i ≤ xl S i ∧ x_wf_compute S i o a b 9 i 12 = S 9 i 12 := by
  unfold x_wf_compute
  repeat' split
  all_goals exact ⟨Nat.le_of_eq (xl_eq (fun k => by simp [q_st])), by simp [q_st]⟩
theorem xp_do {U : q_S} {i : Nat} (hI : xI U) (op a b : Int32) (hb : op = 5 ∨ op = 7 → 0 ≤ b.toInt ∧ b.toInt ≤ 3) : xl (xDo U i op a b) i ≤ xl U i ∧ xDo U i op a b 9 i 12 = U 9 i 12 := by
  have e : ∀ (S1 : q_S) (k : Nat) (v : Value), k ≠ 12 → (q_st S1 9 i k v) 9 i 12 = S1 9 i 12 := fun S1 k v h => q_st_n _ _ (fun q => h q.2.2.symm)
  have el : ∀ (S1 : q_S) (k : Nat) (v : Value), xl (q_st S1 9 i k v) i = xl S1 i := fun S1 k v => xl_eq (fun _ => q_kj (by decide))
  unfold xDo
  repeat' split
  · rename_i h
    have h2 := hb (Or.inl h)
    have h3 := xp_want (i := i) (xI_st hI (j := 9) (i := i) (k := 14) (x := b) h2) 1 a (q_i (U 10 i b.toNatClampNeg)) (by decide)
    rw [xp_want12, e _ _ _ (by decide)]
    rw [el] at h3
    exact ⟨h3.2, rfl⟩
  · exact xp_sleep hI _
  · rename_i h
    have h2 := hb (Or.inr h)
    have h3 := xp_await (i := i) (xI_st hI (j := 9) (i := i) (k := 14) (x := b) h2) a
    rw [el, e _ _ _ (by decide)] at h3
    exact h3
  · exact xp_note _ _ _ _
  · rw [el, e _ _ _ (by decide)]
    exact ⟨Nat.le_refl _, rfl⟩
  · rw [el, el, e _ _ _ (by decide), e _ _ _ (by decide)]
    exact ⟨Nat.le_refl _, rfl⟩
  · exact xp_comp _ _ _ _ _
theorem xCnt_I {S : q_S} {i : Nat} (hI : xI S) (h : q_i (S 9 i 12) < 60) : xI (xCnt S i) := by
  have b1 : 0 ≤ (q_i (S 9 i 12)).toInt ∧ (q_i (S 9 i 12)).toInt ≤ 60 := hI 9 i 12
  have e1 := q_inc (x := q_i (S 9 i 12)) (by omega)
  rw [Int32.lt_iff_toInt_lt] at h
  have h : (q_i (S 9 i 12)).toInt < 60 := h
  unfold xCnt
  split
  · exact q_Is (xI_st hI (by rw [e1]; show (0 : Int) ≤ _ ∧ _ ≤ (60 : Int); omega)) rfl
  · exact q_Is (xI_st hI (by rw [e1]; show (0 : Int) ≤ _ ∧ _ ≤ (60 : Int); omega)) rfl
theorem xCnt_l (S : q_S) (i : Nat) : xl (xCnt S i) i = xl S i := xl_eq (fun _ => xCnt_o S i _ _ _ (by decide) (by decide))
/-- a step: it waits or has ended, or one step more is counted -/
theorem xp_step {S : q_S} {i : Nat} (hI : xI S) (hJ : xJ S) (hi : i < 6) : xl (x_fe_step S i) i ≤ xl S i ∧ (q_i (x_fe_step S i 9 i 10) = 0 → (q_i (x_fe_step S i 9 i 12)).toInt = (q_i (S 9 i 12)).toInt + 1) := by
  rw [x_step_eq]
  have b1 : 0 ≤ (q_i (S 9 i 12)).toInt ∧ (q_i (S 9 i 12)).toInt ≤ 60 := hI 9 i 12
  have b2 : 0 ≤ (q_i (S 9 i 9)).toInt ∧ (q_i (S 9 i 9)).toInt ≤ 2 := hI 9 i 9
  have e1 := q_inc (x := q_i (S 9 i 12)) (by omega)
  split
  · rename_i h
    have hp : (q_i (S 9 i 9)).toNatClampNeg < 3 := by
      have := q_cl (a := q_i (S 9 i 9)) (by rw [Int32.lt_iff_toInt_lt]; show ¬ _ < (0 : Int); omega)
      omega
    have h2 := xp_do (i := i) (xCnt_I (i := i) hI h) (x_pr_opAt S ((q_i (S 9 i 9)).toNatClampNeg) (q_i (S 9 i 11))) (x_pr_firstAt S ((q_i (S 9 i 9)).toNatClampNeg) (q_i (S 9 i 11))) (x_pr_secondAt S ((q_i (S 9 i 9)).toNatClampNeg) (q_i (S 9 i 11))) (by
      rintro (q | q)
      · exact xV_bd (xJ_b hJ hp q (by decide))
      · exact xV_bd (xJ_b hJ hp q (by decide)))
    rw [xCnt_l] at h2
    refine ⟨h2.1, fun _ => ?_⟩
    rw [h2.2, xCnt_st, e1]
  · refine ⟨Nat.le_of_eq (xl_eq (fun _ => q_kj (by decide))), fun h => ?_⟩
    rw [q_ss] at h
    exact absurd h (by decide)
