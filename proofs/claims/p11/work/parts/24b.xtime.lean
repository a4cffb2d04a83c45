/-! the time stands while a workflow goes on -/
def xTm (i : Nat) (S U : q_S) : Prop := U 0 0 3 = S 0 0 3
theorem xt_r {i : Nat} {S : q_S} : xTm i S S := rfl
theorem xt_s {i j k : Nat} {S U : q_S} {v : Value} (hj : 9 ≤ j) (h : xTm i S U) : xTm i S (q_st U j i k v) := (q_kj (by omega)).trans h
theorem xt_c {i j i2 k : Nat} {S U : q_S} {v : Value} (hj : ¬ (j = 0 ∧ k = 3)) (h : xTm i S U) : xTm i S (q_st U j i2 k v) := (q_st_n U v (by omega)).trans h
theorem xt_append {i : Nat} {S U : q_S} {a : Int32} (h : xTm i S U) : xTm i S (x_tl_append U a) := (xK_tl_append U a 0 0 3 (by decide) (by decide)).trans h
theorem xt_tdrop {i : Nat} {S U : q_S} {a : Int32} (h : xTm i S U) : xTm i S (x_tl_drop U a) := (xK_tl_drop U a 0 0 3 (by decide) (by decide)).trans h
theorem xt_renew {i : Nat} {S U : q_S} {a : Int32} (h : xTm i S U) : xTm i S (x_ta_renew U i a) := by
  unfold x_ta_renew
  exact xt_s (by decide) (xt_s (by decide) (xt_s (by decide) (xt_s (by decide) (xt_s (by decide) h))))
theorem xt_pass {i : Nat} {S U : q_S} {a b d : Int32} (h : xTm i S U) : xTm i S (x_hi_pass U i a b d).2 := by
  unfold x_hi_pass
  repeat' split
  · exact xt_s (by decide) (xt_s (by decide) (xt_s (by decide) (xt_s (by decide) (xt_s (by decide) h))))
  · exact h
  · exact xt_s (by decide) h
  · exact h
  · exact h
  · exact h
theorem xt_want {i : Nat} {S U : q_S} {a b d : Int32} (h : xTm i S U) : xTm i S (x_fe_want U i a b d) := by
  unfold x_fe_want
  repeat' split
  · exact xt_s (by decide) (xt_pass h)
  · exact xt_append (xt_renew (xt_s (by decide) (xt_s (by decide) (xt_pass h))))
  · exact xt_s (by decide) (xt_pass h)
  · exact xt_s (by decide) (xt_s (by decide) (xt_pass h))
theorem xt_sleep {i : Nat} {S U : q_S} {a : Int32} (h : xTm i S U) : xTm i S (x_fe_sleep U i a) := by
  unfold x_fe_sleep
  repeat' split
  · exact xt_s (by decide) (xt_pass h)
  · exact xt_s (by decide) (xt_s (by decide) (xt_pass h))
  · exact xt_s (by decide) (xt_pass h)
  · exact xt_s (by decide) (xt_pass h)
  · exact xt_s (by decide) h
theorem xt_undo {i : Nat} {S U : q_S} (h : xTm i S U) : xTm i S (x_fe_undoLatest U i) := by
  unfold x_fe_undoLatest
  split
  · exact xt_want (xt_s (by decide) h)
  · exact xt_s (by decide) h
theorem xt_kdropL {i : Nat} {S : q_S} {a : Int32} : ∀ (n : Nat) (U : q_S) (t : Nat), xTm i S U → xTm i S (x_ke_drop_L0 n U i a t) := by
  intro n
  induction n with
  | zero => intro U t h; rw [x_ke_drop_L0]; exact h
  | succ n ih =>
    intro U t h
    rw [x_ke_drop_L0]
    split
    · exact h
    · exact ih _ _ (xt_s (by decide) (xt_s (by decide) h))
theorem xt_kdrop {i : Nat} {S U : q_S} {a : Int32} (h : xTm i S U) : xTm i S (x_ke_drop U i a) := by
  unfold x_ke_drop
  repeat' split
  · exact h
  · exact xt_s (by decide) (xt_kdropL _ _ _ h)
  · exact h
theorem xt_resume {i : Nat} {S U : q_S} {a b : Int32} (h : xTm i S U) : xTm i S (x_wf_resume U i a b) := by
  unfold x_wf_resume
  repeat' split
  · exact xt_s (by decide) (xt_s (by decide) h)
  · exact xt_s (by decide) (xt_s (by decide) h)
  · exact xt_s (by decide) (xt_s (by decide) (xt_s (by decide) h))
  · exact xt_s (by decide) h
theorem xt_await {i : Nat} {S U : q_S} {a : Int32} (h : xTm i S U) : xTm i S (x_fe_awaitSignal U i a) := by
  have h2 : xTm i S (q_st (q_st U 9 i 10 (.int 3)) 9 i 13 (.int a)) := xt_s (by decide) (xt_s (by decide) h)
  unfold x_fe_awaitSignal
  repeat' split
  · exact xt_s (by decide) (xt_pass h2)
  · exact xt_resume (xt_kdrop (xt_pass h2))
  · exact h2
  · exact h2
theorem xt_note {i : Nat} {S U : q_S} {a b : Int32} (h : xTm i S U) : xTm i S (x_wf_note U i a b) := by
  unfold x_wf_note
  split
  · exact xt_s (by decide) (xt_s (by decide) (xt_s (by decide) (xt_s (by decide) h)))
  · exact xt_s (by decide) h
theorem xt_comp {i : Nat} {S U : q_S} {o a b : Int32} (h : xTm i S U) : xTm i S (x_wf_compute U i o a b) := by
  unfold x_wf_compute
  repeat' split
  all_goals first | exact xt_s (by decide) (xt_s (by decide) h) | exact xt_s (by decide) h
theorem xt_cnt {i : Nat} {S U : q_S} (h : xTm i S U) : xTm i S (xCnt U i) := by
  unfold xCnt
  split
  · exact xt_c (by decide) (xt_s (by decide) h)
  · exact xt_c (by decide) (xt_s (by decide) h)
theorem xt_do {i : Nat} {S U : q_S} {o a b : Int32} (h : xTm i S U) : xTm i S (xDo U i o a b) := by
  unfold xDo
  repeat' split
  · exact xt_want (xt_s (by decide) h)
  · exact xt_sleep h
  · exact xt_await (xt_s (by decide) h)
  · exact xt_note h
  · exact xt_s (by decide) h
  · exact xt_s (by decide) (xt_s (by decide) h)
  · exact xt_comp h
theorem xt_step {i : Nat} {S U : q_S} (h : xTm i S U) : xTm i S (x_fe_step U i) := by
  rw [x_step_eq]
  split
  · exact xt_do (xt_cnt h)
  · exact xt_s (by decide) h
theorem xt_meet {i : Nat} {S U : q_S} (h : xTm i S U) : xTm i S (x_wf_meetNext U i) := by
  unfold x_wf_meetNext
  repeat' split
  · exact h
  · exact xt_s (by decide) h
  · exact xt_resume (xt_s (by decide) (xt_s (by decide) h))
  · exact h
  · exact h
theorem xt_it {i : Nat} {S U : q_S} (h : xTm i S U) : xTm i S (xIt U i) := by
  unfold xIt
  repeat' split
  · exact xt_step h
  · exact xt_meet (xt_step h)
  · exact xt_undo h
  · exact xt_meet (xt_undo h)
theorem xt_Run {i : Nat} {S : q_S} : ∀ (n : Nat) (U : q_S), xTm i S U → xTm i S (xRun n U i) := by
  intro n
  induction n with
  | zero => intro U h; exact h
  | succ n ih =>
    intro U h
    rw [xRun]
    split
    · exact ih _ (xt_it h)
    · exact h
theorem xt_dropTask {i : Nat} {S U : q_S} (h : xTm i S U) : xTm i S (x_fe_dropTask U i) := by
  unfold x_fe_dropTask
  exact xt_renew (xt_tdrop h)
theorem xt_finish {i : Nat} {S U : q_S} (h : xTm i S U) : xTm i S (x_fe_finish U i) := by
  unfold x_fe_finish
  repeat' split
  · exact xt_dropTask (xt_c (by decide) h)
  · exact xt_dropTask (xt_c (by decide) h)
  · exact xt_dropTask (xt_c (by decide) h)
  · exact xt_dropTask (xt_c (by decide) (xt_s (by decide) h))
theorem xt_runL {i : Nat} {S : q_S} : ∀ (n : Nat) (U : q_S) (t : Nat), xTm i S U → xTm i S (x_fe_run_L0 n U i t) := by
  intro n
  induction n with
  | zero => intro U t h; rw [x_fe_run_L0]; exact h
  | succ n ih =>
    intro U t h
    rw [x_run_it]
    repeat' split
    · exact h
    · exact ih _ _ (xt_it h)
    · exact h
theorem xt_run {i : Nat} {S U : q_S} (h : xTm i S U) : xTm i S (x_fe_run U i) := by
  unfold x_fe_run
  split
  · exact xt_runL _ _ _ h
  · exact xt_finish (xt_runL _ _ _ h)
theorem xt_rewind {i : Nat} {S U : q_S} (h : xTm i S U) : xTm i S (x_wf_rewind U i) := by
  unfold x_wf_rewind
  repeat refine xt_s (by decide) ?_
  exact h
theorem xt_begin {i : Nat} {S U : q_S} {a b : Int32} (h : xTm i S U) : xTm i S (x_wf_begin U i a b) := by
  unfold x_wf_begin
  refine xt_rewind (xt_pass ?_)
  repeat refine xt_s (by decide) ?_
  exact h
theorem xt_happen {i : Nat} {S U : q_S} {a b d : Int32} (h : xTm i S U) : xTm i S (x_fe_happen U i a b d) := by
  unfold x_fe_happen
  repeat' split
  · exact h
  · exact xt_run (xt_s (by decide) (xt_pass h))
  · exact xt_run (xt_resume (xt_s (by decide) (xt_dropTask (xt_c (by decide) (xt_pass h)))))
  · exact xt_run (xt_resume (xt_s (by decide) (xt_dropTask (xt_pass h))))
theorem xt_remember {i : Nat} {S U : q_S} (h : xTm i S U) : xTm i S (x_fe_remember U i) := by
  unfold x_fe_remember
  split
  · exact h
  · exact xt_run (xt_rewind (xt_c (by decide) h))
theorem xt_goWrong {i : Nat} {S U : q_S} (h : xTm i S U) : xTm i S (x_fe_goWrong U i) := by
  unfold x_fe_goWrong
  split
  · unfold x_ta_comeBack
    exact xt_append (xt_s (by decide) (xt_s (by decide) h))
  · exact xt_happen (xt_remember h)
