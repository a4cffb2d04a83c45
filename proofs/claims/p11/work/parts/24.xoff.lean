/-! WHAT A GOING ON LEAVES: the programs, and all other workflows -/
def xOff (i : Nat) (S U : q_S) : Prop := ∀ x y z : Nat, 5 ≤ x → (x < 9 ∨ y ≠ i) → U x y z = S x y z
theorem xo_r {i : Nat} {S : q_S} : xOff i S S := fun _ _ _ _ _ => rfl
theorem xo_t {i : Nat} {S U V : q_S} (h : xOff i S U) (h2 : xOff i U V) : xOff i S V := fun x y z a b => (h2 x y z a b).trans (h x y z a b)
theorem xo_s {i j k : Nat} {S U : q_S} {v : Value} (hj : 9 ≤ j) (h : xOff i S U) : xOff i S (q_st U j i k v) := fun x y z a b => (q_st_n U v (fun q => by omega)).trans (h x y z a b)
theorem xo_c {i j i2 k : Nat} {S U : q_S} {v : Value} (hj : j < 5) (h : xOff i S U) : xOff i S (q_st U j i2 k v) := fun x y z a b => (q_st_n U v (fun q => by omega)).trans (h x y z a b)
theorem xo_append {i : Nat} {S U : q_S} {a : Int32} (h : xOff i S U) : xOff i S (x_tl_append U a) := fun x y z p q => (xK_tl_append U a x y z (by omega) (by omega)).trans (h x y z p q)
theorem xo_tdrop {i : Nat} {S U : q_S} {a : Int32} (h : xOff i S U) : xOff i S (x_tl_drop U a) := fun x y z p q => (xK_tl_drop U a x y z (by omega) (by omega)).trans (h x y z p q)
theorem xo_renew {i : Nat} {S U : q_S} {a : Int32} (h : xOff i S U) : xOff i S (x_ta_renew U i a) := by
  unfold x_ta_renew
  exact xo_s (by decide) (xo_s (by decide) (xo_s (by decide) (xo_s (by decide) (xo_s (by decide) h))))
theorem xo_pass {i : Nat} {S U : q_S} {a b d : Int32} (h : xOff i S U) : xOff i S (x_hi_pass U i a b d).2 := by
  unfold x_hi_pass
  repeat' split
  · exact xo_s (by decide) (xo_s (by decide) (xo_s (by decide) (xo_s (by decide) (xo_s (by decide) h))))
  · exact h
  · exact xo_s (by decide) h
  · exact h
  · exact h
  · exact h
theorem xo_want {i : Nat} {S U : q_S} {a b d : Int32} (h : xOff i S U) : xOff i S (x_fe_want U i a b d) := by
  unfold x_fe_want
  repeat' split
  · exact xo_s (by decide) (xo_pass h)
  · exact xo_append (xo_renew (xo_s (by decide) (xo_s (by decide) (xo_pass h))))
  · exact xo_s (by decide) (xo_pass h)
  · exact xo_s (by decide) (xo_s (by decide) (xo_pass h))
theorem xo_sleep {i : Nat} {S U : q_S} {a : Int32} (h : xOff i S U) : xOff i S (x_fe_sleep U i a) := by
  unfold x_fe_sleep
  repeat' split
  · exact xo_s (by decide) (xo_pass h)
  · exact xo_s (by decide) (xo_s (by decide) (xo_pass h))
  · exact xo_s (by decide) (xo_pass h)
  · exact xo_s (by decide) (xo_pass h)
  · exact xo_s (by decide) h
theorem xo_undo {i : Nat} {S U : q_S} (h : xOff i S U) : xOff i S (x_fe_undoLatest U i) := by
  unfold x_fe_undoLatest
  split
  · exact xo_want (xo_s (by decide) h)
  · exact xo_s (by decide) h
theorem xo_kdropL {i : Nat} {S : q_S} {a : Int32} : ∀ (n : Nat) (U : q_S) (t : Nat), xOff i S U → xOff i S (x_ke_drop_L0 n U i a t) := by
  intro n
  induction n with
  | zero => intro U t h; rw [x_ke_drop_L0]; exact h
  | succ n ih =>
    intro U t h
    rw [x_ke_drop_L0]
    split
    · exact h
    · exact ih _ _ (xo_s (by decide) (xo_s (by decide) h))
theorem xo_kdrop {i : Nat} {S U : q_S} {a : Int32} (h : xOff i S U) : xOff i S (x_ke_drop U i a) := by
  unfold x_ke_drop
  repeat' split
  · exact h
  · exact xo_s (by decide) (xo_kdropL _ _ _ h)
  · exact h
theorem xo_resume {i : Nat} {S U : q_S} {a b : Int32} (h : xOff i S U) : xOff i S (x_wf_resume U i a b) := by
  unfold x_wf_resume
  repeat' split
  · exact xo_s (by decide) (xo_s (by decide) h)
  · exact xo_s (by decide) (xo_s (by decide) h)
  · exact xo_s (by decide) (xo_s (by decide) (xo_s (by decide) h))
  · exact xo_s (by decide) h
theorem xo_await {i : Nat} {S U : q_S} {a : Int32} (h : xOff i S U) : xOff i S (x_fe_awaitSignal U i a) := by
  have h2 : xOff i S (q_st (q_st U 9 i 10 (.int 3)) 9 i 13 (.int a)) := xo_s (by decide) (xo_s (by decide) h)
  unfold x_fe_awaitSignal
  repeat' split
  · exact xo_s (by decide) (xo_pass h2)
  · exact xo_resume (xo_kdrop (xo_pass h2))
  · exact h2
  · exact h2
theorem xo_note {i : Nat} {S U : q_S} {a b : Int32} (h : xOff i S U) : xOff i S (x_wf_note U i a b) := by
  unfold x_wf_note
  split
  · exact xo_s (by decide) (xo_s (by decide) (xo_s (by decide) (xo_s (by decide) h)))
  · exact xo_s (by decide) h
theorem xo_comp {i : Nat} {S U : q_S} {o a b : Int32} (h : xOff i S U) : xOff i S (x_wf_compute U i o a b) := by
  unfold x_wf_compute
  repeat' split
  all_goals first | exact xo_s (by decide) (xo_s (by decide) h) | exact xo_s (by decide) h
theorem xo_cnt {i : Nat} {S U : q_S} (h : xOff i S U) : xOff i S (xCnt U i) := by
  unfold xCnt
  split
  · exact xo_c (by decide) (xo_s (by decide) h)
  · exact xo_c (by decide) (xo_s (by decide) h)
theorem xo_do {i : Nat} {S U : q_S} {o a b : Int32} (h : xOff i S U) : xOff i S (xDo U i o a b) := by
  unfold xDo
  repeat' split
  · exact xo_want (xo_s (by decide) h)
  · exact xo_sleep h
  · exact xo_await (xo_s (by decide) h)
  · exact xo_note h
  · exact xo_s (by decide) h
  · exact xo_s (by decide) (xo_s (by decide) h)
  · exact xo_comp h
theorem xo_step {i : Nat} {S U : q_S} (h : xOff i S U) : xOff i S (x_fe_step U i) := by
  rw [x_step_eq]
  split
  · exact xo_do (xo_cnt h)
  · exact xo_s (by decide) h
theorem xo_meet {i : Nat} {S U : q_S} (h : xOff i S U) : xOff i S (x_wf_meetNext U i) := by
  unfold x_wf_meetNext
  repeat' split
  · exact h
  · exact xo_s (by decide) h
  · exact xo_resume (xo_s (by decide) (xo_s (by decide) h))
  · exact h
  · exact h
theorem xo_it {i : Nat} {S U : q_S} (h : xOff i S U) : xOff i S (xIt U i) := by
  unfold xIt
  repeat' split
  · exact xo_step h
  · exact xo_meet (xo_step h)
  · exact xo_undo h
  · exact xo_meet (xo_undo h)
theorem xo_Run {i : Nat} {S : q_S} : ∀ (n : Nat) (U : q_S), xOff i S U → xOff i S (xRun n U i) := by
  intro n
  induction n with
  | zero => intro U h; exact h
  | succ n ih =>
    intro U h
    rw [xRun]
    split
    · exact ih _ (xo_it h)
    · exact h
theorem xo_dropTask {i : Nat} {S U : q_S} (h : xOff i S U) : xOff i S (x_fe_dropTask U i) := by
  unfold x_fe_dropTask
  exact xo_renew (xo_tdrop h)
theorem xo_finish {i : Nat} {S U : q_S} (h : xOff i S U) : xOff i S (x_fe_finish U i) := by
  unfold x_fe_finish
  repeat' split
  · exact xo_dropTask (xo_c (by decide) h)
  · exact xo_dropTask (xo_c (by decide) h)
  · exact xo_dropTask (xo_c (by decide) h)
  · exact xo_dropTask (xo_c (by decide) (xo_s (by decide) h))
theorem xo_runL {i : Nat} {S : q_S} : ∀ (n : Nat) (U : q_S) (t : Nat), xOff i S U → xOff i S (x_fe_run_L0 n U i t) := by
  intro n
  induction n with
  | zero => intro U t h; rw [x_fe_run_L0]; exact h
  | succ n ih =>
    intro U t h
    rw [x_run_it]
    repeat' split
    · exact h
    · exact ih _ _ (xo_it h)
    · exact h
theorem xo_run {i : Nat} {S U : q_S} (h : xOff i S U) : xOff i S (x_fe_run U i) := by
  unfold x_fe_run
  split
  · exact xo_runL _ _ _ h
  · exact xo_finish (xo_runL _ _ _ h)
theorem xo_rewind {i : Nat} {S U : q_S} (h : xOff i S U) : xOff i S (x_wf_rewind U i) := by
  unfold x_wf_rewind
  repeat refine xo_s (by decide) ?_
  exact h
theorem xo_begin {i : Nat} {S U : q_S} {a b : Int32} (h : xOff i S U) : xOff i S (x_wf_begin U i a b) := by
  unfold x_wf_begin
  refine xo_rewind (xo_pass ?_)
  repeat refine xo_s (by decide) ?_
  exact h
theorem xo_happen {i : Nat} {S U : q_S} {a b d : Int32} (h : xOff i S U) : xOff i S (x_fe_happen U i a b d) := by
  unfold x_fe_happen
  repeat' split
  · exact h
  · exact xo_run (xo_s (by decide) (xo_pass h))
  · exact xo_run (xo_resume (xo_s (by decide) (xo_dropTask (xo_c (by decide) (xo_pass h)))))
  · exact xo_run (xo_resume (xo_s (by decide) (xo_dropTask (xo_pass h))))
theorem xo_remember {i : Nat} {S U : q_S} (h : xOff i S U) : xOff i S (x_fe_remember U i) := by
  unfold x_fe_remember
  split
  · exact h
  · exact xo_run (xo_rewind (xo_c (by decide) h))
theorem xo_goWrong {i : Nat} {S U : q_S} (h : xOff i S U) : xOff i S (x_fe_goWrong U i) := by
  unfold x_fe_goWrong
  split
  · unfold x_ta_comeBack
    exact xo_append (xo_s (by decide) (xo_s (by decide) h))
  · exact xo_happen (xo_remember h)
