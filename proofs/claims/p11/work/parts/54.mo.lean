/-! a going on leaves the other workflows -/
def mO (i : Nat) (S U : q_S) : Prop := ∀ x k : Nat, (x = 5 ∨ x = 6 ∨ x = 7 ∨ (9 ≤ x ∧ x ≤ 13) ∨ x = 15 ∨ x = 16 ∨ x = 20 ∨ x = 23 ∨ (26 ≤ x ∧ x ≤ 31)) → k ≠ i → U x 0 k = S x 0 k
theorem mO_r {i : Nat} {S : q_S} : mO i S S := fun _ _ _ _ => rfl
theorem mO_i {i j : Nat} {S U : q_S} {v : Value} (h : mO i S U) : mO i S (q_st U j 0 i v) := fun x k hx hk => (q_st_n U v (fun q => hk q.2.2)).trans (h x k hx hk)
theorem mO_j {i j l k0 : Nat} {S U : q_S} {v : Value} (hj : j = 0 ∨ j = 14 ∨ j = 17 ∨ j = 18 ∨ j = 19 ∨ j = 21 ∨ j = 22 ∨ j = 24 ∨ j = 25 ∨ j = 32 ∨ j = 33) (h : mO i S U) : mO i S (q_st U j l k0 v) := fun x k hx hk => (q_kj (by omega)).trans (h x k hx hk)
theorem mO_leave {i : Nat} {S U : q_S} {a : Int32} (h : mO i S U) : mO i S (m_fm_leaveLine U a) := fun x k hx hk => (mK_fm_leaveLine U a x 0 k (by omega) (by omega)).trans (h x k hx hk)
theorem mO_noTask {i : Nat} {S U : q_S} (h : mO i S U) : mO i S (m_fm_noTask U i) := by
  unfold m_fm_noTask
  refine mO_leave ?_
  intro x k hx hk
  rw [q_st_n _ _ (fun q => hk q.2.2), q_st_n _ _ (fun q => hk q.2.2), q_st_n _ _ (fun q => hk q.2.2)]
  exact h x k hx hk
theorem mO_new {i : Nat} {S U : q_S} {a : Int32} (h : mO i S U) : mO i S (m_fm_newTask U i a) := by
  unfold m_fm_newTask
  exact mO_j (by omega) (mO_j (by omega) (mO_i (mO_i (mO_i (mO_noTask h)))))
theorem mO_end {i : Nat} {S U : q_S} {a : Int32} (h : mO i S U) : mO i S (m_fm_end U i a) := by
  unfold m_fm_end
  split
  · exact mO_noTask (mO_j (by omega) (mO_i h))
  · exact mO_noTask (mO_j (by omega) (mO_i h))
theorem mO_break {i : Nat} {S U : q_S} (h : mO i S U) : mO i S (m_fm_breakUp U i) := by
  unfold m_fm_breakUp
  exact mO_end (mO_i h)
theorem mO_put {i : Nat} {S U : q_S} {a b d : Int32} (h : mO i S U) : mO i S (m_fm_put U i a b d).2 := by
  generalize hr : m_fm_put U i a b d = r
  unfold m_fm_put at hr
  repeat' split at hr
  · subst hr; exact mO_break h
  · subst hr; exact mO_i (mO_i (mO_j (by omega) (mO_j (by omega) (mO_j (by omega) h))))
  · subst hr; exact mO_i h
  · subst hr; exact mO_i (mO_i (mO_j (by omega) (mO_j (by omega) (mO_j (by omega) h))))
  · subst hr; exact mO_i h
  · subst hr; exact mO_break h
  · subst hr; exact mO_break h
  · subst hr; exact mO_break h
theorem mO_want {i : Nat} {S U : q_S} {a b d : Int32} (h : mO i S U) : mO i S (m_fm_want U i a b d) := by
  have h1 := mO_put (a := 2) (b := a) (d := b) h
  unfold m_fm_want
  repeat' split
  · exact h1
  · exact mO_new (mO_i (mO_i h1))
  · exact h1
  · exact mO_i (mO_i h1)
theorem mO_undo {i : Nat} {S U : q_S} (h : mO i S U) : mO i S (m_fm_undo U i) := by
  unfold m_fm_undo
  split
  · exact mO_end h
  · exact mO_want (mO_i h)
theorem mO_sleep {i : Nat} {S U : q_S} {a : Int32} (h : mO i S U) : mO i S (m_fm_sleep U i a) := by
  have h1 := mO_put (a := 5) (b := a) (d := 0) h
  unfold m_fm_sleep
  repeat' split
  · exact h1
  · exact mO_i (mO_i h1)
  · exact h1
  · exact mO_i h1
theorem mO_awaitL {i : Nat} {S : q_S} {a b : Int32} : ∀ (n : Nat) (U : q_S) (t : Nat), mO i S U → mO i S (m_fm_await_L0 n U i a b t) := by
  intro n
  induction n with
  | zero => intro U t h; exact h
  | succ n ih =>
    intro U t h
    rw [m_fm_await_L0]
    split
    · exact h
    · split
      · have h1 := mO_put (a := 7) (b := a) (d := q_i (U 25 0 (4 * i + t))) h
        generalize m_fm_put U i 7 a (q_i (U 25 0 (4 * i + t))) = P at h1 ⊢
        split
        · exact h1
        · refine mO_i (mO_i (mO_j (by omega) ?_))
          intro x k hx hk
          rw [m_aw1 _ _ _ _ _ _ _ _ _ _ (by omega)]
          exact mO_i h1 x k hx hk
      · exact ih U (t + 1) h
theorem mO_await {i : Nat} {S U : q_S} {a b : Int32} (h : mO i S U) : mO i S (m_fm_await U i a b) := by
  unfold m_fm_await
  split
  · exact mO_awaitL 5 _ 0 (mO_i h)
  · exact mO_i h
theorem mO_note {i : Nat} {S U : q_S} {a b : Int32} (h : mO i S U) : mO i S (m_fm_note U i a b) := by
  unfold m_fm_note
  split
  · exact mO_break h
  · exact mO_i (mO_i (mO_j (by omega) (mO_j (by omega) h)))
theorem mO_do {i : Nat} {S U : q_S} (h : mO i S U) (o a b : Int32) : mO i S (mDo U i o a b) := by
  unfold mDo
  repeat' split
  · exact mO_i (mO_j (by omega) h)
  · exact mO_i (mO_j (by omega) h)
  · exact mO_i (mO_j (by omega) h)
  · exact mO_i (mO_j (by omega) h)
  · exact mO_i h
  · exact mO_i h
  · exact mO_i h
  · exact mO_want h
  · exact mO_sleep h
  · exact mO_i h
  · exact mO_await h
  · exact mO_note h
  · exact mO_undo h
  · exact mO_end (mO_i h)
theorem mO_step {i : Nat} {S U : q_S} (h : mO i S U) : mO i S (m_fm_step U i) := by
  have hc : mO i S (mCnt U i) := by
    unfold mCnt
    split
    · exact mO_i (mO_j (by omega) h)
    · exact mO_i (mO_j (by omega) h)
  rw [m_step_eq]
  split
  · exact mO_do hc _ _ _
  · exact mO_do hc _ _ _
theorem mO_came {i : Nat} {S U : q_S} {a b : Int32} (h : mO i S U) : mO i S (m_fm_came U i a b) := by
  unfold m_fm_came
  repeat' split
  · exact mO_undo (mO_i (mO_i h))
  · exact mO_undo (mO_i (mO_i h))
  · exact mO_i (mO_i (mO_i h))
  · exact mO_i (mO_j (by omega) (mO_i (mO_i h)))
theorem mO_goOnL {i : Nat} {S : q_S} : ∀ (n : Nat) (U : q_S), mO i S U → mO i S (m_fm_goOn_L0 n U i) := by
  intro n
  induction n with
  | zero => intro U h; exact h
  | succ n ih =>
    intro U h
    rw [m_fm_goOn_L0]
    repeat' split
    · exact h
    · exact ih _ (mO_break h)
    · exact ih _ (mO_step h)
    · exact h
    · exact ih _ (mO_break h)
    · exact ih _ (mO_came (mO_i h))
theorem mO_goOn {i : Nat} {S U : q_S} (h : mO i S U) : mO i S (m_fm_goOn U i) := by
  unfold m_fm_goOn
  exact mO_goOnL _ _ h
theorem mO_begin {i : Nat} {S U : q_S} (h : mO i S U) : mO i S (m_fm_begin U i) := by
  unfold m_fm_begin
  refine mO_goOn (mO_i (mO_i (mO_i (mO_i (mO_i (mO_j (by omega) ?_))))))
  intro x k hx hk
  rw [mK_fm_begin_L0 5 U i 0 x 0 k (by omega)]
  exact h x k hx hk
theorem mO_remember {i : Nat} {S U : q_S} (h : mO i S U) : mO i S (m_fm_remember U i) := by
  unfold m_fm_remember
  split
  · exact h
  · exact mO_begin (mO_j (by omega) (mO_i h))
