/-! entries written stay, signals kept do not become more, in a going on -/
def mH (i : Nat) (S U : q_S) : Prop := (q_i (S 15 0 i)).toInt ≤ (q_i (U 15 0 i)).toInt ∧ (q_i (U 23 0 i)).toInt ≤ (q_i (S 23 0 i)).toInt
theorem mH_r {i : Nat} {S : q_S} : mH i S S := ⟨Int.le_refl _, Int.le_refl _⟩
theorem mH_t {i : Nat} {S U V : q_S} (h : mH i S U) (h2 : mH i U V) : mH i S V := ⟨Int.le_trans h.1 h2.1, Int.le_trans h2.2 h.2⟩
theorem mH_e {i : Nat} {S U V : q_S} (h : mH i S U) (h1 : V 15 0 i = U 15 0 i) (h2 : V 23 0 i = U 23 0 i) : mH i S V := by
  unfold mH
  rw [h1, h2]
  exact h
theorem mH_s {i j k l : Nat} {S U : q_S} {v : Value} (h1 : j ≠ 15) (h2 : j ≠ 23) (h : mH i S U) : mH i S (q_st U j k l v) := mH_e h (q_kj (Ne.symm h1)) (q_kj (Ne.symm h2))
theorem mH_noTask {i k : Nat} {S U : q_S} (h : mH i S U) : mH i S (m_fm_noTask U k) := mH_e h (mK_fm_noTask U k 15 0 i (by decide) (by decide) (by decide) (by decide) (by decide)) (mK_fm_noTask U k 23 0 i (by decide) (by decide) (by decide) (by decide) (by decide))
theorem mH_new {i k : Nat} {S U : q_S} {a : Int32} (h : mH i S U) : mH i S (m_fm_newTask U k a) := mH_e h (m_new_o 15 0 i (by omega)) (m_new_o 23 0 i (by omega))
theorem mH_end {i k : Nat} {S U : q_S} {a : Int32} (h : mH i S U) : mH i S (m_fm_end U k a) := by
  unfold m_fm_end
  split
  · exact mH_noTask (mH_s (by decide) (by decide) (mH_s (by decide) (by decide) h))
  · exact mH_noTask (mH_s (by decide) (by decide) (mH_s (by decide) (by decide) h))
theorem mH_break {i k : Nat} {S U : q_S} (h : mH i S U) : mH i S (m_fm_breakUp U k) := by
  unfold m_fm_breakUp
  exact mH_end (mH_s (by decide) (by decide) h)
theorem mH_put {i : Nat} {S U : q_S} {a b d : Int32} (hI : mI U) (h : mH i S U) : mH i S (m_fm_put U i a b d).2 := by
  have b1 : 0 ≤ (q_i (U 15 0 i)).toInt ∧ (q_i (U 15 0 i)).toInt ≤ 20 := hI 15 0 i
  have e1 := q_inc (x := q_i (U 15 0 i)) (by omega)
  have W1 : ∀ (u v w x : Value) (k1 k2 k3 : Nat), mH i S (q_st (q_st (q_st (q_st (q_st U 17 0 k1 u) 18 0 k2 v) 19 0 k3 w) 15 0 i (.int (q_i (U 15 0 i) + 1))) 16 0 i x) := by
    intro u v w x k1 k2 k3
    refine mH_s (by decide) (by decide) ⟨?_, ?_⟩
    · rw [q_ss, e1]
      have := h.1
      omega
    · rw [q_kj (by decide), q_kj (by decide), q_kj (by decide), q_kj (by decide)]
      exact h.2
  generalize hr : m_fm_put U i a b d = r
  unfold m_fm_put at hr
  repeat' split at hr
  · subst hr; exact mH_break h
  · subst hr; exact W1 _ _ _ _ _ _ _
  · subst hr; exact mH_s (by decide) (by decide) h
  · subst hr; exact W1 _ _ _ _ _ _ _
  · subst hr; exact mH_s (by decide) (by decide) h
  · subst hr; exact mH_break h
  · subst hr; exact mH_break h
  · subst hr; exact mH_break h
theorem mH_want {i : Nat} {S U : q_S} {a b d : Int32} (hI : mI U) (h : mH i S U) : mH i S (m_fm_want U i a b d) := by
  have h1 := mH_put (a := 2) (b := a) (d := b) hI h
  unfold m_fm_want
  repeat' split
  · exact h1
  · exact mH_new (mH_s (by decide) (by decide) (mH_s (by decide) (by decide) h1))
  · exact h1
  · exact mH_s (by decide) (by decide) (mH_s (by decide) (by decide) h1)
theorem mH_undo {i : Nat} {S U : q_S} (hI : mI U) (h : mH i S U) : mH i S (m_fm_undo U i) := by
  unfold m_fm_undo
  split
  · exact mH_end h
  · rename_i hn
    have b1 : 0 ≤ (q_i (U 20 0 i)).toInt ∧ (q_i (U 20 0 i)).toInt ≤ 6 := hI 20 0 i
    have hn := lv_neT hn (a := 0) (by decide)
    have e1 := q_dec (x := q_i (U 20 0 i)) (by omega)
    exact mH_want (mI_st hI (by rw [e1]; show (0 : Int) ≤ _ ∧ _ ≤ (6 : Int); omega)) (mH_s (by decide) (by decide) h)
theorem mH_sleep {i : Nat} {S U : q_S} {a : Int32} (hI : mI U) (h : mH i S U) : mH i S (m_fm_sleep U i a) := by
  have h1 := mH_put (a := 5) (b := a) (d := 0) hI h
  unfold m_fm_sleep
  repeat' split
  · exact h1
  · exact mH_s (by decide) (by decide) (mH_s (by decide) (by decide) h1)
  · exact h1
  · exact mH_s (by decide) (by decide) h1
theorem mH_awaitL {i : Nat} {S : q_S} {a b : Int32} : ∀ (n : Nat) (U : q_S) (t : Nat), mI U → mH i S U → mH i S (m_fm_await_L0 n U i a b t) := by
  intro n
  induction n with
  | zero => intro U t _ h; exact h
  | succ n ih =>
    intro U t hI h
    rw [m_fm_await_L0]
    split
    · exact h
    · rename_i q
      have b1 : 0 ≤ (q_i (U 23 0 i)).toInt ∧ (q_i (U 23 0 i)).toInt ≤ 4 := hI 23 0 i
      have e1 := q_dec (x := q_i (U 23 0 i)) (by omega)
      split
      · have h1 := mH_put (a := 7) (b := a) (d := q_i (U 25 0 (4 * i + t))) hI h
        generalize m_fm_put U i 7 a (q_i (U 25 0 (4 * i + t))) = P at h1 ⊢
        split
        · exact h1
        · refine mH_s (by decide) (by decide) (mH_s (by decide) (by decide) (mH_s (by decide) (by decide) (mH_e (U := q_st P.2 23 0 i (.int (q_i (U 23 0 i) - 1))) ⟨?_, ?_⟩ (m_aw1 _ _ _ _ _ _ _ _ _ _ (by decide)) (m_aw1 _ _ _ _ _ _ _ _ _ _ (by decide)))))
          · rw [q_kj (by decide)]
            exact h1.1
          · rw [q_ss, e1]
            have := h.2
            omega
      · exact ih U (t + 1) hI h
theorem mH_await {i : Nat} {S U : q_S} {a b : Int32} (hI : mI U) (h : mH i S U) : mH i S (m_fm_await U i a b) := by
  unfold m_fm_await
  split
  · exact mH_awaitL 5 _ 0 (mIs hI rfl) (mH_s (by decide) (by decide) h)
  · exact mH_s (by decide) (by decide) h
theorem mH_do {i : Nat} {S U : q_S} (hI : mI U) (h : mH i S U) (o a b : Int32) : mH i S (mDo U i o a b) := by
  unfold mDo
  repeat' split
  · exact mH_s (by decide) (by decide) (mH_s (by decide) (by decide) h)
  · exact mH_s (by decide) (by decide) (mH_s (by decide) (by decide) h)
  · exact mH_s (by decide) (by decide) (mH_s (by decide) (by decide) h)
  · exact mH_s (by decide) (by decide) (mH_s (by decide) (by decide) h)
  · exact mH_s (by decide) (by decide) h
  · exact mH_s (by decide) (by decide) h
  · exact mH_s (by decide) (by decide) h
  · exact mH_want hI h
  · exact mH_sleep hI h
  · exact mH_s (by decide) (by decide) h
  · exact mH_await hI h
  · unfold m_fm_note
    split
    · exact mH_break h
    · exact mH_s (by decide) (by decide) (mH_s (by decide) (by decide) (mH_s (by decide) (by decide) (mH_s (by decide) (by decide) h)))
  · exact mH_undo hI h
  · exact mH_end (mH_s (by decide) (by decide) h)
theorem mH_step {i : Nat} {S U : q_S} (hI : mI U) (hs : (q_i (U 12 0 i)).toInt ≤ 59) (h : mH i S U) : mH i S (m_fm_step U i) := by
  have hc : mH i S (mCnt U i) := mH_e h (mCnt_o _ _ _ _ _ (by decide) (by decide)) (mCnt_o _ _ _ _ _ (by decide) (by decide))
  rw [m_step_eq]
  split
  · exact mH_do (mCnt_I hI hs) hc _ _ _
  · exact mH_do (mCnt_I hI hs) hc _ _ _
theorem mH_came {i : Nat} {S U : q_S} {a b : Int32} (hI : mI U) (h : mH i S U) : mH i S (m_fm_came U i a b) := by
  have hIU : mI (q_st (q_st U 12 0 i (.int 0)) 10 0 i (.int 0)) := mIs (mI_st hI (by show (0 : Int) ≤ (0 : Int32).toInt ∧ (0 : Int32).toInt ≤ 60; decide)) rfl
  have hU : mH i S (q_st (q_st U 12 0 i (.int 0)) 10 0 i (.int 0)) := mH_s (by decide) (by decide) (mH_s (by decide) (by decide) h)
  unfold m_fm_came
  repeat' split
  · exact mH_undo hIU hU
  · exact mH_undo hIU hU
  · exact mH_s (by decide) (by decide) hU
  · exact mH_s (by decide) (by decide) (mH_s (by decide) (by decide) hU)
theorem mH_goOnL {i : Nat} {S : q_S} (hi : i < 6) : ∀ (n : Nat) (U : q_S), mM U i < n → mI U → mJ U → mg U i → mQ U → mV U i → mH i S U → mH i S (m_fm_goOn_L0 n U i) := by
  intro n
  induction n with
  | zero => intro U h; exact absurd h (Nat.not_lt_zero _)
  | succ n ih =>
    intro U hM hI hJ hg hQ hV h
    rw [m_fm_goOn_L0]
    split
    · exact h
    · rename_i h5
      have h5 : ¬ 5 ≤ (q_i (U 10 0 i)).toInt := by rw [Int32.le_iff_toInt_le] at h5; exact h5
      have hpos := mM_pos h5
      have br := ih (m_fm_breakUp U i) (by rw [mM_E mE_break.1]; omega) (mI_fm_breakUp U i hi hI) (mJ_breakUp hJ) mE_break.2 (mQ_fm_breakUp U i hi hI hQ) (mV_E mE_break.1) (mH_break h)
      split
      · rename_i h0
        split
        · exact br
        · rename_i h60
          have b1 : 0 ≤ (q_i (U 12 0 i)).toInt ∧ (q_i (U 12 0 i)).toInt ≤ 60 := hI 12 0 i
          have h60 := lv_neT h60 (a := 60) (by decide)
          have hs : (q_i (U 12 0 i)).toInt ≤ 59 := by omega
          have hm := mM_step hI hg hs h0
          have ht := mT_step hI hg hs h0
          exact ih (m_fm_step U i) (by omega) (mI_fm_step U i hi hI hJ hg hQ hs) (mJ_step hJ) ht.1 (mQ_fm_step U i hi hI hJ hg hQ hs) ht.2.2.1 (mH_step hI hs h)
      · rename_i h0
        split
        · exact h
        · rename_i hl
          split
          · exact br
          · rename_i hF
            generalize q_i (U 17 0 (20 * i + ((q_i (U 16 0 i)).toNatClampNeg))) = a at hF ⊢
            generalize q_i (U 19 0 (20 * i + ((q_i (U 16 0 i)).toNatClampNeg))) = b
            obtain ⟨g1, g2, g3⟩ := mM_meet hI hg h0 h5 hl a b
            have hst : mSt (q_st U 16 0 i (.int (q_i (U 16 0 i) + 1))) i a := mSt_st (by decide) (mF_isFor hF)
            have hJ0 : mJ (q_st U 16 0 i (.int (q_i (U 16 0 i) + 1))) := mJ_eq hJ (fun k => q_kj (by decide)) (fun k => q_kj (by decide)) (fun k => q_kj (by decide)) (fun k => q_kj (by decide))
            have hQ0 : mQ (q_st U 16 0 i (.int (q_i (U 16 0 i) + 1))) := mQ_eq hQ (q_kj (by decide)) (fun _ => q_kj (by decide)) (fun _ => q_kj (by decide))
            have hV0 : mV (q_st U 16 0 i (.int (q_i (U 16 0 i) + 1))) i := mV_eq hV (fun x z h => by rw [q_kj (by omega)])
            have hc := mp_came g1 g2 a b
            exact ih _ (by omega) (mI_fm_came _ i a b hi g1 hJ0 g2 hQ0 hV0 hst) (mJ_came a b hJ0) hc.1 (mQ_fm_came _ i a b hi g1 hJ0 g2 hQ0 hV0 hst) hc.2.2.1 (mH_came g1 (mH_s (by decide) (by decide) h))
theorem mH_begin {i : Nat} {S U : q_S} (hi : i < 6) (hI : mI U) (hJ : mJ U) (hQ : mQ U) (hw : 1 ≤ (q_i (U 15 0 i)).toInt) (h : mH i S U) : mH i S (m_fm_begin U i) := by
  have hL : ∀ x y z : Nat, x ≠ 14 → m_fm_begin_L0 5 U i 0 x y z = U x y z := fun x y z h => mK_fm_begin_L0 5 U i 0 x y z h
  have hIL := mI_fm_begin_L0 i hi 5 U 0 rfl (by decide) hI
  unfold m_fm_begin
  generalize m_fm_begin_L0 5 U i 0 = L at hL hIL ⊢
  have hk : ∀ x y z : Nat, (x < 10 ∨ 20 < x ∨ x = 15) → (q_st (q_st (q_st (q_st (q_st (q_st L 14 0 (4 * i) (.int (q_i (U 19 0 (20 * i))))) 11 0 i (.int 0)) 12 0 i (.int 0)) 20 0 i (.int 0)) 16 0 i (.int 1)) 10 0 i (.int 0)) x y z = U x y z := by
    intro x y z h
    rw [q_kj (by omega), q_kj (by omega), q_kj (by omega), q_kj (by omega), q_kj (by omega), q_kj (by omega), hL x y z (by omega)]
  have hIM : mI (q_st (q_st (q_st (q_st (q_st (q_st L 14 0 (4 * i) (.int (q_i (U 19 0 (20 * i))))) 11 0 i (.int 0)) 12 0 i (.int 0)) 20 0 i (.int 0)) 16 0 i (.int 1)) 10 0 i (.int 0)) := by
    refine mIs (mI_st (mI_st (mI_st (mI_st (mIs hIL rfl) ?_) ?_) ?_) ?_) rfl
    · show (0 : Int) ≤ (0 : Int32).toInt ∧ (0 : Int32).toInt ≤ 14; decide
    · show (0 : Int) ≤ (0 : Int32).toInt ∧ (0 : Int32).toInt ≤ 60; decide
    · show (0 : Int) ≤ (0 : Int32).toInt ∧ (0 : Int32).toInt ≤ 6; decide
    · show (0 : Int) ≤ (1 : Int32).toInt ∧ (1 : Int32).toInt ≤ 20; decide
  unfold m_fm_goOn
  refine mH_goOnL hi 1303 _ (mM_le hIM) hIM (mJ_eq hJ (fun k => hk 1 0 k (by omega)) (fun k => hk 2 0 k (by omega)) (fun k => hk 3 0 k (by omega)) (fun k => hk 4 0 k (by omega))) ?_ (mQ_eq hQ (hk 0 0 33 (by omega)) (fun k => hk 32 0 k (by omega)) (fun k => hk 7 0 k (by omega))) (mV_0 (Or.inl q_ss)) (mH_e h (hk 15 0 i (by omega)) (hk 23 0 i (by omega)))
  unfold mg
  rw [hk 15 0 i (by omega), q_kj (by decide), q_ss, q_n1]
  exact hw
theorem mH_remember {S : q_S} {i : Nat} (hi : i < 6) (hI : mI S) (hJ : mJ S) (hQ : mQ S) (hw : 1 ≤ (q_i (S 15 0 i)).toInt) : mH i S (m_fm_remember S i) := by
  unfold m_fm_remember
  split
  · exact mH_r
  · refine mH_begin hi (mIs (mIs hI rfl) rfl) (mJ_eq hJ (fun k => (q_kj (by decide)).trans (q_kj (by decide))) (fun k => (q_kj (by decide)).trans (q_kj (by decide))) (fun k => (q_kj (by decide)).trans (q_kj (by decide))) (fun k => (q_kj (by decide)).trans (q_kj (by decide)))) (mQ_eq hQ ((q_kj (by decide)).trans (q_kj (by decide))) (fun _ => (q_kj (by decide)).trans (q_kj (by decide))) (fun _ => (q_kj (by decide)).trans (q_kj (by decide)))) ?_ (mH_s (by decide) (by decide) (mH_s (by decide) (by decide) mH_r))
    rw [q_kj (by decide), q_kj (by decide)]
    exact hw
