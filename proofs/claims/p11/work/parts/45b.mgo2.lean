theorem mF_isFor {S : q_S} {i : Nat} {a b : Int32} (h : ¬ m_fm_isFor S i a b = 0) : mSt S i a := by
  unfold m_fm_isFor at h
  split at h
  · rename_i h1
    refine Or.inl ⟨h1, ?_⟩
    split at h
    · rename_i q; exact Or.inl q
    · split at h
      · rename_i q; exact Or.inr q
      · exact absurd rfl h
  · split at h
    · rename_i h1
      refine Or.inr (Or.inr (Or.inr ⟨h1, ?_⟩))
      split at h
      · rename_i q; exact Or.inl q
      · split at h
        · rename_i q; exact Or.inr q
        · exact absurd rfl h
    · split at h
      · rename_i h1
        split at h
        · rename_i q; exact Or.inr (Or.inl ⟨h1, q⟩)
        · exact absurd rfl h
      · split at h
        · rename_i h1
          split at h
          · rename_i q; exact Or.inr (Or.inr (Or.inl ⟨h1, q⟩))
          · exact absurd rfl h
        · exact absurd rfl h
theorem mSt_st {S : q_S} {i j k : Nat} {a : Int32} {v : Value} (hj : j ≠ 10) (h : mSt S i a) : mSt (q_st S j 0 k v) i a := by
  unfold mSt
  rw [q_kj (Ne.symm hj)]
  exact h
theorem mV_eq {S U : q_S} {i : Nat} (hV : mV S i) (h : ∀ x z : Nat, (x = 1 ∨ x = 4 ∨ x = 9 ∨ x = 10 ∨ x = 11) → U x 0 z = S x 0 z) : mV U i := by
  have e1 : mPl U i = mPl S i := by
    unfold mPl
    rw [h 11 i (by omega), h 9 i (by omega), h 4 _ (by omega)]
  have e2 : mOp U i = mOp S i := by
    unfold mOp
    rw [h 11 i (by omega), h 9 i (by omega), h 1 _ (by omega)]
  unfold mV
  rw [e1, e2, h 10 i (by omega)]
  exact hV
/-- by an entry it goes on -/
theorem mp_came {S : q_S} {i : Nat} (hI : mI S) (hg : mg S i) (a b : Int32) : mg (m_fm_came S i a b) i ∧ mlf (m_fm_came S i a b) i ≤ mlf S i ∧ mV (m_fm_came S i a b) i ∧ (mE (m_fm_came S i a b) i ∨ q_i (m_fm_came S i a b 12 0 i) = 0) := by
  have hIU : mI (q_st (q_st S 12 0 i (.int 0)) 10 0 i (.int 0)) := mIs (mI_st hI (by show (0 : Int) ≤ (0 : Int32).toInt ∧ (0 : Int32).toInt ≤ 60; decide)) rfl
  have hgU : mg (q_st (q_st S 12 0 i (.int 0)) 10 0 i (.int 0)) i := by
    unfold mg
    rw [q_kj (by decide), q_kj (by decide), q_kj (by decide), q_kj (by decide)]
    exact hg
  have hlU : mlf (q_st (q_st S 12 0 i (.int 0)) 10 0 i (.int 0)) i = mlf S i := by
    unfold mlf
    rw [q_kj (by decide), q_kj (by decide), q_kj (by decide), q_kj (by decide)]
  have h12 : q_i ((q_st (q_st S 12 0 i (.int 0)) 10 0 i (.int 0)) 12 0 i) = 0 := by rw [q_kj (by decide), q_ss]
  have hu := mp_undo hIU hgU
  have hU : mg (m_fm_undo (q_st (q_st S 12 0 i (.int 0)) 10 0 i (.int 0)) i) i ∧ mlf (m_fm_undo (q_st (q_st S 12 0 i (.int 0)) 10 0 i (.int 0)) i) i ≤ mlf S i ∧ mV (m_fm_undo (q_st (q_st S 12 0 i (.int 0)) 10 0 i (.int 0)) i) i ∧ (mE (m_fm_undo (q_st (q_st S 12 0 i (.int 0)) 10 0 i (.int 0)) i) i ∨ q_i (m_fm_undo (q_st (q_st S 12 0 i (.int 0)) 10 0 i (.int 0)) i 12 0 i) = 0) := by
    have h := mT_A hu.1 hu.2 (fun z => absurd z (by decide)) (fun z => absurd z (by decide)) (fun z => absurd z (by decide))
    exact ⟨h.1, by rw [← hlU]; exact h.2.1, h.2.2.1, h.2.2.2.imp id (fun z => by rw [z]; exact h12)⟩
  unfold m_fm_came
  split
  · exact hU
  · split
    · exact hU
    · split
      · refine ⟨?_, ?_, mV_0 (Or.inl (by rw [q_kj (by decide), q_ss])), Or.inr (by rw [q_kj (by decide)]; exact h12)⟩
        · unfold mg
          rw [q_kj (by decide), q_kj (by decide), q_kj (by decide), q_kj (by decide), q_kj (by decide), q_kj (by decide)]
          exact hg
        · rw [← hlU]
          unfold mlf
          rw [q_kj (j := 11) (by decide), q_kj (j := 11) (by decide)]
          exact Nat.le_refl _
      · refine ⟨?_, ?_, mV_0 (Or.inl (by rw [q_kj (by decide), q_kj (by decide), q_ss])), Or.inr (by rw [q_kj (by decide), q_kj (by decide)]; exact h12)⟩
        · unfold mg
          rw [q_kj (by decide), q_kj (by decide), q_kj (by decide), q_kj (by decide), q_kj (by decide), q_kj (by decide), q_kj (by decide), q_kj (by decide)]
          exact hg
        · rw [← hlU]
          unfold mlf
          rw [q_kj (j := 11) (by decide), q_kj (j := 11) (by decide), q_kj (j := 14) (by decide), q_kj (j := 14) (by decide)]
          exact Nat.le_refl _
theorem mQ_fm_came (S : q_S) (i : Nat) (a b : Int32) (hi : i < 6) (hI : mI S) (hJ : mJ S) (hg : mg S i) (hQ : mQ S) (hV : mV S i) (hst : mSt S i a) : mQ (m_fm_came S i a b) := by
  have hIU : mI (q_st (q_st S 12 0 i (.int 0)) 10 0 i (.int 0)) := mIs (mI_st hI (by show (0 : Int) ≤ (0 : Int32).toInt ∧ (0 : Int32).toInt ≤ 60; decide)) rfl
  have hgU : mg (q_st (q_st S 12 0 i (.int 0)) 10 0 i (.int 0)) i := by
    unfold mg
    rw [q_kj (by decide), q_kj (by decide), q_kj (by decide), q_kj (by decide)]
    exact hg
  have hQU : mQ (q_st (q_st S 12 0 i (.int 0)) 10 0 i (.int 0)) := mQ_eq hQ ((q_kj (by decide)).trans (q_kj (by decide))) (fun _ => (q_kj (by decide)).trans (q_kj (by decide))) (fun _ => (q_kj (by decide)).trans (q_kj (by decide)))
  unfold m_fm_came
  repeat' split
  · exact mQ_fm_undo _ i hi hIU hgU hQU
  · exact mQ_fm_undo _ i hi hIU hgU hQU
  · exact mQ_eq hQU (q_kj (by decide)) (fun _ => q_kj (by decide)) (fun _ => q_kj (by decide))
  · exact mQ_eq hQU ((q_kj (by decide)).trans (q_kj (by decide))) (fun _ => (q_kj (by decide)).trans (q_kj (by decide))) (fun _ => (q_kj (by decide)).trans (q_kj (by decide)))
/-- an entry met: one fewer is left -/
theorem mM_meet {S : q_S} {i : Nat} (hI : mI S) (hg : mg S i) (h0 : ¬ q_i (S 10 0 i) = 0) (h5 : ¬ 5 ≤ (q_i (S 10 0 i)).toInt) (hl : ¬ m_fm_left S i = 0) (a b : Int32) :
    mI (q_st S 16 0 i (.int (q_i (S 16 0 i) + 1))) ∧ mg (q_st S 16 0 i (.int (q_i (S 16 0 i) + 1))) i ∧ mM (m_fm_came (q_st S 16 0 i (.int (q_i (S 16 0 i) + 1))) i a b) i < mM S i := by
  have b1 : 0 ≤ (q_i (S 15 0 i)).toInt ∧ (q_i (S 15 0 i)).toInt ≤ 20 := hI 15 0 i
  have b2 : 0 ≤ (q_i (S 16 0 i)).toInt ∧ (q_i (S 16 0 i)).toInt ≤ 20 := hI 16 0 i
  have e2 := q_inc (x := q_i (S 16 0 i)) (by omega)
  have hn := lv_neT hl (a := 0) (by decide)
  have hln := m_left_n hI hg
  have hg0 : (q_i (S 16 0 i)).toInt ≤ (q_i (S 15 0 i)).toInt := hg
  have h1 : 1 ≤ mlf S i := by omega
  have hlt : (q_i (S 16 0 i)).toInt < (q_i (S 15 0 i)).toInt := by
    unfold mlf at h1
    omega
  have hI0 : mI (q_st S 16 0 i (.int (q_i (S 16 0 i) + 1))) := mI_st hI (by rw [e2]; show (0 : Int) ≤ _ ∧ _ ≤ (20 : Int); omega)
  have hgq : mg (q_st S 16 0 i (.int (q_i (S 16 0 i) + 1))) i := by
    unfold mg
    rw [q_ss, q_kj (by decide), e2]
    omega
  have hl0 : mlf (q_st S 16 0 i (.int (q_i (S 16 0 i) + 1))) i + 1 = mlf S i := by
    unfold mlf
    rw [q_ss, q_kj (by decide), e2]
    omega
  refine ⟨hI0, hgq, ?_⟩
  obtain ⟨g1, g2, g3, g4⟩ := mp_came hI0 hgq a b
  have hS : mM S i = 1 + mlf S i * 62 := by
    unfold mM
    rw [if_neg h5, if_neg h0]
    rfl
  rw [hS]
  have zz : (0 : Int32).toInt = 0 := rfl
  rcases g4 with q | q
  · rw [mM_E q]
    omega
  · unfold mM
    rw [q, zz]
    split
    · omega
    · split
      · omega
      · omega
theorem mM_le {S : q_S} {i : Nat} (hI : mI S) : mM S i < 1303 := by
  have b0 : 0 ≤ (q_i (S 12 0 i)).toInt ∧ (q_i (S 12 0 i)).toInt ≤ 60 := hI 12 0 i
  have b1 : 0 ≤ (q_i (S 15 0 i)).toInt ∧ (q_i (S 15 0 i)).toInt ≤ 20 := hI 15 0 i
  have b2 : 0 ≤ (q_i (S 16 0 i)).toInt ∧ (q_i (S 16 0 i)).toInt ≤ 20 := hI 16 0 i
  have h : mlf S i ≤ 20 := by
    unfold mlf
    omega
  unfold mM
  split
  · omega
  · split <;> omega
theorem mM_pos {S : q_S} {i : Nat} (h5 : ¬ 5 ≤ (q_i (S 10 0 i)).toInt) : 0 < mM S i := by
  unfold mM
  rw [if_neg h5]
  omega
