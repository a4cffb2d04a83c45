theorem m_beg_5 (S : q_S) (i : Nat) (x k : Nat) (h : x = 1 ∨ x = 2 ∨ x = 3 ∨ x = 4 ∨ x = 5) : m_fm_begin S i x 0 k = S x 0 k := by
  refine mK_fm_begin S i x 0 k ?_ ?_ ?_ ?_ ?_ ?_ ?_ ?_ ?_ ?_ ?_ ?_ ?_ ?_ ?_ ?_ ?_ ?_ ?_ ?_ ?_ ?_ ?_ ?_ ?_ ?_ <;> omega
theorem mAll_startL {a b : Int32} (ha : 0 ≤ a.toInt ∧ a.toInt ≤ 2) : ∀ (n : Nat) (S : q_S) (t : Nat), t + n = 7 → t ≤ 6 → mI S → mJ S → mQ S → mZ2 S → mJ (m_fm_start_L0 n S a b t).2 ∧ mQ (m_fm_start_L0 n S a b t).2 ∧ mZ2 (m_fm_start_L0 n S a b t).2 := by
  intro n
  induction n with
  | zero => intro S t h1 h2; omega
  | succ n ih =>
    intro S t h1 h2 hI hJ hQ hZ
    rw [m_fm_start_L0]
    split
    · rename_i h6
      rw [Int32.le_iff_toInt_le, nI_toInt (by omega)] at h6
      have h6 : (6 : Int) ≤ (t : Int) := h6
      have ht : t = 6 := by omega
      rw [if_pos (by rw [ht]; decide)]
      exact ⟨hJ, hQ, hZ⟩
    · rename_i h6
      have ht := m_lt6 h2 h6
      split
      · rw [if_neg (by
          intro q
          have q2 : (nI t).toInt = 6 := by rw [q]; rfl
          rw [nI_toInt (by omega)] at q2
          omega)]
        have e : ∀ x k : Nat, (x < 5 ∨ x = 7 ∨ (19 < x ∧ x ≠ 23)) → (q_st (q_st (q_st (q_st (q_st (q_st (q_st (q_st (q_st S 5 0 t (.int 1)) 6 0 t (.int 0)) 9 0 t (.int a)) 13 0 t (.int 0)) 23 0 t (.int 0)) 15 0 t (.int 1)) 17 0 (20 * t) (.int 1)) 18 0 (20 * t) (.int a)) 19 0 (20 * t) (.int b)) x 0 k = S x 0 k := fun x k q => by
          rw [q_kj (by omega), q_kj (by omega), q_kj (by omega), q_kj (by omega), q_kj (by omega), q_kj (by omega), q_kj (by omega), q_kj (by omega), q_kj (by omega)]
        have hIM : mI (q_st (q_st (q_st (q_st (q_st (q_st (q_st (q_st (q_st S 5 0 t (.int 1)) 6 0 t (.int 0)) 9 0 t (.int a)) 13 0 t (.int 0)) 23 0 t (.int 0)) 15 0 t (.int 1)) 17 0 (20 * t) (.int 1)) 18 0 (20 * t) (.int a)) 19 0 (20 * t) (.int b)) := by
          refine mIs (mIs (mIs (mI_st (mI_st (mIs (mI_st (mIs (mIs hI rfl) rfl) ?_) rfl) ?_) ?_) rfl) rfl) rfl
          · show (0 : Int) ≤ _ ∧ _ ≤ (2 : Int); exact ha
          · show (0 : Int) ≤ (0 : Int32).toInt ∧ (0 : Int32).toInt ≤ 4; decide
          · show (0 : Int) ≤ (1 : Int32).toInt ∧ (1 : Int32).toInt ≤ 20; decide
        have hJM : mJ (q_st (q_st (q_st (q_st (q_st (q_st (q_st (q_st (q_st S 5 0 t (.int 1)) 6 0 t (.int 0)) 9 0 t (.int a)) 13 0 t (.int 0)) 23 0 t (.int 0)) 15 0 t (.int 1)) 17 0 (20 * t) (.int 1)) 18 0 (20 * t) (.int a)) 19 0 (20 * t) (.int b)) := mJ_eq hJ (fun k => e 1 k (by omega)) (fun k => e 2 k (by omega)) (fun k => e 3 k (by omega)) (fun k => e 4 k (by omega))
        have hQM : mQ (q_st (q_st (q_st (q_st (q_st (q_st (q_st (q_st (q_st S 5 0 t (.int 1)) 6 0 t (.int 0)) 9 0 t (.int a)) 13 0 t (.int 0)) 23 0 t (.int 0)) 15 0 t (.int 1)) 17 0 (20 * t) (.int 1)) 18 0 (20 * t) (.int a)) 19 0 (20 * t) (.int b)) := mQ_eq hQ (e 0 33 (by omega)) (fun k => e 32 k (by omega)) (fun k => e 7 k (by omega))
        have hwM : 1 ≤ (q_i ((q_st (q_st (q_st (q_st (q_st (q_st (q_st (q_st (q_st S 5 0 t (.int 1)) 6 0 t (.int 0)) 9 0 t (.int a)) 13 0 t (.int 0)) 23 0 t (.int 0)) 15 0 t (.int 1)) 17 0 (20 * t) (.int 1)) 18 0 (20 * t) (.int a)) 19 0 (20 * t) (.int b)) 15 0 t)).toInt := by
          rw [q_kj (by decide), q_kj (by decide), q_kj (by decide), q_ss]
          decide
        have hO : mO t S (q_st (q_st (q_st (q_st (q_st (q_st (q_st (q_st (q_st S 5 0 t (.int 1)) 6 0 t (.int 0)) 9 0 t (.int a)) 13 0 t (.int 0)) 23 0 t (.int 0)) 15 0 t (.int 1)) 17 0 (20 * t) (.int 1)) 18 0 (20 * t) (.int a)) 19 0 (20 * t) (.int b)) := mO_j (by omega) (mO_j (by omega) (mO_j (by omega) (mO_i (mO_i (mO_i (mO_i (mO_i (mO_i mO_r))))))))
        generalize (q_st (q_st (q_st (q_st (q_st (q_st (q_st (q_st (q_st S 5 0 t (.int 1)) 6 0 t (.int 0)) 9 0 t (.int a)) 13 0 t (.int 0)) 23 0 t (.int 0)) 15 0 t (.int 1)) 17 0 (20 * t) (.int 1)) 18 0 (20 * t) (.int a)) 19 0 (20 * t) (.int b)) = V at e hIM hJM hQM hwM hO ⊢
        have hb := mp_begin ht hIM hJM hQM hwM
        have hh := mH_begin (S := V) ht hIM hJM hQM hwM mH_r
        refine ⟨mJ_eq hJM (fun k => m_beg_5 V t 1 k (by omega)) (fun k => m_beg_5 V t 2 k (by omega)) (fun k => m_beg_5 V t 3 k (by omega)) (fun k => m_beg_5 V t 4 k (by omega)), hb.2.2, ?_⟩
        intro k hk h5
        by_cases he : k = t
        · subst he
          exact ⟨Int.le_trans hwM hh.1, hb.1, fun _ => hb.2.1⟩
        · have h5 : ¬ q_i (m_fm_begin V t 5 0 k) = 0 := h5
          rw [mO_begin hO 5 k (by omega) he] at h5
          exact mZi_k (hZ k hk h5) (fun x z q => (m_beg_5 V t x z (by omega)).trans (e x z (by omega))) (fun x q => mO_begin hO x k (by omega) he)
      · exact ih S (t + 1) (by omega) (by omega) hI hJ hQ hZ
theorem mAll_start {S : q_S} (h : mAll S) (a b : Int32) : mAll (m_fm_start S a b).2 := by
  obtain ⟨hI, hJ, hQ, hZ⟩ := h
  refine ⟨mI_fm_start S a b hI hJ hQ, ?_⟩
  unfold m_fm_start
  split
  · exact ⟨hJ, hQ, hZ⟩
  · rename_i q
    exact mAll_startL (mF_in2 rfl q) 7 S 0 rfl (by decide) hI hJ hQ hZ
