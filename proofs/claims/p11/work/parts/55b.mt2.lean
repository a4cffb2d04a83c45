theorem m_lt6 {u : Nat} (hu : u ≤ 6) (h : ¬ (6 : Int32) ≤ nI u) : u < 6 := by
  rw [Int32.le_iff_toInt_le, nI_toInt (by omega)] at h
  have h : ¬ (6 : Int) ≤ (u : Int) := h
  omega
theorem mp_tickL1 (a : Int32) : ∀ (n : Nat) (S : q_S) (t u : Nat), u + n = 7 → u ≤ 6 → t ≤ 20 → mI S → mJ S → mQ S → mZ2 S → mQ (m_fm_tick_L1 n S a t u) ∧ mZ2 (m_fm_tick_L1 n S a t u) := by
  intro n
  induction n with
  | zero => intro S t u h1 h2; omega
  | succ n ih =>
    intro S t u h1 h2 ht hI hJ hQ hZ
    rw [m_fm_tick_L1]
    split
    · exact ⟨hQ, hZ⟩
    · rename_i h6
      have hu := m_lt6 h2 h6
      split
      · exact ih S t (u + 1) (by omega) (by omega) ht hI hJ hQ hZ
      · rename_i h5
        split
        · exact ih S t (u + 1) (by omega) (by omega) ht hI hJ hQ hZ
        · rename_i h7
          split
          · exact ih (m_fm_wrong S u) t (u + 1) (by omega) (by omega) ht (mI_fm_wrong S u hu hI hJ hQ (hZ u hu h5) h7) (mJ_wrong hJ) (mp_wrong hu hI hJ hQ (hZ u hu h5) h7).2 (mZ2_wrong hu hI hJ hQ hZ h5 h7)
          · exact ih S t (u + 1) (by omega) (by omega) ht hI hJ hQ hZ
theorem mp_tickL2 (a : Int32) : ∀ (n : Nat) (S : q_S) (t u : Nat), u + n = 7 → u ≤ 6 → t ≤ 20 → mI S → mJ S → mQ S → mZ2 S → mQ (m_fm_tick_L2 n S a t u) ∧ mZ2 (m_fm_tick_L2 n S a t u) := by
  intro n
  induction n with
  | zero => intro S t u h1 h2; omega
  | succ n ih =>
    intro S t u h1 h2 ht hI hJ hQ hZ
    rw [m_fm_tick_L2]
    split
    · exact ⟨hQ, hZ⟩
    · rename_i h6
      have hu := m_lt6 h2 h6
      split
      · exact ih S t (u + 1) (by omega) (by omega) ht hI hJ hQ hZ
      · rename_i h5
        have hz := hZ u hu h5
        split
        · split
          · exact ih S t (u + 1) (by omega) (by omega) ht hI hJ hQ hZ
          · exact ih (m_fm_write S u 6 0 0) t (u + 1) (by omega) (by omega) ht (mI_fm_write S u 6 0 0 hu hI hJ hz.2.1 hQ hz.1 hz.2.2) (mJ_write 6 0 0 hJ) (mp_write hu hI hJ hQ hz 6 0 0).2 (mZ2_write hu hI hJ hQ hZ h5 6 0 0)
        · exact ih S t (u + 1) (by omega) (by omega) ht hI hJ hQ hZ
