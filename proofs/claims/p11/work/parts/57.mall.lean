/-! what holds of the reference's table between calls, kept by every call -/
def mAll (S : q_S) : Prop := mI S ∧ mJ S ∧ mQ S ∧ mZ2 S
theorem mAll_forget {S : q_S} (h : mAll S) (a : Int32) : mAll (m_fm_forget S a).2 := by
  refine ⟨mI_fm_forget S a h.1, ?_⟩
  have hk : ∀ k : Nat, mJ (q_st S 6 0 k (.int 1)) ∧ mQ (q_st S 6 0 k (.int 1)) ∧ mZ2 (q_st S 6 0 k (.int 1)) := by
    intro k
    refine ⟨mJ_eq h.2.1 (fun _ => q_kj (by decide)) (fun _ => q_kj (by decide)) (fun _ => q_kj (by decide)) (fun _ => q_kj (by decide)), mQ_eq h.2.2.1 (q_kj (by decide)) (fun _ => q_kj (by decide)) (fun _ => q_kj (by decide)), ?_⟩
    intro i hi h5
    rw [q_kj (by decide)] at h5
    have hz := h.2.2.2 i hi h5
    by_cases e : i = k
    · subst e
      refine ⟨?_, ?_, fun q => ?_⟩
      · rw [q_kj (by decide)]
        exact hz.1
      · unfold mg
        rw [q_kj (by decide), q_kj (by decide)]
        exact hz.2.1
      · rw [q_ss] at q
        exact absurd q (by decide)
    · exact mZi_k hz (fun x z q => q_kj (by omega)) (fun x q => q_st_n S _ (fun z => e z.2.2))
  unfold m_fm_forget
  repeat' split
  · exact h.2
  · exact hk _
  · exact h.2
  · exact h.2
theorem mAll_remove {S : q_S} (h : mAll S) (a : Int32) : mAll (m_fm_remove S a).2 := by
  refine ⟨mI_fm_remove S a h.1, ?_⟩
  unfold m_fm_remove
  split
  · exact h.2
  · have hI0 : mI (q_st S 5 0 a.toNatClampNeg (.int 0)) := mIs h.1 rfl
    have e : ∀ x k : Nat, ((0 < x ∧ x < 5) ∨ x = 6 ∨ (8 < x ∧ x < 29)) → m_fm_noTask (q_st S 5 0 a.toNatClampNeg (.int 0)) a.toNatClampNeg x 0 k = S x 0 k := fun x k q => by
      rw [mK_fm_noTask _ _ x 0 k (by omega) (by omega) (by omega) (by omega) (by omega), q_kj (by omega)]
    refine ⟨mJ_eq h.2.1 (fun k => e 1 k (by omega)) (fun k => e 2 k (by omega)) (fun k => e 3 k (by omega)) (fun k => e 4 k (by omega)), mQ_noTask hI0 (mQ_eq h.2.2.1 (q_kj (by decide)) (fun _ => q_kj (by decide)) (fun _ => q_kj (by decide))), ?_⟩
    intro i hi h5
    have h5 : ¬ q_i (m_fm_noTask (q_st S 5 0 a.toNatClampNeg (.int 0)) a.toNatClampNeg 5 0 i) = 0 := h5
    rw [mK_fm_noTask _ _ 5 0 i (by decide) (by decide) (by decide) (by decide) (by decide)] at h5
    have h5' : ¬ q_i (S 5 0 i) = 0 := by
      by_cases q : i = a.toNatClampNeg
      · rw [q, q_ss] at h5
        exact absurd rfl h5
      · rw [q_st_n S _ (fun z => q z.2.2)] at h5
        exact h5
    exact mZi_k (h.2.2.2 i hi h5') (fun x z q => e x z (by omega)) (fun x q => e x i (by omega))
theorem m_isT6 {S : q_S} {a : Int32} (h : ¬ m_fm_isThere S a = 0) : a.toNatClampNeg < 6 := by
  obtain ⟨h1, h2⟩ := mF_isT h
  have c1 := q_cl h1
  rw [Int32.lt_iff_toInt_lt] at h2
  have h2 : ¬ (5 : Int) < a.toInt := h2
  omega
theorem mAll_answer {S : q_S} (h : mAll S) (a b d : Int32) : mAll (m_fm_answer S a b d).2 := by
  obtain ⟨hI, hJ, hQ, hZ⟩ := h
  refine ⟨mI_fm_answer S a b d hI hJ hQ hZ, ?_⟩
  unfold m_fm_answer
  split
  · exact ⟨hJ, hQ, hZ⟩
  · rename_i ht
    have hi := m_isT6 ht
    have h5 := mF_isT2 ht
    split
    · exact ⟨hJ, hQ, hZ⟩
    · rename_i ho
      split
      · exact ⟨mJ_wrong hJ, (mp_wrong hi hI hJ hQ (hZ _ hi h5) ho).2, mZ2_wrong hi hI hJ hQ hZ h5 ho⟩
      · have e : ∀ x k : Nat, ((0 < x ∧ x < 7) ∨ (8 < x ∧ x < 29)) → m_fm_noTask S a.toNatClampNeg x 0 k = S x 0 k := fun x k q => mK_fm_noTask _ _ x 0 k (by omega) (by omega) (by omega) (by omega) (by omega)
        have hI0 := mI_fm_noTask S a.toNatClampNeg hi hI
        have hJ0 : mJ (m_fm_noTask S a.toNatClampNeg) := mJ_eq hJ (fun k => e 1 k (by omega)) (fun k => e 2 k (by omega)) (fun k => e 3 k (by omega)) (fun k => e 4 k (by omega))
        have hQ0 := mQ_noTask (i := a.toNatClampNeg) hI hQ
        have hZ0 : mZ2 (m_fm_noTask S a.toNatClampNeg) := by
          intro i hi2 q
          rw [e 5 i (by omega)] at q
          exact mZi_k (hZ i hi2 q) (fun x z q => e x z (by omega)) (fun x q => e x i (by omega))
        have h50 : ¬ q_i (m_fm_noTask S a.toNatClampNeg 5 0 a.toNatClampNeg) = 0 := by rw [e 5 _ (by omega)]; exact h5
        exact ⟨mJ_write _ _ _ hJ0, (mp_write hi hI0 hJ0 hQ0 (hZ0 _ hi h50) _ _ _).2, mZ2_write hi hI0 hJ0 hQ0 hZ0 h50 _ _ _⟩
theorem mJ_tick1 (S : q_S) (a : Int32) (t u : Nat) (hJ : mJ S) : mJ (m_fm_tick_L1 7 S a t u) := mJ_eq hJ (fun k => mK_fm_tick_L1 7 S a t u 1 0 k (by decide) (by decide) (by decide) (by decide) (by decide) (by decide) (by decide) (by decide) (by decide) (by decide) (by decide) (by decide) (by decide) (by decide) (by decide) (by decide) (by decide) (by decide) (by decide) (by decide) (by decide) (by decide) (by decide) (by decide) (by decide) (by decide) (by decide)) (fun k => mK_fm_tick_L1 7 S a t u 2 0 k (by decide) (by decide) (by decide) (by decide) (by decide) (by decide) (by decide) (by decide) (by decide) (by decide) (by decide) (by decide) (by decide) (by decide) (by decide) (by decide) (by decide) (by decide) (by decide) (by decide) (by decide) (by decide) (by decide) (by decide) (by decide) (by decide) (by decide)) (fun k => mK_fm_tick_L1 7 S a t u 3 0 k (by decide) (by decide) (by decide) (by decide) (by decide) (by decide) (by decide) (by decide) (by decide) (by decide) (by decide) (by decide) (by decide) (by decide) (by decide) (by decide) (by decide) (by decide) (by decide) (by decide) (by decide) (by decide) (by decide) (by decide) (by decide) (by decide) (by decide)) (fun k => mK_fm_tick_L1 7 S a t u 4 0 k (by decide) (by decide) (by decide) (by decide) (by decide) (by decide) (by decide) (by decide) (by decide) (by decide) (by decide) (by decide) (by decide) (by decide) (by decide) (by decide) (by decide) (by decide) (by decide) (by decide) (by decide) (by decide) (by decide) (by decide) (by decide) (by decide) (by decide))
theorem mJ_tick2 (S : q_S) (a : Int32) (t u : Nat) (hJ : mJ S) : mJ (m_fm_tick_L2 7 S a t u) := mJ_eq hJ (fun k => mK_fm_tick_L2 7 S a t u 1 0 k (by decide) (by decide) (by decide) (by decide) (by decide) (by decide) (by decide) (by decide) (by decide) (by decide) (by decide) (by decide) (by decide) (by decide) (by decide) (by decide) (by decide) (by decide) (by decide) (by decide) (by decide) (by decide) (by decide) (by decide) (by decide) (by decide) (by decide)) (fun k => mK_fm_tick_L2 7 S a t u 2 0 k (by decide) (by decide) (by decide) (by decide) (by decide) (by decide) (by decide) (by decide) (by decide) (by decide) (by decide) (by decide) (by decide) (by decide) (by decide) (by decide) (by decide) (by decide) (by decide) (by decide) (by decide) (by decide) (by decide) (by decide) (by decide) (by decide) (by decide)) (fun k => mK_fm_tick_L2 7 S a t u 3 0 k (by decide) (by decide) (by decide) (by decide) (by decide) (by decide) (by decide) (by decide) (by decide) (by decide) (by decide) (by decide) (by decide) (by decide) (by decide) (by decide) (by decide) (by decide) (by decide) (by decide) (by decide) (by decide) (by decide) (by decide) (by decide) (by decide) (by decide)) (fun k => mK_fm_tick_L2 7 S a t u 4 0 k (by decide) (by decide) (by decide) (by decide) (by decide) (by decide) (by decide) (by decide) (by decide) (by decide) (by decide) (by decide) (by decide) (by decide) (by decide) (by decide) (by decide) (by decide) (by decide) (by decide) (by decide) (by decide) (by decide) (by decide) (by decide) (by decide) (by decide))
theorem mAll_tickL {a : Int32} : ∀ (n : Nat) (S : q_S) (t : Nat), t + n = 21 → t ≤ 20 → a.toInt ≤ 20 → mI S → mJ S → mQ S → mZ2 S → mJ (m_fm_tick_L0 n S a t).2 ∧ mQ (m_fm_tick_L0 n S a t).2 ∧ mZ2 (m_fm_tick_L0 n S a t).2 := by
  intro n
  induction n with
  | zero => intro S t h1 h2; omega
  | succ n ih =>
    intro S t h1 h2 ha hI hJ hQ hZ
    rw [m_fm_tick_L0]
    split
    · exact ⟨hJ, hQ, hZ⟩
    · rename_i ht
      rw [Int32.le_iff_toInt_le, nI_toInt (by omega)] at ht
      have hI1 : mI (q_st S 0 0 34 (.int (q_i (S 0 0 34) + 1))) := mIs hI rfl
      have hJ1 : mJ (q_st S 0 0 34 (.int (q_i (S 0 0 34) + 1))) := mJ_eq hJ (fun _ => q_kj (by decide)) (fun _ => q_kj (by decide)) (fun _ => q_kj (by decide)) (fun _ => q_kj (by decide))
      have hQ1 : mQ (q_st S 0 0 34 (.int (q_i (S 0 0 34) + 1))) := mQ_eq hQ (q_st_n _ _ (by decide)) (fun _ => q_kj (by decide)) (fun _ => q_kj (by decide))
      have hZ1 : mZ2 (q_st S 0 0 34 (.int (q_i (S 0 0 34) + 1))) := mZ2_eq hZ (fun x z h => q_kj (by omega))
      have h3 := mp_tickL1 a 7 _ t 0 rfl (by decide) h2 hI1 hJ1 hQ1 hZ1
      have hI2 := mI_fm_tick_L1 a 7 _ t 0 rfl (by decide) h2 hI1 hJ1 hQ1 hZ1
      have hJ2 : mJ (m_fm_tick_L1 7 (q_st S 0 0 34 (.int (q_i (S 0 0 34) + 1))) a t 0) := mJ_tick1 _ _ _ _ hJ1
      have h4 := mp_tickL2 a 7 _ t 0 rfl (by decide) h2 hI2 hJ2 h3.1 h3.2
      have hI3 := mI_fm_tick_L2 a 7 _ t 0 rfl (by decide) h2 hI2 hJ2 h3.1 h3.2
      exact ih _ (t + 1) (by omega) (by omega) ha hI3 (mJ_tick2 _ _ _ _ hJ2) h4.1 h4.2
theorem mAll_tick {S : q_S} (h : mAll S) (a : Int32) : mAll (m_fm_tick S a).2 := by
  obtain ⟨hI, hJ, hQ, hZ⟩ := h
  refine ⟨mI_fm_tick S a hI hJ hQ hZ, ?_⟩
  unfold m_fm_tick
  split
  · exact ⟨hJ, hQ, hZ⟩
  · rename_i q
    obtain ⟨q1, q2⟩ := mF_in q
    rw [Int32.lt_iff_toInt_lt] at q2
    have q2 : ¬ (20 : Int) < a.toInt := q2
    exact mAll_tickL 21 S 0 rfl (by decide) (by omega) hI hJ hQ hZ
