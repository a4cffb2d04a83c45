theorem m_rem_5 (S : q_S) (i : Nat) (x k : Nat) (h : x = 1 ∨ x = 4 ∨ x = 5) : m_fm_remember S i x 0 k = S x 0 k := by
  refine mK_fm_remember S i x 0 k ?_ ?_ ?_ ?_ ?_ ?_ ?_ ?_ ?_ ?_ ?_ ?_ ?_ ?_ ?_ ?_ ?_ ?_ ?_ ?_ ?_ ?_ ?_ ?_ ?_ ?_ ?_ <;> omega
theorem mZ2_remember {S : q_S} {i : Nat} (hi : i < 6) (hI : mI S) (hJ : mJ S) (hQ : mQ S) (hZ : mZ2 S) (ht : ¬ q_i (S 5 0 i) = 0) : mZ2 (m_fm_remember S i) := by
  intro k hk h5
  rw [m_rem_5 S i 5 k (by omega)] at h5
  by_cases he : k = i
  · subst he
    have hz := hZ k hk ht
    have hr := mp_remember hi hI hJ hz.2.1 hQ hz.1 hz.2.2
    exact ⟨Int.le_trans hz.1 (mH_remember hi hI hJ hQ hz.1).1, hr.1, fun _ => hr.2.1⟩
  · exact mZi_k (hZ k hk h5) (fun x z h => m_rem_5 S i x z (by omega)) (fun x h => mO_remember mO_r x k (by omega) he)
theorem mAll_signal {S : q_S} (h : mAll S) (a b d : Int32) : mAll (m_fm_signal S a b d).2 := by
  obtain ⟨hI, hJ, hQ, hZ⟩ := h
  refine ⟨mI_fm_signal S a b d hI hJ hQ hZ, ?_⟩
  unfold m_fm_signal
  split
  · exact ⟨hJ, hQ, hZ⟩
  · rename_i ht
    have hi := m_isT6 ht
    have h5 := mF_isT2 ht
    have hz := hZ _ hi h5
    have hr := mp_remember hi hI hJ hz.2.1 hQ hz.1 hz.2.2
    have hIR := mI_fm_remember S a.toNatClampNeg hi hI hJ hQ hz.1
    have hJR := mJ_remember (i := a.toNatClampNeg) hJ
    have hZR := mZ2_remember hi hI hJ hQ hZ h5
    have h5R : ¬ q_i (m_fm_remember S a.toNatClampNeg 5 0 a.toNatClampNeg) = 0 := by rw [m_rem_5 S _ 5 _ (by omega)]; exact h5
    generalize m_fm_remember S a.toNatClampNeg = R at hr hIR hJR hZR h5R ⊢
    have hkp : ∀ (k1 k2 k3 : Nat) (u v w : Value), mJ (q_st (q_st (q_st R 24 0 k1 u) 25 0 k2 v) 23 0 k3 w) ∧ mQ (q_st (q_st (q_st R 24 0 k1 u) 25 0 k2 v) 23 0 k3 w) ∧ mZ2 (q_st (q_st (q_st R 24 0 k1 u) 25 0 k2 v) 23 0 k3 w) := by
      intro k1 k2 k3 u v w
      have e : ∀ x y z : Nat, (x < 23 ∨ 25 < x) → (q_st (q_st (q_st R 24 0 k1 u) 25 0 k2 v) 23 0 k3 w) x y z = R x y z := fun x y z q => by rw [q_kj (by omega), q_kj (by omega), q_kj (by omega)]
      exact ⟨mJ_eq hJR (fun k => e 1 0 k (by omega)) (fun k => e 2 0 k (by omega)) (fun k => e 3 0 k (by omega)) (fun k => e 4 0 k (by omega)), mQ_eq hr.2.2 (e 0 0 33 (by omega)) (fun k => e 32 0 k (by omega)) (fun k => e 7 0 k (by omega)), mZ2_eq hZR (fun x z q => e x 0 z (by omega))⟩
    split
    · exact ⟨hJ, hQ, hZ⟩
    · split
      · split
        · exact ⟨hJ, hQ, hZ⟩
        · split
          · split
            · split
              · exact hkp _ _ _ _ _ _
              · exact ⟨mJ_write _ _ _ hJR, (mp_write hi hIR hJR hr.2.2 (hZR _ hi h5R) _ _ _).2, mZ2_write hi hIR hJR hr.2.2 hZR h5R _ _ _⟩
            · exact hkp _ _ _ _ _ _
          · exact ⟨hJR, hr.2.2, hZR⟩
      · exact ⟨hJ, hQ, hZ⟩
theorem mAll_takeL : ∀ (n : Nat) (S : q_S) (t : Nat), mI S → mJ S → mQ S → mZ2 S → mJ (m_fm_take_L0 n S t).2 ∧ mQ (m_fm_take_L0 n S t).2 ∧ mZ2 (m_fm_take_L0 n S t).2 := by
  intro n
  induction n with
  | zero => intro S t _ hJ hQ hZ; exact ⟨hJ, hQ, hZ⟩
  | succ n ih =>
    intro S t hI hJ hQ hZ
    rw [m_fm_take_L0]
    split
    · exact ⟨hJ, hQ, hZ⟩
    · split
      · have b1 : 0 ≤ (q_i (S 32 0 t)).toInt ∧ (q_i (S 32 0 t)).toInt ≤ 5 := hI 32 0 t
        generalize q_i (S 32 0 t) = w at b1 ⊢
        have hw : ¬ w < 0 := by rw [Int32.lt_iff_toInt_lt]; show ¬ _ < (0 : Int); omega
        have key : ∀ u v x0 : Value, mJ (q_st (q_st (q_st (m_fm_leaveLine S w) 7 0 w.toNatClampNeg u) 29 0 w.toNatClampNeg v) 30 0 w.toNatClampNeg x0) ∧ mQ (q_st (q_st (q_st (m_fm_leaveLine S w) 7 0 w.toNatClampNeg u) 29 0 w.toNatClampNeg v) 30 0 w.toNatClampNeg x0) ∧ mZ2 (q_st (q_st (q_st (m_fm_leaveLine S w) 7 0 w.toNatClampNeg u) 29 0 w.toNatClampNeg v) 30 0 w.toNatClampNeg x0) := by
          intro u v x0
          have e : ∀ x y z : Nat, (x ≠ 0 ∧ x ≠ 7 ∧ x ≠ 29 ∧ x ≠ 30 ∧ x ≠ 32) → (q_st (q_st (q_st (m_fm_leaveLine S w) 7 0 w.toNatClampNeg u) 29 0 w.toNatClampNeg v) 30 0 w.toNatClampNeg x0) x y z = S x y z := fun x y z q => by
            rw [q_kj q.2.2.2.1, q_kj q.2.2.1, q_kj q.2.1]
            exact mK_fm_leaveLine S w x y z q.1 q.2.2.2.2
          refine ⟨mJ_eq hJ (fun k => e 1 0 k (by omega)) (fun k => e 2 0 k (by omega)) (fun k => e 3 0 k (by omega)) (fun k => e 4 0 k (by omega)), ?_, ?_⟩
          · unfold mQ
            rw [mLn_st (by decide) (by decide), mLn_st (by decide) (by decide), mLn_st (by decide) (by decide), mLn_leave hI]
            refine ⟨hQ.1.filter _, fun k hk q z => ?_⟩
            rw [q_kj (by decide), q_kj (by decide)] at q
            obtain ⟨z1, z2⟩ := List.mem_filter.mp z
            by_cases hkw : k = w.toNatClampNeg
            · rw [hkw, q_nn hw] at z2
              simp at z2
            · rw [q_st_n _ _ (fun z => hkw z.2.2), mK_fm_leaveLine S w 7 0 k (by decide) (by decide)] at q
              exact hQ.2 k hk q z1
          · intro i hi h5
            rw [e 5 0 i (by omega)] at h5
            exact mZi_k (hZ i hi h5) (fun x z q => e x 0 z (by omega)) (fun x q => e x 0 i (by omega))
        exact key _ _ _
      · exact ih S (t + 1) hI hJ hQ hZ
theorem mAll_take {S : q_S} (h : mAll S) : mAll (m_fm_take S).2 := by
  obtain ⟨hI, hJ, hQ, hZ⟩ := h
  refine ⟨mI_fm_take S hI, ?_⟩
  unfold m_fm_take
  exact mAll_takeL 7 S 0 hI hJ hQ hZ
