theorem mAll_add {S : q_S} (h : mAll S) (a b d f : Int32) : mAll (m_fm_add S a b d f).2 := by
  obtain ⟨hI, hJ, hQ, hZ⟩ := h
  refine ⟨mI_fm_add S a b d f hI, ?_⟩
  unfold m_fm_add
  split
  · exact ⟨hJ, hQ, hZ⟩
  · rename_i q1
    split
    · exact ⟨hJ, hQ, hZ⟩
    · rename_i q2
      split
      · exact ⟨hJ, hQ, hZ⟩
      · rename_i q3
        have ha : 0 ≤ a.toInt ∧ a.toInt ≤ 2 := mF_in2 rfl q1
        have b4 : 0 ≤ (q_i (S 4 0 a.toNatClampNeg)).toInt ∧ (q_i (S 4 0 a.toNatClampNeg)).toInt ≤ 14 := hI 4 0 _
        have q3 := lv_neT q3 (a := 14) (by decide)
        have e4 := q_inc (x := q_i (S 4 0 a.toNatClampNeg)) (by omega)
        have l1 := q_mulI (c := 14) (x := a) (k := 14) rfl (by omega)
        have l2 := q_addI (x := 14 * a) (y := q_i (S 4 0 a.toNatClampNeg)) (by omega)
        have c1 := q_clI ha.1
        have c2 := q_clI b4.1
        have hsl : (14 * a + q_i (S 4 0 a.toNatClampNeg)).toNatClampNeg = 14 * a.toNatClampNeg + (q_i (S 4 0 a.toNatClampNeg)).toNatClampNeg := q_tn (by omega)
        generalize hK : 14 * a + q_i (S 4 0 a.toNatClampNeg) = K at hsl ⊢
        have e : ∀ x z : Nat, x ≠ 4 → (q_st (m_fm_set S K b d f) 4 0 a.toNatClampNeg (.int (q_i (S 4 0 a.toNatClampNeg) + 1))) x 0 z = m_fm_set S K b d f x 0 z := fun x z h => q_kj h
        have hJV : mJ (q_st (m_fm_set S K b d f) 4 0 a.toNatClampNeg (.int (q_i (S 4 0 a.toNatClampNeg) + 1))) := by
          intro p k hp hk
          rw [m_good_S S, e 1 _ (by decide), e 2 _ (by decide), e 3 _ (by decide)]
          by_cases he : 14 * p + k = K.toNatClampNeg
          · obtain ⟨s1, s2, s3⟩ := m_set_s S K b d f
            rw [he, s1, s2, s3]
            exact q2
          · rw [m_set_n S _ _ _ _ 1 _ he, m_set_n S _ _ _ _ 2 _ he, m_set_n S _ _ _ _ 3 _ he]
            refine hJ p k hp ?_
            by_cases hpa : p = a.toNatClampNeg
            · rw [hpa] at hk he ⊢
              rw [q_ss, e4] at hk
              omega
            · rw [q_st_n _ _ (fun z => hpa z.2.2), m_set_o S _ _ _ _ 4 0 p (by omega)] at hk
              exact hk
        refine ⟨mJ_fa a hJV, mQ_fa a (mQ_eq hQ ((e 0 33 (by decide)).trans (m_set_o S _ _ _ _ 0 0 33 (by omega))) (fun k => (e 32 k (by decide)).trans (m_set_o S _ _ _ _ 32 0 k (by omega))) (fun k => (e 7 k (by decide)).trans (m_set_o S _ _ _ _ 7 0 k (by omega)))), ?_⟩
        exact mZ2_put (sl := K.toNatClampNeg) hI ha hZ (by omega) (fun k hk => (q_st_n _ _ (fun z => hk z.2.2)).trans (m_set_o S _ _ _ _ 4 0 k (by omega))) (fun k hk => (e 1 k (by decide)).trans (m_set_n S _ _ _ _ 1 k hk)) (fun x z hx => (e x z (by omega)).trans (m_set_o S _ _ _ _ x 0 z (by omega)))
theorem mAll_0 : mAll mS0 := by
  refine ⟨mI_0, ?_, ?_, ?_⟩
  · intro p k hp hk
    have hk : (k : Int) < 0 := hk
    omega
  · refine ⟨?_, fun w hw q => absurd rfl q⟩
    have e : mLn mS0 = [] := rfl
    rw [e]
    exact List.nodup_nil
  · intro i hi q
    exact absurd rfl q
