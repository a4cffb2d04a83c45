/-! every instruction of the reference's programs is as said -/
def mJ (S : q_S) : Prop := ∀ p k : Nat, p < 3 → (k : Int) < (q_i (S 4 0 p)).toInt → ¬ m_fm_isGood S (q_i (S 1 0 (14 * p + k))) (q_i (S 2 0 (14 * p + k))) (q_i (S 3 0 (14 * p + k))) = 0
theorem m_good_S (S S' : q_S) (a b d : Int32) : m_fm_isGood S' a b d = m_fm_isGood S a b d := rfl
theorem mJ_eq {S S' : q_S} (h : mJ S) (h1 : ∀ k, S' 1 0 k = S 1 0 k) (h2 : ∀ k, S' 2 0 k = S 2 0 k) (h3 : ∀ k, S' 3 0 k = S 3 0 k) (h4 : ∀ k, S' 4 0 k = S 4 0 k) : mJ S' := by
  intro p k hp hk
  rw [h4] at hk
  rw [h1, h2, h3, m_good_S S S']
  exact h p k hp hk
theorem mF_in2 {S : q_S} {a : Int32} {n : Int} {c : Int32} (hc : c.toInt = n) (h : ¬ m_fm_in S a 0 c = 0) : 0 ≤ a.toInt ∧ a.toInt ≤ n := by
  obtain ⟨h1, h2⟩ := mF_in h
  rw [Int32.lt_iff_toInt_lt] at h1 h2
  have h1 : ¬ a.toInt < 0 := h1
  omega
theorem mG_a {S : q_S} {o a b : Int32} (h : ¬ m_fm_isGood S o a b = 0) (h3 : ¬ o = 3) (h9 : ¬ o = 9) : 0 ≤ a.toInt ∧ a.toInt ≤ 3 := by
  unfold m_fm_isGood at h
  repeat' split at h
  all_goals first
    | exact absurd rfl h
    | exact mF_in2 rfl h
    | exact mF_in2 rfl (by assumption)
    | (exfalso; exact h9 (by assumption))
    | (exfalso; exact h3 (by assumption))
theorem mG_j {S : q_S} {o a b : Int32} (h : ¬ m_fm_isGood S o a b = 0) (ho : o = 3) : 0 ≤ a.toInt ∧ a.toInt ≤ 14 := by
  subst ho
  unfold m_fm_isGood at h
  rw [if_neg (by decide), if_neg (by decide), if_neg (by decide), if_pos rfl] at h
  exact mF_in2 rfl h
theorem mG_z {S : q_S} {o a b : Int32} (h : ¬ m_fm_isGood S o a b = 0) (ho : o = 4) : 0 ≤ b.toInt ∧ b.toInt ≤ 14 := by
  subst ho
  unfold m_fm_isGood at h
  rw [if_neg (by decide), if_neg (by decide), if_neg (by decide), if_neg (by decide), if_pos rfl] at h
  split at h
  · exact absurd rfl h
  · split at h
    · exact absurd rfl h
    · exact mF_in2 rfl (by assumption)
theorem mG_b {S : q_S} {o a b : Int32} (h : ¬ m_fm_isGood S o a b = 0) (ho : o = 1 ∨ o = 2 ∨ o = 5 ∨ o = 7 ∨ o = 8) : 0 ≤ b.toInt ∧ b.toInt ≤ 3 := by
  unfold m_fm_isGood at h
  rcases ho with rfl | rfl | rfl | rfl | rfl
  all_goals
    simp only [show ¬ ((1 : Int32) = 0) by decide, show ¬ ((2 : Int32) = 0) by decide, show ¬ ((2 : Int32) = 1) by decide, show ¬ ((5 : Int32) = 0) by decide, show ¬ ((5 : Int32) = 1) by decide, show ¬ ((5 : Int32) = 2) by decide, show ¬ ((5 : Int32) = 3) by decide, show ¬ ((5 : Int32) = 4) by decide, show ¬ ((7 : Int32) = 0) by decide, show ¬ ((7 : Int32) = 1) by decide, show ¬ ((7 : Int32) = 2) by decide, show ¬ ((7 : Int32) = 3) by decide, show ¬ ((7 : Int32) = 4) by decide, show ¬ ((7 : Int32) = 5) by decide, show ¬ ((7 : Int32) = 6) by decide, show ¬ ((8 : Int32) = 0) by decide, show ¬ ((8 : Int32) = 1) by decide, show ¬ ((8 : Int32) = 2) by decide, show ¬ ((8 : Int32) = 3) by decide, show ¬ ((8 : Int32) = 4) by decide, show ¬ ((8 : Int32) = 5) by decide, show ¬ ((8 : Int32) = 6) by decide, show ¬ ((8 : Int32) = 7) by decide, if_false, if_true] at h
    split at h
    · exact absurd rfl h
    · split at h
      · exact absurd rfl h
      · exact mF_in2 rfl (by assumption)
/-- the instruction at which a workflow is -/
theorem mJ_at {S : q_S} (hI : mI S) (hJ : mJ S) {i : Nat} (h : q_i (S 11 0 i) < q_i (S 4 0 (q_i (S 9 0 i)).toNatClampNeg)) : ¬ m_fm_isGood S (q_i (S 1 0 (14 * ((q_i (S 9 0 i)).toNatClampNeg) + ((q_i (S 11 0 i)).toNatClampNeg)))) (q_i (S 2 0 (14 * ((q_i (S 9 0 i)).toNatClampNeg) + ((q_i (S 11 0 i)).toNatClampNeg)))) (q_i (S 3 0 (14 * ((q_i (S 9 0 i)).toNatClampNeg) + ((q_i (S 11 0 i)).toNatClampNeg)))) = 0 := by
  have b1 : 0 ≤ (q_i (S 9 0 i)).toInt ∧ (q_i (S 9 0 i)).toInt ≤ 2 := hI 9 0 i
  have b2 : 0 ≤ (q_i (S 11 0 i)).toInt ∧ (q_i (S 11 0 i)).toInt ≤ 14 := hI 11 0 i
  have c1 := q_clI b1.1
  have c2 := q_clI b2.1
  rw [Int32.lt_iff_toInt_lt] at h
  exact hJ _ _ (by omega) (by omega)
