/-! AN ENTRY passed or written, side by side -/
def PsOk (e : Nat) (S T S' T' : q_S) (i : Nat) (a b : Int32) : Prop := Ce e S' T' ∧ q_i (S' 11 i 4) = q_i (T' 16 0 i) ∧ (∀ x y z : Nat, x < 11 ∨ 14 < x → S' x y z = S x y z) ∧ (∀ x z : Nat, x < 15 ∨ 19 < x → T' x 0 z = T x 0 z) ∧ ((lf S i ∧ q_i (S' 11 i 3) = q_i (S 11 i 3) ∧ (lastW S i → lastW S' i ∧ (lf S' i ∨ (a = 2 ∧ b = q_i (S 21 i 0))))) ∨ (¬ lf S i ∧ ¬ lf S' i ∧ ∃ n : Nat, ((n : Int) = (q_i (S 11 i 3)).toInt ∧ n < 20) ∧ q_i (S' 11 i 3) = nI (n + 1) ∧ q_i (S' 12 i n) = a ∧ q_i (S' 13 i n) = b))
theorem lastW_eq {S S' : q_S} {i : Nat} (h : lastW S i) (e1 : q_i (S' 11 i 3) = q_i (S 11 i 3)) (e2 : ∀ n, q_i (S' 12 i n) = q_i (S 12 i n)) (e3 : ∀ n, q_i (S' 13 i n) = q_i (S 13 i n)) (e4 : q_i (S' 21 i 0) = q_i (S 21 i 0)) : lastW S' i := by
  obtain ⟨n, h0, h1, h2, h3⟩ := h
  exact ⟨n, h0, by rw [e1]; exact h1, by rw [e2]; exact h2, by rw [e3, e4]; exact h3⟩
set_option maxHeartbeats 4000000 in
theorem ps_put {e i : Nat} {S T : q_S} {a b d : Int32} (hi : i < 6) (hI : mI T) (h : Ce e S T) (h4 : q_i (S 11 i 4) = q_i (T 16 0 i)) (hg : mg T i) :
    ((x_hi_pass S i a b d).1 = 0 ∧ (m_fm_put T i a b d).1 = 0 ∧ (x_hi_pass S i a b d).2 = S ∧ (m_fm_put T i a b d).2 = m_fm_breakUp T i) ∨
    (¬ (x_hi_pass S i a b d).1 = 0 ∧ ¬ (m_fm_put T i a b d).1 = 0 ∧ PsOk e S T (x_hi_pass S i a b d).2 (m_fm_put T i a b d).2 i a b) := by
  have hl := m_lf hi hI h h4
  have h3 : q_i (S 11 i 3) = q_i (T 15 0 i) := ce_i h (rm_hs hi) (by omega)
  have b1 : 0 ≤ (q_i (T 15 0 i)).toInt ∧ (q_i (T 15 0 i)).toInt ≤ 20 := hI 15 0 i
  have b2 : 0 ≤ (q_i (T 16 0 i)).toInt ∧ (q_i (T 16 0 i)).toInt ≤ 20 := hI 16 0 i
  have hg1 : (q_i (T 16 0 i)).toInt ≤ (q_i (T 15 0 i)).toInt := hg
  have c1 := q_clI b1.1
  have c2 := q_clI b2.1
  unfold x_hi_pass m_fm_put
  by_cases g : lf S i
  · have g0 : (q_i (S 11 i 4)).toInt < (q_i (S 11 i 3)).toInt := g
    rw [h3, h4] at g0
    have n16 : (q_i (T 16 0 i)).toNatClampNeg < 20 := by omega
    have e12 : q_i (S 12 i (q_i (S 11 i 4)).toNatClampNeg) = q_i (T 17 0 (20 * i + (q_i (T 16 0 i)).toNatClampNeg)) := by rw [h4]; exact ce_i h (rm_s hi n16) (by omega)
    have e13 : q_i (S 13 i (q_i (S 11 i 4)).toNatClampNeg) = q_i (T 18 0 (20 * i + (q_i (T 16 0 i)).toNatClampNeg)) := by rw [h4]; exact ce_i h (rm_n hi n16) (by omega)
    have e14 : q_i (S 14 i (q_i (S 11 i 4)).toNatClampNeg) = q_i (T 19 0 (20 * i + (q_i (T 16 0 i)).toNatClampNeg)) := by rw [h4]; exact ce_i h (rm_v hi n16) (by omega)
    rw [if_neg (c := q_i (S 11 i 3) ≤ q_i (S 11 i 4)) (by rw [Int32.le_iff_toInt_le, h3, h4]; omega), if_neg (c := m_fm_left T i ≤ 0) (by rw [Int32.le_iff_toInt_le, hl, h3, h4]; show ¬ _ ≤ (0 : Int); omega)]
    rw [e12, e13, e14]
    have gl : ¬ m_fm_left T i = 0 := fun z => by
      have := congrArg Int32.toInt z
      rw [hl, h3, h4] at this
      have : _ = (0 : Int) := this
      omega
    rw [if_neg gl]
    by_cases g1 : q_i (T 17 0 (20 * i + (q_i (T 16 0 i)).toNatClampNeg)) = a
    · by_cases g2 : q_i (T 18 0 (20 * i + (q_i (T 16 0 i)).toNatClampNeg)) = b
      · by_cases g3 : q_i (T 19 0 (20 * i + (q_i (T 16 0 i)).toNatClampNeg)) = d
        · rw [if_pos g1, if_pos g2, if_pos g3, if_pos g1, if_pos g2, if_pos g3]
          refine Or.inr ⟨by show ¬ (1 : Int32) = 0; decide, by show ¬ (1 : Int32) = 0; decide, ce_m (ce_x h rx_11_4) rn_16, ?_, fun x y z hx => q_kj (by omega), fun x z hx => q_kj (by omega), Or.inl ⟨g, q_sk (by decide) rfl, fun lw => ?_⟩⟩
          · show q_i (q_st S 11 i 4 _ 11 i 4) = q_i (q_st T 16 0 i _ 16 0 i)
            rw [q_ss, q_ss, h4]
          · have k3 : q_i (q_st S 11 i 4 (.int ((q_i (S 11 i 4)) + 1)) 11 i 3) = q_i (S 11 i 3) := q_sk (by decide) rfl
            have kk : ∀ x z : Nat, x ≠ 11 → q_i (q_st S 11 i 4 (.int ((q_i (S 11 i 4)) + 1)) x i z) = q_i (S x i z) := fun x z hx => by rw [q_kj hx]
            refine ⟨lastW_eq lw k3 (fun n => kk 12 n (by decide)) (fun n => kk 13 n (by decide)) (kk 21 0 (by decide)), ?_⟩
            obtain ⟨n, n0, n1, n2, n3⟩ := lw
            have n4 : (q_i (S 11 i 3)).toInt = (n : Int) + 1 := by rw [n1, nI_toInt (by omega)]; omega
            by_cases g5 : (q_i (S 11 i 4)).toNatClampNeg = n
            · refine Or.inr ⟨?_, ?_⟩
              · rw [g5] at e12
                rw [← g1, ← e12, n2]
              · rw [g5] at e13
                rw [← g2, ← e13, n3]
            · refine Or.inl ?_
              show (q_i (q_st S 11 i 4 (.int ((q_i (S 11 i 4)) + 1)) 11 i 4)).toInt < (q_i (q_st S 11 i 4 (.int ((q_i (S 11 i 4)) + 1)) 11 i 3)).toInt
              rw [q_ss, k3, h4, q_inc (by omega), n4]
              rw [h4] at g5
              rw [h3] at n4
              omega
        · rw [if_pos g1, if_pos g2, if_neg g3, if_pos g1, if_pos g2, if_neg g3]
          exact Or.inl ⟨rfl, rfl, rfl, rfl⟩
      · rw [if_pos g1, if_neg g2, if_pos g1, if_neg g2]
        exact Or.inl ⟨rfl, rfl, rfl, rfl⟩
    · rw [if_neg g1, if_neg g1]
      exact Or.inl ⟨rfl, rfl, rfl, rfl⟩
  · have g0 : ¬ (q_i (S 11 i 4)).toInt < (q_i (S 11 i 3)).toInt := g
    rw [h3, h4] at g0
    rw [if_pos (c := q_i (S 11 i 3) ≤ q_i (S 11 i 4)) (by rw [Int32.le_iff_toInt_le, h3, h4]; omega), if_pos (c := m_fm_left T i ≤ 0) (by rw [Int32.le_iff_toInt_le, hl, h3, h4]; show _ ≤ (0 : Int); omega)]
    by_cases g1 : q_i (S 11 i 3) < 20
    · have g2 : (q_i (S 11 i 3)).toInt < 20 := Int32.lt_iff_toInt_lt.mp g1
      rw [h3] at g2
      have gl : m_fm_left T i = 0 := Int32.toInt_inj.mp (by rw [hl, h3, h4]; show _ = (0 : Int); omega)
      rw [if_pos g1, if_neg (c := (20 : Int32) ≤ q_i (T 15 0 i)) (by rw [Int32.le_iff_toInt_le]; show ¬ (20 : Int) ≤ _; omega), if_pos gl]
      have en : (q_i (S 11 i 3)).toNatClampNeg = (q_i (T 16 0 i)).toNatClampNeg := by rw [h3]; omega
      have n16 : (q_i (T 16 0 i)).toNatClampNeg < 20 := by omega
      have e34 : q_i (S 11 i 3) = q_i (T 16 0 i) := by rw [h3]; exact Int32.toInt_inj.mp (by omega)
      rw [en]
      refine Or.inr ⟨by show ¬ (1 : Int32) = 0; decide, by show ¬ (1 : Int32) = 0; decide, ?_, ?_, ?_, ?_, Or.inr ⟨g, ?_, (q_i (T 16 0 i)).toNatClampNeg, ⟨by rw [e34]; exact c2, n16⟩, ?_, ?_, ?_⟩⟩
      · rw [h3]
        exact ce_m (ce_x (ce_p (ce_p (ce_p (ce_p h (rm_s hi n16)) (rm_n hi n16)) (rm_v hi n16)) (rm_hs hi)) rx_11_4) rn_16
      · show q_i (q_st _ 11 i 4 _ 11 i 4) = q_i (q_st _ 16 0 i _ 16 0 i)
        rw [q_ss, q_ss, e34]
      · intro x y z hx
        show q_st _ _ _ _ _ _ _ _ = _
        rw [q_kj (by omega), q_kj (by omega), q_kj (by omega), q_kj (by omega), q_kj (by omega)]
      · intro x z hx
        show q_st _ _ _ _ _ _ _ _ = _
        rw [q_kj (by omega), q_kj (by omega), q_kj (by omega), q_kj (by omega), q_kj (by omega)]
      · unfold lf
        dsimp only
        rw [q_ss, q_sk (by decide) q_ss]
        omega
      · show q_i (q_st _ 11 i 4 _ 11 i 3) = _
        rw [q_sk (by decide) q_ss]
        exact Int32.toInt_inj.mp (by rw [q_inc (by rw [h3]; omega), nI_toInt (by omega), h3]; omega)
      · dsimp only
        exact q_sj (by decide) (q_sj (by decide) (q_sj (by decide) (q_sj (by decide) q_ss)))
      · dsimp only
        exact q_sj (by decide) (q_sj (by decide) (q_sj (by decide) q_ss))
    · rw [if_neg g1, if_pos (c := (20 : Int32) ≤ q_i (T 15 0 i)) (by rw [← h3, Int32.le_iff_toInt_le]; rw [Int32.lt_iff_toInt_lt] at g1; exact Int.not_lt.mp g1)]
      exact Or.inl ⟨rfl, rfl, rfl, rfl⟩
