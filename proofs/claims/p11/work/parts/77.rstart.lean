/-! start, side by side -/
def stB (T : q_S) (a b : Int32) (t : Nat) : q_S := q_st (q_st (q_st (q_st (q_st (q_st (q_st (q_st (q_st T 5 0 t (.int 1)) 6 0 t (.int 0)) 9 0 t (.int a)) 13 0 t (.int 0)) 23 0 t (.int 0)) 15 0 t (.int 1)) 17 0 (20 * t) (.int 1)) 18 0 (20 * t) (.int a)) 19 0 (20 * t) (.int b)
theorem c_free {S T : q_S} (h : Ce 6 S T) {a b : Int32} : ∀ n t : Nat, t + n = 7 → t ≤ 6 → (x_fe_leastFree_L0 n S t = (-1) ∧ m_fm_start_L0 n T a b t = ((-3), T)) ∨ (∃ i : Nat, i < 6 ∧ q_i (T 5 0 i) = 0 ∧ x_fe_leastFree_L0 n S t = nI i ∧ m_fm_start_L0 n T a b t = (nI i, m_fm_begin (stB T a b i) i)) := by
  intro n
  induction n with
  | zero => intro t h1 h2; omega
  | succ n ih =>
    intro t h1 h2
    rw [x_fe_leastFree_L0, m_fm_start_L0]
    by_cases g : 6 ≤ nI t
    · have e6 : t = 6 := by
        rw [Int32.le_iff_toInt_le, nI_toInt (by omega)] at g
        have g : (6 : Int) ≤ t := g
        omega
      rw [if_pos g, if_pos g, if_pos (by rw [e6]; rfl)]
      exact Or.inl ⟨rfl, rfl⟩
    · rw [if_neg g, if_neg g, nI_clamp (by omega)]
      have ht : t < 6 := m_lt6 h2 g
      rw [ce_i h (rm_th ht) (by omega)]
      by_cases g1 : q_i (T 5 0 t) = 0
      · rw [if_pos g1, if_pos g1, if_neg (c := nI t = 6) (fun z => by
          have := congrArg Int32.toInt z
          rw [nI_toInt (by omega)] at this
          have : (t : Int) = 6 := this
          omega)]
        exact Or.inr ⟨t, ht, g1, rfl, rfl⟩
      · rw [if_neg g1, if_neg g1]
        exact ih (t + 1) (by omega) (by omega)
theorem st_pass (S : q_S) (i : Nat) (a b : Int32) : (x_hi_pass (q_st (q_st (q_st (q_st (q_st S 9 i 6 (.int 1)) 9 i 9 (.int a)) 15 i 2 (.int 0)) 11 i 3 (.int 0)) 11 i 4 (.int 0)) i 1 a b).2 = q_st (q_st (q_st (q_st (q_st (q_st (q_st (q_st (q_st (q_st S 9 i 6 (.int 1)) 9 i 9 (.int a)) 15 i 2 (.int 0)) 11 i 3 (.int 0)) 11 i 4 (.int 0)) 12 i 0 (.int 1)) 13 i 0 (.int a)) 14 i 0 (.int b)) 11 i 3 (.int 1)) 11 i 4 (.int 1) := by
  have e3 : q_i ((q_st (q_st (q_st (q_st (q_st S 9 i 6 (.int 1)) 9 i 9 (.int a)) 15 i 2 (.int 0)) 11 i 3 (.int 0)) 11 i 4 (.int 0)) 11 i 3) = 0 := q_sk (by decide) q_ss
  have e4 : q_i ((q_st (q_st (q_st (q_st (q_st S 9 i 6 (.int 1)) 9 i 9 (.int a)) 15 i 2 (.int 0)) 11 i 3 (.int 0)) 11 i 4 (.int 0)) 11 i 4) = 0 := q_ss
  unfold x_hi_pass
  rw [e3, e4, if_pos (by decide), if_pos (by decide), show (0 : Int32).toNatClampNeg = 0 by decide, show (0 + 1 : Int32) = 1 by decide]
theorem ce_start {S T : q_S} {i : Nat} {a b : Int32} (hi : i < 6) (h : Ce 6 S T) : Ce 6 (q_st (q_st (q_st (q_st (q_st (q_st (q_st (q_st (q_st (q_st (q_st S 9 i 6 (.int 1)) 9 i 9 (.int a)) 15 i 2 (.int 0)) 11 i 3 (.int 0)) 11 i 4 (.int 0)) 12 i 0 (.int 1)) 13 i 0 (.int a)) 14 i 0 (.int b)) 11 i 3 (.int 1)) 11 i 4 (.int 1)) 9 i 7 (.int 0)) (stB T a b i) := by
  have c1 : Ce 6 (q_st (q_st (q_st (q_st (q_st (q_st (q_st (q_st S 9 i 6 (.int 1)) 9 i 7 (.int 0)) 9 i 9 (.int a)) 15 i 2 (.int 0)) 11 i 3 (.int 1)) 12 i 0 (.int 1)) 13 i 0 (.int a)) 14 i 0 (.int b)) (stB T a b i) := ce_p (ce_p (ce_p (ce_p (ce_p (ce_m (ce_p (ce_p (ce_p h (rm_th hi)) (rm_fo hi)) (rm_pg hi)) rn_13) (rm_ks hi)) (rm_hs hi)) (rm_s hi (k := 0) (by decide))) (rm_n hi (k := 0) (by decide))) (rm_v hi (k := 0) (by decide))
  refine ce_eqx c1 (fun j i' k a' b' m n => ?_)
  have n4 : ¬ (j = 11 ∧ i' = i ∧ k = 4) := fun z => by
    obtain ⟨rfl, rfl, rfl⟩ := z
    exact rx_11_4 _ _ m
  have e : (q_st (q_st (q_st (q_st (q_st (q_st (q_st (q_st (q_st (q_st (q_st S 9 i 6 (.int 1)) 9 i 9 (.int a)) 15 i 2 (.int 0)) 11 i 3 (.int 0)) 11 i 4 (.int 0)) 12 i 0 (.int 1)) 13 i 0 (.int a)) 14 i 0 (.int b)) 11 i 3 (.int 1)) 11 i 4 (.int 1)) 9 i 7 (.int 0)) j i' k = (q_st (q_st (q_st (q_st (q_st (q_st (q_st (q_st S 9 i 6 (.int 1)) 9 i 7 (.int 0)) 9 i 9 (.int a)) 15 i 2 (.int 0)) 11 i 3 (.int 1)) 12 i 0 (.int 1)) 13 i 0 (.int a)) 14 i 0 (.int b)) j i' k := by
    by_cases gi : i' = i
    · subst gi
      by_cases h9 : j = 9
      · subst h9
        by_cases k7 : k = 7
        · subst k7; simp [q_st]
        · by_cases k9 : k = 9
          · subst k9; simp [q_st]
          · by_cases k6 : k = 6
            · subst k6; simp [q_st]
            · simp [q_st, k6, k7, k9]
      · by_cases h11 : j = 11
        · subst h11
          have k4 : k ≠ 4 := fun z => n4 ⟨rfl, rfl, z⟩
          by_cases k3 : k = 3
          · subst k3; simp [q_st]
          · simp [q_st, k3, k4]
        · simp [q_st, h9, h11]
    · simp [q_st, gi]
  rw [e]
  exact vq_r
theorem all_stB {T : q_S} {i : Nat} {a b : Int32} (ha : 0 ≤ a.toInt ∧ a.toInt ≤ 2) (hI : mI T) (hJ : mJ T) (hQ : mQ T) : mI (stB T a b i) ∧ mJ (stB T a b i) ∧ mQ (stB T a b i) := by
  have k : ∀ x z : Nat, x ≠ 5 → x ≠ 6 → x ≠ 9 → x ≠ 13 → x ≠ 15 → x ≠ 17 → x ≠ 18 → x ≠ 19 → x ≠ 23 → stB T a b i x 0 z = T x 0 z := fun x z a1 a2 a3 a4 a5 a6 a7 a8 a9 => by
    unfold stB
    rw [q_kj a8, q_kj a7, q_kj a6, q_kj a5, q_kj a9, q_kj a4, q_kj a3, q_kj a2, q_kj a1]
  refine ⟨?_, mJ_eq hJ (fun z => k 1 z (by decide) (by decide) (by decide) (by decide) (by decide) (by decide) (by decide) (by decide) (by decide)) (fun z => k 2 z (by decide) (by decide) (by decide) (by decide) (by decide) (by decide) (by decide) (by decide) (by decide)) (fun z => k 3 z (by decide) (by decide) (by decide) (by decide) (by decide) (by decide) (by decide) (by decide) (by decide)) (fun z => k 4 z (by decide) (by decide) (by decide) (by decide) (by decide) (by decide) (by decide) (by decide) (by decide)), mQ_eq hQ (k 0 33 (by decide) (by decide) (by decide) (by decide) (by decide) (by decide) (by decide) (by decide) (by decide)) (fun z => k 32 z (by decide) (by decide) (by decide) (by decide) (by decide) (by decide) (by decide) (by decide) (by decide)) (fun z => k 7 z (by decide) (by decide) (by decide) (by decide) (by decide) (by decide) (by decide) (by decide) (by decide))⟩
  unfold stB
  refine mIs (mIs (mIs (mI_st (mI_st (mIs (mI_st (mIs (mIs hI rfl) rfl) ?_) rfl) ?_) ?_) rfl) rfl) rfl
  · exact ha
  · show (0 : Int) ≤ (0 : Int32).toInt ∧ (0 : Int32).toInt ≤ 4; decide
  · show (0 : Int) ≤ (1 : Int32).toInt ∧ (1 : Int32).toInt ≤ 20; decide
set_option maxHeartbeats 4000000 in
theorem c_start {c : Nat → Int} {S T : q_S} (hxI : xI S) (hxJ : xJ S) (hA : mAll T) (h : Rl c S T) (a b : Int32) : (x_fe_start S a b).1 = (m_fm_start T a b).1 ∧ Rl c (x_fe_start S a b).2 (m_fm_start T a b).2 := by
  obtain ⟨hI, hJ, hQ, hZ⟩ := id hA
  unfold x_fe_start m_fm_start x_fe_leastFree
  rw [prog_eq S T]
  by_cases g0 : m_fm_in T a 0 2 = 0
  · rw [if_pos g0, if_pos g0]; exact ⟨rfl, h⟩
  · rw [if_neg g0, if_neg g0]
    have ha := in_2 g0
    rcases c_free (a := a) (b := b) h.1 7 0 rfl (by decide) with ⟨q1, q2⟩ | ⟨i, hi, t0, q1, q2⟩
    · rw [q1, q2, if_neg (by decide)]; exact ⟨rfl, h⟩
    · rw [q1, q2, if_pos (nI_pos' (by omega)), nI_clamp (by omega)]
      refine ⟨rfl, ?_⟩
      show Rl c (x_fe_run (x_wf_begin S i a b) i) (m_fm_begin (stB T a b i) i)
      obtain ⟨r1, r2, r3, r4, r5⟩ := h.2 i hi
      have th : q_i (S 9 i 6) = 0 := by rw [ce_i h.1 (rm_th hi) (by omega)]; exact t0
      have nT : ¬ hasT S T i := fun z => (r4 z).1 th
      obtain ⟨sI, sJ, sQ⟩ := all_stB (i := i) (b := b) ha hI hJ hQ
      have k : ∀ x z : Nat, x ≠ 5 → x ≠ 6 → x ≠ 9 → x ≠ 13 → x ≠ 15 → x ≠ 17 → x ≠ 18 → x ≠ 19 → x ≠ 23 → stB T a b i x 0 z = T x 0 z := fun x z a1 a2 a3 a4 a5 a6 a7 a8 a9 => by
        unfold stB
        rw [q_kj a8, q_kj a7, q_kj a6, q_kj a5, q_kj a9, q_kj a4, q_kj a3, q_kj a2, q_kj a1]
      have hm : mLn (stB T a b i) = mLn T := mLn_eq (k 0 33 (by decide) (by decide) (by decide) (by decide) (by decide) (by decide) (by decide) (by decide) (by decide)) (fun z => k 32 z (by decide) (by decide) (by decide) (by decide) (by decide) (by decide) (by decide) (by decide) (by decide))
      have w15 : q_i (stB T a b i 15 0 i) = 1 := by
        unfold stB
        exact q_sj (by decide) (q_sj (by decide) (q_sj (by decide) q_ss))
      have w5 : q_i (stB T a b i 5 0 i) = 1 := by
        unfold stB
        exact q_sj (by decide) (q_sj (by decide) (q_sj (by decide) (q_sj (by decide) (q_sj (by decide) (q_sj (by decide) (q_sj (by decide) (q_sj (by decide) q_ss)))))))
      have xo : xOff i S (x_fe_run (x_wf_begin S i a b) i) := xo_run (xo_begin xo_r)
      have xt : xTm i S (x_fe_run (x_wf_begin S i a b) i) := xt_run (xt_begin xt_r)
      have mo : mO i T (m_fm_begin (stB T a b i) i) := mO_begin (by
        unfold stB
        exact mO_j (by omega) (mO_j (by omega) (mO_j (by omega) (mO_i (mO_i (mO_i (mO_i (mO_i (mO_i mO_r)))))))))
      have o2 : Out2 6 (c i) T (x_fe_run (x_wf_begin S i a b) i) (m_fm_begin (stB T a b i) i) i := by
        rw [begB_eq]
        refine rr_run hi (xI_wf_begin S i a b hi hxI ha) (xJ_keep hxJ (fun x y z hh => xo_begin xo_r x y z (by omega) (by omega))) (gd_begB hi sI sJ sQ (by rw [w15]; decide)) ?_
        unfold x_wf_begin
        rw [st_pass]
        refine ent_beg hi (ce_start hi h.1) (Or.inr rfl) ?_ (fun z => by omega) (lk_eq lk_r hm) (fun z => absurd ?_ nT) (fun _ => ?_)
        · rw [q_st_n _ _ (by omega), q_ss]; decide
        · unfold hasT at z ⊢
          rw [hm, q_kj (by decide), q_kj (by decide), q_kj (by decide), q_kj (by decide), q_kj (by decide), q_kj (by decide), q_kj (by decide), q_kj (by decide), q_kj (by decide), q_kj (by decide)] at z
          exact z
        · rw [q_kj (by decide), q_kj (by decide), q_kj (by decide), q_kj (by decide), q_kj (by decide), q_kj (by decide), q_kj (by decide), q_kj (by decide), q_kj (by decide), q_kj (by decide)]
          exact r5 nT
      refine rl_out (c' := c) h o2 (fun _ _ => rfl) xo xt mo (fun x z hx => ?_) ?_
      · rw [m_beg_5 _ i x z (by omega)]
        exact k x z (by omega) (by omega) (by omega) (by omega) (by omega) (by omega) (by omega) (by omega) (by omega)
      · rw [ce_i (o2_ce o2).1 (rm_th hi) (by omega), m_beg_5 _ i 5 i (by omega), w5]
        decide
