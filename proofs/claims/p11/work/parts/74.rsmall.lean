/-! remove, forget, take, side by side -/
theorem leaveL_comm {j k : Nat} {v : Value} {a : Int32} (h0 : j ≠ 0) (h32 : j ≠ 32) : ∀ (n : Nat) (T : q_S) (w t : Nat), m_fm_leaveLine_L0 n (q_st T j 0 k v) a w t = q_st (m_fm_leaveLine_L0 n T a w t) j 0 k v := by
  intro n
  induction n with
  | zero => intro T w t; rw [m_fm_leaveLine_L0, m_fm_leaveLine_L0]
  | succ n ih =>
    intro T w t
    rw [m_fm_leaveLine_L0, m_fm_leaveLine_L0, q_kj (Ne.symm h0), q_kj (Ne.symm h32)]
    by_cases g1 : q_i (T 0 0 33) ≤ nI t
    · rw [if_pos g1, if_pos g1, q_comm h0]
    · rw [if_neg g1, if_neg g1]
      by_cases g2 : q_i (T 32 0 t) = a
      · rw [if_pos g2, if_pos g2]
        exact ih T w (t + 1)
      · rw [if_neg g2, if_neg g2, q_comm h32]
        exact ih _ (w + 1) (t + 1)
theorem noT_comm {T : q_S} {i k : Nat} {v : Value} : m_fm_noTask (q_st T 5 0 k v) i = q_st (m_fm_noTask T i) 5 0 k v := by
  unfold m_fm_noTask m_fm_leaveLine
  rw [q_comm (j := 5) (j' := 8) (by decide), q_comm (j := 5) (j' := 7) (by decide), q_comm (j := 5) (j' := 29) (by decide)]
  exact leaveL_comm (by decide) (by decide) 7 _ 0 0
theorem c_remove {c : Nat → Int} {S T : q_S} (hA : mAll T) (h : Rl c S T) (a : Int32) : (x_fe_remove S a).1 = (m_fm_remove T a).1 ∧ Rl c (x_fe_remove S a).2 (m_fm_remove T a).2 := by
  obtain ⟨hI, hJ, hQ, hZ⟩ := id hA
  unfold x_fe_remove m_fm_remove
  rw [← th_eq h.1]
  by_cases g0 : x_fe_isThere S a = 0
  · rw [if_pos g0, if_pos g0]; exact ⟨rfl, h⟩
  · rw [if_neg g0, if_neg g0]
    obtain ⟨hi, th, -⟩ := th_x g0
    generalize a.toNatClampNeg = i at *
    refine ⟨rfl, ?_⟩
    dsimp only
    obtain ⟨r1, r2, r3, r4, r5⟩ := h.2 i hi
    have r := x_renew_1 (x_tl_drop S (nI i)) i 0
    have kd : ∀ x y z : Nat, x ≠ 3 → x ≠ 4 → x ≠ 21 → x_fe_dropTask S i x y z = S x y z := fun x y z a b c => xK_fe_dropTask S i x y z a b c
    have hce : Ce 6 (q_st (x_fe_dropTask S i) 9 i 6 (.int 0)) (m_fm_noTask (q_st T 5 0 i (.int 0)) i) := by
      rw [noT_comm]
      exact ce_p (ce_noTask hi (Or.inr rfl) hI h.1) (rm_th hi)
    have hI5 : mI (q_st T 5 0 i (.int 0)) := mIs hI rfl
    have e9 : ∀ z : Nat, z ≠ 6 → q_st (x_fe_dropTask S i) 9 i 6 (.int 0) 9 i z = S 9 i z := fun z hz => by rw [q_st_n _ _ (by omega), kd 9 i z (by decide) (by decide) (by decide)]
    have km : ∀ x z : Nat, x ≠ 0 → x ≠ 5 → x ≠ 7 → x ≠ 8 → x ≠ 29 → x ≠ 32 → m_fm_noTask (q_st T 5 0 i (.int 0)) i x 0 z = T x 0 z := fun x z a b c d e f => by rw [mK_fm_noTask _ i x 0 z a c d e f, q_kj b]
    have nT : ¬ hasT (q_st (x_fe_dropTask S i) 9 i 6 (.int 0)) (m_fm_noTask (q_st T 5 0 i (.int 0)) i) i := by
      rintro (z | z)
      · rw [q_kj (by decide)] at z; exact z r.2.1
      · exact n_noTask hI5 z
    have xo : xOff i S (q_st (x_fe_dropTask S i) 9 i 6 (.int 0)) := xo_s (by decide) (xo_dropTask xo_r)
    have xt : xTm i S (q_st (x_fe_dropTask S i) 9 i 6 (.int 0)) := xt_s (by decide) (xt_dropTask xt_r)
    refine rl_of (c' := c) h hce ⟨?_, ?_, fun z => ?_, fun z => absurd z nT, fun _ => ?_⟩ (fun _ _ => rfl) (fun k x z hk hx => xo x k z (by omega) (by omega)) (by rw [xt]) (fun k x hk hx => km x k (by omega) (by omega) (by omega) (by omega) (by omega) (by omega)) (fun x z hx => km x z (by omega) (by omega) (by omega) (by omega) (by omega) (by omega)) (lk_noTask hi hI5 (lk_eq lk_r (mLn_st (by decide) (by decide))))
    · rw [e9 10 (by decide), q_kj (by decide), kd 11 i 4 (by decide) (by decide) (by decide), km 16 i (by decide) (by decide) (by decide) (by decide) (by decide) (by decide)]; exact r1
    · rw [e9 10 (by decide), e9 15 (by decide), km 13 i (by decide) (by decide) (by decide) (by decide) (by decide) (by decide)]; exact r2
    · rw [q_ss] at z; exact absurd rfl z
    · rw [q_kj (by decide)]; exact r.1
theorem c_forget {c : Nat → Int} {S T : q_S} (h : Rl c S T) (a : Int32) : (x_fe_forget S a).1 = (m_fm_forget T a).1 ∧ Rl c (x_fe_forget S a).2 (m_fm_forget T a).2 := by
  unfold x_fe_forget m_fm_forget
  rw [← th_eq h.1]
  by_cases g0 : x_fe_isThere S a = 0
  · rw [if_pos g0, if_pos g0]; exact ⟨rfl, h⟩
  · rw [if_neg g0, if_neg g0]
    obtain ⟨hi, th, -⟩ := th_x g0
    generalize a.toNatClampNeg = i at *
    rw [← en_eq hi h.1]
    by_cases g1 : x_wf_hasEnded S i = 0
    · rw [if_pos g1, if_pos g1, ce_i h.1 (rm_fo hi) (by omega)]
      by_cases g2 : q_i (T 6 0 i) = 0
      · rw [if_pos g2, if_pos g2]
        refine ⟨rfl, ?_⟩
        dsimp only
        obtain ⟨r1, r2, r3, r4, r5⟩ := h.2 i hi
        have kx : ∀ x z : Nat, ¬ (x = 9 ∧ z = 7) → q_st S 9 i 7 (.int 1) x i z = S x i z := fun x z hz => q_st_n _ _ (by omega)
        have km : ∀ x z : Nat, x ≠ 6 → q_st T 6 0 i (.int 1) x 0 z = T x 0 z := fun x z hx => q_kj hx
        have hm : mLn (q_st T 6 0 i (.int 1)) = mLn T := mLn_st (by decide) (by decide)
        have htt : hasT (q_st S 9 i 7 (.int 1)) (q_st T 6 0 i (.int 1)) i ↔ hasT S T i := by unfold hasT; rw [kx 21 2 (by omega), hm]
        refine rl_of (c' := c) h (ce_p h.1 (rm_fo hi)) ⟨?_, ?_, fun _ z => ?_, fun z => ?_, fun z => ?_⟩ (fun _ _ => rfl) (fun k x z hk hx => q_st_n S _ (fun q => hk q.2.1)) (by rw [q_kj (by decide)]) (fun k x hk hx => km x k (by omega)) (fun x z hx => km x z (by omega)) (lk_eq lk_r hm)
        · rw [kx 9 10 (by omega), kx 11 4 (by omega), km 16 i (by decide)]; exact r1
        · rw [kx 9 10 (by omega), kx 9 15 (by omega), km 13 i (by decide)]; exact r2
        · rw [q_ss] at z; exact absurd z (by decide)
        · obtain ⟨p1, p2, p3, p4, p5⟩ := r4 (htt.mp z)
          refine ⟨by rw [kx 9 6 (by omega)]; exact p1, by rw [kx 9 10 (by omega)]; exact p2, lastW_eq p3 (by rw [kx 11 3 (by omega)]) (fun n => by rw [kx 12 n (by omega)]) (fun n => by rw [kx 13 n (by omega)]) (by rw [kx 21 0 (by omega)]), ?_, fun z => ?_⟩
          · unfold tkv at p4 ⊢
            rw [kx 21 0 (by omega), kx 21 2 (by omega), kx 21 3 (by omega), kx 21 4 (by omega), q_kj (a := 0) (by decide), km 28 i (by decide), km 30 i (by decide), km 31 i (by decide)]
            exact p4
          · rw [q_ss] at z; exact absurd z (by decide)
        · rw [kx 21 1 (by omega)]; exact r5 (fun q => z (htt.mpr q))
      · rw [if_neg g2, if_neg g2]; exact ⟨rfl, h⟩
    · rw [if_neg g1, if_neg g1]; exact ⟨rfl, h⟩
set_option maxHeartbeats 4000000 in
theorem c_takeL {c : Nat → Int} {S T : q_S} (hA : mAll T) (h : Rl c S T) (hc0 : ∀ k, 0 ≤ c k) (ht0 : 0 ≤ (q_i (S 0 0 3)).toInt) : ∀ n t : Nat, t + n = 7 → t ≤ 6 → (x_fe_take_L0 n S t).1 = (m_fm_take_L0 n T t).1 ∧ Rl c (x_fe_take_L0 n S t).2 (m_fm_take_L0 n T t).2 := by
  obtain ⟨hI, hJ, hQ, hZ⟩ := id hA
  intro n
  induction n with
  | zero => intro t h1 h2; omega
  | succ n ih =>
    intro t h1 h2
    rw [x_fe_take_L0, m_fm_take_L0, nI_clamp (n := t) (by omega), ce_i h.1 rm_qs (by omega)]
    have b33 : 0 ≤ (q_i (T 0 0 33)).toInt ∧ (q_i (T 0 0 33)).toInt ≤ 6 := hI 0 0 33
    have c33 := q_clI b33.1
    by_cases g : q_i (T 0 0 33) ≤ nI t
    · rw [if_pos g, if_pos g]; exact ⟨rfl, h⟩
    · rw [if_neg g, if_neg g]
      rw [Int32.le_iff_toInt_le, nI_toInt (by omega)] at g
      rw [ce_i h.1 (rm_q (k := t) (by omega)) (by omega)]
      have hin : q_i (T 32 0 t) ∈ mLn T := mLn_mem.mpr ⟨t, by omega, rfl⟩
      have b32 : 0 ≤ (q_i (T 32 0 t)).toInt ∧ (q_i (T 32 0 t)).toInt ≤ 5 := hI 32 0 t
      have c32 := q_clI b32.1
      have ew : q_i (T 32 0 t) = nI (q_i (T 32 0 t)).toNatClampNeg := (q_nn (by rw [Int32.lt_iff_toInt_lt]; show ¬ _ < (0 : Int); omega)).symm
      have hi : (q_i (T 32 0 t)).toNatClampNeg < 6 := by omega
      have eT : q_i (S 0 0 3) = q_i (T 0 0 34) := ce_i h.1 rm_t (by omega)
      generalize hw : q_i (T 32 0 t) = w at *
      generalize w.toNatClampNeg = i at *
      subst ew
      obtain ⟨r1, r2, r3, r4, r5⟩ := h.2 i hi
      obtain ⟨th, st, lw, tv, aw⟩ := r4 (Or.inr hin)
      have o0 : q_i (S 21 i 2) = 0 := by
        by_cases q : q_i (S 21 i 2) = 0
        · exact q
        · rw [ce_i h.1 (rm_ou hi) (by omega)] at q
          exact absurd hin (m_outQ hi hQ q)
      have nb := tv.2.2 o0
      by_cases gb : q_i (T 31 0 i) ≤ q_i (T 0 0 34)
      · have gx : ¬ q_i (S 0 0 3) < q_i (S 21 i 4) := by
          rw [Int32.lt_iff_toInt_lt]
          rw [Int32.le_iff_toInt_le, ← eT] at gb
          rcases nb with q | ⟨q, -⟩
          · rw [q]; omega
          · rw [q]; show ¬ _ < (0 : Int); omega
        rw [if_pos gb, if_neg gx]
        refine ⟨rfl, ?_⟩
        dsimp only
        have cd := ce_tdrop (a := nI i) hI h.1
        have kd : ∀ x y z : Nat, x ≠ 3 → x ≠ 4 → x_tl_drop S (nI i) x y z = S x y z := fun x y z a b => xK_tl_drop S (nI i) x y z a b
        have kl : ∀ x z : Nat, x ≠ 0 → x ≠ 32 → m_fm_leaveLine T (nI i) x 0 z = T x 0 z := fun x z a b => mK_fm_leaveLine T (nI i) x 0 z a b
        have e34 : q_i (m_fm_leaveLine T (nI i) 0 0 34) = q_i (S 0 0 3) := by rw [← ce_i cd rm_t (by omega), kd 0 0 3 (by decide) (by decide)]
        have e29 : q_i (x_tl_drop S (nI i) 21 i 1) = q_i (T 29 0 i) := by rw [kd 21 i 1 (by decide) (by decide)]; exact ce_i h.1 (rm_tr hi) (by omega)
        unfold x_ta_goOut
        rw [e34, e29]
        have hce : Ce 6 (q_st (q_st (q_st (x_tl_drop S (nI i)) 21 i 2 (.int 1)) 21 i 1 (.int (q_i (T 29 0 i) + 1))) 21 i 3 (.int (q_i (S 0 0 3)))) (q_st (q_st (q_st (m_fm_leaveLine T (nI i)) 7 0 i (.int 1)) 29 0 i (.int (q_i (T 29 0 i) + 1))) 30 0 i (.int (q_i (S 0 0 3)))) := ce_m (ce_x (ce_p (ce_p cd (rm_ou hi)) (rm_tr hi)) rx_21_3) rn_30
        have kx : ∀ x y z : Nat, x ≠ 3 → x ≠ 4 → ¬ (x = 21 ∧ y = i ∧ (z = 1 ∨ z = 2 ∨ z = 3)) → q_st (q_st (q_st (x_tl_drop S (nI i)) 21 i 2 (.int 1)) 21 i 1 (.int (q_i (T 29 0 i) + 1))) 21 i 3 (.int (q_i (S 0 0 3))) x y z = S x y z := fun x y z a b d => by
          rw [q_st_n _ _ (by omega), q_st_n _ _ (by omega), q_st_n _ _ (by omega), kd x y z a b]
        have km : ∀ x z : Nat, x ≠ 0 → x ≠ 7 → x ≠ 29 → x ≠ 30 → x ≠ 32 → q_st (q_st (q_st (m_fm_leaveLine T (nI i)) 7 0 i (.int 1)) 29 0 i (.int (q_i (T 29 0 i) + 1))) 30 0 i (.int (q_i (S 0 0 3))) x 0 z = T x 0 z := fun x z a b d e f => by
          rw [q_kj e, q_kj d, q_kj b, kl x z a f]
        have hmL : mLn (q_st (q_st (q_st (m_fm_leaveLine T (nI i)) 7 0 i (.int 1)) 29 0 i (.int (q_i (T 29 0 i) + 1))) 30 0 i (.int (q_i (S 0 0 3)))) = (mLn T).filter (fun x => decide (x ≠ nI i)) := by
          rw [mLn_st (by decide) (by decide), mLn_st (by decide) (by decide), mLn_st (by decide) (by decide), mLn_leave hI]
        have k9 : ∀ z : Nat, q_st (q_st (q_st (x_tl_drop S (nI i)) 21 i 2 (.int 1)) 21 i 1 (.int (q_i (T 29 0 i) + 1))) 21 i 3 (.int (q_i (S 0 0 3))) 9 i z = S 9 i z := fun z => kx 9 i z (by decide) (by decide) (by omega)
        have k11 : ∀ z : Nat, q_st (q_st (q_st (x_tl_drop S (nI i)) 21 i 2 (.int 1)) 21 i 1 (.int (q_i (T 29 0 i) + 1))) 21 i 3 (.int (q_i (S 0 0 3))) 11 i z = S 11 i z := fun z => kx 11 i z (by decide) (by decide) (by omega)
        have k210 : q_st (q_st (q_st (x_tl_drop S (nI i)) 21 i 2 (.int 1)) 21 i 1 (.int (q_i (T 29 0 i) + 1))) 21 i 3 (.int (q_i (S 0 0 3))) 21 i 0 = S 21 i 0 := kx 21 i 0 (by decide) (by decide) (by omega)
        have k212 : q_i (q_st (q_st (q_st (x_tl_drop S (nI i)) 21 i 2 (.int 1)) 21 i 1 (.int (q_i (T 29 0 i) + 1))) 21 i 3 (.int (q_i (S 0 0 3))) 21 i 2) = 1 := q_sk (by decide) (q_sk (by decide) q_ss)
        have k03 : q_st (q_st (q_st (x_tl_drop S (nI i)) 21 i 2 (.int 1)) 21 i 1 (.int (q_i (T 29 0 i) + 1))) 21 i 3 (.int (q_i (S 0 0 3))) 0 0 3 = S 0 0 3 := kx 0 0 3 (by decide) (by decide) (by omega)
        have tpc : pc (q_st (q_st (q_st (m_fm_leaveLine T (nI i)) 7 0 i (.int 1)) 29 0 i (.int (q_i (T 29 0 i) + 1))) 30 0 i (.int (q_i (S 0 0 3)))) i = pc T i := pc_eq (km 9 i (by decide) (by decide) (by decide) (by decide) (by decide)) (km 11 i (by decide) (by decide) (by decide) (by decide) (by decide))
        have hci := hc0 i
        refine rl_of (c' := c) h hce ⟨?_, ?_, ?_, fun _ => ⟨by rw [k9]; exact th, by rw [k9]; exact st, lastW_eq lw (by rw [k11]) (fun n => by rw [kx 12 i n (by decide) (by decide) (by omega)]) (fun n => by rw [kx 13 i n (by decide) (by decide) (by omega)]) (by rw [k210]), ?_, by rw [k9, k9, k210]; exact aw⟩, fun z => absurd (Or.inl (by rw [k212]; decide)) z⟩ (fun _ _ => rfl) (fun k x z hk hx => kx x k z (by omega) (by omega) (by omega)) (by rw [k03]) (fun k x hk hx => ?_) (fun x z hx => km x z (by omega) (by omega) (by omega) (by omega) (by omega)) (fun k hk hne => ?_)
        · rw [k9, k11, km 16 i (by decide) (by decide) (by decide) (by decide) (by decide)]; exact r1
        · rw [k9, k9, km 13 i (by decide) (by decide) (by decide) (by decide) (by decide)]; exact r2
        · unfold lf Vw at r3 ⊢
          rw [k9, k9, k9, k11, k11, k9, k9, k9, tpc, km 27 i (by decide) (by decide) (by decide) (by decide) (by decide), km 2 _ (by decide) (by decide) (by decide) (by decide) (by decide), km 3 _ (by decide) (by decide) (by decide) (by decide) (by decide)]
          exact r3
        · unfold tkv
          rw [k210, k212, km 28 i (by decide) (by decide) (by decide) (by decide) (by decide), k03]
          refine ⟨tv.1, fun _ => ?_, fun z => absurd z (by decide)⟩
          rw [q_ss, q_ss]
          exact ⟨rfl, Int.le_refl _, by omega⟩
        · by_cases g30 : x = 30
          · rw [g30, q_st_n _ _ (by omega), q_kj (by decide), q_kj (by decide), kl 30 k (by decide) (by decide)]
          · exact km x k (by omega) (by omega) (by omega) g30 (by omega)
        · rw [hmL]
          simp only [List.mem_filter, decide_eq_true_eq]
          exact ⟨fun z => z.1, fun z => ⟨z, fun q => hne (nI_inj6 hk hi q)⟩⟩
      · have gx : q_i (S 0 0 3) < q_i (S 21 i 4) := by
          rw [Int32.lt_iff_toInt_lt]
          rw [Int32.le_iff_toInt_le, ← eT] at gb
          rcases nb with q | ⟨q, q2⟩
          · rw [q]; omega
          · exact absurd q2 gb
        rw [if_neg gb, if_pos gx]
        exact ih (t + 1) (by omega) (by omega)
theorem c_take {c : Nat → Int} {S T : q_S} (hA : mAll T) (h : Rl c S T) (hc0 : ∀ k, 0 ≤ c k) (ht0 : 0 ≤ (q_i (S 0 0 3)).toInt) : (x_fe_take S).1 = (m_fm_take T).1 ∧ Rl c (x_fe_take S).2 (m_fm_take T).2 := c_takeL hA h hc0 ht0 7 0 rfl (by decide)
