/-! FROM ITS START AGAIN, side by side -/
def begB (T : q_S) (i : Nat) : q_S := q_st (q_st (q_st (q_st (q_st (q_st (m_fm_begin_L0 5 T i 0) 14 0 (4 * i) (.int (q_i (T 19 0 (20 * i))))) 11 0 i (.int 0)) 12 0 i (.int 0)) 20 0 i (.int 0)) 16 0 i (.int 1)) 10 0 i (.int 0)
theorem begB_eq (T : q_S) (i : Nat) : m_fm_begin T i = m_fm_goOn (begB T i) i := rfl
theorem begB_o (T : q_S) (i : Nat) : ∀ x y z : Nat, (x < 10 ∨ 20 < x ∨ x = 15) → begB T i x y z = T x y z := by
  intro x y z h
  unfold begB
  rw [q_kj (by omega), q_kj (by omega), q_kj (by omega), q_kj (by omega), q_kj (by omega), q_kj (by omega), mK_fm_begin_L0 5 T i 0 x y z (by omega)]
theorem gd_begB {T : q_S} {i : Nat} (hi : i < 6) (hI : mI T) (hJ : mJ T) (hQ : mQ T) (hw : 1 ≤ (q_i (T 15 0 i)).toInt) : mGd (begB T i) i := by
  have hk := begB_o T i
  have hIL := mI_fm_begin_L0 i hi 5 T 0 rfl (by decide) hI
  refine ⟨?_, mJ_eq hJ (fun k => hk 1 0 k (by omega)) (fun k => hk 2 0 k (by omega)) (fun k => hk 3 0 k (by omega)) (fun k => hk 4 0 k (by omega)), mQ_eq hQ (hk 0 0 33 (by omega)) (fun k => hk 32 0 k (by omega)) (fun k => hk 7 0 k (by omega)), ?_, mV_0 (Or.inl q_ss)⟩
  · unfold begB
    refine mIs (mI_st (mI_st (mI_st (mI_st (mIs hIL rfl) ?_) ?_) ?_) ?_) rfl
    · show (0 : Int) ≤ (0 : Int32).toInt ∧ (0 : Int32).toInt ≤ 14; decide
    · show (0 : Int) ≤ (0 : Int32).toInt ∧ (0 : Int32).toInt ≤ 60; decide
    · show (0 : Int) ≤ (0 : Int32).toInt ∧ (0 : Int32).toInt ≤ 6; decide
    · show (0 : Int) ≤ (1 : Int32).toInt ∧ (1 : Int32).toInt ≤ 20; decide
  · unfold mg
    rw [hk 15 0 i (by omega)]
    unfold begB
    rw [q_kj (by decide), q_ss, q_n1]
    exact hw
theorem beg_L (T : q_S) (i : Nat) : m_fm_begin_L0 5 T i 0 = q_st (q_st (q_st (q_st T 14 0 (4 * i + 0) (.int 0)) 14 0 (4 * i + 1) (.int 0)) 14 0 (4 * i + 2) (.int 0)) 14 0 (4 * i + 3) (.int 0) := by
  rw [m_fm_begin_L0, if_neg (by decide), m_fm_begin_L0, if_neg (by decide), m_fm_begin_L0, if_neg (by decide), m_fm_begin_L0, if_neg (by decide), m_fm_begin_L0, if_pos (by decide)]
theorem rew_v (S : q_S) (i : Nat) (v : Value) : q_st (q_st (q_st (q_st S 10 i 0 v) 10 i 1 (.int 0)) 10 i 2 (.int 0)) 10 i 3 (.int 0) = q_st (q_st (q_st (q_st (q_st S 10 i 0 (.int 0)) 10 i 1 (.int 0)) 10 i 2 (.int 0)) 10 i 3 (.int 0)) 10 i 0 v := by
  rw [q_st_comm9 (k := 3) (k' := 0) (by decide), q_st_comm9 (k := 2) (k' := 0) (by decide), q_st_comm9 (k := 1) (k' := 0) (by decide)]
  congr 3
  funext x y z
  simp only [q_st]
  split <;> rfl
theorem rew_eq (S : q_S) (i : Nat) : x_wf_rewind S i = q_st (q_st (q_st (q_st (q_st (q_st (q_st (q_st (q_st (q_st (q_st (q_st S 9 i 7 (.int 0)) 10 i 0 (.int 0)) 10 i 1 (.int 0)) 10 i 2 (.int 0)) 10 i 3 (.int 0)) 10 i 0 (.int (q_i (S 14 i 0)))) 9 i 11 (.int 0)) 9 i 12 (.int 0)) 18 i 2 (.int 0)) 11 i 4 (.int 1)) 9 i 10 (.int 0)) 9 i 8 (.int 0) := by
  have e0 : (0 : Int32).toNatClampNeg = 0 := by decide
  have e1 : (1 : Int32).toNatClampNeg = 1 := by decide
  have e2 : (2 : Int32).toNatClampNeg = 2 := by decide
  have e3 : (3 : Int32).toNatClampNeg = 3 := by decide
  unfold x_wf_rewind
  rw [e0, e1, e2, e3, rew_v]
  rw [q_st_comm9 (j := 9) (k := 8) (k' := 10) (by decide), q_st_comm9 (j := 9) (k := 8) (k' := 11) (by decide), q_st_comm9 (j := 9) (k := 8) (k' := 12) (by decide), q_comm (j := 9) (k := 8) (j' := 18) (by decide), q_comm (j := 9) (k := 8) (j' := 11) (by decide)]
  rw [q_comm (j := 9) (k := 8) (j' := 10) (k' := 0) (by decide), q_comm (j := 9) (k := 8) (j' := 10) (k' := 1) (by decide), q_comm (j := 9) (k := 8) (j' := 10) (k' := 2) (by decide), q_comm (j := 9) (k := 8) (j' := 10) (k' := 3) (by decide), q_comm (j := 9) (k := 8) (j' := 10) (k' := 0) (by decide)]
  rw [q_st_comm9 (j := 9) (k := 10) (k' := 11) (by decide), q_st_comm9 (j := 9) (k := 10) (k' := 12) (by decide), q_comm (j := 9) (k := 10) (j' := 18) (by decide), q_comm (j := 9) (k := 10) (j' := 11) (by decide)]
  rw [q_comm (j := 9) (k := 10) (j' := 10) (k' := 0) (by decide), q_comm (j := 9) (k := 10) (j' := 10) (k' := 1) (by decide), q_comm (j := 9) (k := 10) (j' := 10) (k' := 2) (by decide), q_comm (j := 9) (k := 10) (j' := 10) (k' := 3) (by decide), q_comm (j := 9) (k := 10) (j' := 10) (k' := 0) (by decide)]
  rw [q_comm (j := 11) (j' := 10) (k' := 0) (by decide), q_comm (j := 11) (j' := 10) (k' := 1) (by decide), q_comm (j := 11) (j' := 10) (k' := 2) (by decide), q_comm (j := 11) (j' := 10) (k' := 3) (by decide), q_comm (j := 11) (j' := 10) (k' := 0) (by decide)]
  rw [q_comm (j := 18) (j' := 10) (k' := 0) (by decide), q_comm (j := 18) (j' := 10) (k' := 1) (by decide), q_comm (j := 18) (j' := 10) (k' := 2) (by decide), q_comm (j := 18) (j' := 10) (k' := 3) (by decide), q_comm (j := 18) (j' := 10) (k' := 0) (by decide)]
  rw [q_comm (j := 9) (k := 12) (j' := 10) (k' := 0) (by decide), q_comm (j := 9) (k := 12) (j' := 10) (k' := 1) (by decide), q_comm (j := 9) (k := 12) (j' := 10) (k' := 2) (by decide), q_comm (j := 9) (k := 12) (j' := 10) (k' := 3) (by decide), q_comm (j := 9) (k := 12) (j' := 10) (k' := 0) (by decide)]
  rw [q_comm (j := 9) (k := 11) (j' := 10) (k' := 0) (by decide), q_comm (j := 9) (k := 11) (j' := 10) (k' := 1) (by decide), q_comm (j := 9) (k := 11) (j' := 10) (k' := 2) (by decide), q_comm (j := 9) (k := 11) (j' := 10) (k' := 3) (by decide), q_comm (j := 9) (k := 11) (j' := 10) (k' := 0) (by decide)]
theorem ce_beg {e i : Nat} {S T : q_S} (hi : i < 6) (h : Ce e (q_st S 9 i 7 (.int 0)) T) : Ce e (x_wf_rewind S i) (begB T i) := by
  have ev : q_i (S 14 i 0) = q_i (T 19 0 (20 * i)) := by
    have := ce_i h (rm_v hi (k := 0) (by decide)) (by omega)
    rw [q_kj (by decide)] at this
    exact this
  rw [rew_eq, ev]
  unfold begB
  rw [beg_L]
  exact ce_x (ce_p (ce_m (ce_x (ce_p (ce_p (ce_p (ce_p (ce_p (ce_p (ce_p (ce_p h (rm_va hi (by decide))) (rm_va hi (by decide))) (rm_va hi (by decide))) (rm_va hi (by decide))) (rm_va hi (k := 0) (by decide))) (rm_pl hi)) (rm_sp hi)) (rm_ns hi)) rx_11_4) rn_16) (rm_st hi)) rx_9_8
theorem rew_o (S : q_S) (i : Nat) (x y z : Nat) (h : x ≠ 10 ∧ x ≠ 18 ∧ (x = 9 → z ≠ 7 ∧ z ≠ 8 ∧ z ≠ 10 ∧ z ≠ 11 ∧ z ≠ 12) ∧ (x = 11 → z ≠ 4)) : x_wf_rewind S i x y z = S x y z := by
  rw [rew_eq]
  rw [q_st_n _ _ (by omega), q_st_n _ _ (by omega), q_st_n _ _ (by omega), q_st_n _ _ (by omega), q_st_n _ _ (by omega), q_st_n _ _ (by omega), q_st_n _ _ (by omega), q_st_n _ _ (by omega), q_st_n _ _ (by omega), q_st_n _ _ (by omega), q_st_n _ _ (by omega), q_st_n _ _ (by omega)]
theorem rew_c (S : q_S) (i : Nat) : q_i (x_wf_rewind S i 9 i 7) = 0 ∧ q_i (x_wf_rewind S i 9 i 8) = 0 ∧ q_i (x_wf_rewind S i 9 i 10) = 0 ∧ q_i (x_wf_rewind S i 11 i 4) = 1 := by
  rw [rew_eq]
  refine ⟨?_, ?_, ?_, ?_⟩ <;> simp [q_st, q_i]
/-- both begin again -/
theorem ent_beg {e i : Nat} {c : Int} {T0 S T : q_S} (hi : i < 6) (h : Ce e (q_st S 9 i 7 (.int 0)) T) (he : e = i ∨ e = 6) (hs : 1 ≤ (q_i (S 11 i 3)).toInt) (hf : e = i → q_i (T 29 0 i) = 0 ∧ q_i (T 7 0 i) = 0 ∧ nI i ∉ mLn T ∧ ¬ q_i (S 21 i 2) = 0 ∧ q_i (S 21 i 0) = q_i (T0 28 0 i)) (hk : lk i T0 T) (ht : hasT S T i → lastW S i ∧ tkv c S T i) (hn : ¬ hasT S T i → q_i (S 21 i 1) = 0) : Ent e c T0 (x_wf_rewind S i) (begB T i) i := by
  have ro := rew_o S i
  have rc := rew_c S i
  have bo := begB_o T i
  have hm : mLn (begB T i) = mLn T := mLn_eq (bo 0 0 33 (by omega)) (fun k => bo 32 0 k (by omega))
  have b16 : q_i (begB T i 16 0 i) = 1 := by unfold begB; exact q_sj (by decide) q_ss
  have htt : hasT (x_wf_rewind S i) (begB T i) i ↔ hasT S T i := by unfold hasT; rw [ro 21 i 2 (by omega), hm]
  refine Or.inr (Or.inr (Or.inl ⟨⟨⟨ce_beg hi h, ⟨he, by rw [ro 11 i 3 (by omega)]; exact hs⟩, by rw [rc.2.2.2, b16], rc.1, fun z => ?_, lk_eq hk hm, fun z => ?_, fun z => ?_⟩, fun z => ?_, rc.2.2.1⟩, rc.2.1⟩))
  · rw [bo 29 0 i (by omega), bo 7 0 i (by omega), hm, ro 21 i 2 (by omega), ro 21 i 0 (by omega)]; exact hf z
  · obtain ⟨q1, q2⟩ := ht (htt.mp z)
    refine ⟨lastW_eq q1 (by rw [ro 11 i 3 (by omega)]) (fun n => by rw [ro 12 i n (by omega)]) (fun n => by rw [ro 13 i n (by omega)]) (by rw [ro 21 i 0 (by omega)]), ?_⟩
    unfold tkv at q2 ⊢
    rw [ro 21 i 0 (by omega), ro 21 i 2 (by omega), ro 21 i 3 (by omega), ro 21 i 4 (by omega), ro 0 0 3 (by omega), bo 28 0 i (by omega), bo 30 0 i (by omega), bo 31 0 i (by omega)]
    exact q2
  · rw [ro 21 i 1 (by omega)]; exact hn (fun q => z (htt.mpr q))
  · obtain ⟨⟨n, ⟨n00, n0⟩, n1, -, -⟩, -⟩ := ht (htt.mp z)
    unfold lf
    rw [rc.2.2.2, ro 11 i 3 (by omega), n1, nI_toInt (by omega), q_n1]
    omega
