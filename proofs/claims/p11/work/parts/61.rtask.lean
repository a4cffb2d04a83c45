/-! THE LINE AND THE TASKS, side by side -/
theorem ce_dropL {e : Nat} {a : Int32} : ∀ (n : Nat) (S T : q_S) (v t : Nat), t + n = 7 → t ≤ 6 → v ≤ t → (q_i (T 0 0 33)).toInt ≤ 6 → Ce e S T → Ce e (x_tl_drop_L0 n S a v t) (m_fm_leaveLine_L0 n T a v t) := by
  intro n
  induction n with
  | zero => intro S T v t h1 h2; omega
  | succ n ih =>
    intro S T v t h1 h2 h3 h6 h
    rw [x_tl_drop_L0, m_fm_leaveLine_L0]
    rw [nI_clamp (n := t) (by omega), nI_clamp (n := v) (by omega)]
    have e1 : q_i (S 3 0 1) = q_i (T 0 0 33) := ce_i h rm_qs (by omega)
    rw [e1]
    split
    · exact ce_p h rm_qs
    · rename_i hn
      rw [Int32.le_iff_toInt_le, nI_toInt (by omega)] at hn
      have e2 : q_i (S 4 0 t) = q_i (T 32 0 t) := ce_i h (rm_q (by omega)) (by omega)
      rw [e2]
      split
      · exact ih S T v (t + 1) (by omega) (by omega) (by omega) h6 h
      · refine ih _ _ (v + 1) (t + 1) (by omega) (by omega) (by omega) ?_ (ce_p h (rm_q (by omega)))
        rw [q_kj (by decide)]
        exact h6
theorem ce_tdrop {e : Nat} {a : Int32} {S T : q_S} (hI : mI T) (h : Ce e S T) : Ce e (x_tl_drop S a) (m_fm_leaveLine T a) := ce_dropL 7 S T 0 0 rfl (by omega) (by omega) (hI 0 0 33).2 h
theorem ce_renew {e i : Nat} {a : Int32} {S T : q_S} (h : Ce i S T) : Ce i (x_ta_renew S i a) T := by
  unfold x_ta_renew
  exact ce_te (ce_te (ce_te (ce_te (ce_te h))))
theorem x_renew_1 (S : q_S) (i : Nat) (a : Int32) : q_i (x_ta_renew S i a 21 i 1) = 0 ∧ q_i (x_ta_renew S i a 21 i 2) = 0 ∧ q_i (x_ta_renew S i a 21 i 0) = a ∧ q_i (x_ta_renew S i a 21 i 4) = 0 := by
  unfold x_ta_renew
  refine ⟨?_, ?_, ?_, ?_⟩ <;> simp [q_st, q_i]
theorem m_noTask_29 (T : q_S) (i : Nat) : q_i (m_fm_noTask T i 29 0 i) = 0 ∧ q_i (m_fm_noTask T i 7 0 i) = 0 := by
  unfold m_fm_noTask
  rw [mK_fm_leaveLine _ _ _ _ _ (by decide) (by decide), mK_fm_leaveLine _ _ _ _ _ (by decide) (by decide)]
  simp [q_st, q_i]
/-- the task gone on both sides -/
theorem ce_noTask {e i : Nat} {S T : q_S} (hi : i < 6) (he : e = i ∨ e = 6) (hI : mI T) (h : Ce e S T) : Ce 6 (x_fe_dropTask S i) (m_fm_noTask T i) := by
  have h1 := ce_dn h he
  have hI2 : mI (q_st (q_st (q_st T 8 0 i (.int 0)) 7 0 i (.int 0)) 29 0 i (.int 0)) := mIs (mIs (mIs hI rfl) rfl) rfl
  have h2 : Ce i S (q_st (q_st (q_st T 8 0 i (.int 0)) 7 0 i (.int 0)) 29 0 i (.int 0)) := ce_tm (ce_tm (ce_m h1 rn_8) (rm_ou hi)) (rm_tr hi)
  have h3 := ce_tdrop (a := nI i) hI2 h2
  have r := x_renew_1 (x_tl_drop S (nI i)) i 0
  have m := m_noTask_29 T i
  exact ce_up (ce_renew (e := 0) h3) (r.1.trans m.1.symm) (r.2.1.trans m.2.symm)
/-- a line without it stays as it is -/
theorem m_leaveL_id {a : Int32} : ∀ (n : Nat) (T : q_S) (t : Nat), t + n = 7 → t ≤ (q_i (T 0 0 33)).toNatClampNeg → (q_i (T 0 0 33)).toNatClampNeg ≤ 6 → 0 ≤ (q_i (T 0 0 33)).toInt → (∀ k, k < (q_i (T 0 0 33)).toNatClampNeg → q_i (T 32 0 k) ≠ a) → ∀ x z, q_i (m_fm_leaveLine_L0 n T a t t x 0 z) = q_i (T x 0 z) ∧ (x ≠ 0 → x ≠ 32 → m_fm_leaveLine_L0 n T a t t x 0 z = T x 0 z) := by
  intro n
  induction n with
  | zero => intro T t h1 h2; omega
  | succ n ih =>
    intro T t h1 h2 h3 h4 h5 x z
    have ec := q_clI h4
    rw [m_fm_leaveLine_L0]
    split
    · rename_i hc
      rw [Int32.le_iff_toInt_le, nI_toInt (by omega)] at hc
      have et : t = (q_i (T 0 0 33)).toNatClampNeg := by omega
      have e2 : nI t = q_i (T 0 0 33) := by rw [et]; exact q_nn (by rw [Int32.lt_iff_toInt_lt]; show ¬ _ < (0 : Int); omega)
      refine ⟨?_, fun g1 g2 => q_kj g1⟩
      by_cases g : x = 0 ∧ z = 33
      · obtain ⟨rfl, rfl⟩ := g
        rw [q_ss, e2]
      · rw [q_st_n T _ (fun w => g ⟨w.1, w.2.2⟩)]
    · rename_i hc
      rw [Int32.le_iff_toInt_le, nI_toInt (by omega)] at hc
      rw [if_neg (h5 t (by omega))]
      have e0 : (q_st T 32 0 t (.int (q_i (T 32 0 t)))) 0 0 33 = T 0 0 33 := q_kj (by decide)
      have e3 : ∀ x z, q_i ((q_st T 32 0 t (.int (q_i (T 32 0 t)))) x 0 z) = q_i (T x 0 z) := fun x z => by
        by_cases g : x = 32 ∧ z = t
        · obtain ⟨rfl, rfl⟩ := g
          rw [q_ss]
        · rw [q_st_n T _ (fun w => g ⟨w.1, w.2.2⟩)]
      have r := ih (q_st T 32 0 t (.int (q_i (T 32 0 t)))) (t + 1) (by omega) (by rw [e0]; omega) (by rw [e0]; omega) (by rw [e0]; omega) (fun k hk => by rw [e3]; rw [e0] at hk; exact h5 k hk) x z
      exact ⟨r.1.trans (e3 x z), fun g1 g2 => (r.2 g1 g2).trans (q_kj g2)⟩
theorem mLn_mem {T : q_S} {x : Int32} : x ∈ mLn T ↔ ∃ k, k < (q_i (T 0 0 33)).toNatClampNeg ∧ q_i (T 32 0 k) = x := by
  unfold mLn
  simp
theorem m_leave_id {T : q_S} {a : Int32} (hI : mI T) (hn : a ∉ mLn T) (x z : Nat) : q_i (m_fm_leaveLine T a x 0 z) = q_i (T x 0 z) ∧ (x ≠ 0 → x ≠ 32 → m_fm_leaveLine T a x 0 z = T x 0 z) := by
  have b := hI 0 0 33
  have b1 : 0 ≤ (q_i (T 0 0 33)).toInt := b.1
  have b2 : (q_i (T 0 0 33)).toInt ≤ 6 := b.2
  have ec := q_clI b1
  exact m_leaveL_id 7 T 0 rfl (by omega) (by omega) b1 (fun k hk he => hn (mLn_mem.mpr ⟨k, hk, he⟩)) x z
/-- the task gone in the reference alone: it was not in the line -/
theorem ce_noTaskM {e i : Nat} {S T : q_S} (hi : i < 6) (he : e = i ∨ e = 6) (hI : mI T) (h : Ce e S T) (hn : nI i ∉ mLn T) : Ce i S (m_fm_noTask T i) := by
  have h1 := ce_dn h he
  have hI2 : mI (q_st (q_st (q_st T 8 0 i (.int 0)) 7 0 i (.int 0)) 29 0 i (.int 0)) := mIs (mIs (mIs hI rfl) rfl) rfl
  have h2 : Ce i S (q_st (q_st (q_st T 8 0 i (.int 0)) 7 0 i (.int 0)) 29 0 i (.int 0)) := ce_tm (ce_tm (ce_m h1 rn_8) (rm_ou hi)) (rm_tr hi)
  have hn2 : nI i ∉ mLn (q_st (q_st (q_st T 8 0 i (.int 0)) 7 0 i (.int 0)) 29 0 i (.int 0)) := by
    rw [mLn_st (by decide) (by decide), mLn_st (by decide) (by decide), mLn_st (by decide) (by decide)]
    exact hn
  unfold m_fm_noTask
  refine ce_eqm h2 (fun j i' k a b m n => ?_)
  have r := m_leave_id hI2 hn2 a b
  refine ⟨r.1.symm, fun z => ?_⟩
  rw [r.2 (by rintro rfl; simp [rM, z] at m) (by rintro rfl; simp [rM, z] at m)]
/-- a new task on both sides: it was not in the line -/
theorem ce_newTask {e i : Nat} {a : Int32} {S T : q_S} (hi : i < 6) (he : e = i ∨ e = 6) (hI : mI T) (hQ : mQ T) (h : Ce e S T) (hn : nI i ∉ mLn T) : Ce 6 (x_tl_append (x_ta_renew S i a) (nI i)) (m_fm_newTask T i a) := by
  have h1 := ce_renew (e := 0) (a := a) (ce_noTaskM hi he hI h hn)
  have r := x_renew_1 S i a
  have m := m_noTask_29 T i
  have h2 := ce_up h1 (r.1.trans m.1.symm) (r.2.1.trans m.2.symm)
  have hq := mQ_q hi hI hQ
  have hp := (mI_fm_noTask T i hi hI 0 0 33).1
  have hp : 0 ≤ (q_i (m_fm_noTask T i 0 0 33)).toInt := hp
  have e1 : q_i (x_ta_renew S i a 3 0 1) = q_i (m_fm_noTask T i 0 0 33) := ce_i h2 rm_qs (by omega)
  unfold x_tl_append m_fm_newTask
  rw [e1]
  have g : ¬ (6 : Int32) ≤ q_i (m_fm_noTask T i 0 0 33) := by rw [Int32.le_iff_toInt_le]; show ¬ (6 : Int) ≤ _; omega
  have ec := q_clI hp
  rw [if_neg g]
  exact ce_p (ce_p (ce_m (ce_m (ce_m h2 rn_8) rn_28) rn_31) (rm_q (by omega))) rm_qs
/-- no task in the line or out: the class's dropping leaves what answers to it -/
theorem ce_dropX {i : Nat} {S T : q_S} (hi : i < 6) (hI : mI T) (h : Ce i S T) (hn : nI i ∉ mLn T) (h1 : q_i (T 29 0 i) = 0) (h2 : q_i (T 7 0 i) = 0) : Ce 6 (x_fe_dropTask S i) T := by
  have h3 := ce_noTask (e := i) hi (Or.inl rfl) hI h
  have hI2 : mI (q_st (q_st (q_st T 8 0 i (.int 0)) 7 0 i (.int 0)) 29 0 i (.int 0)) := mIs (mIs (mIs hI rfl) rfl) rfl
  have hn2 : nI i ∉ mLn (q_st (q_st (q_st T 8 0 i (.int 0)) 7 0 i (.int 0)) 29 0 i (.int 0)) := by
    rw [mLn_st (by decide) (by decide), mLn_st (by decide) (by decide), mLn_st (by decide) (by decide)]
    exact hn
  refine ce_eqm h3 (fun j i' k a b m n => ?_)
  unfold m_fm_noTask
  have r := m_leave_id hI2 hn2 a b
  have h8 : a ≠ 8 := by rintro rfl; exact rn_8 _ _ _ m
  have q : q_i ((q_st (q_st (q_st T 8 0 i (.int 0)) 7 0 i (.int 0)) 29 0 i (.int 0)) a 0 b) = q_i (T a 0 b) := by
    by_cases g : a = 29 ∧ b = i
    · obtain ⟨rfl, rfl⟩ := g
      rw [q_ss, h1]
    · rw [q_st_n _ _ (fun w => g ⟨w.1, w.2.2⟩)]
      by_cases g : a = 7 ∧ b = i
      · obtain ⟨rfl, rfl⟩ := g
        rw [q_ss, h2]
      · rw [q_st_n _ _ (fun w => g ⟨w.1, w.2.2⟩), q_kj h8]
  refine ⟨r.1.trans q, fun z => ?_⟩
  rw [r.2 (by rintro rfl; simp [rM, z] at m) (by rintro rfl; simp [rM, z] at m)]
  rw [q_kj (by rintro rfl; simp [rM, z] at m), q_kj (by rintro rfl; simp [rM, z] at m), q_kj h8]
