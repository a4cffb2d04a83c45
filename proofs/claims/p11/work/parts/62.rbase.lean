/-! WHAT HOLDS OF THE WORKFLOW THAT GOES ON, side by side -/
/-- it has a task: out, or in the line -/
def hasT (S T : q_S) (i : Nat) : Prop := ¬ q_i (S 21 i 2) = 0 ∨ nI i ∈ mLn T
/-- its last entry says that the task was wanted -/
def lastW (S : q_S) (i : Nat) : Prop := ∃ n : Nat, (1 ≤ n ∧ n < 20) ∧ q_i (S 11 i 3) = nI (n + 1) ∧ q_i (S 12 i n) = 2 ∧ q_i (S 13 i n) = q_i (S 21 i 0)
/-- the task's kind and times -/
def tkv (c : Int) (S T : q_S) (i : Nat) : Prop := q_i (S 21 i 0) = q_i (T 28 0 i) ∧ (¬ q_i (S 21 i 2) = 0 → q_i (S 21 i 3) = q_i (T 30 0 i) ∧ (q_i (S 21 i 3)).toInt ≤ (q_i (S 0 0 3)).toInt ∧ (q_i (S 0 0 3)).toInt ≤ (q_i (S 21 i 3)).toInt + c) ∧ (q_i (S 21 i 2) = 0 → q_i (S 21 i 4) = q_i (T 31 0 i) ∨ (q_i (S 21 i 4) = 0 ∧ (q_i (T 31 0 i)).toInt ≤ (q_i (S 0 0 3)).toInt))
def lk (i : Nat) (T0 T : q_S) : Prop := ∀ k : Nat, k < 6 → k ≠ i → (nI k ∈ mLn T ↔ nI k ∈ mLn T0)
def Ba (e : Nat) (c : Int) (T0 S T : q_S) (i : Nat) : Prop :=
  Ce e S T ∧ ((e = i ∨ e = 6) ∧ 1 ≤ (q_i (S 11 i 3)).toInt) ∧ q_i (S 11 i 4) = q_i (T 16 0 i) ∧ q_i (S 9 i 7) = 0 ∧ (e = i → q_i (T 29 0 i) = 0 ∧ q_i (T 7 0 i) = 0 ∧ nI i ∉ mLn T ∧ ¬ q_i (S 21 i 2) = 0 ∧ q_i (S 21 i 0) = q_i (T0 28 0 i)) ∧ lk i T0 T ∧ (hasT S T i → lastW S i ∧ tkv c S T i) ∧ (¬ hasT S T i → q_i (S 21 i 1) = 0)
def lf (S : q_S) (i : Nat) : Prop := (q_i (S 11 i 4)).toInt < (q_i (S 11 i 3)).toInt
/-- it goes on -/
def Ru (e : Nat) (c : Int) (T0 S T : q_S) (i : Nat) : Prop := Ba e c T0 S T i ∧ (hasT S T i → lf S i) ∧ q_i (S 9 i 10) = 0
def pc (T : q_S) (i : Nat) : Nat := 14 * ((q_i (T 9 0 i)).toNatClampNeg) + ((q_i (T 11 0 i)).toNatClampNeg)
/-- what it waits for -/
def Vw (S T : q_S) (i : Nat) : Prop := (q_i (S 9 i 10) = 1 ∨ q_i (S 9 i 10) = 4 → q_i (S 9 i 13) = q_i (T 27 0 i)) ∧ (q_i (S 9 i 10) = 3 → q_i (S 9 i 13) = q_i (T 2 0 (pc T i))) ∧ (q_i (S 9 i 10) = 1 ∨ q_i (S 9 i 10) = 3 → q_i (S 9 i 14) = q_i (T 3 0 (pc T i))) ∧ (q_i (S 9 i 8) = 0 ↔ ¬ q_i (S 9 i 10) = 4)
/-- it waits -/
def Wa (e : Nat) (c : Int) (T0 S T : q_S) (i : Nat) : Prop := Ba e c T0 S T i ∧ (hasT S T i → lf S i ∨ ((q_i (S 9 i 10) = 1 ∨ q_i (S 9 i 10) = 4) ∧ q_i (S 9 i 13) = q_i (S 21 i 0))) ∧ (q_i (S 9 i 10) = 1 ∨ q_i (S 9 i 10) = 2 ∨ q_i (S 9 i 10) = 3 ∨ q_i (S 9 i 10) = 4) ∧ Vw S T i
/-- it has ended -/
def En (T0 S T : q_S) (i : Nat) : Prop := Ce 6 S T ∧ ¬ hasT S T i ∧ q_i (S 21 i 1) = 0 ∧ lk i T0 T ∧ q_i (S 9 i 7) = 0 ∧ 5 ≤ (q_i (S 9 i 10)).toInt ∧ (q_i (S 9 i 10) = 5 → q_i (S 9 i 15) = q_i (T 13 0 i))
def RR (e : Nat) (c : Int) (T0 S T : q_S) (i : Nat) : Prop := Wa e c T0 S T i ∨ (Ru e c T0 S T i ∧ q_i (S 9 i 8) = 0) ∨ (5 ≤ (q_i (S 9 i 10)).toInt ∧ En T0 (x_fe_finish S i) T i)
theorem nI_inj6 {k i : Nat} (hk : k < 6) (hi : i < 6) (h : nI k = nI i) : k = i := (nI_eq (by omega) (by omega)).mp h
theorem lk_r {i : Nat} {T : q_S} : lk i T T := fun _ _ _ => Iff.rfl
theorem lk_eq {i : Nat} {T0 T T' : q_S} (h : lk i T0 T) (e : mLn T' = mLn T) : lk i T0 T' := fun k a b => by rw [e]; exact h k a b
theorem lk_noTask {i : Nat} {T0 T : q_S} (hi : i < 6) (hI : mI T) (h : lk i T0 T) : lk i T0 (m_fm_noTask T i) := by
  intro k hk hne
  rw [mLn_noTask hI, ← h k hk hne]
  simp only [List.mem_filter, decide_eq_true_eq]
  exact ⟨fun z => z.1, fun z => ⟨z, fun q => hne (nI_inj6 hk hi q)⟩⟩
theorem n_noTask {i : Nat} {T : q_S} (hI : mI T) : nI i ∉ mLn (m_fm_noTask T i) := by
  rw [mLn_noTask hI]
  simp
theorem en_of {e i : Nat} {T0 S T : q_S} (hi : i < 6) (he : e = i ∨ e = 6) (hI : mI T) (h : Ce e S T) (hk : lk i T0 T) (h7 : q_i (S 9 i 7) = 0) (h5 : 5 ≤ (q_i (S 9 i 10)).toInt) (ho : q_i (S 9 i 10) = 5 → q_i (S 9 i 15) = q_i (T 13 0 i)) : En T0 (x_fe_dropTask S i) (m_fm_noTask T i) i := by
  have r := x_renew_1 (x_tl_drop S (nI i)) i 0
  have k9 : ∀ z, x_fe_dropTask S i 9 i z = S 9 i z := fun z => xK_fe_dropTask S i 9 i z (by decide) (by decide) (by decide)
  refine ⟨ce_noTask hi he hI h, ?_, r.1, lk_noTask hi hI hk, ?_, ?_, ?_⟩
  · rintro (z | z)
    · exact z r.2.1
    · exact n_noTask hI z
  · rw [k9]; exact h7
  · rw [k9]; exact h5
  · rw [k9, k9, mK_fm_noTask T i 13 0 i (by decide) (by decide) (by decide) (by decide) (by decide)]; exact ho
theorem x_left {S : q_S} {i : Nat} : x_hi_isLeft S i = 0 ↔ ¬ lf S i := by
  unfold x_hi_isLeft lf
  split
  · rename_i h
    rw [Int32.le_iff_toInt_le] at h
    exact ⟨fun _ => by omega, fun _ => rfl⟩
  · rename_i h
    rw [Int32.le_iff_toInt_le] at h
    exact ⟨fun z => absurd z (by decide), fun z => by omega⟩
/-- the reference's left, told of the class -/
theorem m_lf {e i : Nat} {S T : q_S} (hi : i < 6) (hI : mI T) (h : Ce e S T) (h4 : q_i (S 11 i 4) = q_i (T 16 0 i)) : (m_fm_left T i).toInt = (q_i (S 11 i 3)).toInt - (q_i (S 11 i 4)).toInt := by
  rw [mF_left hI, h4, ce_i h (rm_hs hi) (by omega)]
theorem en_end {e i : Nat} {T0 S T : q_S} {a : Int32} (hi : i < 6) (he : e = i ∨ e = 6) (hI : mI T) (h : Ce e S T) (hk : lk i T0 T) (h7 : q_i (S 9 i 7) = 0) (h4 : q_i (S 11 i 4) = q_i (T 16 0 i)) (ha : a = 5 ∨ a = 6 ∨ a = 7) (ho : a = 5 → q_i (S 9 i 15) = q_i (T 13 0 i)) : En T0 (x_fe_finish (q_st S 9 i 10 (.int a)) i) (m_fm_end T i a) i := by
  have hl := m_lf hi hI h h4
  have hlx : lf (q_st S 9 i 10 (.int a)) i ↔ lf S i := Iff.rfl
  have a5 : 5 ≤ a.toInt := by rcases ha with rfl | rfl | rfl <;> decide
  have hc : Ce e (q_st S 9 i 10 (.int a)) (q_st T 10 0 i (.int a)) := ce_p h (rm_st hi)
  have hc7 : Ce e (q_st (q_st S 9 i 10 (.int a)) 9 i 10 (.int 7)) (q_st T 10 0 i (.int 7)) := ce_eqm (ce_p hc (rm_st hi)) (fun j i' k a' b m n => by
    by_cases g : a' = 10 ∧ b = i
    · obtain ⟨rfl, rfl⟩ := g
      rw [q_st_s, q_st_s]; exact vq_r
    · rw [q_st_n _ _ (fun w => g ⟨w.1, w.2.2⟩), q_st_n _ _ (fun w => g ⟨w.1, w.2.2⟩), q_st_n _ _ (fun w => g ⟨w.1, w.2.2⟩)]; exact vq_r)
  have s10 : q_i (q_st S 9 i 10 (.int a) 9 i 10) = a := q_ss
  have s7 : q_i (q_st S 9 i 10 (.int a) 9 i 7) = 0 := q_sk (by decide) h7
  have s15 : a = 5 → q_i (q_st S 9 i 10 (.int a) 9 i 15) = q_i ((q_st T 10 0 i (.int a)) 13 0 i) := fun z => (q_sk (by decide) (ho z)).trans (by rw [q_kj (by decide)])
  have c0 : ∀ k, q_i (q_st S 9 i 10 (.int a) 0 0 k) = q_i (S 0 0 k) := fun k => by rw [q_kj (by decide)]
  unfold x_fe_finish m_fm_end
  by_cases g : lf S i
  · rw [if_neg (fun z => (x_left.mp z) (hlx.mpr g)), if_neg (by rw [Int32.le_iff_toInt_le, hl]; show ¬ _ ≤ (0 : Int); unfold lf at g; omega)]
    rw [c0, ce_i h rm_brk (by omega)]
    refine en_of hi he (mIs (mIs hI rfl) rfl) (ce_p hc7 rm_brk) (lk_eq hk (by rw [mLn_st (by decide) (by decide), mLn_st (by decide) (by decide)])) ?_ ?_ ?_
    · rw [q_kj (by decide), q_st_n _ _ (by omega)]; exact s7
    · rw [q_kj (by decide), q_ss]; decide
    · rw [q_kj (by decide), q_ss]; exact fun z => absurd z (by decide)
  · rw [if_pos (x_left.mpr (fun z => g (hlx.mp z))), if_pos (c := m_fm_left T i ≤ 0) (by rw [Int32.le_iff_toInt_le, hl]; show _ ≤ (0 : Int); unfold lf at g; omega)]
    have fin : ∀ (k b : Nat), rM 0 0 k 33 b → En T0 (x_fe_dropTask (q_st (q_st S 9 i 10 (.int a)) 0 0 k (.int ((q_i (q_st S 9 i 10 (.int a) 0 0 k)) + 1))) i) (m_fm_noTask (q_st (q_st T 10 0 i (.int a)) 33 0 b (.int ((q_i (T 33 0 b)) + 1))) i) i := by
      intro k b m
      rw [c0, ce_i h m (by omega)]
      refine en_of hi he (mIs (mIs hI rfl) rfl) (ce_p hc m) (lk_eq hk (by rw [mLn_st (by decide) (by decide), mLn_st (by decide) (by decide)])) ?_ ?_ ?_
      · rw [q_kj (by decide)]; exact s7
      · rw [q_kj (by decide), s10]; exact a5
      · rw [q_kj (by decide), s10, q_kj (a := 9) (j := 0) (by decide), q_kj (a := 13) (j := 33) (by decide)]; exact s15
    rw [s10]
    rcases ha with rfl | rfl | rfl
    · rw [if_pos rfl]
      exact fin 8 7 rm_don
    · rw [if_neg (by decide), if_pos rfl]
      exact fin 9 8 rm_fai
    · rw [if_neg (by decide), if_neg (by decide)]
      exact fin 10 9 rm_brk
theorem en_break {e i : Nat} {T0 S T : q_S} (hi : i < 6) (he : e = i ∨ e = 6) (hI : mI T) (h : Ce e S T) (hk : lk i T0 T) (h7 : q_i (S 9 i 7) = 0) : En T0 (x_fe_finish (q_st S 9 i 10 (.int 7)) i) (m_fm_breakUp T i) i := by
  have hz : ((q_i (T 15 0 i)) - (q_i (T 15 0 i))) = (0 : Int32) := Int32.sub_self _
  have hl : m_fm_left (q_st T 16 0 i (.int (q_i (T 15 0 i)))) i ≤ 0 := by
    unfold m_fm_left
    rw [q_kj (by decide), q_ss, hz]
    decide
  have hc : Ce e (q_st S 9 i 10 (.int 7)) (q_st (q_st T 16 0 i (.int (q_i (T 15 0 i)))) 10 0 i (.int 7)) := ce_p (ce_m h rn_16) (rm_st hi)
  have hc7 : Ce e (q_st (q_st S 9 i 10 (.int 7)) 9 i 10 (.int 7)) (q_st (q_st T 16 0 i (.int (q_i (T 15 0 i)))) 10 0 i (.int 7)) := ce_eqx hc (fun j i' k a' b m n => by
    by_cases g : j = 9 ∧ i' = i ∧ k = 10
    · obtain ⟨rfl, rfl, rfl⟩ := g
      rw [q_st_s, q_st_s]; exact vq_r
    · rw [q_st_n _ _ g]; exact vq_r)
  have c0 : ∀ k, q_i (q_st S 9 i 10 (.int 7) 0 0 k) = q_i (S 0 0 k) := fun k => by rw [q_kj (by decide)]
  have hI2 : mI (q_st T 16 0 i (.int (q_i (T 15 0 i)))) := mI_st hI ⟨(hI 15 0 i).1, (hI 15 0 i).2⟩
  have eb : (2 + 7 : Int32).toNatClampNeg = 9 := by decide
  have e33 : ∀ k, q_st T 16 0 i (.int (q_i (T 15 0 i))) 33 0 k = T 33 0 k := fun k => q_kj (by decide)
  unfold m_fm_breakUp m_fm_end x_fe_finish
  rw [if_pos hl, eb, e33]
  by_cases g : x_hi_isLeft (q_st S 9 i 10 (.int 7)) i = 0
  · rw [if_pos g, q_ss, if_neg (by decide), if_neg (by decide), c0, ce_i h rm_brk (by omega)]
    refine en_of hi he (mIs (mIs hI2 rfl) rfl) (ce_p hc rm_brk) (lk_eq hk (by rw [mLn_st (by decide) (by decide), mLn_st (by decide) (by decide), mLn_st (by decide) (by decide)])) ?_ ?_ ?_
    · rw [q_kj (by decide)]; exact q_sk (by decide) h7
    · rw [q_kj (by decide), q_ss]; decide
    · rw [q_kj (by decide), q_ss]; exact fun z => absurd z (by decide)
  · rw [if_neg g, c0, ce_i h rm_brk (by omega)]
    refine en_of hi he (mIs (mIs hI2 rfl) rfl) (ce_p hc7 rm_brk) (lk_eq hk (by rw [mLn_st (by decide) (by decide), mLn_st (by decide) (by decide), mLn_st (by decide) (by decide)])) ?_ ?_ ?_
    · rw [q_kj (by decide), q_st_n _ _ (by omega)]; exact q_sk (by decide) h7
    · rw [q_kj (by decide), q_ss]; decide
    · rw [q_kj (by decide), q_ss]; exact fun z => absurd z (by decide)
