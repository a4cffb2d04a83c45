/-! TO THE END OF THE GOING ON, side by side -/
theorem en_st {i : Nat} {T0 S T : q_S} (hi : i < 6) (h : En T0 S T i) : 5 ≤ (q_i (T 10 0 i)).toInt := by
  rw [← ce_i h.1 (rm_st hi) (by omega)]
  exact h.2.2.2.2.2.1
theorem wa_st {e i : Nat} {c : Int} {T0 S T : q_S} (hi : i < 6) (h : Wa e c T0 S T i) : ¬ q_i (T 10 0 i) = 0 ∧ ¬ 5 ≤ (q_i (T 10 0 i)).toInt := by
  rw [← ce_i h.1.1 (rm_st hi) (by omega)]
  exact ⟨(st_w h.2.2.1).1, (st_w h.2.2.1).2.1⟩
theorem lf_left {e i : Nat} {c : Int} {T0 S T : q_S} (hi : i < 6) (hI : mI T) (hg : mg T i) (h : Ba e c T0 S T i) : lf S i ↔ ¬ m_fm_left T i = 0 := by
  have hml := m_lf hi hI h.1 h.2.2.1
  have hg1 : (q_i (T 16 0 i)).toInt ≤ (q_i (T 15 0 i)).toInt := hg
  rw [← h.2.2.1, ← ce_i h.1 (rm_hs hi) (by omega)] at hg1
  unfold lf
  constructor
  · intro g z
    have := congrArg Int32.toInt z
    rw [hml] at this
    have : _ = (0 : Int) := this
    omega
  · intro g
    by_cases q : (q_i (S 11 i 4)).toInt < (q_i (S 11 i 3)).toInt
    · exact q
    · exact absurd (Int32.toInt_inj.mp (by rw [hml]; show _ = (0 : Int); omega)) g
theorem x_meet_end {S : q_S} {i : Nat} (h : 5 ≤ (q_i (S 9 i 10)).toInt) : x_wf_meetNext S i = S := by
  unfold x_wf_meetNext
  split
  · rfl
  · rw [if_neg (by
      unfold x_wf_hasEnded
      rw [if_neg (by rw [Int32.lt_iff_toInt_lt]; show ¬ _ < (5 : Int); omega)]
      decide)]
/-- behind a step or an undoing: the next entry, where it waits and one is left -/
theorem rr_cont {e i : Nat} {c : Int} {T0 U T : q_S} (hi : i < 6) (hG : mGd T i) (h : Rr e c T0 U T i) : ∃ T2 : q_S, mGd T2 i ∧ Ent e c T0 (if x_hi_isLeft U i = 0 then U else x_wf_meetNext U i) T2 i ∧ (∀ V, goes i T2 V → goes i T V) := by
  rcases h with ⟨h0, h8, hr⟩ | hw | ⟨hr, h8⟩ | ⟨h5, hr⟩
  · rw [xp_meet0 h0, ite_self]
    exact ⟨T, hG, Or.inl ⟨h0, h8, hr⟩, fun _ z => z⟩
  · by_cases g : lf U i
    · rw [if_neg (fun z => (x_left.mp z) g)]
      obtain ⟨s1, s2⟩ := wa_st hi hw
      have hl := (lf_left hi hG.1 hG.2.2.2.1 hw.1).mp g
      exact ⟨mMt T i, gd_mt hi hG s1 s2 hl, rr_meet hi hG hw g, fun V z => goes_mt s1 s2 hl z⟩
    · rw [if_pos (x_left.mpr g)]
      exact ⟨T, hG, Or.inr (Or.inl ⟨hw, g⟩), fun _ z => z⟩
  · rw [xp_meet0 hr.2.2, ite_self]
    exact ⟨T, hG, Or.inr (Or.inr (Or.inl ⟨hr, h8⟩)), fun _ z => z⟩
  · rw [x_meet_end h5, ite_self]
    exact ⟨T, hG, Or.inr (Or.inr (Or.inr ⟨h5, hr⟩)), fun _ z => z⟩
/-- what a going on comes to -/
def Out (e : Nat) (c : Int) (T0 S T : q_S) (i : Nat) : Prop := (Wa e c T0 S T i ∧ ¬ lf S i) ∨ (5 ≤ (q_i (S 9 i 10)).toInt ∧ En T0 (x_fe_finish S i) T i)
theorem sim_end {e i : Nat} {c : Int} {T0 S T : q_S} (hi : i < 6) (hG : mGd T i) (h : Ent e c T0 S T i) (h0 : ¬ q_i (S 9 i 10) = 0) : goes i T T ∧ Out e c T0 S T i := by
  rcases h with ⟨z, -, -⟩ | ⟨hw, g⟩ | ⟨hr, -⟩ | ⟨h5, hr⟩
  · exact absurd z h0
  · obtain ⟨s1, s2⟩ := wa_st hi hw
    refine ⟨goes_0 (Or.inr ⟨s1, ?_⟩), Or.inl ⟨hw, g⟩⟩
    by_cases q : m_fm_left T i = 0
    · exact q
    · exact absurd ((lf_left hi hG.1 hG.2.2.2.1 hw.1).mpr q) g
  · exact absurd hr.2.2 h0
  · exact ⟨goes_0 (Or.inl (en_st hi hr)), Or.inr ⟨h5, hr⟩⟩
theorem sim {e i : Nat} {c : Int} {T0 : q_S} (hi : i < 6) : ∀ (n : Nat) (S T : q_S), xI S → xJ S → xM S i < n → mGd T i → Ent e c T0 S T i → ∃ V : q_S, goes i T V ∧ Out e c T0 (xRun n S i) V i := by
  intro n
  induction n with
  | zero => intro S T _ _ h; omega
  | succ n ih =>
    intro S T hI hJ hM hG h
    by_cases h0 : q_i (S 9 i 10) = 0
    · rw [xRun, if_pos h0]
      have go : ∀ T2 : q_S, mGd T2 i → Ent e c T0 (xIt S i) T2 i → ∃ V : q_S, goes i T2 V ∧ Out e c T0 (xRun n (xIt S i) i) V i := fun T2 hG2 he => by
        by_cases hs : q_i (xIt S i 9 i 10) = 0
        · rcases xIt_M hi hI hJ with q | q
          · exact absurd hs q
          · exact ih (xIt S i) T2 (xI_it hi hI hJ) (xJ_it hJ) (by omega) hG2 he
        · rw [xRun_end hs]
          exact ⟨T2, sim_end hi hG2 he hs⟩
      rcases h with ⟨-, h8, hr⟩ | ⟨hw, g⟩ | ⟨hr, h8⟩ | ⟨h5, -⟩
      · obtain ⟨T2, hG2, he, hgo⟩ := rr_cont hi hG (Or.inr hr)
        have ex : xIt S i = (if x_hi_isLeft (x_fe_undoLatest S i) i = 0 then x_fe_undoLatest S i else x_wf_meetNext (x_fe_undoLatest S i) i) := by
          unfold xIt
          rw [if_neg h8]
        rw [← ex] at he
        obtain ⟨V, v1, v2⟩ := go T2 hG2 he
        exact ⟨V, hgo V v1, v2⟩
      · exact absurd h0 (st_w hw.2.2.1).1
      · obtain ⟨hI2, hJ2, hQ2, hg2, hV2⟩ := id hG
        have t0 : q_i (T 10 0 i) = 0 := by rw [← ce_i hr.1.1 (rm_st hi) (by omega)]; exact h0
        obtain ⟨T2, hG3, he, hgo⟩ := rr_cont hi (gd_st1 hi hG t0) (rr_step hi hI2 hJ2 hQ2 hg2 hr h8)
        have ex : xIt S i = (if x_hi_isLeft (x_fe_step S i) i = 0 then x_fe_step S i else x_wf_meetNext (x_fe_step S i) i) := by
          unfold xIt
          rw [if_pos h8]
        rw [← ex] at he
        obtain ⟨V, v1, v2⟩ := go T2 hG3 he
        exact ⟨V, goes_st t0 (hgo V v1), v2⟩
      · rw [h0] at h5
        exact absurd h5 (by decide)
    · rw [xRun, if_neg h0]
      exact ⟨T, sim_end hi hG h h0⟩
/-- the reference's fuel is enough -/
theorem goOn_more {i : Nat} (hi : i < 6) : ∀ (n : Nat) (S : q_S), mM S i < n → mGd S i → ∀ j : Nat, m_fm_goOn_L0 (n + j) S i = m_fm_goOn_L0 n S i := by
  intro n
  induction n with
  | zero => intro S h; exact absurd h (Nat.not_lt_zero _)
  | succ n ih =>
    intro S hM hG j
    rw [show n + 1 + j = n + j + 1 by omega, m_fm_goOn_L0, m_fm_goOn_L0]
    split
    · rfl
    · rename_i h5
      have h5 : ¬ 5 ≤ (q_i (S 10 0 i)).toInt := by rw [Int32.le_iff_toInt_le] at h5; exact h5
      have hpos := mM_pos h5
      have br := ih (m_fm_breakUp S i) (by rw [mM_E mE_break.1]; omega) (gd_break hi hG) j
      split
      · rename_i h0
        split
        · exact br
        · rename_i h60
          have b1 : 0 ≤ (q_i (S 12 0 i)).toInt ∧ (q_i (S 12 0 i)).toInt ≤ 60 := hG.1 12 0 i
          have h6 := lv_neT h60 (a := 60) (by decide)
          have hm := mM_step hG.1 hG.2.2.2.1 (by omega) h0
          have hs := gd_st1 hi hG h0
          unfold mSt1 at hs
          rw [if_neg h60] at hs
          exact ih (m_fm_step S i) (by omega) hs j
      · rename_i h0
        split
        · rfl
        · rename_i hl
          split
          · exact br
          · rename_i hF
            obtain ⟨g1, g2, g3⟩ := mM_meet hG.1 hG.2.2.2.1 h0 h5 hl (q_i (S 17 0 (20 * i + ((q_i (S 16 0 i)).toNatClampNeg)))) (q_i (S 19 0 (20 * i + ((q_i (S 16 0 i)).toNatClampNeg))))
            exact ih _ (by omega) (gd_came hi (gd_16 hG h0 h5 hl) (mSt_st (by decide) (mF_isFor hF))) j
/-- what a run of the class and a going on of the reference come to -/
def Out2 (e : Nat) (c : Int) (T0 S T : q_S) (i : Nat) : Prop := (Wa e c T0 S T i ∧ ¬ lf S i) ∨ En T0 S T i
theorem rr_run {e i : Nat} {c : Int} {T0 S T : q_S} (hi : i < 6) (hI : xI S) (hJ : xJ S) (hG : mGd T i) (h : Ent e c T0 S T i) : Out2 e c T0 (x_fe_run S i) (m_fm_goOn T i) i := by
  have hM := xM_le (i := i) hI
  obtain ⟨V, ⟨k, hk⟩, ho⟩ := sim hi 1281 S T hI hJ (by omega) hG h
  have e1 : m_fm_goOn T i = V := by
    unfold m_fm_goOn
    rw [← goOn_more hi 1303 T (mM_le hG.1) hG k]
    exact hk _ (by omega)
  unfold x_fe_run
  rw [(x_run_eq hi hI hJ).1, e1]
  rcases ho with ⟨hw, g⟩ | ⟨h5, hr⟩
  · rw [if_pos (by unfold x_wf_hasEnded; rw [if_pos (st_w hw.2.2.1).2.2])]
    exact Or.inl ⟨hw, g⟩
  · rw [if_neg (by
      unfold x_wf_hasEnded
      rw [if_neg (by rw [Int32.lt_iff_toInt_lt]; show ¬ _ < (5 : Int); omega)]
      decide)]
    exact Or.inr hr
