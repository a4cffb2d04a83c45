/-! A STEP, side by side -/
/-- the class undoes in its next turn what the reference undoes at once -/
def Rr (e : Nat) (c : Int) (T0 S T : q_S) (i : Nat) : Prop := (q_i (S 9 i 10) = 0 ∧ ¬ q_i (S 9 i 8) = 0 ∧ RR e c T0 (x_fe_undoLatest S i) T i) ∨ RR e c T0 S T i
theorem m_goodO {S : q_S} {o a b : Int32} (h : ¬ m_fm_isGood S o a b = 0) : o = 0 ∨ o = 1 ∨ o = 2 ∨ o = 3 ∨ o = 4 ∨ o = 5 ∨ o = 6 ∨ o = 7 ∨ o = 8 ∨ o = 9 ∨ o = 10 := by
  by_cases h0 : o = 0; · exact Or.inl h0
  by_cases h1 : o = 1; · exact Or.inr (Or.inl h1)
  by_cases h2 : o = 2; · exact Or.inr (Or.inr (Or.inl h2))
  by_cases h3 : o = 3; · exact Or.inr (Or.inr (Or.inr (Or.inl h3)))
  by_cases h4 : o = 4; · exact Or.inr (Or.inr (Or.inr (Or.inr (Or.inl h4))))
  by_cases h5 : o = 5; · exact Or.inr (Or.inr (Or.inr (Or.inr (Or.inr (Or.inl h5)))))
  by_cases h6 : o = 6; · exact Or.inr (Or.inr (Or.inr (Or.inr (Or.inr (Or.inr (Or.inl h6))))))
  by_cases h7 : o = 7; · exact Or.inr (Or.inr (Or.inr (Or.inr (Or.inr (Or.inr (Or.inr (Or.inl h7)))))))
  by_cases h8 : o = 8; · exact Or.inr (Or.inr (Or.inr (Or.inr (Or.inr (Or.inr (Or.inr (Or.inr (Or.inl h8))))))))
  by_cases h9 : o = 9; · exact Or.inr (Or.inr (Or.inr (Or.inr (Or.inr (Or.inr (Or.inr (Or.inr (Or.inr (Or.inl h9)))))))))
  by_cases h10 : o = 10; · exact Or.inr (Or.inr (Or.inr (Or.inr (Or.inr (Or.inr (Or.inr (Or.inr (Or.inr (Or.inr h10)))))))))
  unfold m_fm_isGood at h
  rw [if_neg h0, if_neg h1, if_neg h2, if_neg h3, if_neg h4, if_neg h5, if_neg h6, if_neg h7, if_neg h8, if_neg h9, if_neg h10, if_neg h9] at h
  exact absurd rfl h
theorem ru_l {e i k : Nat} {c : Int} {T0 S T : q_S} {v : Value} (h : Ru e c T0 S T i) (hk : k = 8 ∨ k = 13 ∨ k = 14 ∨ k = 15) : hasT (q_st S 9 i k v) T i → lf (q_st S 9 i k v) i := (ru_x h hk).2.1
theorem xd_5 {U : q_S} {i : Nat} {a b : Int32} : xDo U i 5 a b = x_fe_want (q_st U 9 i 14 (.int b)) i 1 a (q_i (U 10 i b.toNatClampNeg)) := by unfold xDo; rw [if_pos (c := (5 : Int32) = 5) rfl]
theorem xd_6 {U : q_S} {i : Nat} {a b : Int32} : xDo U i 6 a b = x_fe_sleep U i (q_i (U 10 i a.toNatClampNeg)) := by unfold xDo; rw [if_neg (c := (6 : Int32) = 5) (by decide), if_pos (c := (6 : Int32) = 6) rfl]
theorem xd_7 {U : q_S} {i : Nat} {a b : Int32} : xDo U i 7 a b = x_fe_awaitSignal (q_st U 9 i 14 (.int b)) i a := by unfold xDo; rw [if_neg (c := (7 : Int32) = 5) (by decide), if_neg (c := (7 : Int32) = 6) (by decide), if_pos (c := (7 : Int32) = 7) rfl]
theorem xd_8 {U : q_S} {i : Nat} {a b : Int32} : xDo U i 8 a b = x_wf_note U i a (q_i (U 10 i b.toNatClampNeg)) := by unfold xDo; rw [if_neg (c := (8 : Int32) = 5) (by decide), if_neg (c := (8 : Int32) = 6) (by decide), if_neg (c := (8 : Int32) = 7) (by decide), if_pos (c := (8 : Int32) = 8) rfl]
theorem xd_9 {U : q_S} {i : Nat} {a b : Int32} : xDo U i 9 a b = q_st U 9 i 8 (.int 1) := by unfold xDo; rw [if_neg (c := (9 : Int32) = 5) (by decide), if_neg (c := (9 : Int32) = 6) (by decide), if_neg (c := (9 : Int32) = 7) (by decide), if_neg (c := (9 : Int32) = 8) (by decide), if_pos (c := (9 : Int32) = 9) rfl]
theorem xd_10 {U : q_S} {i : Nat} {a b : Int32} : xDo U i 10 a b = q_st (q_st U 9 i 15 (.int (q_i (U 10 i a.toNatClampNeg)))) 9 i 10 (.int 5) := by unfold xDo; rw [if_neg (c := (10 : Int32) = 5) (by decide), if_neg (c := (10 : Int32) = 6) (by decide), if_neg (c := (10 : Int32) = 7) (by decide), if_neg (c := (10 : Int32) = 8) (by decide), if_neg (c := (10 : Int32) = 9) (by decide), if_pos (c := (10 : Int32) = 10) rfl]
theorem xd_c {U : q_S} {i : Nat} {o a b : Int32} (ho : o = 0 ∨ o = 1 ∨ o = 2 ∨ o = 3 ∨ o = 4) : xDo U i o a b = x_wf_compute U i o a b := by
  unfold xDo
  rcases ho with rfl | rfl | rfl | rfl | rfl <;> (rw [if_neg (by decide), if_neg (by decide), if_neg (by decide), if_neg (by decide), if_neg (by decide), if_neg (by decide)])
theorem md_5 {U : q_S} {i : Nat} {a b : Int32} : mDo U i 5 a b = m_fm_want U i a (q_i (U 14 0 (4 * i + b.toNatClampNeg))) 1 := by unfold mDo; rw [if_neg (c := (5 : Int32) = 0) (by decide), if_neg (c := (5 : Int32) = 1) (by decide), if_neg (c := (5 : Int32) = 2) (by decide), if_neg (c := (5 : Int32) = 3) (by decide), if_neg (c := (5 : Int32) = 4) (by decide), if_pos (c := (5 : Int32) = 5) rfl]
theorem md_6 {U : q_S} {i : Nat} {a b : Int32} : mDo U i 6 a b = (if 1 ≤ q_i (U 14 0 (4 * i + a.toNatClampNeg)) then m_fm_sleep U i (q_i (U 14 0 (4 * i + a.toNatClampNeg))) else q_st U 11 0 i (.int (q_i (U 11 0 i) + 1))) := by unfold mDo; rw [if_neg (c := (6 : Int32) = 0) (by decide), if_neg (c := (6 : Int32) = 1) (by decide), if_neg (c := (6 : Int32) = 2) (by decide), if_neg (c := (6 : Int32) = 3) (by decide), if_neg (c := (6 : Int32) = 4) (by decide), if_neg (c := (6 : Int32) = 5) (by decide), if_pos (c := (6 : Int32) = 6) rfl]
theorem md_7 {U : q_S} {i : Nat} {a b : Int32} : mDo U i 7 a b = m_fm_await U i a b := by unfold mDo; rw [if_neg (c := (7 : Int32) = 0) (by decide), if_neg (c := (7 : Int32) = 1) (by decide), if_neg (c := (7 : Int32) = 2) (by decide), if_neg (c := (7 : Int32) = 3) (by decide), if_neg (c := (7 : Int32) = 4) (by decide), if_neg (c := (7 : Int32) = 5) (by decide), if_neg (c := (7 : Int32) = 6) (by decide), if_pos (c := (7 : Int32) = 7) rfl]
theorem md_8 {U : q_S} {i : Nat} {a b : Int32} : mDo U i 8 a b = m_fm_note U i a (q_i (U 14 0 (4 * i + b.toNatClampNeg))) := by unfold mDo; rw [if_neg (c := (8 : Int32) = 0) (by decide), if_neg (c := (8 : Int32) = 1) (by decide), if_neg (c := (8 : Int32) = 2) (by decide), if_neg (c := (8 : Int32) = 3) (by decide), if_neg (c := (8 : Int32) = 4) (by decide), if_neg (c := (8 : Int32) = 5) (by decide), if_neg (c := (8 : Int32) = 6) (by decide), if_neg (c := (8 : Int32) = 7) (by decide), if_pos (c := (8 : Int32) = 8) rfl]
theorem md_9 {U : q_S} {i : Nat} {a b : Int32} : mDo U i 9 a b = m_fm_undo U i := by unfold mDo; rw [if_neg (c := (9 : Int32) = 0) (by decide), if_neg (c := (9 : Int32) = 1) (by decide), if_neg (c := (9 : Int32) = 2) (by decide), if_neg (c := (9 : Int32) = 3) (by decide), if_neg (c := (9 : Int32) = 4) (by decide), if_neg (c := (9 : Int32) = 5) (by decide), if_neg (c := (9 : Int32) = 6) (by decide), if_neg (c := (9 : Int32) = 7) (by decide), if_neg (c := (9 : Int32) = 8) (by decide), if_pos (c := (9 : Int32) = 9) rfl]
theorem md_10 {U : q_S} {i : Nat} {a b : Int32} : mDo U i 10 a b = m_fm_end (q_st U 13 0 i (.int (q_i (U 14 0 (4 * i + a.toNatClampNeg))))) i 5 := by unfold mDo; rw [if_neg (c := (10 : Int32) = 0) (by decide), if_neg (c := (10 : Int32) = 1) (by decide), if_neg (c := (10 : Int32) = 2) (by decide), if_neg (c := (10 : Int32) = 3) (by decide), if_neg (c := (10 : Int32) = 4) (by decide), if_neg (c := (10 : Int32) = 5) (by decide), if_neg (c := (10 : Int32) = 6) (by decide), if_neg (c := (10 : Int32) = 7) (by decide), if_neg (c := (10 : Int32) = 8) (by decide), if_neg (c := (10 : Int32) = 9) (by decide)]
set_option maxHeartbeats 4000000 in
theorem rr_do {e i : Nat} {c : Int} {T0 U V : q_S} {o a b : Int32} (hi : i < 6) (hI : mI V) (hQ : mQ V) (hg : mg V i) (h : Ru e c T0 U V i) (hf : q_i (U 9 i 8) = 0) (go : ¬ m_fm_isGood V o a b = 0) (hpc : o = 5 ∨ o = 7 → q_i (V 2 0 (pc V i)) = a ∧ q_i (V 3 0 (pc V i)) = b) : Rr e c T0 (xDo U i o a b) (mDo V i o a b) i := by
  obtain ⟨hB, hl, h0⟩ := id h
  obtain ⟨h1, ⟨h2, h20⟩, h3, h4, h5, h6, h7, h8⟩ := id hB
  have va : ∀ y : Int32, 0 ≤ y.toInt ∧ y.toInt ≤ 3 → q_i (U 10 i y.toNatClampNeg) = q_i (V 14 0 (4 * i + y.toNatClampNeg)) := fun y hy => by
    have hcl := q_clI hy.1
    exact ce_i h1 (rm_va hi (by omega)) (by omega)
  rcases m_goodO go with rfl | rfl | rfl | rfl | rfl | rfl | rfl | rfl | rfl | rfl | rfl
  · rw [xd_c (by decide)]
    exact Or.inr (rr_comp hi h hf (by decide) (Or.inr (mG_a go (by decide) (by decide))) (fun z => absurd z (by decide)))
  · rw [xd_c (by decide)]
    exact Or.inr (rr_comp hi h hf (by decide) (Or.inr (mG_a go (by decide) (by decide))) (fun _ => mG_b go (by decide)))
  · rw [xd_c (by decide)]
    exact Or.inr (rr_comp hi h hf (by decide) (Or.inr (mG_a go (by decide) (by decide))) (fun _ => mG_b go (by decide)))
  · rw [xd_c (by decide)]
    exact Or.inr (rr_comp hi h hf (by decide) (Or.inl rfl) (fun z => absurd z (by decide)))
  · rw [xd_c (by decide)]
    exact Or.inr (rr_comp hi h hf (by decide) (Or.inr (mG_a go (by decide) (by decide))) (fun z => absurd z (by decide)))
  · have hp := hpc (Or.inl rfl)
    have hb := mG_b go (by decide)
    rw [xd_5, md_5, va b hb]
    refine Or.inr (rr_want hi hI hQ hg (ba_x hB (by omega)) (ru_l h (by omega)) (Or.inl rfl) ?_ (fun _ => ?_))
    · rw [q_sk (by decide) hf]; decide
    · rw [q_ss]; exact hp.2.symm
  · have ha := mG_a go (by decide) (by decide)
    rw [xd_6, md_6, va a ha]
    by_cases g : 1 ≤ q_i (V 14 0 (4 * i + a.toNatClampNeg))
    · rw [if_pos g]
      exact Or.inr (rr_sleep hi hI hg hB hl hf g)
    · rw [if_neg g]
      unfold x_fe_sleep
      rw [if_neg g, ce_i h1 (rm_pl hi) (by omega)]
      exact Or.inr (Or.inr (Or.inl ⟨ru_p h (rm_pl hi) (by omega), by rw [q_sk (by decide) rfl]; exact hf⟩))
  · have hp := hpc (Or.inr rfl)
    have hb := mG_b go (by decide)
    rw [xd_7, md_7]
    exact Or.inr (rr_await hi hI hg (ru_x h (by omega)) (q_sk (by decide) hf) hp.1 hp.2 q_ss hb)
  · have hb := mG_b go (by decide)
    rw [xd_8, md_8, va b hb]
    exact Or.inr (rr_note hi hI h hf)
  · rw [xd_9, md_9]
    refine Or.inl ⟨q_sk (by decide) h0, by rw [q_ss]; decide, rr_undo hi hI hQ hg (ba_x hB (by omega)) (ru_l h (by omega)) (by rw [q_ss]; decide)⟩
  · have ha := mG_a go (by decide) (by decide)
    rw [xd_10, md_10, va a ha]
    have hB2 : Ba e c T0 (q_st U 9 i 15 (.int (q_i (V 14 0 (4 * i + a.toNatClampNeg))))) (q_st V 13 0 i (.int (q_i (V 14 0 (4 * i + a.toNatClampNeg))))) i := ba_x (ba_m hB (by omega)) (by omega)
    obtain ⟨g1, ⟨g2, g20⟩, g3, g4, g5, g6, g7, g8⟩ := hB2
    exact Or.inr (Or.inr (Or.inr ⟨by rw [q_ss]; decide, en_end hi g2 (mIs hI rfl) g1 g6 g4 g3 (Or.inl rfl) (fun _ => by rw [q_ss, q_ss])⟩))
theorem ru_cnt {e i : Nat} {c : Int} {T0 S T : q_S} (hi : i < 6) (hI : mI T) (h : Ru e c T0 S T i) : Ru e c T0 (xCnt S i) (mCnt T i) i := by
  have h1 := h.1.1
  have hml := m_lf hi hI h1 h.1.2.2.1
  unfold xCnt mCnt
  rw [ce_i h1 (rm_sp hi) (by omega), ce_i h1 rm_own (by omega), ce_i h1 rm_rep (by omega)]
  by_cases g : lf S i
  · rw [if_neg (fun z => (x_left.mp z) g), if_neg (by
      rw [Int32.le_iff_toInt_le, hml]
      show ¬ _ ≤ (0 : Int)
      unfold lf at g
      omega), q_comm (j := 33) (by decide)]
    exact ru_p (ru_p h (rm_sp hi) (by omega)) rm_rep (by omega)
  · rw [if_pos (x_left.mpr g), if_pos (by
      rw [Int32.le_iff_toInt_le, hml]
      show _ ≤ (0 : Int)
      unfold lf at g
      omega), q_comm (j := 33) (by decide)]
    exact ru_p (ru_p h (rm_sp hi) (by omega)) rm_own (by omega)
theorem mg_cnt {T : q_S} {i : Nat} (h : mg T i) : mg (mCnt T i) i := by
  unfold mg at h ⊢
  rw [mCnt_o T i 15 0 i (by decide) (by decide), mCnt_o T i 16 0 i (by decide) (by decide)]
  exact h
theorem mQ_cnt {T : q_S} {i : Nat} (h : mQ T) : mQ (mCnt T i) := mQ_eq h (mCnt_o T i 0 0 33 (by decide) (by decide)) (fun k => mCnt_o T i 32 0 k (by decide) (by decide)) (fun k => mCnt_o T i 7 0 k (by decide) (by decide))
/-- one turn of the reference that goes on -/
def mSt1 (T : q_S) (i : Nat) : q_S := if q_i (T 12 0 i) = 60 then m_fm_breakUp T i else m_fm_step T i
set_option maxHeartbeats 4000000 in
theorem rr_step {e i : Nat} {c : Int} {T0 S T : q_S} (hi : i < 6) (hI : mI T) (hJ : mJ T) (hQ : mQ T) (hg : mg T i) (h : Ru e c T0 S T i) (hf : q_i (S 9 i 8) = 0) : Rr e c T0 (x_fe_step S i) (mSt1 T i) i := by
  obtain ⟨hB, hl, h0⟩ := id h
  obtain ⟨h1, ⟨h2, h20⟩, h3, h4, h5, h6, h7, h8⟩ := id hB
  have b12 : 0 ≤ (q_i (T 12 0 i)).toInt ∧ (q_i (T 12 0 i)).toInt ≤ 60 := hI 12 0 i
  have b9 : 0 ≤ (q_i (T 9 0 i)).toInt ∧ (q_i (T 9 0 i)).toInt ≤ 2 := hI 9 0 i
  have b11 : 0 ≤ (q_i (T 11 0 i)).toInt ∧ (q_i (T 11 0 i)).toInt ≤ 14 := hI 11 0 i
  have c9 := q_clI b9.1
  have c11 := q_clI b11.1
  have b4 : 0 ≤ (q_i (T 4 0 (q_i (T 9 0 i)).toNatClampNeg)).toInt ∧ (q_i (T 4 0 (q_i (T 9 0 i)).toNatClampNeg)).toInt ≤ 14 := hI 4 0 _
  have e12 : q_i (S 9 i 12) = q_i (T 12 0 i) := ce_i h1 (rm_sp hi) (by omega)
  have e9 : q_i (S 9 i 9) = q_i (T 9 0 i) := ce_i h1 (rm_pg hi) (by omega)
  have e11 : q_i (S 9 i 11) = q_i (T 11 0 i) := ce_i h1 (rm_pl hi) (by omega)
  have p3 : (q_i (T 9 0 i)).toNatClampNeg < 3 := by omega
  have e5 : q_i (S 5 (q_i (T 9 0 i)).toNatClampNeg 3) = q_i (T 4 0 (q_i (T 9 0 i)).toNatClampNeg) := ce_i h1 (rm_sz p3) (by omega)
  have hc := ru_cnt hi hI h
  have f8 : q_i (xCnt S i 9 i 8) = 0 := by
    unfold xCnt
    split
    · rw [q_kj (by decide), q_sk (by decide) rfl]; exact hf
    · rw [q_kj (by decide), q_sk (by decide) rfl]; exact hf
  unfold mSt1
  rw [x_step_eq, m_step_eq, e12, e9, e11]
  by_cases g : q_i (T 12 0 i) = 60
  · rw [if_pos g, if_neg (by rw [g]; decide)]
    exact Or.inr (Or.inr (Or.inr ⟨by rw [q_ss]; decide, en_break hi h2 hI h1 h6 h4⟩))
  · have g1 := lv_neT g q_n60
    rw [if_neg g, if_pos (by rw [Int32.lt_iff_toInt_lt]; show _ < (60 : Int); omega)]
    have hI2 := mCnt_I (i := i) hI (by omega)
    have hpcE : pc (mCnt T i) i = pc T i := pc_eq (mCnt_o T i 9 0 i (by decide) (by decide)) (mCnt_o T i 11 0 i (by decide) (by decide))
    by_cases g2 : q_i (T 11 0 i) < q_i (T 4 0 (q_i (T 9 0 i)).toNatClampNeg)
    · have g3 := Int32.lt_iff_toInt_lt.mp g2
      have hh : ¬ x_pr_has S (q_i (T 9 0 i)).toNatClampNeg (q_i (T 11 0 i)) = 0 := by
        unfold x_pr_has
        rw [if_neg (by rw [Int32.lt_iff_toInt_lt]; show ¬ _ < (0 : Int); omega), if_neg (by rw [e5, Int32.le_iff_toInt_le]; omega)]
        decide
      rw [if_pos g2]
      unfold x_pr_opAt x_pr_firstAt x_pr_secondAt
      rw [if_neg hh, if_neg hh, if_neg hh, ce_i h1 (rm_op p3 (k := (q_i (T 11 0 i)).toNatClampNeg) (by omega)) (by omega), ce_i h1 (rm_one p3 (k := (q_i (T 11 0 i)).toNatClampNeg) (by omega)) (by omega), ce_i h1 (rm_two p3 (k := (q_i (T 11 0 i)).toNatClampNeg) (by omega)) (by omega)]
      refine rr_do hi hI2 (mQ_cnt hQ) (mg_cnt hg) hc f8 (mJ_at hI hJ g2) (fun _ => ?_)
      rw [hpcE, mCnt_o T i 2 0 _ (by decide) (by decide), mCnt_o T i 3 0 _ (by decide) (by decide)]
      exact ⟨rfl, rfl⟩
    · have g3 : ¬ _ := mt Int32.lt_iff_toInt_lt.mpr g2
      have hh : x_pr_has S (q_i (T 9 0 i)).toNatClampNeg (q_i (T 11 0 i)) = 0 := by
        unfold x_pr_has
        rw [if_neg (by rw [Int32.lt_iff_toInt_lt]; show ¬ _ < (0 : Int); omega), if_pos (by rw [e5, Int32.le_iff_toInt_le]; omega)]
      rw [if_neg g2]
      unfold x_pr_opAt x_pr_firstAt x_pr_secondAt
      rw [if_pos hh, if_pos hh, if_pos hh]
      exact rr_do hi hI2 (mQ_cnt hQ) (mg_cnt hg) hc f8 (by show ¬ (1 : Int32) = 0; decide) (fun z => absurd z (by decide))
