/-! GOING ON, side by side -/
theorem wf_eq {e i : Nat} {S T : q_S} (hi : i < 6) (hc : Ce e S T) (hw : Vw S T i) (a b : Int32) : x_wf_waitsFor S i a b = m_fm_isFor T i a b := by
  have e10 : q_i (S 9 i 10) = q_i (T 10 0 i) := ce_i hc (rm_st hi) (by omega)
  obtain ⟨w1, w2, w3, w4⟩ := hw
  unfold x_wf_waitsFor m_fm_isFor
  rw [← e10]
  by_cases g1 : q_i (S 9 i 10) = 1
  · rw [if_pos g1, if_pos g1, w1 (Or.inl g1)]
  · rw [if_neg g1, if_neg g1]
    by_cases g4 : q_i (S 9 i 10) = 4
    · rw [if_neg (by rw [g4]; decide), if_neg (by rw [g4]; decide), if_pos g4, if_pos g4, w1 (Or.inr g4)]
    · rw [if_neg (c := q_i (S 9 i 10) = 4) g4, if_neg (c := q_i (S 9 i 10) = 4) g4]
      by_cases g2 : q_i (S 9 i 10) = 2
      · rw [if_pos g2, if_pos g2]
      · rw [if_neg g2, if_neg g2]
        by_cases g3 : q_i (S 9 i 10) = 3
        · rw [if_pos g3, if_pos g3, w2 g3]
          rfl
        · rw [if_neg g3, if_neg g3]
/-- where a loop of the class may be entered -/
def Ent (e : Nat) (c : Int) (T0 S T : q_S) (i : Nat) : Prop := (q_i (S 9 i 10) = 0 ∧ ¬ q_i (S 9 i 8) = 0 ∧ RR e c T0 (x_fe_undoLatest S i) T i) ∨ (Wa e c T0 S T i ∧ ¬ lf S i) ∨ (Ru e c T0 S T i ∧ q_i (S 9 i 8) = 0) ∨ (5 ≤ (q_i (S 9 i 10)).toInt ∧ En T0 (x_fe_finish S i) T i)
def mGd (T : q_S) (i : Nat) : Prop := mI T ∧ mJ T ∧ mQ T ∧ mg T i ∧ mV T i
set_option maxHeartbeats 4000000 in
/-- what it waited for came -/
theorem rr_came {e i : Nat} {c : Int} {T0 S T : q_S} {a v : Int32} (hi : i < 6) (hG : mGd T i) (hB : Ba e c T0 S T i) (hl : hasT S T i → lf S i) (hw : Vw S T i) (hst : mSt T i a) : Ent e c T0 (x_wf_resume (q_st S 9 i 12 (.int 0)) i a v) (m_fm_came T i a v) i := by
  obtain ⟨hI, hJ, hQ, hg, hV⟩ := hG
  obtain ⟨h1, ⟨h2, h20⟩, h3, h4, h5, h6, h7, h8⟩ := id hB
  have e10 : q_i (S 9 i 10) = q_i (T 10 0 i) := ce_i h1 (rm_st hi) (by omega)
  have e11 : q_i (S 9 i 11) = q_i (T 11 0 i) := ce_i h1 (rm_pl hi) (by omega)
  obtain ⟨w1, w2, w3, w4⟩ := hw
  have s8 : q_i (q_st S 9 i 12 (.int 0) 9 i 8) = q_i (S 9 i 8) := q_sk (by decide) rfl
  have s10 : q_i (q_st S 9 i 12 (.int 0) 9 i 10) = q_i (S 9 i 10) := q_sk (by decide) rfl
  have s11 : q_i (q_st S 9 i 12 (.int 0) 9 i 11) = q_i (S 9 i 11) := q_sk (by decide) rfl
  have s14 : q_i (q_st S 9 i 12 (.int 0) 9 i 14) = q_i (S 9 i 14) := q_sk (by decide) rfl
  have hR : Ru e c T0 (q_st (q_st S 9 i 12 (.int 0)) 9 i 10 (.int 0)) (q_st (q_st T 12 0 i (.int 0)) 10 0 i (.int 0)) i := by
    refine ⟨ba_p (ba_p hB (rm_sp hi) (by omega)) (rm_st hi) (by omega), fun z => ?_, q_ss⟩
    have := hl (by
      unfold hasT at z ⊢
      rw [q_kj (by decide), q_kj (by decide), mLn_st (by decide) (by decide), mLn_st (by decide) (by decide)] at z
      exact z)
    unfold lf at this ⊢
    rw [q_kj (by decide), q_kj (by decide), q_kj (by decide), q_kj (by decide)]
    exact this
  have hI2 : mI (q_st (q_st T 12 0 i (.int 0)) 10 0 i (.int 0)) := mIs (mI_st hI (by show (0 : Int) ≤ (0 : Int) ∧ (0 : Int) ≤ 60; omega)) rfl
  have hQ2 : mQ (q_st (q_st T 12 0 i (.int 0)) 10 0 i (.int 0)) := mQ_eq hQ (by rw [q_kj (by decide), q_kj (by decide)]) (fun k => by rw [q_kj (by decide), q_kj (by decide)]) (fun k => by rw [q_kj (by decide), q_kj (by decide)])
  have hg2 : mg (q_st (q_st T 12 0 i (.int 0)) 10 0 i (.int 0)) i := by
    unfold mg
    rw [q_kj (by decide), q_kj (by decide), q_kj (by decide), q_kj (by decide)]
    exact hg
  have hU : ∀ S2 : q_S, Ru e c T0 S2 (q_st (q_st T 12 0 i (.int 0)) 10 0 i (.int 0)) i → ¬ q_i (S2 9 i 8) = 0 → Ent e c T0 S2 (m_fm_undo (q_st (q_st T 12 0 i (.int 0)) 10 0 i (.int 0)) i) i := fun S2 r f => Or.inl ⟨r.2.2, f, rr_undo hi hI2 hQ2 hg2 r.1 r.2.1 f⟩
  unfold x_wf_resume m_fm_came
  rw [s8, s10, s11, s14, ← e10, e11]
  by_cases ga : a = 4
  · rw [if_pos ga, if_pos ga, ite_self]
    rw [q_st_comm9 (by decide)]
    refine hU _ (ru_x hR (by omega)) (by rw [q_ss]; decide)
  · rw [if_neg ga]
    by_cases g4 : q_i (S 9 i 10) = 4
    · have f8 : ¬ q_i (S 9 i 8) = 0 := fun z => (w4.mp z) g4
      rw [if_neg f8, if_pos g4]
      refine hU _ hR ?_
      rw [q_sk (by decide) (q_sk (by decide) rfl)]
      exact f8
    · have f8 : q_i (S 9 i 8) = 0 := w4.mpr g4
      rw [if_pos f8, if_neg g4, if_neg ga]
      have hst2 : (q_i (S 9 i 10) = 2 ∧ a = 6) ∨ (¬ q_i (S 9 i 10) = 2 ∧ ¬ a = 6 ∧ (q_i (S 9 i 10) = 1 ∨ q_i (S 9 i 10) = 3)) := by
        unfold mSt at hst
        rw [← e10] at hst
        rcases hst with ⟨q1, q2⟩ | ⟨q1, q2⟩ | ⟨q1, q2⟩ | ⟨q1, q2⟩
        · exact Or.inr ⟨by rw [q1]; decide, by rcases q2 with rfl | rfl <;> decide, Or.inl q1⟩
        · exact Or.inl ⟨q1, q2⟩
        · exact Or.inr ⟨by rw [q1]; decide, by rw [q2]; decide, Or.inr q1⟩
        · exact absurd q1 g4
      rcases hst2 with ⟨q1, q2⟩ | ⟨q1, q2, q3⟩
      · rw [if_pos q1, if_pos q2]
        rw [q_st_comm9 (by decide)]
        refine Or.inr (Or.inr (Or.inl ⟨ru_p hR (rm_pl hi) (by omega), ?_⟩))
        rw [q_sk (by decide) (q_sk (by decide) (q_sk (by decide) rfl))]
        exact f8
      · rw [if_neg q1, if_neg q2, w3 q3]
        have bt := mSt_two hI hJ hV hst (fun z => g4 (e10.trans z)) q2
        have hcl := q_clI bt.1
        rw [q_st_comm9 (by decide), q_comm (j := 10) (j' := 9) (by decide)]
        refine Or.inr (Or.inr (Or.inl ⟨ru_p (ru_p hR (rm_va hi (k := (q_i (T 3 0 (pc T i))).toNatClampNeg) (by unfold pc; omega)) (by omega)) (rm_pl hi) (by omega), ?_⟩))
        rw [q_sk (by decide) (q_sj (by decide) (q_sk (by decide) (q_sk (by decide) rfl)))]
        exact f8
/-- the reference's turn at what it waits for -/
def mMt (T : q_S) (i : Nat) : q_S :=
  if m_fm_isFor T i (q_i (T 17 0 (20 * i + ((q_i (T 16 0 i)).toNatClampNeg)))) (q_i (T 18 0 (20 * i + ((q_i (T 16 0 i)).toNatClampNeg)))) = 0 then m_fm_breakUp T i
  else m_fm_came (q_st T 16 0 i (.int ((q_i (T 16 0 i)) + 1))) i (q_i (T 17 0 (20 * i + ((q_i (T 16 0 i)).toNatClampNeg)))) (q_i (T 19 0 (20 * i + ((q_i (T 16 0 i)).toNatClampNeg))))
theorem gd_break {T : q_S} {i : Nat} (hi : i < 6) (h : mGd T i) : mGd (m_fm_breakUp T i) i := ⟨mI_fm_breakUp T i hi h.1, mJ_breakUp h.2.1, mQ_fm_breakUp T i hi h.1 h.2.2.1, mE_break.2, mV_E mE_break.1⟩
theorem gd_st1 {T : q_S} {i : Nat} (hi : i < 6) (h : mGd T i) (h0 : q_i (T 10 0 i) = 0) : mGd (mSt1 T i) i := by
  unfold mSt1
  split
  · exact gd_break hi h
  · rename_i h60
    obtain ⟨hI, hJ, hQ, hg, hV⟩ := h
    have b1 : 0 ≤ (q_i (T 12 0 i)).toInt ∧ (q_i (T 12 0 i)).toInt ≤ 60 := hI 12 0 i
    have h60 := lv_neT h60 (a := 60) (by decide)
    have hs : (q_i (T 12 0 i)).toInt ≤ 59 := by omega
    have ht := mT_step hI hg hs h0
    exact ⟨mI_fm_step T i hi hI hJ hg hQ hs, mJ_step hJ, mQ_fm_step T i hi hI hJ hg hQ hs, ht.1, ht.2.2.1⟩
/-- the reference's table with the next entry passed -/
theorem gd_16 {T : q_S} {i : Nat} (h : mGd T i) (h0 : ¬ q_i (T 10 0 i) = 0) (h5 : ¬ 5 ≤ (q_i (T 10 0 i)).toInt) (hl : ¬ m_fm_left T i = 0) : mGd (q_st T 16 0 i (.int (q_i (T 16 0 i) + 1))) i := by
  obtain ⟨hI, hJ, hQ, hg, hV⟩ := h
  obtain ⟨g1, g2, g3⟩ := mM_meet hI hg h0 h5 hl 0 0
  exact ⟨g1, mJ_eq hJ (fun k => q_kj (by decide)) (fun k => q_kj (by decide)) (fun k => q_kj (by decide)) (fun k => q_kj (by decide)), mQ_eq hQ (q_kj (by decide)) (fun _ => q_kj (by decide)) (fun _ => q_kj (by decide)), g2, mV_eq hV (fun x z h => by rw [q_kj (by omega)])⟩
theorem gd_came {T : q_S} {i : Nat} {a b : Int32} (hi : i < 6) (h : mGd T i) (hst : mSt T i a) : mGd (m_fm_came T i a b) i := by
  obtain ⟨hI, hJ, hQ, hg, hV⟩ := h
  have hc := mp_came hI hg a b
  exact ⟨mI_fm_came T i a b hi hI hJ hg hQ hV hst, mJ_came a b hJ, mQ_fm_came T i a b hi hI hJ hg hQ hV hst, hc.1, hc.2.2.1⟩
theorem gd_mt {T : q_S} {i : Nat} (hi : i < 6) (h : mGd T i) (h0 : ¬ q_i (T 10 0 i) = 0) (h5 : ¬ 5 ≤ (q_i (T 10 0 i)).toInt) (hl : ¬ m_fm_left T i = 0) : mGd (mMt T i) i := by
  unfold mMt
  split
  · exact gd_break hi h
  · rename_i hF
    exact gd_came hi (gd_16 h h0 h5 hl) (mSt_st (by decide) (mF_isFor hF))
def goes (i : Nat) (T V : q_S) : Prop := ∃ k : Nat, ∀ m : Nat, k ≤ m → m_fm_goOn_L0 m T i = V
theorem goes_0 {i : Nat} {T : q_S} (h : 5 ≤ (q_i (T 10 0 i)).toInt ∨ (¬ q_i (T 10 0 i) = 0 ∧ m_fm_left T i = 0)) : goes i T T := by
  refine ⟨0, fun m _ => ?_⟩
  match m with
  | 0 => rw [m_fm_goOn_L0]
  | m + 1 =>
    rw [m_fm_goOn_L0]
    split
    · rfl
    · rename_i g
      rw [Int32.le_iff_toInt_le] at g
      have g : ¬ 5 ≤ (q_i (T 10 0 i)).toInt := g
      rcases h with h | ⟨h1, h2⟩
      · exact absurd h g
      · rw [if_neg h1, if_pos h2]
theorem goes_st {i : Nat} {T V : q_S} (h0 : q_i (T 10 0 i) = 0) (h : goes i (mSt1 T i) V) : goes i T V := by
  obtain ⟨k, h⟩ := h
  refine ⟨k + 1, fun m hm => ?_⟩
  match m, hm with
  | m + 1, hm =>
    rw [m_fm_goOn_L0, if_neg (by rw [h0]; decide), if_pos h0]
    have := h m (by omega)
    unfold mSt1 at this
    split
    · rename_i g
      rw [if_pos g] at this
      exact this
    · rename_i g
      rw [if_neg g] at this
      exact this
theorem goes_mt {i : Nat} {T V : q_S} (h0 : ¬ q_i (T 10 0 i) = 0) (h5 : ¬ 5 ≤ (q_i (T 10 0 i)).toInt) (hl : ¬ m_fm_left T i = 0) (h : goes i (mMt T i) V) : goes i T V := by
  obtain ⟨k, h⟩ := h
  refine ⟨k + 1, fun m hm => ?_⟩
  match m, hm with
  | m + 1, hm =>
    rw [m_fm_goOn_L0, if_neg (by rw [Int32.le_iff_toInt_le]; exact h5), if_neg h0, if_neg hl]
    have := h m (by omega)
    unfold mMt at this
    split
    · rename_i g
      rw [if_pos g] at this
      exact this
    · rename_i g
      rw [if_neg g] at this
      exact this
theorem st_w {x : Int32} (h : x = 1 ∨ x = 2 ∨ x = 3 ∨ x = 4) : ¬ x = 0 ∧ ¬ 5 ≤ x.toInt ∧ x < 5 := by
  rcases h with rfl | rfl | rfl | rfl <;> decide
set_option maxHeartbeats 4000000 in
theorem rr_meet {e i : Nat} {c : Int} {T0 S T : q_S} (hi : i < 6) (hG : mGd T i) (h : Wa e c T0 S T i) (g : lf S i) : Ent e c T0 (x_wf_meetNext S i) (mMt T i) i := by
  obtain ⟨hB, hl, hst, hw⟩ := id h
  obtain ⟨h1, ⟨h2, h20⟩, h3, h4, h5, h6, h7, h8⟩ := id hB
  have hw0 := st_w hst
  have hI := hG.1
  have h11 : q_i (S 11 i 3) = q_i (T 15 0 i) := ce_i h1 (rm_hs hi) (by omega)
  have e10 : q_i (S 9 i 10) = q_i (T 10 0 i) := ce_i h1 (rm_st hi) (by omega)
  have b1 : 0 ≤ (q_i (T 15 0 i)).toInt ∧ (q_i (T 15 0 i)).toInt ≤ 20 := hI 15 0 i
  have b2 : 0 ≤ (q_i (T 16 0 i)).toInt ∧ (q_i (T 16 0 i)).toInt ≤ 20 := hI 16 0 i
  have c2 := q_clI b2.1
  have g0 : (q_i (S 11 i 4)).toInt < (q_i (S 11 i 3)).toInt := g
  rw [h3, h11] at g0
  have n16 : (q_i (T 16 0 i)).toNatClampNeg < 20 := by omega
  have e12 : q_i (S 12 i (q_i (S 11 i 4)).toNatClampNeg) = q_i (T 17 0 (20 * i + (q_i (T 16 0 i)).toNatClampNeg)) := by rw [h3]; exact ce_i h1 (rm_s hi n16) (by omega)
  have e13 : q_i (S 13 i (q_i (S 11 i 4)).toNatClampNeg) = q_i (T 18 0 (20 * i + (q_i (T 16 0 i)).toNatClampNeg)) := by rw [h3]; exact ce_i h1 (rm_n hi n16) (by omega)
  have e14 : q_i (S 14 i (q_i (S 11 i 4)).toNatClampNeg) = q_i (T 19 0 (20 * i + (q_i (T 16 0 i)).toNatClampNeg)) := by rw [h3]; exact ce_i h1 (rm_v hi n16) (by omega)
  have hml := m_lf hi hI h1 h3
  have hleft : ¬ m_fm_left T i = 0 := fun z => by
    have := congrArg Int32.toInt z
    rw [hml, h3, h11] at this
    have : _ = (0 : Int) := this
    omega
  unfold x_wf_meetNext mMt
  rw [if_neg hw0.1, if_pos (by unfold x_wf_hasEnded; rw [if_pos hw0.2.2]), if_pos (by rw [Int32.lt_iff_toInt_lt]; exact g), e12, e13, e14, wf_eq hi h1 hw]
  by_cases gf : m_fm_isFor T i (q_i (T 17 0 (20 * i + ((q_i (T 16 0 i)).toNatClampNeg)))) (q_i (T 18 0 (20 * i + ((q_i (T 16 0 i)).toNatClampNeg)))) = 0
  · rw [if_pos gf, if_pos gf]
    exact Or.inr (Or.inr (Or.inr ⟨by rw [q_ss]; decide, en_break hi h2 hI h1 h6 h4⟩))
  · rw [if_neg gf, if_neg gf]
    have hsT := mF_isFor gf
    generalize q_i (T 18 0 (20 * i + ((q_i (T 16 0 i)).toNatClampNeg))) = nb at *
    generalize q_i (T 19 0 (20 * i + ((q_i (T 16 0 i)).toNatClampNeg))) = vl at *
    generalize ha : q_i (T 17 0 (20 * i + ((q_i (T 16 0 i)).toNatClampNeg))) = a at *
    have hx : ∀ x z : Nat, x ≠ 11 → q_st S 11 i 4 (.int (q_i (S 11 i 4) + 1)) x i z = S x i z := fun x z hx => q_kj hx
    have hx3 : q_st S 11 i 4 (.int (q_i (S 11 i 4) + 1)) 11 i 3 = S 11 i 3 := q_st_n _ _ (by omega)
    have hc : Ce e (q_st S 11 i 4 (.int (q_i (S 11 i 4) + 1))) (q_st T 16 0 i (.int (q_i (T 16 0 i) + 1))) := ce_m (ce_x h1 rx_11_4) rn_16
    have hm : mLn (q_st T 16 0 i (.int (q_i (T 16 0 i) + 1))) = mLn T := mLn_st (by decide) (by decide)
    have htt : hasT (q_st S 11 i 4 (.int (q_i (S 11 i 4) + 1))) (q_st T 16 0 i (.int (q_i (T 16 0 i) + 1))) i ↔ hasT S T i := by unfold hasT; rw [hx 21 2 (by decide), hm]
    have hB2 : Ba e c T0 (q_st S 11 i 4 (.int (q_i (S 11 i 4) + 1))) (q_st T 16 0 i (.int (q_i (T 16 0 i) + 1))) i := by
      refine ⟨hc, ⟨h2, by rw [hx3]; exact h20⟩, by rw [q_ss, q_ss, h3], by rw [hx 9 7 (by decide)]; exact h4, fun z => ?_, lk_eq h6 hm, fun z => ?_, fun z => ?_⟩
      · rw [q_kj (by decide), q_kj (by decide), hm, hx 21 2 (by decide), hx 21 0 (by decide)]; exact h5 z
      · obtain ⟨p1, p2⟩ := h7 (htt.mp z)
        refine ⟨lastW_eq p1 (by rw [hx3]) (fun n => by rw [hx 12 n (by decide)]) (fun n => by rw [hx 13 n (by decide)]) (by rw [hx 21 0 (by decide)]), ?_⟩
        unfold tkv at p2 ⊢
        rw [hx 21 0 (by decide), hx 21 2 (by decide), hx 21 3 (by decide), hx 21 4 (by decide), q_kj (a := 0) (by decide), q_kj (by decide), q_kj (by decide), q_kj (by decide)]
        exact p2
      · rw [hx 21 1 (by decide)]; exact h8 (fun q => z (htt.mpr q))
    refine rr_came hi (gd_16 hG (by rw [← e10]; exact hw0.1) (by rw [← e10]; exact hw0.2.1) hleft) hB2 (fun z => ?_) ?_ (mSt_st (by decide) hsT)
    · obtain ⟨⟨n, n0, n1, n2, n3⟩, -⟩ := h7 (htt.mp z)
      have n4 : (q_i (S 11 i 3)).toInt = (n : Int) + 1 := by rw [n1, nI_toInt (by omega)]; omega
      have hne : ¬ (q_i (S 11 i 4)).toNatClampNeg = n := fun z => by
        rw [z, n2] at e12
        unfold mSt at hsT
        rw [← e12] at hsT
        rcases hsT with ⟨-, q⟩ | ⟨-, q⟩ | ⟨-, q⟩ | ⟨-, q⟩ <;> revert q <;> decide
      unfold lf
      rw [q_ss, hx3, q_inc (by rw [h3]; omega), n4, h3]
      rw [h3] at hne
      rw [h11] at n4
      omega
    · obtain ⟨w1, w2, w3, w4⟩ := hw
      have tpc : pc (q_st T 16 0 i (.int (q_i (T 16 0 i) + 1))) i = pc T i := pc_eq (q_kj (by decide)) (q_kj (by decide))
      unfold Vw
      rw [hx 9 10 (by decide), hx 9 13 (by decide), hx 9 14 (by decide), hx 9 8 (by decide), tpc, q_kj (by decide), q_kj (by decide), q_kj (by decide)]
      exact ⟨w1, w2, w3, w4⟩
