/-- the latest undo, or FAILED -/
theorem rr_undo {e i : Nat} {c : Int} {T0 S T : q_S} (hi : i < 6) (hI : mI T) (hQ : mQ T) (hg : mg T i) (hB : Ba e c T0 S T i) (hl : hasT S T i → lf S i) (hf : ¬ q_i (S 9 i 8) = 0) : RR e c T0 (x_fe_undoLatest S i) (m_fm_undo T i) i := by
  obtain ⟨h1, ⟨h2, h20⟩, h3, h4, h5, h6, h7, h8⟩ := id hB
  have e18 : q_i (S 18 i 2) = q_i (T 20 0 i) := ce_i h1 (rm_ns hi) (by omega)
  have b : 0 ≤ (q_i (T 20 0 i)).toInt ∧ (q_i (T 20 0 i)).toInt ≤ 6 := hI 20 0 i
  unfold x_fe_undoLatest m_fm_undo
  rw [e18]
  by_cases g : q_i (T 20 0 i) = 0
  · rw [if_pos g, if_neg (by rw [g]; decide)]
    exact Or.inr (Or.inr ⟨by rw [q_ss]; decide, en_end hi h2 hI h1 h6 h4 h3 (Or.inr (Or.inl rfl)) (fun z => absurd z (by decide))⟩)
  · have g1 := lv_neT g q_n0
    have d := q_dec (x := q_i (T 20 0 i)) (by omega)
    have hcl := q_clI (x := q_i (T 20 0 i) - 1) (by omega)
    rw [if_neg g, if_pos (by rw [Int32.lt_iff_toInt_lt]; show (0 : Int) < _; omega)]
    have k19 : q_i (S 19 i (q_i (T 20 0 i) - 1).toNatClampNeg) = q_i (T 21 0 (6 * i + (q_i (T 20 0 i) - 1).toNatClampNeg)) := ce_i h1 (rm_nk hi (by omega)) (by omega)
    have k20 : q_i (S 20 i (q_i (T 20 0 i) - 1).toNatClampNeg) = q_i (T 22 0 (6 * i + (q_i (T 20 0 i) - 1).toNatClampNeg)) := ce_i h1 (rm_na hi (by omega)) (by omega)
    rw [k19, k20]
    refine rr_want hi (mI_st hI ?_) (mQ_eq hQ (q_kj (by decide)) (fun k => q_kj (by decide)) (fun k => q_kj (by decide))) ?_ (ba_p hB (rm_ns hi) (by omega)) (fun z => ?_) (Or.inr rfl) ?_ (fun z => absurd z (by decide))
    · show (0 : Int) ≤ _ ∧ _ ≤ (6 : Int)
      omega
    · unfold mg
      rw [q_kj (by decide), q_kj (by decide)]
      exact hg
    · have := hl (by
        unfold hasT at z ⊢
        rw [q_kj (by decide), mLn_st (by decide) (by decide)] at z
        exact z)
      unfold lf at this ⊢
      rw [q_kj (by decide), q_kj (by decide)]
      exact this
    · rw [q_kj (by decide)]
      exact ⟨fun z => absurd z hf, fun z => absurd rfl z⟩
set_option maxHeartbeats 4000000 in
theorem rr_sleep {e i : Nat} {c : Int} {T0 S T : q_S} {a : Int32} (hi : i < 6) (hI : mI T) (hg : mg T i) (hB : Ba e c T0 S T i) (hl : hasT S T i → lf S i) (hf : q_i (S 9 i 8) = 0) (ha : 1 ≤ a) : RR e c T0 (x_fe_sleep S i a) (m_fm_sleep T i a) i := by
  obtain ⟨h1, ⟨h2, h20⟩, h3, h4, h5, h6, h7, h8⟩ := id hB
  unfold x_fe_sleep m_fm_sleep
  rw [if_pos ha]
  rcases ps_put (a := 5) (b := a) (d := 0) hi hI h1 h3 hg with ⟨f1, f2, f3, f4⟩ | ⟨f1, f2, ok⟩
  · rw [if_pos f1, if_pos f1, if_pos f2, if_pos f2, f3, f4, ite_self, ite_self]
    exact Or.inr (Or.inr ⟨by rw [q_ss]; decide, en_break hi h2 hI h1 h6 h4⟩)
  · rw [if_neg f1, if_neg f1, if_neg f2, if_neg f2]
    generalize (x_hi_pass S i 5 a 0).2 = S1 at ok ⊢
    generalize (m_fm_put T i 5 a 0).2 = T1 at ok ⊢
    obtain ⟨k1, k2, k3, k4, k5⟩ := id ok
    have hml := m_lf hi hI h1 h3
    have hm1 : mLn T1 = mLn T := mLn_eq (k4 0 33 (by omega)) (fun k => k4 32 k (by omega))
    have s8 : q_i (S1 9 i 8) = 0 := by rw [k3 9 i 8 (by omega)]; exact hf
    have vw : ∀ U V : q_S, q_i (U 9 i 10) = 2 → q_i (U 9 i 8) = 0 → Vw U V i := fun U V u1 u2 => by
      refine ⟨fun z => ?_, fun z => ?_, fun z => ?_, ?_⟩
      · rw [u1] at z; exact absurd z (by decide)
      · rw [u1] at z; exact absurd z (by decide)
      · rw [u1] at z; exact absurd z (by decide)
      · rw [u1, u2]; decide
    by_cases g : lf S i
    · rw [if_neg (fun z => (x_left.mp z) g), if_neg (fun z => by
        have z2 := congrArg Int32.toInt z
        rw [hml] at z2
        have z2 : _ = (0 : Int) := z2
        unfold lf at g
        omega)]
      rcases ba_ps hB ok hl with hB1 | ⟨n1, -⟩
      · refine Or.inl ⟨ba_p hB1 (rm_st hi) (by omega), fun z => Or.inl ?_, Or.inr (Or.inl q_ss), vw _ _ q_ss ((q_sk (by decide) rfl).trans s8)⟩
        obtain ⟨q1, -⟩ := h7 (by
          unfold hasT at z ⊢
          rw [q_kj (by decide), k3 21 i 2 (by omega), mLn_st (by decide) (by decide), hm1] at z
          exact z)
        rcases k5 with ⟨-, -, k5⟩ | ⟨g2, -⟩
        · rcases (k5 q1).2 with q | ⟨q, -⟩
          · unfold lf at q ⊢
            rw [q_kj (by decide), q_kj (by decide)]
            exact q
          · exact absurd q (by decide)
        · exact absurd g g2
      · exact absurd g n1
    · have hn : ¬ hasT S T i := fun z => g (hl z)
      rw [if_pos (x_left.mpr g), if_pos (Int32.toInt_inj.mp (by
        rw [hml]
        show _ = (0 : Int)
        have := hg
        unfold mg at this
        rw [← h3, ← ce_i h1 (rm_hs hi) (by omega)] at this
        unfold lf at g
        omega))]
      have hs1 : 1 ≤ (q_i (S1 11 i 3)).toInt := by
        rcases k5 with ⟨q, -⟩ | ⟨-, -, n, ⟨n00, n0⟩, n1, n2, n3⟩
        · exact absurd q g
        · rw [n1, nI_toInt (by omega)]; omega
      have hB1 : Ba e c T0 S1 T1 i := ba_nt hB hn k1 k2 (fun z => by rw [k3 21 i z (by omega)]) (by rw [k3 9 i 7 (by omega)]) hm1 hs1
      have et : q_i (T1 0 0 34) = q_i (S 0 0 3) := by rw [k4 0 34 (by omega)]; exact (ce_i h1 rm_t (by omega)).symm
      rw [et]
      refine Or.inl ⟨ba_p (ba_p hB1 (rm_st hi) (by omega)) (rm_wk hi) (by omega), fun z => absurd ?_ hn, Or.inr (Or.inl (q_sk (by decide) q_ss)), vw _ _ (q_sk (by decide) q_ss) ((q_sk (by decide) (q_sk (by decide) rfl)).trans s8)⟩
      unfold hasT at z ⊢
      rw [q_kj (by decide), q_kj (by decide), k3 21 i 2 (by omega), mLn_st (by decide) (by decide), mLn_st (by decide) (by decide), hm1] at z
      exact z
theorem ru_p {e i j i' k a b : Nat} {c : Int} {T0 S T : q_S} {v : Value} (h : Ru e c T0 S T i) (m : rM j i' k a b) (hj : (j = 9 ∧ k ≠ 7 ∧ k ≠ 10) ∨ j = 10 ∨ (15 ≤ j ∧ j ≤ 20) ∨ (j = 0 ∧ k ≠ 3)) : Ru e c T0 (q_st S j i' k v) (q_st T a 0 b v) i := by
  have ha : a ≠ 0 ∧ a ≠ 32 := by
    refine ⟨?_, ?_⟩ <;> (rintro rfl; simp [rM] at m; try omega)
  refine ⟨ba_p h.1 m (by omega), fun z => ?_, ?_⟩
  · have := h.2.1 (by
      unfold hasT at z ⊢
      rw [q_st_n _ _ (by omega), mLn_st ha.1 ha.2] at z
      exact z)
    unfold lf at this ⊢
    rw [q_st_n _ _ (by omega), q_st_n _ _ (by omega)]
    exact this
  · rw [q_st_n _ _ (by omega)]; exact h.2.2
theorem ru_x {e i k : Nat} {c : Int} {T0 S T : q_S} {v : Value} (h : Ru e c T0 S T i) (hk : k = 8 ∨ k = 13 ∨ k = 14 ∨ k = 15) : Ru e c T0 (q_st S 9 i k v) T i := by
  refine ⟨ba_x h.1 hk, fun z => ?_, ?_⟩
  · have := h.2.1 (by
      unfold hasT at z ⊢
      rw [q_st_n _ _ (by omega)] at z
      exact z)
    unfold lf at this ⊢
    rw [q_st_n _ _ (by omega), q_st_n _ _ (by omega)]
    exact this
  · rw [q_st_n _ _ (by omega)]; exact h.2.2
theorem ru_m {e i a b : Nat} {c : Int} {T0 S T : q_S} {v : Value} (h : Ru e c T0 S T i) (ha : a = 8 ∨ a = 13 ∨ a = 27) : Ru e c T0 S (q_st T a 0 b v) i := by
  refine ⟨ba_m h.1 ha, fun z => h.2.1 ?_, h.2.2⟩
  unfold hasT at z ⊢
  rw [mLn_st (by omega) (by omega)] at z
  exact z
theorem rr_note {e i : Nat} {c : Int} {T0 S T : q_S} {a b : Int32} (hi : i < 6) (hI : mI T) (h : Ru e c T0 S T i) (hf : q_i (S 9 i 8) = 0) : RR e c T0 (x_wf_note S i a b) (m_fm_note T i a b) i := by
  obtain ⟨h1, ⟨h2, h20⟩, h3, h4, h5, h6, h7, h8⟩ := id h.1
  have e18 : q_i (S 18 i 2) = q_i (T 20 0 i) := ce_i h1 (rm_ns hi) (by omega)
  have e11 : q_i (S 9 i 11) = q_i (T 11 0 i) := ce_i h1 (rm_pl hi) (by omega)
  have bd : 0 ≤ (q_i (T 20 0 i)).toInt ∧ (q_i (T 20 0 i)).toInt ≤ 6 := hI 20 0 i
  have hcl := q_clI bd.1
  unfold x_wf_note m_fm_note
  rw [e18, e11]
  by_cases g : q_i (T 20 0 i) = 6
  · rw [if_pos g, if_neg (by rw [g]; decide)]
    exact Or.inr (Or.inr ⟨by rw [q_ss]; decide, en_break hi h2 hI h1 h6 h4⟩)
  · have g1 := lv_neT g q_n6
    rw [if_neg g, if_pos (by rw [Int32.lt_iff_toInt_lt]; show _ < (6 : Int); omega)]
    refine Or.inr (Or.inl ⟨ru_p (ru_p (ru_p (ru_p h (rm_nk hi (by omega)) (by omega)) (rm_na hi (by omega)) (by omega)) (rm_ns hi) (by omega)) (rm_pl hi) (by omega), ?_⟩)
    rw [q_sk (by decide) rfl, q_kj (by decide), q_kj (by decide), q_kj (by decide)]
    exact hf
/-- SET, ADD, LESS, JUMP, ZERO -/
theorem rr_comp {e i : Nat} {c : Int} {T0 S T : q_S} {o a b : Int32} (hi : i < 6) (h : Ru e c T0 S T i) (hf : q_i (S 9 i 8) = 0) (ho : o = 0 ∨ o = 1 ∨ o = 2 ∨ o = 3 ∨ o = 4) (ha : o = 3 ∨ (0 ≤ a.toInt ∧ a.toInt ≤ 3)) (hb : o = 1 ∨ o = 2 → 0 ≤ b.toInt ∧ b.toInt ≤ 3) : RR e c T0 (x_wf_compute S i o a b) (mDo T i o a b) i := by
  have h1 := h.1.1
  have e11 : q_i (S 9 i 11) = q_i (T 11 0 i) := ce_i h1 (rm_pl hi) (by omega)
  have va : ∀ y : Int32, 0 ≤ y.toInt ∧ y.toInt ≤ 3 → q_i (S 10 i y.toNatClampNeg) = q_i (T 14 0 (4 * i + y.toNatClampNeg)) ∧ rM 10 i y.toNatClampNeg 14 (4 * i + y.toNatClampNeg) := fun y hy => by
    have hcl := q_clI hy.1
    have hr : rM 10 i y.toNatClampNeg 14 (4 * i + y.toNatClampNeg) := rm_va hi (by omega)
    exact ⟨ce_i h1 hr (by omega), hr⟩
  have two : ∀ (y : Int32) (v v2 : Int32), 0 ≤ y.toInt ∧ y.toInt ≤ 3 → RR e c T0 (q_st (q_st S 10 i y.toNatClampNeg (.int v)) 9 i 11 (.int v2)) (q_st (q_st T 14 0 (4 * i + y.toNatClampNeg) (.int v)) 11 0 i (.int v2)) i := fun y v v2 hy => by
    refine Or.inr (Or.inl ⟨ru_p (ru_p h (va y hy).2 (by omega)) (rm_pl hi) (by omega), ?_⟩)
    rw [q_sk (by decide) rfl, q_kj (by decide)]
    exact hf
  have one : ∀ (v2 : Int32), RR e c T0 (q_st S 9 i 11 (.int v2)) (q_st T 11 0 i (.int v2)) i := fun v2 => by
    refine Or.inr (Or.inl ⟨ru_p h (rm_pl hi) (by omega), ?_⟩)
    rw [q_sk (by decide) rfl]
    exact hf
  unfold x_wf_compute mDo
  rw [e11]
  rcases ho with rfl | rfl | rfl | rfl | rfl
  · have ha := ha.resolve_left (by decide)
    rw [if_pos rfl, if_pos rfl]
    exact two a b _ ha
  · have ha := ha.resolve_left (by decide)
    have hb := hb (Or.inl rfl)
    rw [if_neg (by decide), if_pos rfl, if_neg (by decide), if_pos rfl, (va a ha).1, (va b hb).1]
    exact two a _ _ ha
  · have ha := ha.resolve_left (by decide)
    have hb := hb (Or.inr rfl)
    rw [if_neg (c := (2 : Int32) = 0) (by decide), if_neg (c := (2 : Int32) = 1) (by decide), if_pos (c := (2 : Int32) = 2) rfl, if_neg (c := (2 : Int32) = 0) (by decide), if_neg (c := (2 : Int32) = 1) (by decide), if_pos (c := (2 : Int32) = 2) rfl, (va a ha).1, (va b hb).1]
    split
    · exact two a _ _ ha
    · exact two a _ _ ha
  · rw [if_neg (by decide), if_neg (by decide), if_neg (by decide), if_pos rfl, if_neg (by decide), if_neg (by decide), if_neg (by decide), if_pos rfl]
    exact one _
  · have ha := ha.resolve_left (by decide)
    rw [if_neg (c := (4 : Int32) = 0) (by decide), if_neg (c := (4 : Int32) = 1) (by decide), if_neg (c := (4 : Int32) = 2) (by decide), if_neg (c := (4 : Int32) = 3) (by decide), if_pos (c := (4 : Int32) = 4) rfl, if_neg (c := (4 : Int32) = 0) (by decide), if_neg (c := (4 : Int32) = 1) (by decide), if_neg (c := (4 : Int32) = 2) (by decide), if_neg (c := (4 : Int32) = 3) (by decide), if_pos (c := (4 : Int32) = 4) rfl, (va a ha).1]
    split
    · exact one _
    · exact one _
