/-! WHAT AN INSTRUCTION DOES, side by side -/
theorem ba_eq {e i : Nat} {c : Int} {T0 S T S' T' : q_S} (h : Ba e c T0 S T i) (hc : Ce e S' T') (hx : ∀ x z : Nat, (x = 11 ∨ x = 12 ∨ x = 13 ∨ x = 21 ∨ (x = 9 ∧ z = 7)) → q_i (S' x i z) = q_i (S x i z)) (h0 : q_i (S' 0 0 3) = q_i (S 0 0 3)) (hm : ∀ x : Nat, (x = 7 ∨ x = 16 ∨ x = 28 ∨ x = 29 ∨ x = 30 ∨ x = 31) → q_i (T' x 0 i) = q_i (T x 0 i)) (hl : mLn T' = mLn T) : Ba e c T0 S' T' i := by
  obtain ⟨h1, ⟨h2, h20⟩, h3, h4, h5, h6, h7, h8⟩ := h
  have ht : hasT S' T' i ↔ hasT S T i := by unfold hasT; rw [hx 21 2 (by omega), hl]
  refine ⟨hc, ⟨h2, by rw [hx 11 3 (by omega)]; exact h20⟩, by rw [hx 11 4 (by omega), hm 16 (by omega)]; exact h3, by rw [hx 9 7 (by omega)]; exact h4, fun z => ?_, lk_eq h6 hl, fun z => ?_, fun z => ?_⟩
  · rw [hm 29 (by omega), hm 7 (by omega), hl, hx 21 2 (by omega), hx 21 0 (by omega)]; exact h5 z
  · obtain ⟨q1, q2⟩ := h7 (ht.mp z)
    refine ⟨lastW_eq q1 (hx 11 3 (by omega)) (fun n => hx 12 n (by omega)) (fun n => hx 13 n (by omega)) (hx 21 0 (by omega)), ?_⟩
    unfold tkv at q2 ⊢
    rw [hx 21 0 (by omega), hx 21 2 (by omega), hx 21 3 (by omega), hx 21 4 (by omega), h0, hm 28 (by omega), hm 30 (by omega), hm 31 (by omega)]
    exact q2
  · rw [hx 21 1 (by omega)]; exact h8 (fun q => z (ht.mpr q))
theorem ba_p {e i j i' k a b : Nat} {c : Int} {T0 S T : q_S} {v : Value} (h : Ba e c T0 S T i) (m : rM j i' k a b) (hj : (j = 9 ∧ k ≠ 7) ∨ j = 10 ∨ (15 ≤ j ∧ j ≤ 20) ∨ (j = 0 ∧ k ≠ 3)) : Ba e c T0 (q_st S j i' k v) (q_st T a 0 b v) i := by
  have ha : a ≠ 0 ∧ a ≠ 32 ∧ a ≠ 7 ∧ a ≠ 16 ∧ a ≠ 28 ∧ a ≠ 29 ∧ a ≠ 30 ∧ a ≠ 31 := by
    refine ⟨?_, ?_, ?_, ?_, ?_, ?_, ?_, ?_⟩ <;> (rintro rfl; simp [rM] at m; try omega)
  refine ba_eq h (ce_p h.1 m) (fun x z hx => by rw [q_st_n _ _ (by omega)]) (by rw [q_st_n _ _ (by omega)]) (fun x hx => by rw [q_kj (by omega)]) (mLn_st ha.1 ha.2.1)
theorem ba_x {e i k : Nat} {c : Int} {T0 S T : q_S} {v : Value} (h : Ba e c T0 S T i) (hk : k = 8 ∨ k = 13 ∨ k = 14 ∨ k = 15) : Ba e c T0 (q_st S 9 i k v) T i := by
  refine ba_eq h (ce_x h.1 (fun a b m => by rcases hk with rfl | rfl | rfl | rfl <;> simp [rM] at m)) (fun x z hx => by rw [q_st_n _ _ (by omega)]) (by rw [q_st_n _ _ (by omega)]) (fun x hx => rfl) rfl
theorem ba_m {e i a b : Nat} {c : Int} {T0 S T : q_S} {v : Value} (h : Ba e c T0 S T i) (ha : a = 8 ∨ a = 13 ∨ a = 27) : Ba e c T0 S (q_st T a 0 b v) i := by
  refine ba_eq h (ce_m h.1 (fun j i k m => by rcases ha with rfl | rfl | rfl <;> simp [rM] at m)) (fun x z hx => rfl) rfl (fun x hx => by rw [q_kj (by omega)]) (mLn_st (by omega) (by omega))
/-- an entry passed in a replay -/
theorem ba_ps {e i : Nat} {c : Int} {a b : Int32} {T0 S T S' T' : q_S} (h : Ba e c T0 S T i) (ok : PsOk e S T S' T' i a b) (hl : hasT S T i → lf S i) : Ba e c T0 S' T' i ∨ (¬ lf S i ∧ ¬ hasT S T i) := by
  obtain ⟨k1, k2, k3, k4, k5⟩ := ok
  rcases k5 with ⟨g, k51, k5⟩ | ⟨g, -⟩
  · obtain ⟨h1, ⟨h2, h20⟩, h3, h4, h5, h6, h7, h8⟩ := h
    have hm : mLn T' = mLn T := mLn_eq (k4 0 33 (by omega)) (fun k => k4 32 k (by omega))
    have ht : hasT S' T' i ↔ hasT S T i := by unfold hasT; rw [k3 21 i 2 (by omega), hm]
    refine Or.inl ⟨k1, ⟨h2, by rw [k51]; exact h20⟩, k2, by rw [k3 9 i 7 (by omega)]; exact h4, fun z => ?_, lk_eq h6 hm, fun z => ?_, fun z => ?_⟩
    · rw [k4 29 i (by omega), k4 7 i (by omega), hm, k3 21 i 2 (by omega), k3 21 i 0 (by omega)]; exact h5 z
    · obtain ⟨q1, q2⟩ := h7 (ht.mp z)
      refine ⟨(k5 q1).1, ?_⟩
      unfold tkv at q2 ⊢
      rw [k3 21 i 0 (by omega), k3 21 i 2 (by omega), k3 21 i 3 (by omega), k3 21 i 4 (by omega), k3 0 0 3 (by omega), k4 28 i (by omega), k4 30 i (by omega), k4 31 i (by omega)]
      exact q2
    · rw [k3 21 i 1 (by omega)]; exact h8 (fun q => z (ht.mpr q))
  · exact Or.inr ⟨g, fun z => g (hl z)⟩
/-- without a task an entry more changes nothing of it -/
theorem ba_nt {e i : Nat} {c : Int} {T0 S T S' T' : q_S} (h : Ba e c T0 S T i) (hn : ¬ hasT S T i) (hc : Ce e S' T') (h4 : q_i (S' 11 i 4) = q_i (T' 16 0 i)) (k3 : ∀ z : Nat, q_i (S' 21 i z) = q_i (S 21 i z)) (k9 : q_i (S' 9 i 7) = q_i (S 9 i 7)) (hm : mLn T' = mLn T) (hs : 1 ≤ (q_i (S' 11 i 3)).toInt) : Ba e c T0 S' T' i := by
  obtain ⟨h1, ⟨h2, h20⟩, h3, h40, h5, h6, h7, h8⟩ := h
  have ht : hasT S' T' i ↔ hasT S T i := by unfold hasT; rw [k3 2, hm]
  exact ⟨hc, ⟨h2, hs⟩, h4, k9.trans h40, fun z => absurd (Or.inl (h5 z).2.2.2.1) hn, lk_eq h6 hm, fun z => absurd (ht.mp z) hn, fun _ => (k3 1).trans (h8 hn)⟩
theorem pc_eq {T T' : q_S} {i : Nat} (h9 : T' 9 0 i = T 9 0 i) (h11 : T' 11 0 i = T 11 0 i) : pc T' i = pc T i := by unfold pc; rw [h9, h11]
set_option maxHeartbeats 4000000 in
theorem rr_want {e i : Nat} {c : Int} {T0 S T : q_S} {st kd ar : Int32} (hi : i < 6) (hI : mI T) (hQ : mQ T) (hg : mg T i) (hB : Ba e c T0 S T i) (hl : hasT S T i → lf S i) (hst : st = 1 ∨ st = 4) (hf : q_i (S 9 i 8) = 0 ↔ ¬ st = 4) (ht : st = 1 → q_i (S 9 i 14) = q_i (T 3 0 (pc T i))) : RR e c T0 (x_fe_want S i st kd ar) (m_fm_want T i kd ar st) i := by
  obtain ⟨h1, ⟨h2, h20⟩, h3, h4, h5, h6, h7, h8⟩ := id hB
  unfold x_fe_want m_fm_want
  rcases ps_put (a := 2) (b := kd) (d := ar) hi hI h1 h3 hg with ⟨f1, f2, f3, f4⟩ | ⟨f1, f2, ok⟩
  · rw [if_pos f1, if_pos f1, if_pos f2, if_pos f2, f3, f4, ite_self, ite_self]
    exact Or.inr (Or.inr ⟨by rw [q_ss]; decide, en_break hi h2 hI h1 h6 h4⟩)
  · rw [if_neg f1, if_neg f1, if_neg f2, if_neg f2]
    have hI1 := mI_fm_put T i 2 kd ar hi hI hg
    have hQ1 := mQ_fm_put T i 2 kd ar hi hI hg hQ
    generalize (x_hi_pass S i 2 kd ar).2 = S1 at ok ⊢
    generalize (m_fm_put T i 2 kd ar).2 = T1 at ok hI1 hQ1 ⊢
    obtain ⟨k1, k2, k3, k4, k5⟩ := id ok
    have hml := m_lf hi hI h1 h3
    have hst5 : st = 1 ∨ st = 2 ∨ st = 3 ∨ st = 4 := by rcases hst with h | h <;> simp [h]
    by_cases g : lf S i
    · rw [if_neg (fun z => (x_left.mp z) g), if_neg (fun z => by
        have z2 := congrArg Int32.toInt z
        rw [hml] at z2
        have z2 : _ = (0 : Int) := z2
        unfold lf at g
        omega)]
      rcases ba_ps hB ok hl with hB1 | ⟨n1, -⟩
      · have hB2 : Ba e c T0 (q_st (q_st S1 9 i 10 (.int st)) 9 i 13 (.int kd)) (q_st (q_st T1 27 0 i (.int kd)) 10 0 i (.int st)) i := ba_x (ba_p (ba_m hB1 (by omega)) (rm_st hi) (by omega)) (by omega)
        have s10 : q_i (q_st (q_st S1 9 i 10 (.int st)) 9 i 13 (.int kd) 9 i 10) = st := q_sk (by decide) q_ss
        have s13 : q_i (q_st (q_st S1 9 i 10 (.int st)) 9 i 13 (.int kd) 9 i 13) = kd := q_ss
        have s21 : q_i (q_st (q_st S1 9 i 10 (.int st)) 9 i 13 (.int kd) 21 i 0) = q_i (S 21 i 0) := by rw [q_kj (by decide), q_kj (by decide), k3 21 i 0 (by omega)]
        have s14 : q_i (q_st (q_st S1 9 i 10 (.int st)) 9 i 13 (.int kd) 9 i 14) = q_i (S 9 i 14) := by rw [q_st_n _ _ (by omega), q_st_n _ _ (by omega), k3 9 i 14 (by omega)]
        have s8 : q_i (q_st (q_st S1 9 i 10 (.int st)) 9 i 13 (.int kd) 9 i 8) = q_i (S 9 i 8) := by rw [q_st_n _ _ (by omega), q_st_n _ _ (by omega), k3 9 i 8 (by omega)]
        have tpc : pc (q_st (q_st T1 27 0 i (.int kd)) 10 0 i (.int st)) i = pc T i := pc_eq (by rw [q_kj (by decide), q_kj (by decide), k4 9 i (by omega)]) (by rw [q_kj (by decide), q_kj (by decide), k4 11 i (by omega)])
        refine Or.inl ⟨hB2, fun z => ?_, by rw [s10]; exact hst5, ?_, ?_, ?_, ?_⟩
        · obtain ⟨q1, -⟩ := h7 (by
            unfold hasT at z ⊢
            rw [q_kj (by decide), q_kj (by decide), k3 21 i 2 (by omega), mLn_st (by decide) (by decide), mLn_st (by decide) (by decide), mLn_eq (k4 0 33 (by omega)) (fun k => k4 32 k (by omega))] at z
            exact z)
          rcases k5 with ⟨-, -, k5⟩ | ⟨g2, -⟩
          · rcases (k5 q1).2 with q | ⟨-, q⟩
            · refine Or.inl ?_
              unfold lf at q ⊢
              rw [q_kj (by decide), q_kj (by decide), q_kj (by decide), q_kj (by decide)]
              exact q
            · exact Or.inr ⟨by rw [s10]; exact hst, by rw [s13, s21]; exact q⟩
          · exact absurd g g2
        · intro _
          rw [s13, q_kj (by decide), q_ss]
        · rw [s10]; intro z; rw [z] at hst; exact absurd hst (by decide)
        · rw [s10, s14, tpc, q_kj (by decide), q_kj (by decide), k4 3 _ (by omega)]
          rintro (z | z)
          · exact ht z
          · rw [z] at hst; exact absurd hst (by decide)
        · rw [s8, s10]; exact hf
      · exact absurd g n1
    · have hn : ¬ hasT S T i := fun z => g (hl z)
      rw [if_pos (x_left.mpr g), if_pos (Int32.toInt_inj.mp (by
        rw [hml]
        show _ = (0 : Int)
        have := hg
        unfold mg at this
        rw [← h3, ← ce_i h1 (rm_hs hi) (by omega)] at this
        unfold lf at g
        omega))]
      have e6 : e = 6 := by
        rcases h2 with z | z
        · exact absurd (Or.inl (h5 z).2.2.2.1) hn
        · exact z
      have hm1 : mLn T1 = mLn T := mLn_eq (k4 0 33 (by omega)) (fun k => k4 32 k (by omega))
      have hI2 : mI (q_st (q_st T1 27 0 i (.int kd)) 10 0 i (.int st)) := mIs (mIs hI1 rfl) rfl
      have hm2 : mLn (q_st (q_st T1 27 0 i (.int kd)) 10 0 i (.int st)) = mLn T := by rw [mLn_st (by decide) (by decide), mLn_st (by decide) (by decide), hm1]
      have hQ2 : mQ (q_st (q_st T1 27 0 i (.int kd)) 10 0 i (.int st)) := mQ_eq hQ1 (by rw [q_kj (by decide), q_kj (by decide)]) (fun k => by rw [q_kj (by decide), q_kj (by decide)]) (fun k => by rw [q_kj (by decide), q_kj (by decide)])
      have hn2 : nI i ∉ mLn (q_st (q_st T1 27 0 i (.int kd)) 10 0 i (.int st)) := by rw [hm2]; exact fun z => hn (Or.inr z)
      have hc2 : Ce e (q_st (q_st S1 9 i 10 (.int st)) 9 i 13 (.int kd)) (q_st (q_st T1 27 0 i (.int kd)) 10 0 i (.int st)) := ce_x (ce_p (ce_m k1 rn_27) (rm_st hi)) rx_9_13
      have hc3 := ce_newTask (a := kd) hi h2 hI2 hQ2 hc2 hn2
      have lkn : lk i T0 (m_fm_newTask (q_st (q_st T1 27 0 i (.int kd)) 10 0 i (.int st)) i kd) := by
        intro k hk hne
        rw [mLn_newTask hi hI2 hQ2, ← lk_noTask hi hI2 (lk_eq h6 hm2) k hk hne]
        simp only [List.mem_append, List.mem_singleton]
        exact ⟨fun z => z.elim id (fun z => absurd (nI_inj6 hk hi z) hne), Or.inl⟩
      have r := x_renew_1 (q_st (q_st S1 9 i 10 (.int st)) 9 i 13 (.int kd)) i kd
      have ka : ∀ x y z : Nat, x ≠ 3 → x ≠ 4 → x_tl_append (x_ta_renew (q_st (q_st S1 9 i 10 (.int st)) 9 i 13 (.int kd)) i kd) (nI i) x y z = x_ta_renew (q_st (q_st S1 9 i 10 (.int st)) 9 i 13 (.int kd)) i kd x y z := fun x y z a b => xK_tl_append _ _ x y z a b
      have kb : ∀ x y z : Nat, x ≠ 3 → x ≠ 4 → x ≠ 21 → x_tl_append (x_ta_renew (q_st (q_st S1 9 i 10 (.int st)) 9 i 13 (.int kd)) i kd) (nI i) x y z = (q_st (q_st S1 9 i 10 (.int st)) 9 i 13 (.int kd)) x y z := fun x y z a b d => (ka x y z a b).trans (xK_ta_renew _ _ _ x y z d)
      have km : ∀ x z : Nat, x = 1 ∨ x = 2 ∨ x = 3 ∨ x = 9 ∨ x = 11 ∨ x = 16 ∨ x = 27 → m_fm_newTask (q_st (q_st T1 27 0 i (.int kd)) 10 0 i (.int st)) i kd x 0 z = (q_st (q_st T1 27 0 i (.int kd)) 10 0 i (.int st)) x 0 z := fun x z hx => mK_fm_newTask _ _ _ x 0 z (by omega) (by omega) (by omega) (by omega) (by omega) (by omega) (by omega)
      have s10 : q_i (q_st (q_st S1 9 i 10 (.int st)) 9 i 13 (.int kd) 9 i 10) = st := q_sk (by decide) q_ss
      have s14 : q_i (q_st (q_st S1 9 i 10 (.int st)) 9 i 13 (.int kd) 9 i 14) = q_i (S 9 i 14) := by rw [q_st_n _ _ (by omega), q_st_n _ _ (by omega), k3 9 i 14 (by omega)]
      have s8 : q_i (q_st (q_st S1 9 i 10 (.int st)) 9 i 13 (.int kd) 9 i 8) = q_i (S 9 i 8) := by rw [q_st_n _ _ (by omega), q_st_n _ _ (by omega), k3 9 i 8 (by omega)]
      have s7 : q_i (q_st (q_st S1 9 i 10 (.int st)) 9 i 13 (.int kd) 9 i 7) = q_i (S 9 i 7) := by rw [q_st_n _ _ (by omega), q_st_n _ _ (by omega), k3 9 i 7 (by omega)]
      rcases k5 with ⟨g2, -⟩ | ⟨-, -, n, ⟨n00, n0⟩, n1, n2, n3⟩
      · exact absurd g2 g
      · have lw : lastW (x_tl_append (x_ta_renew (q_st (q_st S1 9 i 10 (.int st)) 9 i 13 (.int kd)) i kd) (nI i)) i := by
          refine ⟨n, ⟨by omega, n0⟩, ?_, ?_, ?_⟩
          · rw [kb 11 i 3 (by decide) (by decide) (by decide), q_kj (by decide), q_kj (by decide)]; exact n1
          · rw [kb 12 i n (by decide) (by decide) (by decide), q_kj (by decide), q_kj (by decide)]; exact n2
          · rw [kb 13 i n (by decide) (by decide) (by decide), q_kj (by decide), q_kj (by decide), ka 21 i 0 (by decide) (by decide), r.2.2.1]; exact n3
        have tv : tkv c (x_tl_append (x_ta_renew (q_st (q_st S1 9 i 10 (.int st)) 9 i 13 (.int kd)) i kd) (nI i)) (m_fm_newTask (q_st (q_st T1 27 0 i (.int kd)) 10 0 i (.int st)) i kd) i := by
          unfold tkv
          rw [ka 21 i 0 (by decide) (by decide), ka 21 i 2 (by decide) (by decide), ka 21 i 4 (by decide) (by decide), r.2.2.1, r.2.1, r.2.2.2]
          refine ⟨?_, fun z => absurd rfl z, fun _ => Or.inr ⟨rfl, ?_⟩⟩
          · unfold m_fm_newTask
            exact (q_sj (by decide) (q_sj (by decide) (q_sj (by decide) q_ss))).symm
          · have e31 : q_i (m_fm_newTask (q_st (q_st T1 27 0 i (.int kd)) 10 0 i (.int st)) i kd 31 0 i) = q_i ((m_fm_noTask (q_st (q_st T1 27 0 i (.int kd)) 10 0 i (.int st)) i) 0 0 34) := by
              unfold m_fm_newTask
              exact q_sj (by decide) (q_sj (by decide) q_ss)
            have e34 : q_i ((m_fm_newTask (q_st (q_st T1 27 0 i (.int kd)) 10 0 i (.int st)) i kd) 0 0 34) = q_i ((m_fm_noTask (q_st (q_st T1 27 0 i (.int kd)) 10 0 i (.int st)) i) 0 0 34) := by
              unfold m_fm_newTask
              rw [q_st_n _ _ (by omega), q_kj (by decide), q_kj (by decide), q_kj (by decide), q_kj (by decide)]
            rw [e31, ← e34, ce_i hc3 rm_t (by omega)]
            exact Int.le_refl _
        have hin : nI i ∈ mLn (m_fm_newTask (q_st (q_st T1 27 0 i (.int kd)) 10 0 i (.int st)) i kd) := by rw [mLn_newTask hi hI2 hQ2]; simp
        have tpc : pc (m_fm_newTask (q_st (q_st T1 27 0 i (.int kd)) 10 0 i (.int st)) i kd) i = pc T i := pc_eq (by rw [km 9 i (by omega), q_kj (by decide), q_kj (by decide), k4 9 i (by omega)]) (by rw [km 11 i (by omega), q_kj (by decide), q_kj (by decide), k4 11 i (by omega)])
        have kw : ∀ z : Nat, x_tl_append (x_ta_renew (q_st (q_st S1 9 i 10 (.int st)) 9 i 13 (.int kd)) i kd) (nI i) 9 i z = (q_st (q_st S1 9 i 10 (.int st)) 9 i 13 (.int kd)) 9 i z := fun z => kb 9 i z (by decide) (by decide) (by decide)
        refine Or.inl ⟨⟨by rw [e6]; exact hc3, ⟨h2, by rw [kb 11 i 3 (by decide) (by decide) (by decide), q_kj (by decide), q_kj (by decide), n1, nI_toInt (by omega)]; omega⟩, ?_, by rw [kw, s7]; exact h4, fun z => absurd (Or.inl (h5 z).2.2.2.1) hn, lkn, fun _ => ⟨lw, tv⟩, fun z => absurd (Or.inr hin) z⟩, fun _ => Or.inr ⟨by rw [kw, s10]; exact hst, by rw [kw, q_ss, ka 21 i 0 (by decide) (by decide), r.2.2.1]⟩, by rw [kw, s10]; exact hst5, ?_, ?_, ?_, ?_⟩
        · rw [kb 11 i 4 (by decide) (by decide) (by decide), q_kj (by decide), q_kj (by decide), km 16 i (by omega), q_kj (by decide), q_kj (by decide)]; exact k2
        · intro _
          rw [kw, q_ss, km 27 i (by omega), q_kj (by decide), q_ss]
        · rw [kw, s10]; intro z; rw [z] at hst; exact absurd hst (by decide)
        · rw [kw, s10, kw, s14, tpc, km 3 _ (by omega), q_kj (by decide), q_kj (by decide), k4 3 _ (by omega)]
          rintro (z | z)
          · exact ht z
          · rw [z] at hst; exact absurd hst (by decide)
        · rw [kw, kw, s8, s10]; exact hf
