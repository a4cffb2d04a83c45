/-! BETWEEN CALLS: what holds of each workflow, side by side -/
def Rs (c : Int) (S T : q_S) (k : Nat) : Prop :=
  (¬ 5 ≤ (q_i (S 9 k 10)).toInt → q_i (S 11 k 4) = q_i (T 16 0 k)) ∧ (q_i (S 9 k 10) = 5 → q_i (S 9 k 15) = q_i (T 13 0 k)) ∧
  (¬ q_i (S 9 k 6) = 0 → q_i (S 9 k 7) = 0 → ¬ 5 ≤ (q_i (S 9 k 10)).toInt → (q_i (S 9 k 10) = 1 ∨ q_i (S 9 k 10) = 2 ∨ q_i (S 9 k 10) = 3 ∨ q_i (S 9 k 10) = 4) ∧ ¬ lf S k ∧ Vw S T k) ∧
  (hasT S T k → ¬ q_i (S 9 k 6) = 0 ∧ (q_i (S 9 k 10) = 1 ∨ q_i (S 9 k 10) = 4) ∧ lastW S k ∧ tkv c S T k ∧ (q_i (S 9 k 7) = 0 → q_i (S 9 k 13) = q_i (S 21 k 0))) ∧
  (¬ hasT S T k → q_i (S 21 k 1) = 0)
theorem rs_fr {c : Int} {S T S' T' : q_S} {k : Nat} (h : Rs c S T k) (hx : ∀ x z : Nat, 9 ≤ x → S' x k z = S x k z) (h0 : q_i (S' 0 0 3) = q_i (S 0 0 3)) (hm : ∀ x : Nat, (x = 9 ∨ x = 11 ∨ x = 13 ∨ x = 16 ∨ x = 27 ∨ x = 28 ∨ x = 30 ∨ x = 31) → T' x 0 k = T x 0 k) (hp : ∀ x z : Nat, x = 2 ∨ x = 3 → T' x 0 z = T x 0 z) (hl : nI k ∈ mLn T' ↔ nI k ∈ mLn T) : Rs c S' T' k := by
  obtain ⟨h1, h2, h3, h4, h5⟩ := h
  have htt : hasT S' T' k ↔ hasT S T k := by unfold hasT; rw [hx 21 2 (by omega), hl]
  refine ⟨?_, ?_, ?_, fun z => ?_, fun z => ?_⟩
  · rw [hx 9 10 (by omega), hx 11 4 (by omega), hm 16 (by omega)]; exact h1
  · rw [hx 9 10 (by omega), hx 9 15 (by omega), hm 13 (by omega)]; exact h2
  · have tpc : pc T' k = pc T k := pc_eq (hm 9 (by omega)) (hm 11 (by omega))
    unfold lf Vw at h3 ⊢
    rw [hx 9 6 (by omega), hx 9 7 (by omega), hx 9 10 (by omega), hx 11 3 (by omega), hx 11 4 (by omega), hx 9 13 (by omega), hx 9 14 (by omega), hx 9 8 (by omega), tpc, hm 27 (by omega), hp 2 _ (by omega), hp 3 _ (by omega)]
    exact h3
  · obtain ⟨q1, q2, q3, q4, q5⟩ := h4 (htt.mp z)
    refine ⟨by rw [hx 9 6 (by omega)]; exact q1, by rw [hx 9 10 (by omega)]; exact q2, lastW_eq q3 (by rw [hx 11 3 (by omega)]) (fun n => by rw [hx 12 n (by omega)]) (fun n => by rw [hx 13 n (by omega)]) (by rw [hx 21 0 (by omega)]), ?_, by rw [hx 9 7 (by omega), hx 9 13 (by omega), hx 21 0 (by omega)]; exact q5⟩
    unfold tkv at q4 ⊢
    rw [hx 21 0 (by omega), hx 21 2 (by omega), hx 21 3 (by omega), hx 21 4 (by omega), h0, hm 28 (by omega), hm 30 (by omega), hm 31 (by omega)]
    exact q4
  · rw [hx 21 1 (by omega)]; exact h5 (fun q => z (htt.mpr q))
theorem rs_out {c : Int} {T0 S T : q_S} {i : Nat} (h : Out2 6 c T0 S T i) (ht : ¬ q_i (S 9 i 6) = 0) : Rs c S T i := by
  rcases h with ⟨⟨hB, hl, hst, hw⟩, g⟩ | he
  · obtain ⟨h1, ⟨h2, h20⟩, h3, h4, h5, h6, h7, h8⟩ := hB
    refine ⟨fun _ => h3, fun z => ?_, fun _ _ _ => ⟨hst, g, hw⟩, fun z => ?_, h8⟩
    · rw [z] at hst; exact absurd hst (by decide)
    · rcases hl z with q | ⟨q1, q2⟩
      · exact absurd q g
      · exact ⟨ht, q1, (h7 z).1, (h7 z).2, fun _ => q2⟩
  · obtain ⟨h1, h2, h3, h4, h5, h6, h7⟩ := he
    exact ⟨fun z => absurd h6 z, h7, fun _ _ z => absurd h6 z, fun z => absurd z h2, fun _ => h3⟩
/-- a workflow before a call that touches it; e = i: the reference has let its task go already -/
def Pre (e : Nat) (c : Int) (T0 S T : q_S) (i : Nat) : Prop := Ce e S T ∧ (e = i ∨ e = 6) ∧ (e = i → q_i (T 29 0 i) = 0 ∧ q_i (T 7 0 i) = 0 ∧ nI i ∉ mLn T ∧ ¬ q_i (S 21 i 2) = 0 ∧ q_i (S 21 i 0) = q_i (T0 28 0 i)) ∧ lk i T0 T ∧ Rs c S T i
theorem wa_pre {e i : Nat} {c : Int} {T0 S T : q_S} (hi : i < 6) (h : Pre e c T0 S T i) (hw : 1 ≤ (q_i (T 15 0 i)).toInt) (ht : ¬ q_i (S 9 i 6) = 0) (h5 : ¬ 5 ≤ (q_i (S 9 i 10)).toInt) (h7 : q_i (S 9 i 7) = 0) : Wa e c T0 S T i ∧ ¬ lf S i := by
  obtain ⟨h1, h2, h3, h4, r1, r2, r3, r4, r5⟩ := h
  obtain ⟨q1, q2, q3⟩ := r3 ht h7 h5
  refine ⟨⟨⟨h1, ⟨h2, by rw [ce_i h1 (rm_hs hi) (by omega)]; exact hw⟩, r1 h5, h7, h3, h4, fun z => ⟨(r4 z).2.2.1, (r4 z).2.2.2.1⟩, r5⟩, fun z => Or.inr ⟨(r4 z).2.1, (r4 z).2.2.2.2 h7⟩, q1, q3⟩, q2⟩
theorem xJ_rew {S : q_S} {i : Nat} (hJ : xJ S) : xJ (x_wf_rewind S i) := xJ_keep hJ (fun a b d h => rew_o S i a b d (by omega))
theorem rr_rem {e i : Nat} {c : Int} {T0 S T : q_S} (hi : i < 6) (hxI : xI S) (hxJ : xJ S) (hI : mI T) (hJ : mJ T) (hQ : mQ T) (hz : mZi T i) (h : Pre e c T0 S T i) (ht : ¬ q_i (S 9 i 6) = 0) (h5 : ¬ 5 ≤ (q_i (S 9 i 10)).toInt) : Out2 e c T0 (x_fe_remember S i) (m_fm_remember T i) i := by
  have e7 : q_i (S 9 i 7) = q_i (T 6 0 i) := ce_i h.1 (rm_fo hi) (by omega)
  unfold x_fe_remember m_fm_remember
  rw [e7]
  by_cases g : q_i (T 6 0 i) = 0
  · rw [if_pos g, if_pos g]
    exact Or.inl (wa_pre hi h hz.1 ht h5 (e7.trans g))
  · rw [if_neg g, if_neg g]
    obtain ⟨h1, h2, h3, h4, r1, r2, r3, r4, r5⟩ := h
    rw [begB_eq]
    have hm : mLn (q_st (q_st T 6 0 i (.int 0)) 33 0 5 (.int (q_i (T 33 0 5) + 1))) = mLn T := by rw [mLn_st (by decide) (by decide), mLn_st (by decide) (by decide)]
    have hs : q_i ((q_st S 0 0 6 (.int (q_i (S 0 0 6) + 1))) 11 i 3) = q_i (T 15 0 i) := by rw [q_kj (by decide)]; exact ce_i h1 (rm_hs hi) (by omega)
    have htt : hasT (q_st S 0 0 6 (.int (q_i (S 0 0 6) + 1))) (q_st (q_st T 6 0 i (.int 0)) 33 0 5 (.int (q_i (T 33 0 5) + 1))) i ↔ hasT S T i := by unfold hasT; rw [hm, q_kj (by decide)]
    have hc : Ce e (q_st (q_st S 0 0 6 (.int (q_i (S 0 0 6) + 1))) 9 i 7 (.int 0)) (q_st (q_st T 6 0 i (.int 0)) 33 0 5 (.int (q_i (T 33 0 5) + 1))) := by
      rw [q_comm (by decide), ce_i h1 rm_rpl (by omega)]
      exact ce_p (ce_p h1 (rm_fo hi)) rm_rpl
    have k1 : ∀ x z : Nat, x ≠ 6 → x ≠ 33 → (q_st (q_st T 6 0 i (.int 0)) 33 0 5 (.int (q_i (T 33 0 5) + 1))) x 0 z = T x 0 z := fun x z a b => by rw [q_kj b, q_kj a]
    refine rr_run hi (xI_wf_rewind _ i hi (q_Is hxI rfl)) (xJ_rew (xJ_keep hxJ (fun a b d hh => q_kj (by omega)))) (gd_begB hi (mIs (mIs hI rfl) rfl) (mJ_eq hJ (fun k => k1 1 k (by decide) (by decide)) (fun k => k1 2 k (by decide) (by decide)) (fun k => k1 3 k (by decide) (by decide)) (fun k => k1 4 k (by decide) (by decide))) (mQ_eq hQ (k1 0 33 (by decide) (by decide)) (fun k => k1 32 k (by decide) (by decide)) (fun k => k1 7 k (by decide) (by decide))) (by rw [k1 15 i (by decide) (by decide)]; exact hz.1)) ?_
    refine ent_beg hi hc h2 (by rw [hs]; exact hz.1) (fun z => ?_) (lk_eq h4 hm) (fun z => ?_) (fun z => ?_)
    · rw [k1 29 i (by decide) (by decide), k1 7 i (by decide) (by decide), hm, q_kj (by decide), q_kj (by decide)]; exact h3 z
    · obtain ⟨q1, q2, q3, q4, q5⟩ := r4 (htt.mp z)
      refine ⟨lastW_eq q3 (by rw [q_kj (by decide)]) (fun n => by rw [q_kj (by decide)]) (fun n => by rw [q_kj (by decide)]) (by rw [q_kj (by decide)]), ?_⟩
      unfold tkv at q4 ⊢
      rw [q_kj (a := 21) (by decide), q_kj (a := 21) (by decide), q_kj (a := 21) (by decide), q_kj (a := 21) (by decide), q_st_n S _ (by omega), k1 28 i (by decide) (by decide), k1 30 i (by decide) (by decide), k1 31 i (by decide) (by decide)]
      exact q4
    · rw [q_kj (by decide)]; exact r5 (fun q => z (htt.mpr q))
/-- the reference's writing, behind the remembering -/
def wr (T : q_S) (i : Nat) (a b d : Int32) : q_S := if m_fm_hasEnded T i = 0 then (if m_fm_isFor T i a b = 0 then T else if (m_fm_put T i a b d).1 = 0 then (m_fm_put T i a b d).2 else m_fm_goOn (m_fm_came ((m_fm_put T i a b d).2) i a d) i) else T
theorem wr_eq (T : q_S) (i : Nat) (a b d : Int32) : m_fm_write T i a b d = wr (m_fm_remember T i) i a b d := rfl
theorem x_run7 {S : q_S} {i : Nat} (h : 5 ≤ (q_i (S 9 i 10)).toInt) : x_fe_run S i = x_fe_finish S i := by
  have h0 : q_i (S 9 i 10) ≠ 0 := fun z => by rw [z] at h; exact absurd h (by decide)
  unfold x_fe_run
  rw [x_run_end h0, if_neg (by
    unfold x_wf_hasEnded
    rw [if_neg (by rw [Int32.lt_iff_toInt_lt]; show ¬ _ < (5 : Int); omega)]
    decide)]
set_option maxHeartbeats 4000000 in
theorem rr_hap {e i : Nat} {c c' : Int} {T0 S T : q_S} {a b d : Int32} (hi : i < 6) (hxI : xI S) (hxJ : xJ S) (hG : mGd T i) (h : Wa e c T0 S T i ∧ ¬ lf S i) (hN : ¬ x_wf_waitsFor S i a b = 0 → nI i ∉ mLn T ∧ q_i (T 29 0 i) = 0 ∧ q_i (T 7 0 i) = 0) (he : (e = 6 ∧ c' = c) ∨ ¬ x_wf_waitsFor S i a b = 0) : Out2 6 c' T0 (x_fe_happen S i a b d) (wr T i a b d) i := by
  obtain ⟨hW, g⟩ := h
  obtain ⟨hB, hl, hst, hw⟩ := id hW
  obtain ⟨h1, ⟨h2, h20⟩, h3, h4, h5, h6, h7, h8⟩ := id hB
  obtain ⟨hI, hJ, hQ, hg, hV⟩ := id hG
  have s5 : m_fm_hasEnded T i = 0 := by
    unfold m_fm_hasEnded
    rw [← ce_i h1 (rm_st hi) (by omega), if_pos (st_w hst).2.2]
  unfold x_fe_happen wr
  rw [if_pos s5, ← wf_eq hi h1 hw]
  by_cases gw : x_wf_waitsFor S i a b = 0
  · rw [if_pos gw, if_pos gw]
    obtain ⟨e6, ec⟩ := he.resolve_right (fun z => z gw)
    rw [e6, ← ec] at hW
    exact Or.inl ⟨hW, g⟩
  · rw [if_neg gw, if_neg gw]
    obtain ⟨n1, n2, n3⟩ := hN gw
    have hF : ¬ m_fm_isFor T i a b = 0 := by rw [← wf_eq hi h1 hw]; exact gw
    have hsT := mF_isFor hF
    rcases ps_put (a := a) (b := b) (d := d) hi hI h1 h3 hg with ⟨f1, f2, f3, f4⟩ | ⟨f1, f2, ok⟩
    · rw [if_pos f1, if_pos f2, f3, f4, x_run7 (by rw [q_ss]; decide)]
      exact Or.inr (en_break hi h2 hI h1 h6 h4)
    · rw [if_neg f1, if_neg f2]
      have hG1 : mGd (m_fm_put T i a b d).2 i := ⟨mI_fm_put T i a b d hi hI hg, mJ_put a b d hJ, mQ_fm_put T i a b d hi hI hg hQ, (mp_put1 hI hg f2).1, mV_put hI hg hV f2⟩
      have hsT1 := mSt_put (e := a) hI hg hsT f2
      have hxI1 := xI_hi_pass S i a b d hi hxI
      have hxJ1 : xJ (x_hi_pass S i a b d).2 := xJ_keep hxJ (fun x y z hh => xK_hi_pass S i a b d x y z (by omega) (by omega) (by omega) (by omega))
      generalize (x_hi_pass S i a b d).2 = S1 at ok hxI1 hxJ1 ⊢
      generalize (m_fm_put T i a b d).2 = T1 at ok hG1 hsT1 ⊢
      obtain ⟨k1, k2, k3, k4, k5⟩ := id ok
      have hm1 : mLn T1 = mLn T := mLn_eq (k4 0 33 (by omega)) (fun k => k4 32 k (by omega))
      have hs1 : 1 ≤ (q_i (S1 11 i 3)).toInt := by
        rcases k5 with ⟨q, -⟩ | ⟨-, -, n, ⟨n00, n0⟩, n1, n2, n3⟩
        · exact absurd q g
        · rw [n1, nI_toInt (by omega)]; omega
      have go : ∀ S2 : q_S, xI S2 → xJ S2 → Ce i S2 T1 → (∀ x z : Nat, 9 ≤ x → S2 x i z = S1 x i z) → Out2 6 c' T0 (x_fe_run (x_wf_resume (q_st (x_fe_dropTask S2 i) 9 i 12 (.int 0)) i a d) i) (m_fm_goOn (m_fm_came T1 i a d) i) i := by
        intro S2 xi xj c2 ex
        have kd : ∀ x y z : Nat, x ≠ 3 → x ≠ 4 → x ≠ 21 → x_fe_dropTask S2 i x y z = S2 x y z := fun x y z a b c => xK_fe_dropTask S2 i x y z a b c
        have c3 : Ce 6 (x_fe_dropTask S2 i) T1 := ce_dropX hi hG1.1 c2 (by rw [hm1]; exact n1) (by rw [k4 29 i (by omega)]; exact n2) (by rw [k4 7 i (by omega)]; exact n3)
        have r := x_renew_1 (x_tl_drop S2 (nI i)) i 0
        have nT : ¬ hasT (x_fe_dropTask S2 i) T1 i := by
          rintro (z | z)
          · exact z r.2.1
          · rw [hm1] at z; exact n1 z
        have hB3 : Ba 6 c' T0 (x_fe_dropTask S2 i) T1 i := by
          refine ⟨c3, ⟨Or.inr rfl, ?_⟩, ?_, ?_, fun z => by omega, lk_eq h6 hm1, fun z => absurd z nT, fun _ => r.1⟩
          · rw [kd 11 i 3 (by decide) (by decide) (by decide), ex 11 3 (by omega)]; exact hs1
          · rw [kd 11 i 4 (by decide) (by decide) (by decide), ex 11 4 (by omega)]; exact k2
          · rw [kd 9 i 7 (by decide) (by decide) (by decide), ex 9 7 (by omega), k3 9 i 7 (by omega)]; exact h4
        have e9 : ∀ z : Nat, x_fe_dropTask S2 i 9 i z = S 9 i z := fun z => by rw [kd 9 i z (by decide) (by decide) (by decide), ex 9 z (by omega), k3 9 i z (by omega)]
        have hw3 : Vw (x_fe_dropTask S2 i) T1 i := by
          have tpc : pc T1 i = pc T i := pc_eq (k4 9 i (by omega)) (k4 11 i (by omega))
          unfold Vw at hw ⊢
          rw [e9, e9, e9, e9, tpc, k4 27 i (by omega), k4 2 _ (by omega), k4 3 _ (by omega)]
          exact hw
        refine rr_run hi (xI_wf_resume _ i a d hi (xI_st (xI_fe_dropTask S2 i hi xi) (by show (0 : Int) ≤ (0 : Int) ∧ (0 : Int) ≤ 60; omega))) ?_ (gd_came hi hG1 hsT1) (rr_came hi hG1 hB3 (fun z => absurd z nT) hw3 hsT1)
        refine xJ_keep xj (fun x y z hh => ?_)
        rw [xK_wf_resume _ i a d x y z (by omega) (by omega), q_kj (by omega), kd x y z (by omega) (by omega) (by omega)]
      have c1 := ce_dn k1 h2
      by_cases ga : a = 4
      · rw [if_pos ga]
        exact go _ (q_Is hxI1 rfl) (xJ_keep hxJ1 (fun x y z hh => q_kj (by omega))) (ce_x c1 rx_0_7) (fun x z hx => q_kj (by omega))
      · rw [if_neg ga]
        exact go S1 hxI1 hxJ1 c1 (fun x z hx => rfl)
