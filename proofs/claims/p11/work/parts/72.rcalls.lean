/-! ALL WORKFLOWS, side by side; the calls that touch one -/
def Rl (c : Nat → Int) (S T : q_S) : Prop := Ce 6 S T ∧ ∀ k : Nat, k < 6 → Rs (c k) S T k
theorem o2_ce {c : Int} {T0 S T : q_S} {i : Nat} (h : Out2 6 c T0 S T i) : Ce 6 S T ∧ lk i T0 T := by
  rcases h with h | h
  · exact ⟨h.1.1.1, h.1.1.2.2.2.2.2.1⟩
  · exact ⟨h.1, h.2.2.2.1⟩
theorem rl_out {c c' : Nat → Int} {S T S' T' : q_S} {i : Nat} (h : Rl c S T) (ho : Out2 6 (c' i) T S' T' i) (hc : ∀ k : Nat, k ≠ i → c' k = c k) (xo : xOff i S S') (ht : xTm i S S') (mo : mO i T T') (mp : ∀ x z : Nat, x = 2 ∨ x = 3 → T' x 0 z = T x 0 z) (th : ¬ q_i (S' 9 i 6) = 0) : Rl c' S' T' := by
  obtain ⟨q1, q2⟩ := o2_ce ho
  refine ⟨q1, fun k hk => ?_⟩
  by_cases g : k = i
  · rw [g]
    exact rs_out ho th
  · rw [hc k g]
    exact rs_fr (h.2 k hk) (fun x z hx => xo x k z (by omega) (by omega)) (by rw [ht]) (fun x hx => mo x k (by omega) g) mp (q2 k hk g)
theorem th_eq {S T : q_S} (h : Ce 6 S T) (a : Int32) : x_fe_isThere S a = m_fm_isThere T a := by
  unfold x_fe_isThere m_fm_isThere m_fm_in
  by_cases g1 : a < 0
  · rw [if_pos g1, if_pos g1, if_pos rfl]
  · rw [if_neg g1, if_neg g1]
    by_cases g2 : 5 < a
    · rw [if_pos (by rw [Int32.lt_iff_toInt_lt] at g2; rw [Int32.le_iff_toInt_le]; have g2 : (5 : Int) < a.toInt := g2; show (6 : Int) ≤ a.toInt; omega), if_pos g2, if_pos rfl]
    · have g3 : ¬ (6 : Int32) ≤ a := by rw [Int32.lt_iff_toInt_lt] at g2; rw [Int32.le_iff_toInt_le]; have g2 : ¬ (5 : Int) < a.toInt := g2; show ¬ (6 : Int) ≤ a.toInt; omega
      have g4 : a.toNatClampNeg < 6 := by
        have := q_cl g1
        rw [Int32.le_iff_toInt_le] at g3
        have g3 : ¬ (6 : Int) ≤ a.toInt := g3
        omega
      rw [if_neg g3, if_neg g2, if_neg (c := (1 : Int32) = 0) (by decide), ce_i h (rm_th g4) (by omega)]
theorem th_x {S : q_S} {a : Int32} (h : ¬ x_fe_isThere S a = 0) : a.toNatClampNeg < 6 ∧ ¬ q_i (S 9 a.toNatClampNeg 6) = 0 ∧ ¬ a < 0 := by
  unfold x_fe_isThere at h
  by_cases g1 : a < 0
  · rw [if_pos g1] at h; exact absurd rfl h
  · rw [if_neg g1] at h
    by_cases g2 : 6 ≤ a
    · rw [if_pos g2] at h; exact absurd rfl h
    · rw [if_neg g2] at h
      have g4 : a.toNatClampNeg < 6 := by
        have := q_cl g1
        rw [Int32.le_iff_toInt_le] at g2
        have g2 : ¬ (6 : Int) ≤ a.toInt := g2
        omega
      refine ⟨g4, fun z => ?_, g1⟩
      rw [if_pos z] at h
      exact absurd rfl h
theorem en_eq {e : Nat} {S T : q_S} {i : Nat} (hi : i < 6) (h : Ce e S T) : x_wf_hasEnded S i = m_fm_hasEnded T i := by
  unfold x_wf_hasEnded m_fm_hasEnded
  rw [ce_i h (rm_st hi) (by omega)]
theorem en_x {S : q_S} {i : Nat} : x_wf_hasEnded S i = 0 ↔ ¬ 5 ≤ (q_i (S 9 i 10)).toInt := by
  unfold x_wf_hasEnded
  by_cases g : q_i (S 9 i 10) < 5
  · rw [if_pos g]
    have : (q_i (S 9 i 10)).toInt < 5 := Int32.lt_iff_toInt_lt.mp g
    exact ⟨fun _ => by omega, fun _ => rfl⟩
  · rw [if_neg g]
    have : ¬ (q_i (S 9 i 10)).toInt < 5 := fun z => g (Int32.lt_iff_toInt_lt.mpr z)
    exact ⟨fun z => absurd z (by decide), fun z => absurd (by omega) z⟩
theorem wf_end {S : q_S} {i : Nat} {a b : Int32} (h : 5 ≤ (q_i (S 9 i 10)).toInt) : x_wf_waitsFor S i a b = 0 := by
  have n : ∀ x : Int32, x.toInt < 5 → ¬ q_i (S 9 i 10) = x := fun x hx z => by rw [z] at h; omega
  unfold x_wf_waitsFor
  rw [if_neg (n 1 (by decide)), if_neg (n 2 (by decide)), if_neg (n 3 (by decide)), if_neg (n 4 (by decide))]
theorem hap_end {S : q_S} {i : Nat} {a b d : Int32} (h : 5 ≤ (q_i (S 9 i 10)).toInt) : x_fe_happen S i a b d = S := by
  unfold x_fe_happen
  rw [if_pos (wf_end h)]
theorem wr_end {T : q_S} {i : Nat} {a b d : Int32} (h : 5 ≤ (q_i (T 10 0 i)).toInt) : wr T i a b d = T := by
  unfold wr
  rw [if_neg (by
    unfold m_fm_hasEnded
    rw [if_neg (by rw [Int32.lt_iff_toInt_lt]; show ¬ _ < (5 : Int); omega)]
    decide)]
theorem gd_rem {T : q_S} {i : Nat} (hi : i < 6) (hI : mI T) (hJ : mJ T) (hQ : mQ T) (hz : mZi T i) : mGd (m_fm_remember T i) i := by
  have r := mp_remember hi hI hJ hz.2.1 hQ hz.1 hz.2.2
  exact ⟨mI_fm_remember T i hi hI hJ hQ hz.1, mJ_remember hJ, r.2.2, r.1, r.2.1⟩
theorem xJ_rem {S : q_S} {i : Nat} (hJ : xJ S) : xJ (x_fe_remember S i) := xJ_keep hJ (fun x y z h => xo_remember xo_r x y z (by omega) (by omega))
theorem pre_of {c : Nat → Int} {S T : q_S} {i : Nat} (hi : i < 6) (h : Rl c S T) : Pre 6 (c i) T S T i := ⟨h.1, Or.inr rfl, fun z => by omega, lk_r, h.2 i hi⟩
/-- what comes for a signal or a waking -/
theorem hap_67 {c : Nat → Int} {T0 S T : q_S} {i : Nat} {a b d : Int32} (hi : i < 6) (hxI : xI S) (hxJ : xJ S) (hG : mGd T i) (ha : a = 6 ∨ a = 7) (h : Out2 6 (c i) T0 S T i) : Out2 6 (c i) T0 (x_fe_happen S i a b d) (wr T i a b d) i := by
  rcases h with h | h
  · refine rr_hap (c' := c i) hi hxI hxJ hG h (fun z => ?_) (Or.inl ⟨rfl, rfl⟩)
    obtain ⟨⟨hB, hl, hst, hw⟩, g⟩ := h
    have hF := z
    rw [wf_eq hi hB.1 hw] at hF
    have hsT := mF_isFor hF
    unfold mSt at hsT
    rw [← ce_i hB.1 (rm_st hi) (by omega)] at hsT
    have n14 : ¬ (q_i (S 9 i 10) = 1 ∨ q_i (S 9 i 10) = 4) := by
      rcases ha with rfl | rfl
      · rcases hsT with ⟨-, q⟩ | ⟨q, -⟩ | ⟨-, q⟩ | ⟨-, q⟩
        · exact absurd q (by decide)
        · rw [q]; decide
        · exact absurd q (by decide)
        · exact absurd q (by decide)
      · rcases hsT with ⟨-, q⟩ | ⟨-, q⟩ | ⟨q, -⟩ | ⟨-, q⟩
        · exact absurd q (by decide)
        · exact absurd q (by decide)
        · rw [q]; decide
        · exact absurd q (by decide)
    have nT : ¬ hasT S T i := fun q => by
      rcases hl q with q | ⟨q, -⟩
      · exact g q
      · exact n14 q
    refine ⟨fun q => nT (Or.inr q), ?_, ?_⟩
    · rw [← ce_i hB.1 (rm_tr hi) (by omega)]; exact hB.2.2.2.2.2.2.2 nT
    · rw [← ce_i hB.1 (rm_ou hi) (by omega)]
      by_cases q : q_i (S 21 i 2) = 0
      · exact q
      · exact absurd (Or.inl q) nT
  · rw [hap_end h.2.2.2.2.2.1, wr_end (en_st hi h)]
    exact Or.inr h
theorem forg_0 {c : Int} {T0 S T : q_S} {i : Nat} (hi : i < 6) (h : Out2 6 c T0 S T i) : q_i (T 6 0 i) = 0 := by
  rw [← ce_i (o2_ce h).1 (rm_fo hi) (by omega)]
  rcases h with h | h
  · exact h.1.1.2.2.2.1
  · exact h.2.2.2.2.1
theorem rem_id {T : q_S} {i : Nat} (h : q_i (T 6 0 i) = 0) : m_fm_remember T i = T := by
  unfold m_fm_remember
  rw [if_pos h]
theorem there_o {c : Int} {T0 S T S' T' : q_S} {i : Nat} (hi : i < 6) (h : Ce 6 S T) (ho : Out2 6 c T0 S' T' i) (h5 : T' 5 0 i = T 5 0 i) (th : ¬ q_i (S 9 i 6) = 0) : ¬ q_i (S' 9 i 6) = 0 := by
  rw [ce_i (o2_ce ho).1 (rm_th hi) (by omega), h5, ← ce_i h (rm_th hi) (by omega)]
  exact th
theorem m_rem_23 (T : q_S) (i x z : Nat) (h : x = 2 ∨ x = 3 ∨ x = 5) : m_fm_remember T i x 0 z = T x 0 z := by
  refine mK_fm_remember T i x 0 z ?_ ?_ ?_ ?_ ?_ ?_ ?_ ?_ ?_ ?_ ?_ ?_ ?_ ?_ ?_ ?_ ?_ ?_ ?_ ?_ ?_ ?_ ?_ ?_ ?_ ?_ ?_ <;> omega
theorem m_wri_23 (T : q_S) (i : Nat) (a b d : Int32) (x z : Nat) (h : x = 2 ∨ x = 3 ∨ x = 5) : m_fm_write T i a b d x 0 z = T x 0 z := by
  refine mK_fm_write T i a b d x 0 z ?_ ?_ ?_ ?_ ?_ ?_ ?_ ?_ ?_ ?_ ?_ ?_ ?_ ?_ ?_ ?_ ?_ ?_ ?_ ?_ ?_ ?_ ?_ ?_ ?_ ?_ ?_ <;> omega
theorem wa_p {e i j k a b : Nat} {c : Int} {T0 S T : q_S} {v : Value} (h : Wa e c T0 S T i) (m : rM j i k a b) (hj : 15 ≤ j ∧ j ≤ 17) : Wa e c T0 (q_st S j i k v) (q_st T a 0 b v) i := by
  obtain ⟨hB, hl, hst, hw⟩ := h
  have ha : a ≠ 0 ∧ a ≠ 32 ∧ a ≠ 27 ∧ a ≠ 2 ∧ a ≠ 3 ∧ a ≠ 9 ∧ a ≠ 11 := by
    refine ⟨?_, ?_, ?_, ?_, ?_, ?_, ?_⟩ <;> (rintro rfl; simp [rM] at m; try omega)
  have e9 : ∀ x z : Nat, x < 15 ∨ 17 < x → q_st S j i k v x i z = S x i z := fun x z hx => q_kj (by omega)
  have tpc : pc (q_st T a 0 b v) i = pc T i := pc_eq (q_kj (by omega)) (q_kj (by omega))
  refine ⟨ba_p hB m (by omega), ?_, by rw [e9 9 10 (by omega)]; exact hst, ?_⟩
  · unfold hasT lf at hl ⊢
    rw [e9 21 2 (by omega), mLn_st ha.1 ha.2.1, e9 11 4 (by omega), e9 11 3 (by omega), e9 9 10 (by omega), e9 9 13 (by omega), e9 21 0 (by omega)]
    exact hl
  · unfold Vw at hw ⊢
    rw [e9 9 10 (by omega), e9 9 13 (by omega), e9 9 14 (by omega), e9 9 8 (by omega), tpc, q_kj (by omega), q_kj (by omega), q_kj (by omega)]
    exact hw
set_option maxHeartbeats 4000000 in
theorem c_signal {c : Nat → Int} {S T : q_S} (hxI : xI S) (hxJ : xJ S) (hA : mAll T) (h : Rl c S T) (a b d : Int32) : (x_fe_signal S a b d).1 = (m_fm_signal T a b d).1 ∧ Rl c (x_fe_signal S a b d).2 (m_fm_signal T a b d).2 := by
  obtain ⟨hI, hJ, hQ, hZ⟩ := hA
  unfold x_fe_signal m_fm_signal m_fm_in
  rw [← th_eq h.1]
  by_cases g0 : x_fe_isThere S a = 0
  · rw [if_pos g0, if_pos g0]; exact ⟨rfl, h⟩
  · rw [if_neg g0, if_neg g0]
    obtain ⟨hi, th, -⟩ := th_x g0
    by_cases g1 : b < 0
    · rw [if_pos g1, if_pos g1, if_pos rfl]; exact ⟨rfl, h⟩
    · rw [if_neg g1, if_neg g1]
      by_cases g2 : 3 < b
      · rw [if_neg (c := b < 4) (by rw [Int32.lt_iff_toInt_lt] at g2 ⊢; have g2 : (3 : Int) < b.toInt := g2; show ¬ b.toInt < (4 : Int); omega), if_pos g2, if_pos rfl]; exact ⟨rfl, h⟩
      · rw [if_pos (c := b < 4) (by rw [Int32.lt_iff_toInt_lt] at g2 ⊢; have g2 : ¬ (3 : Int) < b.toInt := g2; show b.toInt < (4 : Int); omega), if_neg g2, if_neg (c := (1 : Int32) = 0) (by decide)]
        generalize a.toNatClampNeg = i at *
        rw [← en_eq hi h.1]
        by_cases g3 : x_wf_hasEnded S i = 0
        · rw [if_pos g3, if_pos g3]
          have b23 : 0 ≤ (q_i (T 23 0 i)).toInt ∧ (q_i (T 23 0 i)).toInt ≤ 4 := hI 23 0 i
          have e15 : q_i (S 15 i 2) = q_i (T 23 0 i) := ce_i h.1 (rm_ks hi) (by omega)
          by_cases g4 : q_i (T 23 0 i) = 4
          · rw [if_neg (c := x_ke_isFull S i = 0) (by unfold x_ke_isFull; rw [e15, g4]; decide), if_pos g4]; exact ⟨rfl, h⟩
          · have g4' := lv_neT g4 q_n4
            rw [if_pos (c := x_ke_isFull S i = 0) (by unfold x_ke_isFull; rw [e15, if_pos (by rw [Int32.lt_iff_toInt_lt]; show _ < (4 : Int); omega)]), if_neg g4]
            have tz : ¬ q_i (T 5 0 i) = 0 := by rw [← ce_i h.1 (rm_th hi) (by omega)]; exact th
            have hz := hZ i hi tz
            have ho := rr_rem hi hxI hxJ hI hJ hQ hz (pre_of hi h) th (en_x.mp g3)
            have hG := gd_rem hi hI hJ hQ hz
            have hxI1 := xI_fe_remember S i hi hxI hxJ
            have hxJ1 := xJ_rem (i := i) hxJ
            have hH := mH_remember hi hI hJ hQ hz.1
            have xo : xOff i S (x_fe_remember S i) := xo_remember xo_r
            have xt : xTm i S (x_fe_remember S i) := xt_remember xt_r
            have mo : mO i T (m_fm_remember T i) := mO_remember mO_r
            have m23 := m_rem_23 T i
            generalize x_fe_remember S i = S1 at *
            generalize hT1 : m_fm_remember T i = T1 at *
            have f0 := forg_0 hi ho
            have th1 := there_o hi h.1 ho (m23 5 i (by omega)) th
            rw [← en_eq hi (o2_ce ho).1]
            rcases id ho with ⟨hW, g⟩ | he
            · have hst := hW.2.2.1
              have nE : x_wf_hasEnded S1 i = 0 := en_x.mpr (st_w hst).2.1
              have hwf := wf_eq hi hW.1.1 hW.2.2.2 7 b
              rw [if_pos nE, if_pos nE]
              by_cases g5 : x_wf_waitsFor S1 i 7 b = 0
              · rw [if_pos g5]
                rw [← hwf, if_pos g5, ite_self]
                refine ⟨rfl, ?_⟩
                have b231 : 0 ≤ (q_i (T1 23 0 i)).toInt ∧ (q_i (T1 23 0 i)).toInt ≤ 4 := hG.1 23 0 i
                have hH2 := hH.2
                have hcl := q_clI b231.1
                have e151 : q_i (S1 15 i 2) = q_i (T1 23 0 i) := ce_i hW.1.1 (rm_ks hi) (by omega)
                have hk : x_ke_keep S1 i b d = q_st (q_st (q_st S1 16 i ((q_i (T1 23 0 i)).toNatClampNeg) (.int b)) 17 i ((q_i (T1 23 0 i)).toNatClampNeg) (.int d)) 15 i 2 (.int ((q_i (T1 23 0 i)) + 1)) := by
                  unfold x_ke_keep x_ke_isFull
                  rw [e151, if_pos (by rw [if_pos (by rw [Int32.lt_iff_toInt_lt]; show _ < (4 : Int); omega)])]
                have hW2 := wa_p (v := .int ((q_i (T1 23 0 i)) + 1)) (wa_p (v := .int d) (wa_p (v := .int b) hW (rm_kn hi (k := (q_i (T1 23 0 i)).toNatClampNeg) (by omega)) (by omega)) (rm_kv hi (k := (q_i (T1 23 0 i)).toNatClampNeg) (by omega)) (by omega)) (rm_ks hi) (by omega)
                show Rl c (x_ke_keep S1 i b d) _
                rw [hk]
                refine rl_out (c' := c) h (Or.inl ⟨hW2, ?_⟩) (fun _ _ => rfl) (xo_s (by decide) (xo_s (by decide) (xo_s (by decide) xo))) (xt_s (by decide) (xt_s (by decide) (xt_s (by decide) xt))) (mO_i (mO_j (by omega) (mO_j (by omega) mo))) (fun x z hx => ?_) ?_
                · unfold lf
                  rw [q_kj (by decide), q_kj (by decide), q_kj (by decide), q_kj (by decide), q_kj (by decide), q_kj (by decide)]
                  exact g
                · dsimp only
                  rw [q_kj (by omega), q_kj (by omega), q_kj (by omega)]; exact m23 x z (by omega)
                · rw [q_kj (by decide), q_kj (by decide), q_kj (by decide)]; exact th1
              · rw [if_neg g5]
                have hF : ¬ m_fm_isFor T1 i 7 b = 0 := by rw [← hwf]; exact g5
                have hsT := mF_isFor hF
                have s3 : q_i (T1 10 0 i) = 3 := by
                  rcases hsT with ⟨-, q⟩ | ⟨-, q⟩ | ⟨q, -⟩ | ⟨-, q⟩
                  · exact absurd q (by decide)
                  · exact absurd q (by decide)
                  · exact q
                  · exact absurd q (by decide)
                rw [if_pos s3, if_neg hF]
                refine ⟨rfl, ?_⟩
                have hw2 := hap_67 (c := c) (a := 7) (b := b) (d := d) hi hxI1 hxJ1 hG (Or.inr rfl) ho
                have ew : m_fm_write T1 i 7 b d = wr T1 i 7 b d := by rw [wr_eq, rem_id f0]
                show Rl c (x_fe_happen S1 i 7 b d) (m_fm_write T1 i 7 b d)
                rw [← ew] at hw2
                refine rl_out (c' := c) h hw2 (fun _ _ => rfl) (xo_happen xo) (xt_happen xt) (mO_write mo) (fun x z hx => ?_) ?_
                · rw [m_wri_23 T1 i 7 b d x z (by omega)]; exact m23 x z (by omega)
                · exact there_o hi h.1 hw2 (by rw [m_wri_23 T1 i 7 b d 5 i (by omega)]; exact m23 5 i (by omega)) th
            · have h5 := he.2.2.2.2.2.1
              have nE : ¬ x_wf_hasEnded S1 i = 0 := fun z => (en_x.mp z) h5
              rw [if_pos (wf_end h5), if_neg nE, if_neg nE]
              exact ⟨rfl, rl_out (c' := c) h ho (fun _ _ => rfl) xo xt mo (fun x z hx => m23 x z (by omega)) th1⟩
        · rw [if_neg g3, if_neg g3]; exact ⟨rfl, h⟩
