theorem mJ_remember {S : q_S} {i : Nat} (hJ : mJ S) : mJ (m_fm_remember S i) := mJ_eq hJ (fun k => mK_fm_remember S i 1 0 k (by decide) (by decide) (by decide) (by decide) (by decide) (by decide) (by decide) (by decide) (by decide) (by decide) (by decide) (by decide) (by decide) (by decide) (by decide) (by decide) (by decide) (by decide) (by decide) (by decide) (by decide) (by decide) (by decide) (by decide) (by decide) (by decide) (by decide)) (fun k => mK_fm_remember S i 2 0 k (by decide) (by decide) (by decide) (by decide) (by decide) (by decide) (by decide) (by decide) (by decide) (by decide) (by decide) (by decide) (by decide) (by decide) (by decide) (by decide) (by decide) (by decide) (by decide) (by decide) (by decide) (by decide) (by decide) (by decide) (by decide) (by decide) (by decide)) (fun k => mK_fm_remember S i 3 0 k (by decide) (by decide) (by decide) (by decide) (by decide) (by decide) (by decide) (by decide) (by decide) (by decide) (by decide) (by decide) (by decide) (by decide) (by decide) (by decide) (by decide) (by decide) (by decide) (by decide) (by decide) (by decide) (by decide) (by decide) (by decide) (by decide) (by decide)) (fun k => mK_fm_remember S i 4 0 k (by decide) (by decide) (by decide) (by decide) (by decide) (by decide) (by decide) (by decide) (by decide) (by decide) (by decide) (by decide) (by decide) (by decide) (by decide) (by decide) (by decide) (by decide) (by decide) (by decide) (by decide) (by decide) (by decide) (by decide) (by decide) (by decide) (by decide))
theorem mJ_put {S : q_S} {i : Nat} (a b d : Int32) (hJ : mJ S) : mJ (m_fm_put S i a b d).2 := mJ_eq hJ (fun k => mK_fm_put S i a b d 1 0 k (by decide) (by decide) (by decide) (by decide) (by decide) (by decide) (by decide) (by decide) (by decide) (by decide) (by decide) (by decide)) (fun k => mK_fm_put S i a b d 2 0 k (by decide) (by decide) (by decide) (by decide) (by decide) (by decide) (by decide) (by decide) (by decide) (by decide) (by decide) (by decide)) (fun k => mK_fm_put S i a b d 3 0 k (by decide) (by decide) (by decide) (by decide) (by decide) (by decide) (by decide) (by decide) (by decide) (by decide) (by decide) (by decide)) (fun k => mK_fm_put S i a b d 4 0 k (by decide) (by decide) (by decide) (by decide) (by decide) (by decide) (by decide) (by decide) (by decide) (by decide) (by decide) (by decide))
theorem mJ_write {S : q_S} {i : Nat} (a b d : Int32) (hJ : mJ S) : mJ (m_fm_write S i a b d) := mJ_eq hJ (fun k => mK_fm_write S i a b d 1 0 k (by decide) (by decide) (by decide) (by decide) (by decide) (by decide) (by decide) (by decide) (by decide) (by decide) (by decide) (by decide) (by decide) (by decide) (by decide) (by decide) (by decide) (by decide) (by decide) (by decide) (by decide) (by decide) (by decide) (by decide) (by decide) (by decide) (by decide)) (fun k => mK_fm_write S i a b d 2 0 k (by decide) (by decide) (by decide) (by decide) (by decide) (by decide) (by decide) (by decide) (by decide) (by decide) (by decide) (by decide) (by decide) (by decide) (by decide) (by decide) (by decide) (by decide) (by decide) (by decide) (by decide) (by decide) (by decide) (by decide) (by decide) (by decide) (by decide)) (fun k => mK_fm_write S i a b d 3 0 k (by decide) (by decide) (by decide) (by decide) (by decide) (by decide) (by decide) (by decide) (by decide) (by decide) (by decide) (by decide) (by decide) (by decide) (by decide) (by decide) (by decide) (by decide) (by decide) (by decide) (by decide) (by decide) (by decide) (by decide) (by decide) (by decide) (by decide)) (fun k => mK_fm_write S i a b d 4 0 k (by decide) (by decide) (by decide) (by decide) (by decide) (by decide) (by decide) (by decide) (by decide) (by decide) (by decide) (by decide) (by decide) (by decide) (by decide) (by decide) (by decide) (by decide) (by decide) (by decide) (by decide) (by decide) (by decide) (by decide) (by decide) (by decide) (by decide))
theorem mJ_wrong {S : q_S} {i : Nat} (hJ : mJ S) : mJ (m_fm_wrong S i) := mJ_eq hJ (fun k => mK_fm_wrong S i 1 0 k (by decide) (by decide) (by decide) (by decide) (by decide) (by decide) (by decide) (by decide) (by decide) (by decide) (by decide) (by decide) (by decide) (by decide) (by decide) (by decide) (by decide) (by decide) (by decide) (by decide) (by decide) (by decide) (by decide) (by decide) (by decide) (by decide) (by decide)) (fun k => mK_fm_wrong S i 2 0 k (by decide) (by decide) (by decide) (by decide) (by decide) (by decide) (by decide) (by decide) (by decide) (by decide) (by decide) (by decide) (by decide) (by decide) (by decide) (by decide) (by decide) (by decide) (by decide) (by decide) (by decide) (by decide) (by decide) (by decide) (by decide) (by decide) (by decide)) (fun k => mK_fm_wrong S i 3 0 k (by decide) (by decide) (by decide) (by decide) (by decide) (by decide) (by decide) (by decide) (by decide) (by decide) (by decide) (by decide) (by decide) (by decide) (by decide) (by decide) (by decide) (by decide) (by decide) (by decide) (by decide) (by decide) (by decide) (by decide) (by decide) (by decide) (by decide)) (fun k => mK_fm_wrong S i 4 0 k (by decide) (by decide) (by decide) (by decide) (by decide) (by decide) (by decide) (by decide) (by decide) (by decide) (by decide) (by decide) (by decide) (by decide) (by decide) (by decide) (by decide) (by decide) (by decide) (by decide) (by decide) (by decide) (by decide) (by decide) (by decide) (by decide) (by decide))
theorem m_write_5 (S : q_S) (i : Nat) (a b d : Int32) (x k : Nat) (h : x = 1 ∨ x = 4 ∨ x = 5) : m_fm_write S i a b d x 0 k = S x 0 k := by
  refine mK_fm_write S i a b d x 0 k ?_ ?_ ?_ ?_ ?_ ?_ ?_ ?_ ?_ ?_ ?_ ?_ ?_ ?_ ?_ ?_ ?_ ?_ ?_ ?_ ?_ ?_ ?_ ?_ ?_ ?_ ?_ <;> omega
theorem m_wrong_5 (S : q_S) (i : Nat) (x k : Nat) (h : x = 1 ∨ x = 4 ∨ x = 5) : m_fm_wrong S i x 0 k = S x 0 k := by
  refine mK_fm_wrong S i x 0 k ?_ ?_ ?_ ?_ ?_ ?_ ?_ ?_ ?_ ?_ ?_ ?_ ?_ ?_ ?_ ?_ ?_ ?_ ?_ ?_ ?_ ?_ ?_ ?_ ?_ ?_ ?_ <;> omega
/-- something written for a workflow: it is as it must be behind that -/
theorem mp_write {S : q_S} {i : Nat} (hi : i < 6) (hI : mI S) (hJ : mJ S) (hQ : mQ S) (hz : mZi S i) (a b d : Int32) : mZi (m_fm_write S i a b d) i ∧ mQ (m_fm_write S i a b d) := by
  have hr := mp_remember hi hI hJ hz.2.1 hQ hz.1 hz.2.2
  have hh := mH_remember hi hI hJ hQ hz.1
  have hIR := mI_fm_remember S i hi hI hJ hQ hz.1
  have hJR := mJ_remember (i := i) hJ
  have hwR : 1 ≤ (q_i (m_fm_remember S i 15 0 i)).toInt := Int.le_trans hz.1 hh.1
  have hR : mZi (m_fm_remember S i) i ∧ mQ (m_fm_remember S i) := ⟨⟨hwR, hr.1, fun _ => hr.2.1⟩, hr.2.2⟩
  unfold m_fm_write
  generalize m_fm_remember S i = R at hr hIR hJR hwR hR ⊢
  split
  · split
    · exact hR
    · rename_i hF
      have hQP := mQ_fm_put R i a b d hi hIR hr.1 hr.2.2
      have hHP := mH_put (i := i) (S := R) (a := a) (b := b) (d := d) hIR mH_r
      split
      · rename_i h0
        rcases mp_put hIR hr.1 a b d with q | q
        · exact ⟨⟨Int.le_trans hwR hHP.1, q.2.2.1, fun _ => mV_E q.2.1⟩, hQP⟩
        · rw [q.1] at h0
          exact absurd h0 (by decide)
      · rename_i h0
        have hp1 := mp_put1 hIR hr.1 h0
        have hVP := mV_put hIR hr.1 hr.2.1 h0
        have hst := mSt_put hIR hr.1 (mF_isFor hF) h0
        have hIP := mI_fm_put R i a b d hi hIR hr.1
        have hJP := mJ_put (i := i) a b d hJR
        generalize (m_fm_put R i a b d).2 = P at hQP hHP hp1 hVP hst hIP hJP ⊢
        have hc := mp_came hIP hp1.1 a d
        have hIC := mI_fm_came P i a d hi hIP hJP hp1.1 hQP hVP hst
        have hQC := mQ_fm_came P i a d hi hIP hJP hp1.1 hQP hVP hst
        have hJC := mJ_came (i := i) a d hJP
        have hHC := mH_came (i := i) (S := R) (a := a) (b := d) hIP hHP
        have hgo := mp_goOn hi hIC hJC hc.1 hQC hc.2.2.1
        have hHG : mH i R (m_fm_goOn (m_fm_came P i a d) i) := by
          unfold m_fm_goOn
          exact mH_goOnL hi 1303 _ (mM_le hIC) hIC hJC hc.1 hQC hc.2.2.1 hHC
        exact ⟨⟨Int.le_trans hwR hHG.1, hgo.1, fun _ => hgo.2.1⟩, hgo.2.2⟩
  · exact hR
theorem mO_write {S U : q_S} {i : Nat} {a b d : Int32} (h : mO i S U) : mO i S (m_fm_write U i a b d) := by
  unfold m_fm_write
  repeat' split
  · exact mO_remember h
  · exact mO_put (mO_remember h)
  · exact mO_goOn (mO_came (mO_put (mO_remember h)))
  · exact mO_remember h
theorem mO_wrong {S : q_S} {i : Nat} : mO i S (m_fm_wrong S i) := by
  unfold m_fm_wrong
  split
  · exact mO_write (mO_j (by omega) (mO_noTask (mO_i mO_r)))
  · exact mO_j (by omega) (mO_j (by omega) (mO_i (mO_i mO_r)))
theorem mZi_k {S U : q_S} {k : Nat} (h : mZi S k) (e1 : ∀ x z : Nat, (x = 1 ∨ x = 4) → U x 0 z = S x 0 z) (ek : ∀ x : Nat, (x = 6 ∨ x = 9 ∨ x = 10 ∨ x = 11 ∨ x = 15 ∨ x = 16) → U x 0 k = S x 0 k) : mZi U k := by
  have p1 : mPl U k = mPl S k := by
    unfold mPl
    rw [ek 11 (by omega), ek 9 (by omega), e1 4 _ (by omega)]
  have p2 : mOp U k = mOp S k := by
    unfold mOp
    rw [ek 11 (by omega), ek 9 (by omega), e1 1 _ (by omega)]
  unfold mZi mg mV
  rw [p1, p2, ek 15 (by omega), ek 16 (by omega), ek 6 (by omega), ek 10 (by omega)]
  exact h
theorem mZ2_write {S : q_S} {i : Nat} (hi : i < 6) (hI : mI S) (hJ : mJ S) (hQ : mQ S) (hZ : mZ2 S) (ht : ¬ q_i (S 5 0 i) = 0) (a b d : Int32) : mZ2 (m_fm_write S i a b d) := by
  intro k hk h5
  rw [m_write_5 S i a b d 5 k (by omega)] at h5
  by_cases he : k = i
  · subst he
    exact (mp_write hi hI hJ hQ (hZ k hk ht) a b d).1
  · exact mZi_k (hZ k hk h5) (fun x z h => m_write_5 S i a b d x z (by omega)) (fun x h => mO_write mO_r x k (by omega) he)
theorem mp_wrong {S : q_S} {i : Nat} (hi : i < 6) (hI : mI S) (hJ : mJ S) (hQ : mQ S) (hz : mZi S i) (ho : ¬ q_i (S 7 0 i) = 0) : mZi (m_fm_wrong S i) i ∧ mQ (m_fm_wrong S i) := by
  unfold m_fm_wrong
  split
  · refine mp_write hi (mIs (mI_fm_noTask _ i hi (mIs hI rfl)) rfl) ?_ (mQ_eq (mQ_noTask (mIs hI rfl) (mQ_clr hQ)) (q_kj (by decide)) (fun _ => q_kj (by decide)) (fun _ => q_kj (by decide))) ?_ _ _ _
    · have e : ∀ x k : Nat, (0 < x ∧ x < 7) → (q_st (m_fm_noTask (q_st S 7 0 i (.int 0)) i) 33 0 6 (.int (q_i (S 33 0 6) + 1))) x 0 k = S x 0 k := fun x k h => by
        rw [q_kj (by omega), mK_fm_noTask _ _ x 0 k (by omega) (by omega) (by omega) (by omega) (by omega), q_kj (by omega)]
      exact mJ_eq hJ (fun k => e 1 k (by omega)) (fun k => e 2 k (by omega)) (fun k => e 3 k (by omega)) (fun k => e 4 k (by omega))
    · refine mZi_eq hz (fun x z h => ?_)
      rw [q_kj (by omega), mK_fm_noTask _ _ x 0 z (by omega) (by omega) (by omega) (by omega) (by omega), q_kj (by omega)]
  · have hni := hQ.2 i hi ho
    have hr := mLn_room hI hQ.1 hi hni
    have b1 : 0 ≤ (q_i (S 0 0 33)).toInt ∧ (q_i (S 0 0 33)).toInt ≤ 6 := hI 0 0 33
    have c1 := q_clI b1.1
    have e1 := q_inc (x := q_i (S 0 0 33)) (by omega)
    refine ⟨mZi_eq hz (fun x z h => ?_), ?_⟩
    · rw [q_kj (by omega), q_kj (by omega), q_kj (by omega), q_kj (by omega)]
    · have hln : mLn (q_st (q_st (q_st (q_st S 7 0 i (.int 0)) 31 0 i (.int ((q_i (S 0 0 34)) + (1 <<< ((q_i (S 29 0 i)) &&& 31))))) 32 0 ((q_i (S 0 0 33)).toNatClampNeg) (.int (nI i))) 0 0 33 (.int ((q_i (S 0 0 33)) + 1))) = mLn S ++ [nI i] := by
        unfold mLn
        rw [q_ss, show (q_i (S 0 0 33) + 1).toNatClampNeg = (q_i (S 0 0 33)).toNatClampNeg + 1 from q_tn (by omega), List.range_succ, List.map_append]
        congr 1
        · exact List.map_congr_left (fun k hk => by
            have hk := List.mem_range.mp hk
            rw [q_kj (by decide), q_st_n _ _ (fun z => by omega), q_kj (by decide), q_kj (by decide)])
        · simp only [List.map_cons, List.map_nil]
          rw [q_kj (by decide), q_ss]
      unfold mQ
      rw [hln]
      refine ⟨List.nodup_append.mpr ⟨hQ.1, by simp, fun x hx y hy => by
        rw [List.mem_singleton.mp hy]
        exact fun z => hni (by rw [← z]; exact hx)⟩, fun w hw q z => ?_⟩
      rw [q_kj (by decide), q_kj (by decide), q_kj (by decide)] at q
      by_cases hk : w = i
      · rw [hk, q_ss] at q
        exact q rfl
      · rw [q_st_n S _ (fun z => hk z.2.2)] at q
        rcases List.mem_append.mp z with z | z
        · exact hQ.2 w hw q z
        · exact hk ((nI_eq (by omega) (by omega)).mp (List.mem_singleton.mp z))
theorem mZ2_wrong {S : q_S} {i : Nat} (hi : i < 6) (hI : mI S) (hJ : mJ S) (hQ : mQ S) (hZ : mZ2 S) (ht : ¬ q_i (S 5 0 i) = 0) (ho : ¬ q_i (S 7 0 i) = 0) : mZ2 (m_fm_wrong S i) := by
  intro k hk h5
  rw [m_wrong_5 S i 5 k (by omega)] at h5
  by_cases he : k = i
  · subst he
    exact (mp_wrong hi hI hJ hQ (hZ k hk ht) ho).1
  · exact mZi_k (hZ k hk h5) (fun x z h => m_wrong_5 S i x z (by omega)) (fun x h => mO_wrong x k (by omega) he)
