theorem mJ_breakUp {S : q_S} {i : Nat} (hJ : mJ S) : mJ (m_fm_breakUp S i) := mJ_eq hJ (fun k => mK_fm_breakUp S i 1 0 k (by decide) (by decide) (by decide) (by decide) (by decide) (by decide) (by decide) (by decide)) (fun k => mK_fm_breakUp S i 2 0 k (by decide) (by decide) (by decide) (by decide) (by decide) (by decide) (by decide) (by decide)) (fun k => mK_fm_breakUp S i 3 0 k (by decide) (by decide) (by decide) (by decide) (by decide) (by decide) (by decide) (by decide)) (fun k => mK_fm_breakUp S i 4 0 k (by decide) (by decide) (by decide) (by decide) (by decide) (by decide) (by decide) (by decide))
theorem mJ_step {S : q_S} {i : Nat} (hJ : mJ S) : mJ (m_fm_step S i) := mJ_eq hJ (fun k => mK_fm_step S i 1 0 k (by decide) (by decide) (by decide) (by decide) (by decide) (by decide) (by decide) (by decide) (by decide) (by decide) (by decide) (by decide) (by decide) (by decide) (by decide) (by decide) (by decide) (by decide) (by decide) (by decide) (by decide) (by decide) (by decide) (by decide) (by decide) (by decide)) (fun k => mK_fm_step S i 2 0 k (by decide) (by decide) (by decide) (by decide) (by decide) (by decide) (by decide) (by decide) (by decide) (by decide) (by decide) (by decide) (by decide) (by decide) (by decide) (by decide) (by decide) (by decide) (by decide) (by decide) (by decide) (by decide) (by decide) (by decide) (by decide) (by decide)) (fun k => mK_fm_step S i 3 0 k (by decide) (by decide) (by decide) (by decide) (by decide) (by decide) (by decide) (by decide) (by decide) (by decide) (by decide) (by decide) (by decide) (by decide) (by decide) (by decide) (by decide) (by decide) (by decide) (by decide) (by decide) (by decide) (by decide) (by decide) (by decide) (by decide)) (fun k => mK_fm_step S i 4 0 k (by decide) (by decide) (by decide) (by decide) (by decide) (by decide) (by decide) (by decide) (by decide) (by decide) (by decide) (by decide) (by decide) (by decide) (by decide) (by decide) (by decide) (by decide) (by decide) (by decide) (by decide) (by decide) (by decide) (by decide) (by decide) (by decide))
theorem mJ_came {S : q_S} {i : Nat} (a b : Int32) (hJ : mJ S) : mJ (m_fm_came S i a b) := mJ_eq hJ (fun k => mK_fm_came S i a b 1 0 k (by decide) (by decide) (by decide) (by decide) (by decide) (by decide) (by decide) (by decide) (by decide) (by decide) (by decide) (by decide) (by decide) (by decide) (by decide) (by decide) (by decide) (by decide) (by decide)) (fun k => mK_fm_came S i a b 2 0 k (by decide) (by decide) (by decide) (by decide) (by decide) (by decide) (by decide) (by decide) (by decide) (by decide) (by decide) (by decide) (by decide) (by decide) (by decide) (by decide) (by decide) (by decide) (by decide)) (fun k => mK_fm_came S i a b 3 0 k (by decide) (by decide) (by decide) (by decide) (by decide) (by decide) (by decide) (by decide) (by decide) (by decide) (by decide) (by decide) (by decide) (by decide) (by decide) (by decide) (by decide) (by decide) (by decide)) (fun k => mK_fm_came S i a b 4 0 k (by decide) (by decide) (by decide) (by decide) (by decide) (by decide) (by decide) (by decide) (by decide) (by decide) (by decide) (by decide) (by decide) (by decide) (by decide) (by decide) (by decide) (by decide) (by decide))
theorem mp_goOnL {i : Nat} (hi : i < 6) : ∀ (n : Nat) (S : q_S), mM S i < n → mI S → mJ S → mg S i → mQ S → mV S i → mg (m_fm_goOn_L0 n S i) i ∧ mV (m_fm_goOn_L0 n S i) i ∧ mQ (m_fm_goOn_L0 n S i) := by
  intro n
  induction n with
  | zero => intro S h; exact absurd h (Nat.not_lt_zero _)
  | succ n ih =>
    intro S hM hI hJ hg hQ hV
    rw [m_fm_goOn_L0]
    split
    · exact ⟨hg, hV, hQ⟩
    · rename_i h5
      have h5 : ¬ 5 ≤ (q_i (S 10 0 i)).toInt := by rw [Int32.le_iff_toInt_le] at h5; exact h5
      have hpos := mM_pos h5
      have br := ih (m_fm_breakUp S i) (by rw [mM_E mE_break.1]; omega) (mI_fm_breakUp S i hi hI) (mJ_breakUp hJ) mE_break.2 (mQ_fm_breakUp S i hi hI hQ) (mV_E mE_break.1)
      split
      · rename_i h0
        split
        · exact br
        · rename_i h60
          have b1 : 0 ≤ (q_i (S 12 0 i)).toInt ∧ (q_i (S 12 0 i)).toInt ≤ 60 := hI 12 0 i
          have h60 := lv_neT h60 (a := 60) (by decide)
          have hs : (q_i (S 12 0 i)).toInt ≤ 59 := by omega
          have hm := mM_step hI hg hs h0
          have ht := mT_step hI hg hs h0
          exact ih (m_fm_step S i) (by omega) (mI_fm_step S i hi hI hJ hg hQ hs) (mJ_step hJ) ht.1 (mQ_fm_step S i hi hI hJ hg hQ hs) ht.2.2.1
      · rename_i h0
        split
        · exact ⟨hg, hV, hQ⟩
        · rename_i hl
          split
          · exact br
          · rename_i hF
            generalize q_i (S 17 0 (20 * i + ((q_i (S 16 0 i)).toNatClampNeg))) = a at hF ⊢
            generalize q_i (S 19 0 (20 * i + ((q_i (S 16 0 i)).toNatClampNeg))) = b
            obtain ⟨g1, g2, g3⟩ := mM_meet hI hg h0 h5 hl a b
            have hst : mSt (q_st S 16 0 i (.int (q_i (S 16 0 i) + 1))) i a := mSt_st (by decide) (mF_isFor hF)
            have hJ0 : mJ (q_st S 16 0 i (.int (q_i (S 16 0 i) + 1))) := mJ_eq hJ (fun k => q_kj (by decide)) (fun k => q_kj (by decide)) (fun k => q_kj (by decide)) (fun k => q_kj (by decide))
            have hQ0 : mQ (q_st S 16 0 i (.int (q_i (S 16 0 i) + 1))) := mQ_eq hQ (q_kj (by decide)) (fun _ => q_kj (by decide)) (fun _ => q_kj (by decide))
            have hV0 : mV (q_st S 16 0 i (.int (q_i (S 16 0 i) + 1))) i := mV_eq hV (fun x z h => by rw [q_kj (by omega)])
            have hc := mp_came g1 g2 a b
            exact ih _ (by omega) (mI_fm_came _ i a b hi g1 hJ0 g2 hQ0 hV0 hst) (mJ_came a b hJ0) hc.1 (mQ_fm_came _ i a b hi g1 hJ0 g2 hQ0 hV0 hst) hc.2.2.1
theorem mp_goOn {S : q_S} {i : Nat} (hi : i < 6) (hI : mI S) (hJ : mJ S) (hg : mg S i) (hQ : mQ S) (hV : mV S i) : mg (m_fm_goOn S i) i ∧ mV (m_fm_goOn S i) i ∧ mQ (m_fm_goOn S i) := by
  unfold m_fm_goOn
  exact mp_goOnL hi 1303 S (mM_le hI) hI hJ hg hQ hV
theorem mQ_fm_goOn (S : q_S) (i : Nat) (hi : i < 6) (hI : mI S) (hJ : mJ S) (hg : mg S i) (hQ : mQ S) (hV : mV S i) : mQ (m_fm_goOn S i) := (mp_goOn hi hI hJ hg hQ hV).2.2
