/-! A TASK'S END, side by side -/
theorem rl_of {c c' : Nat → Int} {S T S' T' : q_S} {i : Nat} (h : Rl c S T) (hce : Ce 6 S' T') (hr : Rs (c' i) S' T' i) (hc : ∀ k : Nat, k ≠ i → c' k = c k) (xo : ∀ k x z : Nat, k ≠ i → 9 ≤ x → S' x k z = S x k z) (ht : q_i (S' 0 0 3) = q_i (S 0 0 3)) (hm : ∀ k x : Nat, k ≠ i → (x = 9 ∨ x = 11 ∨ x = 13 ∨ x = 16 ∨ x = 27 ∨ x = 28 ∨ x = 30 ∨ x = 31) → T' x 0 k = T x 0 k) (hp : ∀ x z : Nat, x = 2 ∨ x = 3 → T' x 0 z = T x 0 z) (hl : lk i T T') : Rl c' S' T' := by
  refine ⟨hce, fun k hk => ?_⟩
  by_cases g : k = i
  · rw [g]; exact hr
  · rw [hc k g]
    exact rs_fr (h.2 k hk) (fun x z hx => xo k x z g hx) ht (fun x hx => hm k x g hx) hp (hl k hk g)
theorem m_outQ {T : q_S} {i : Nat} (hi : i < 6) (hQ : mQ T) (h : ¬ q_i (T 7 0 i) = 0) : nI i ∉ mLn T := hQ.2 i hi h
set_option maxHeartbeats 4000000 in
theorem rr_task {c : Nat → Int} {c' : Int} {S T T2 : q_S} {i : Nat} {a v : Int32} (hi : i < 6) (hxI : xI S) (hxJ : xJ S) (hA : mAll T) (h : Rl c S T) (ho : ¬ q_i (S 21 i 2) = 0) (ha : a = 3 ∨ a = 4) (hI2 : mI T2) (hQ2 : mQ T2) (hc2 : Ce i S T2) (h29 : q_i (T2 29 0 i) = 0) (h7 : q_i (T2 7 0 i) = 0) (hn : nI i ∉ mLn T2) (hl : lk i T T2) (fr : ∀ x z : Nat, x ≠ 0 → x ≠ 7 → x ≠ 8 → x ≠ 29 → x ≠ 32 → x ≠ 33 → T2 x 0 z = T x 0 z) : Out2 6 c' T (x_fe_happen (x_fe_remember S i) i a (q_i ((x_fe_remember S i) 21 i 0)) v) (m_fm_write T2 i a (q_i (T 28 0 i)) v) i := by
  obtain ⟨hI, hJ, hQ, hZ⟩ := hA
  have hr := h.2 i hi
  obtain ⟨r1, r2, r3, r4, r5⟩ := id hr
  obtain ⟨th, st, lw, tv, aw⟩ := r4 (Or.inl ho)
  have to : ¬ q_i (T 7 0 i) = 0 := by rw [← ce_i h.1 (rm_ou hi) (by omega)]; exact ho
  have hnT := m_outQ hi hQ to
  have hr2 : Rs (c i) S T2 i := rs_fr hr (fun _ _ _ => rfl) rfl (fun x hx => fr x i (by omega) (by omega) (by omega) (by omega) (by omega) (by omega)) (fun x z hx => fr x z (by omega) (by omega) (by omega) (by omega) (by omega) (by omega)) ⟨fun z => absurd z hn, fun z => absurd z hnT⟩
  have hp : Pre i (c i) T S T2 i := ⟨hc2, Or.inl rfl, fun _ => ⟨h29, h7, hn, ho, tv.1⟩, hl, hr2⟩
  have hJ2 : mJ T2 := mJ_eq hJ (fun k => fr 1 k (by decide) (by decide) (by decide) (by decide) (by decide) (by decide)) (fun k => fr 2 k (by decide) (by decide) (by decide) (by decide) (by decide) (by decide)) (fun k => fr 3 k (by decide) (by decide) (by decide) (by decide) (by decide) (by decide)) (fun k => fr 4 k (by decide) (by decide) (by decide) (by decide) (by decide) (by decide))
  have tz : ¬ q_i (T 5 0 i) = 0 := by rw [← ce_i h.1 (rm_th hi) (by omega)]; exact th
  have hz2 : mZi T2 i := mZi_eq (hZ i hi tz) (fun x z hx => fr x z (by omega) (by omega) (by omega) (by omega) (by omega) (by omega))
  have h5 : ¬ 5 ≤ (q_i (S 9 i 10)).toInt := by rcases st with q | q <;> (rw [q]; decide)
  have o1 := rr_rem hi hxI hxJ hI2 hJ2 hQ2 hz2 hp th h5
  have hG := gd_rem hi hI2 hJ2 hQ2 hz2
  have hxI1 := xI_fe_remember S i hi hxI hxJ
  have hxJ1 := xJ_rem (i := i) hxJ
  rw [wr_eq]
  generalize x_fe_remember S i = S1 at *
  generalize m_fm_remember T2 i = T1 at *
  rcases o1 with ⟨hW, g⟩ | he
  · obtain ⟨hB, hl1, hst, hw⟩ := id hW
    obtain ⟨f29, f7, fn, fo, fk⟩ := hB.2.2.2.2.1 rfl
    obtain ⟨s1, s2⟩ := (hl1 (Or.inl fo)).resolve_left g
    have hwf : ¬ x_wf_waitsFor S1 i a (q_i (S1 21 i 0)) = 0 := by
      unfold x_wf_waitsFor
      rw [s2]
      rcases s1 with q | q
      · rw [if_pos q]
        rcases ha with rfl | rfl
        · rw [if_pos rfl, if_pos rfl]; decide
        · rw [if_neg (by decide), if_pos rfl, if_pos rfl]; decide
      · rw [if_neg (by rw [q]; decide), if_neg (by rw [q]; decide), if_neg (by rw [q]; decide), if_pos q]
        rcases ha with rfl | rfl
        · rw [if_pos rfl, if_pos rfl]; decide
        · rw [if_neg (by decide), if_pos rfl, if_pos rfl]; decide
    rw [fk] at hwf ⊢
    exact rr_hap hi hxI1 hxJ1 hG ⟨hW, g⟩ (fun _ => ⟨fn, f29, f7⟩) (Or.inr hwf)
  · rw [hap_end he.2.2.2.2.2.1, wr_end (en_st hi he)]
    exact Or.inr he
theorem mQ_noT {T : q_S} {i : Nat} (hI : mI T) (hQ : mQ T) : mQ (m_fm_noTask T i) := mQ_noTask hI hQ
theorem noT_fr (T : q_S) (i : Nat) : ∀ x z : Nat, x ≠ 0 → x ≠ 7 → x ≠ 8 → x ≠ 29 → x ≠ 32 → x ≠ 33 → m_fm_noTask T i x 0 z = T x 0 z := fun x z a b c d e _ => mK_fm_noTask T i x 0 z a b c d e
/-- the line longer by one -/
theorem mLn_push {T T' : q_S} {y : Int32} (h0 : 0 ≤ (q_i (T 0 0 33)).toInt) (h5 : (q_i (T 0 0 33)).toInt ≤ 5) (e1 : q_i (T' 0 0 33) = q_i (T 0 0 33) + 1) (e2 : ∀ k : Nat, k ≠ (q_i (T 0 0 33)).toNatClampNeg → T' 32 0 k = T 32 0 k) (e3 : q_i (T' 32 0 (q_i (T 0 0 33)).toNatClampNeg) = y) (x : Int32) : x ∈ mLn T' ↔ x ∈ mLn T ∨ x = y := by
  have c0 := q_clI h0
  have i1 := q_inc (x := q_i (T 0 0 33)) (by omega)
  have c1 := q_clI (x := q_i (T 0 0 33) + 1) (by omega)
  rw [mLn_mem, mLn_mem, e1]
  constructor
  · rintro ⟨k, k1, k2⟩
    by_cases g : k = (q_i (T 0 0 33)).toNatClampNeg
    · rw [g, e3] at k2; exact Or.inr k2.symm
    · rw [e2 k g] at k2; exact Or.inl ⟨k, by omega, k2⟩
  · rintro (⟨k, k1, k2⟩ | rfl)
    · exact ⟨k, by omega, by rw [e2 k (by omega)]; exact k2⟩
    · exact ⟨_, by omega, e3⟩
set_option maxHeartbeats 4000000 in
theorem c_wrong {c c' : Nat → Int} {S T : q_S} {i : Nat} (hi : i < 6) (hxI : xI S) (hxJ : xJ S) (hA : mAll T) (h : Rl c S T) (ho : ¬ q_i (S 21 i 2) = 0) (hc : ∀ k : Nat, k ≠ i → c' k = c k) : Rl c' (x_fe_goWrong S i) (m_fm_wrong T i) := by
  obtain ⟨hI, hJ, hQ, hZ⟩ := id hA
  have hr := h.2 i hi
  obtain ⟨r1, r2, r3, r4, r5⟩ := id hr
  obtain ⟨th, st, lw, tv, aw⟩ := r4 (Or.inl ho)
  have to : ¬ q_i (T 7 0 i) = 0 := by rw [← ce_i h.1 (rm_ou hi) (by omega)]; exact ho
  have hnT := m_outQ hi hQ to
  have e29 : q_i (S 21 i 1) = q_i (T 29 0 i) := ce_i h.1 (rm_tr hi) (by omega)
  have et : q_i (S 0 0 3) = q_i (T 0 0 34) := ce_i h.1 rm_t (by omega)
  unfold x_fe_goWrong m_fm_wrong
  rw [e29]
  by_cases g : 3 ≤ q_i (T 29 0 i)
  · have g' : ¬ q_i (T 29 0 i) < 3 := by
      rw [Int32.le_iff_toInt_le] at g
      rw [Int32.lt_iff_toInt_lt]
      omega
    rw [if_pos g, if_neg g']
    have hI0 : mI (q_st T 7 0 i (.int 0)) := mIs hI rfl
    have hQ0 : mQ (q_st T 7 0 i (.int 0)) := mQ_clr hQ
    have hn0 : nI i ∉ mLn (q_st T 7 0 i (.int 0)) := by rw [mLn_st (by decide) (by decide)]; exact hnT
    have hc0 : Ce i S (q_st T 7 0 i (.int 0)) := ce_tm (ce_dn h.1 (Or.inr rfl)) (rm_ou hi)
    have m29 := m_noTask_29 (q_st T 7 0 i (.int 0)) i
    have lkT : lk i T (q_st (m_fm_noTask (q_st T 7 0 i (.int 0)) i) 33 0 6 (.int (q_i (T 33 0 6) + 1))) := lk_eq (lk_noTask hi hI0 (lk_eq lk_r (mLn_st (by decide) (by decide)))) (mLn_st (by decide) (by decide))
    have frT : ∀ x z : Nat, x ≠ 0 → x ≠ 7 → x ≠ 8 → x ≠ 29 → x ≠ 32 → x ≠ 33 → (q_st (m_fm_noTask (q_st T 7 0 i (.int 0)) i) 33 0 6 (.int (q_i (T 33 0 6) + 1))) x 0 z = T x 0 z := fun x z a b c d e f => by rw [q_kj f, noT_fr _ i x z a b c d e f, q_kj b]
    have o2 := rr_task (c' := c' i) (a := 4) (v := 0) hi hxI hxJ hA h ho (Or.inr rfl) (T2 := q_st (m_fm_noTask (q_st T 7 0 i (.int 0)) i) 33 0 6 (.int (q_i (T 33 0 6) + 1))) (mIs (mI_fm_noTask _ i hi hI0) rfl) (mQ_eq (mQ_noTask hI0 hQ0) (q_kj (by decide)) (fun _ => q_kj (by decide)) (fun _ => q_kj (by decide))) (ce_m (ce_noTaskM hi (Or.inl rfl) hI0 hc0 hn0) rn_336) (by rw [q_kj (by decide)]; exact m29.1) (by rw [q_kj (by decide)]; exact m29.2) (by rw [mLn_st (by decide) (by decide)]; exact n_noTask hI0) lkT frT
    refine rl_out (c' := c') h o2 hc (xo_happen (xo_remember xo_r)) (xt_happen (xt_remember xt_r)) (mO_write (mO_j (by omega) (mO_noTask (mO_i mO_r)))) (fun x z hx => ?_) ?_
    · rw [m_wri_23 _ i _ _ _ x z (by omega)]; exact frT x z (by omega) (by omega) (by omega) (by omega) (by omega) (by omega)
    · exact there_o hi h.1 o2 (by rw [m_wri_23 _ i _ _ _ 5 i (by omega)]; exact frT 5 i (by decide) (by decide) (by decide) (by decide) (by decide) (by decide)) th
  · have g' : q_i (T 29 0 i) < 3 := by
      rw [Int32.le_iff_toInt_le] at g
      rw [Int32.lt_iff_toInt_lt]
      omega
    rw [if_neg g, if_pos g']
    have b33 : 0 ≤ (q_i (T 0 0 33)).toInt := (hI 0 0 33).1
    have q33 := mLn_room hI hQ.1 hi hnT
    have c33 := q_clI b33
    have e3 : ∀ v, q_i ((q_st (q_st S 21 i 2 (.int 0)) 21 i 4 v) 3 0 1) = q_i (T 0 0 33) := fun v => by rw [q_kj (by decide), q_kj (by decide)]; exact ce_i h.1 rm_qs (by omega)
    unfold x_ta_comeBack x_tl_append
    rw [e29, et, e3, if_neg (by rw [Int32.le_iff_toInt_le]; show ¬ (6 : Int) ≤ _; omega)]
    generalize q_i (T 0 0 34) + (1 <<< (q_i (T 29 0 i) &&& 31)) = v
    have hce : Ce 6 (q_st (q_st (q_st (q_st S 21 i 2 (.int 0)) 21 i 4 (.int v)) 4 0 (q_i (T 0 0 33)).toNatClampNeg (.int (nI i))) 3 0 1 (.int (q_i (T 0 0 33) + 1))) (q_st (q_st (q_st (q_st T 7 0 i (.int 0)) 31 0 i (.int v)) 32 0 (q_i (T 0 0 33)).toNatClampNeg (.int (nI i))) 0 0 33 (.int (q_i (T 0 0 33) + 1))) := ce_p (ce_p (ce_m (ce_x (ce_p h.1 (rm_ou hi)) rx_21_4) rn_31) (rm_q (by omega))) rm_qs
    have hmem : ∀ x : Int32, x ∈ mLn (q_st (q_st (q_st (q_st T 7 0 i (.int 0)) 31 0 i (.int v)) 32 0 (q_i (T 0 0 33)).toNatClampNeg (.int (nI i))) 0 0 33 (.int (q_i (T 0 0 33) + 1))) ↔ x ∈ mLn T ∨ x = nI i := mLn_push b33 q33 q_ss (fun k hk => by rw [q_kj (by decide), q_st_n _ _ (by omega), q_kj (by decide), q_kj (by decide)]) (by rw [q_kj (by decide), q_ss])
    have kx : ∀ x y z : Nat, x ≠ 3 → x ≠ 4 → ¬ (x = 21 ∧ y = i ∧ (z = 2 ∨ z = 4)) → (q_st (q_st (q_st (q_st S 21 i 2 (.int 0)) 21 i 4 (.int v)) 4 0 (q_i (T 0 0 33)).toNatClampNeg (.int (nI i))) 3 0 1 (.int (q_i (T 0 0 33) + 1))) x y z = S x y z := fun x y z a b d => by
      rw [q_kj a, q_kj b, q_st_n _ _ (by omega), q_st_n _ _ (by omega)]
    have km : ∀ x z : Nat, x ≠ 0 → x ≠ 7 → x ≠ 31 → x ≠ 32 → (q_st (q_st (q_st (q_st T 7 0 i (.int 0)) 31 0 i (.int v)) 32 0 (q_i (T 0 0 33)).toNatClampNeg (.int (nI i))) 0 0 33 (.int (q_i (T 0 0 33) + 1))) x 0 z = T x 0 z := fun x z a b d e => by
      rw [q_kj a, q_kj e, q_kj d, q_kj b]
    have o0 : q_i ((q_st (q_st (q_st (q_st S 21 i 2 (.int 0)) 21 i 4 (.int v)) 4 0 (q_i (T 0 0 33)).toNatClampNeg (.int (nI i))) 3 0 1 (.int (q_i (T 0 0 33) + 1))) 21 i 2) = 0 := by rw [q_kj (by decide), q_kj (by decide), q_sk (by decide) q_ss]
    have o4 : q_i ((q_st (q_st (q_st (q_st S 21 i 2 (.int 0)) 21 i 4 (.int v)) 4 0 (q_i (T 0 0 33)).toNatClampNeg (.int (nI i))) 3 0 1 (.int (q_i (T 0 0 33) + 1))) 21 i 4) = v := by rw [q_kj (by decide), q_kj (by decide), q_ss]
    have o31 : q_i ((q_st (q_st (q_st (q_st T 7 0 i (.int 0)) 31 0 i (.int v)) 32 0 (q_i (T 0 0 33)).toNatClampNeg (.int (nI i))) 0 0 33 (.int (q_i (T 0 0 33) + 1))) 31 0 i) = v := by rw [q_kj (by decide), q_kj (by decide), q_ss]
    have k9 : ∀ z, (q_st (q_st (q_st (q_st S 21 i 2 (.int 0)) 21 i 4 (.int v)) 4 0 (q_i (T 0 0 33)).toNatClampNeg (.int (nI i))) 3 0 1 (.int (q_i (T 0 0 33) + 1))) 9 i z = S 9 i z := fun z => kx 9 i z (by decide) (by decide) (by omega)
    have k11 : ∀ z, (q_st (q_st (q_st (q_st S 21 i 2 (.int 0)) 21 i 4 (.int v)) 4 0 (q_i (T 0 0 33)).toNatClampNeg (.int (nI i))) 3 0 1 (.int (q_i (T 0 0 33) + 1))) 11 i z = S 11 i z := fun z => kx 11 i z (by decide) (by decide) (by omega)
    have k210 : (q_st (q_st (q_st (q_st S 21 i 2 (.int 0)) 21 i 4 (.int v)) 4 0 (q_i (T 0 0 33)).toNatClampNeg (.int (nI i))) 3 0 1 (.int (q_i (T 0 0 33) + 1))) 21 i 0 = S 21 i 0 := kx 21 i 0 (by decide) (by decide) (by omega)
    have tpc : pc (q_st (q_st (q_st (q_st T 7 0 i (.int 0)) 31 0 i (.int v)) 32 0 (q_i (T 0 0 33)).toNatClampNeg (.int (nI i))) 0 0 33 (.int (q_i (T 0 0 33) + 1))) i = pc T i := pc_eq (km 9 i (by decide) (by decide) (by decide) (by decide)) (km 11 i (by decide) (by decide) (by decide) (by decide))
    refine rl_of (c' := c') h hce ?_ hc (fun k x z hk hx => kx x k z (by omega) (by omega) (by omega)) (by rw [kx 0 0 3 (by decide) (by decide) (by omega)]) (fun k x hk hx => ?_) (fun x z hx => km x z (by omega) (by omega) (by omega) (by omega)) (fun k hk hne => ?_)
    · refine ⟨?_, ?_, ?_, fun _ => ⟨by rw [k9]; exact th, by rw [k9]; exact st, lastW_eq lw (by rw [k11]) (fun n => by rw [kx 12 i n (by decide) (by decide) (by omega)]) (fun n => by rw [kx 13 i n (by decide) (by decide) (by omega)]) (by rw [k210]), ?_, by rw [k9, k9, k210]; exact aw⟩, fun z => absurd (Or.inr ((hmem _).mpr (Or.inr rfl))) z⟩
      · rw [k9, k11, km 16 i (by decide) (by decide) (by decide) (by decide)]; exact r1
      · rw [k9, k9, km 13 i (by decide) (by decide) (by decide) (by decide)]; exact r2
      · unfold lf Vw at r3 ⊢
        rw [k9, k9, k9, k11, k11, k9, k9, k9, tpc, km 27 i (by decide) (by decide) (by decide) (by decide), km 2 _ (by decide) (by decide) (by decide) (by decide), km 3 _ (by decide) (by decide) (by decide) (by decide)]
        exact r3
      · unfold tkv
        rw [k210, o0, o4, o31, km 28 i (by decide) (by decide) (by decide) (by decide)]
        exact ⟨tv.1, fun z => absurd rfl z, fun _ => Or.inl rfl⟩
    · by_cases g31 : x = 31
      · rw [g31, q_kj (by decide), q_kj (by decide), q_st_n _ _ (by omega), q_kj (by decide)]
      · exact km x k (by omega) (by omega) g31 (by omega)
    · rw [hmem]
      exact ⟨fun z => z.elim id (fun q => absurd (nI_inj6 hk hi q) hne), Or.inl⟩
theorem c_answer {c : Nat → Int} {S T : q_S} (hxI : xI S) (hxJ : xJ S) (hA : mAll T) (h : Rl c S T) (a b d : Int32) : (x_fe_answer S a b d).1 = (m_fm_answer T a b d).1 ∧ Rl c (x_fe_answer S a b d).2 (m_fm_answer T a b d).2 := by
  obtain ⟨hI, hJ, hQ, hZ⟩ := id hA
  unfold x_fe_answer m_fm_answer
  rw [← th_eq h.1]
  by_cases g0 : x_fe_isThere S a = 0
  · rw [if_pos g0, if_pos g0]; exact ⟨rfl, h⟩
  · rw [if_neg g0, if_neg g0]
    obtain ⟨hi, th, -⟩ := th_x g0
    generalize a.toNatClampNeg = i at *
    rw [ce_i h.1 (rm_ou hi) (by omega)]
    by_cases g1 : q_i (T 7 0 i) = 0
    · rw [if_pos g1, if_pos g1]; exact ⟨rfl, h⟩
    · rw [if_neg g1, if_neg g1]
      have ho : ¬ q_i (S 21 i 2) = 0 := by rw [ce_i h.1 (rm_ou hi) (by omega)]; exact g1
      by_cases g2 : b = 0
      · rw [if_pos g2, if_pos g2]
        have hw := c_wrong (c' := c) hi hxI hxJ hA h ho (fun _ _ => rfl)
        exact ⟨ce_i hw.1 (rm_st hi) (by omega), hw⟩
      · rw [if_neg g2, if_neg g2]
        have hnT := m_outQ hi hQ g1
        have m29 := m_noTask_29 T i
        have o2 := rr_task (c' := c i) (a := 3) (v := d) hi hxI hxJ hA h ho (Or.inl rfl) (T2 := m_fm_noTask T i) (mI_fm_noTask T i hi hI) (mQ_noTask hI hQ) (ce_noTaskM hi (Or.inr rfl) hI h.1 hnT) m29.1 m29.2 (n_noTask hI) (lk_noTask hi hI lk_r) (noT_fr T i)
        refine ⟨ce_i (o2_ce o2).1 (rm_st hi) (by omega), rl_out (c' := c) h o2 (fun _ _ => rfl) (xo_happen (xo_remember xo_r)) (xt_happen (xt_remember xt_r)) (mO_write (mO_noTask mO_r)) (fun x z hx => ?_) ?_⟩
        · dsimp only
          rw [m_wri_23 _ i _ _ _ x z (by omega)]; exact noT_fr T i x z (by omega) (by omega) (by omega) (by omega) (by omega) (by omega)
        · exact there_o hi h.1 o2 (by rw [m_wri_23 _ i _ _ _ 5 i (by omega)]; exact noT_fr T i 5 i (by decide) (by decide) (by decide) (by decide) (by decide) (by decide)) th
