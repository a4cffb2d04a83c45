/-! tick, side by side -/
theorem rs_c {c c' : Int} {S T : q_S} {k : Nat} (h : Rs c S T k) (hc : ¬ q_i (S 21 k 2) = 0 → (q_i (S 0 0 3)).toInt ≤ (q_i (S 21 k 3)).toInt + c') : Rs c' S T k := by
  obtain ⟨r1, r2, r3, r4, r5⟩ := h
  refine ⟨r1, r2, r3, fun z => ?_, r5⟩
  obtain ⟨p1, p2, p3, p4, p5⟩ := r4 z
  exact ⟨p1, p2, p3, ⟨p4.1, fun q => ⟨(p4.2.1 q).1, (p4.2.1 q).2.1, hc q⟩, p4.2.2⟩, p5⟩
def cc (u : Nat) : Nat → Int := fun k => if k < u then 4 else 5
theorem cc_s {u k : Nat} (h : k ≠ u) : cc (u + 1) k = cc u k := by
  unfold cc
  by_cases g : k < u
  · rw [if_pos g, if_pos (by omega)]
  · rw [if_neg g, if_neg (by omega)]
theorem cc_n {u : Nat} : cc (u + 1) u = 4 := by
  unfold cc
  rw [if_pos (by omega)]
theorem cc_o {u : Nat} : cc u u = 5 := by
  unfold cc
  rw [if_neg (by omega)]
theorem all_wrong {T : q_S} {i : Nat} (hi : i < 6) (hA : mAll T) (ht : ¬ q_i (T 5 0 i) = 0) (ho : ¬ q_i (T 7 0 i) = 0) : mAll (m_fm_wrong T i) := by
  obtain ⟨hI, hJ, hQ, hZ⟩ := hA
  have hz := hZ i hi ht
  exact ⟨mI_fm_wrong T i hi hI hJ hQ hz ho, mJ_wrong hJ, mQ_fm_wrong T i hi hI hJ hQ hz ho, mZ2_wrong hi hI hJ hQ hZ ht ho⟩
theorem all_write {T : q_S} {i : Nat} {a b d : Int32} (hi : i < 6) (hA : mAll T) (ht : ¬ q_i (T 5 0 i) = 0) : mAll (m_fm_write T i a b d) := by
  obtain ⟨hI, hJ, hQ, hZ⟩ := hA
  have hz := hZ i hi ht
  exact ⟨mI_fm_write T i a b d hi hI hJ hz.2.1 hQ hz.1 hz.2.2, mJ_write a b d hJ, mQ_fm_write T i a b d hi hI hJ hz.2.1 hQ hz.1 hz.2.2, mZ2_write hi hI hJ hQ hZ ht a b d⟩
theorem xJ_wrong {S : q_S} {i : Nat} (hJ : xJ S) : xJ (x_fe_goWrong S i) := xJ_keep hJ (fun x y z h => xo_goWrong xo_r x y z (by omega) (by omega))
theorem xJ_hap {S : q_S} {i : Nat} {a b d : Int32} (hJ : xJ S) : xJ (x_fe_happen S i a b d) := xJ_keep hJ (fun x y z h => xo_happen xo_r x y z (by omega) (by omega))
/-- what the first walk of a tick comes to -/
def Tk (c : Nat → Int) (S0 S T : q_S) : Prop := xI S ∧ xJ S ∧ mAll T ∧ Rl c S T ∧ S 0 0 3 = S0 0 0 3
set_option maxHeartbeats 4000000 in
theorem c_tickL1 {a : Int32} {t : Nat} {S0 : q_S} : ∀ (n u : Nat) (S T : q_S), u + n = 7 → u ≤ 6 → Tk (cc u) S0 S T → Tk (cc 6) S0 (x_fe_tick_L1 n S a t u) (m_fm_tick_L1 n T a t u) := by
  intro n
  induction n with
  | zero => intro u S T h1 h2; omega
  | succ n ih =>
    intro u S T h1 h2 hk
    rw [x_fe_tick_L1, m_fm_tick_L1]
    by_cases g : 6 ≤ nI u
    · rw [if_pos g, if_pos g]
      have : u = 6 := by
        rw [Int32.le_iff_toInt_le, nI_toInt (by omega)] at g
        have g : (6 : Int) ≤ u := g
        omega
      rw [← this]
      exact hk
    · rw [if_neg g, if_neg g, nI_clamp (by omega)]
      have hu : u < 6 := m_lt6 h2 g
      obtain ⟨hxI, hxJ, hA, hR, hT⟩ := id hk
      have eo : q_i (S 21 u 2) = q_i (T 7 0 u) := ce_i hR.1 (rm_ou hu) (by omega)
      have et : q_i (S 0 0 3) = q_i (T 0 0 34) := ce_i hR.1 rm_t (by omega)
      have nx : (¬ q_i (S 21 u 2) = 0 → (q_i (S 0 0 3)).toInt ≤ (q_i (S 21 u 3)).toInt + 4) → Tk (cc (u + 1)) S0 S T := fun hc => by
        refine ⟨hxI, hxJ, hA, ⟨hR.1, fun k hk6 => ?_⟩, hT⟩
        by_cases q : k = u
        · rw [q, cc_n]
          exact rs_c (hR.2 u hu) hc
        · rw [cc_s q]
          exact hR.2 k hk6
      by_cases g1 : q_i (S 21 u 2) = 0
      · have gx : x_ta_isOverdue S u (q_i (S 0 0 3)) = 0 := by unfold x_ta_isOverdue; rw [if_pos g1]
        rw [if_pos gx, if_pos (c := q_i (T 7 0 u) = 0) (by rw [← eo]; exact g1), ite_self]
        exact ih (u + 1) S T (by omega) (by omega) (nx (fun z => absurd g1 z))
      · obtain ⟨th, st, lw, tv, aw⟩ := (hR.2 u hu).2.2.2.1 (Or.inl g1)
        obtain ⟨v1, v2, v3⟩ := tv.2.1 g1
        rw [cc_o] at v3
        have tz : ¬ q_i (T 5 0 u) = 0 := by rw [← ce_i hR.1 (rm_th hu) (by omega)]; exact th
        have oz : ¬ q_i (T 7 0 u) = 0 := by rw [← eo]; exact g1
        have sb := q_subI (x := q_i (S 0 0 3)) (y := q_i (S 21 u 3)) (by omega)
        rw [if_neg tz, if_neg oz, ← et, ← v1]
        by_cases g2 : q_i (S 0 0 3) - q_i (S 21 u 3) = 5
        · have g3 : (q_i (S 0 0 3) - q_i (S 21 u 3)).toInt = 5 := by rw [g2]; rfl
          rw [if_pos g2, if_neg (c := x_ta_isOverdue S u (q_i (S 0 0 3)) = 0) (by unfold x_ta_isOverdue; rw [if_neg g1, if_neg (by rw [g2]; decide)]; decide)]
          refine ih (u + 1) _ _ (by omega) (by omega) ⟨xI_fe_goWrong S u hu hxI hxJ, xJ_wrong hxJ, all_wrong hu hA tz oz, c_wrong hu hxI hxJ hA hR g1 (fun k hk6 => cc_s hk6), ?_⟩
          exact (xt_goWrong (i := u) xt_r).trans hT
        · have g3 : ¬ (q_i (S 0 0 3) - q_i (S 21 u 3)).toInt = 5 := fun z => g2 (Int32.toInt_inj.mp z)
          rw [if_neg g2, if_pos (c := x_ta_isOverdue S u (q_i (S 0 0 3)) = 0) (by unfold x_ta_isOverdue; rw [if_neg g1, if_pos (by rw [Int32.lt_iff_toInt_lt, sb]; show _ < (5 : Int); omega)])]
          exact ih (u + 1) S T (by omega) (by omega) (nx (fun _ => by omega))
set_option maxHeartbeats 4000000 in
theorem c_tickL2 {c : Nat → Int} {a : Int32} {t : Nat} {S0 : q_S} : ∀ (n u : Nat) (S T : q_S), u + n = 7 → u ≤ 6 → Tk c S0 S T → Tk c S0 (x_fe_tick_L2 n S a t u) (m_fm_tick_L2 n T a t u) := by
  intro n
  induction n with
  | zero => intro u S T h1 h2; omega
  | succ n ih =>
    intro u S T h1 h2 hk
    rw [x_fe_tick_L2, m_fm_tick_L2]
    by_cases g : 6 ≤ nI u
    · rw [if_pos g, if_pos g]; exact hk
    · rw [if_neg g, if_neg g, nI_clamp (by omega)]
      have hu : u < 6 := m_lt6 h2 g
      obtain ⟨hxI, hxJ, hA, hR, hT⟩ := id hk
      obtain ⟨hI, hJ, hQ, hZ⟩ := id hA
      have e5 : q_i (S 9 u 6) = q_i (T 5 0 u) := ce_i hR.1 (rm_th hu) (by omega)
      have e10 : q_i (S 9 u 10) = q_i (T 10 0 u) := ce_i hR.1 (rm_st hu) (by omega)
      have et : q_i (S 0 0 3) = q_i (T 0 0 34) := ce_i hR.1 rm_t (by omega)
      have ew : q_l (S 9 u 16) = q_l (T 26 0 u) := (hR.1 _ _ _ _ _ (rm_wk hu) (by omega)).2 rfl
      have next := ih (u + 1) S T (by omega) (by omega) hk
      unfold x_wf_hasSlept
      rw [e5, e10, ew, et]
      by_cases g1 : q_i (T 5 0 u) = 0
      · rw [if_pos g1, if_pos g1, if_pos rfl]; exact next
      · rw [if_neg g1, if_neg g1]
        by_cases g2 : q_i (T 10 0 u) = 2
        · rw [if_pos g2, if_pos g2]
          by_cases g3 : 0 < lg_cmp (q_l (T 26 0 u)) (Int32.toInt64 (q_i (T 0 0 34)))
          · rw [if_pos g3, if_pos g3, if_pos rfl]; exact next
          · rw [if_neg g3, if_neg g3, if_neg (c := (1 : Int32) = 0) (by decide)]
            have th : ¬ q_i (S 9 u 6) = 0 := by rw [e5]; exact g1
            have h5 : ¬ 5 ≤ (q_i (S 9 u 10)).toInt := by rw [e10, g2]; decide
            have hz := hZ u hu g1
            have o1 := rr_rem hu hxI hxJ hI hJ hQ hz (pre_of hu hR) th h5
            have hxI1 := xI_fe_remember S u hu hxI hxJ
            have hxJ1 := xJ_rem (i := u) hxJ
            have o2 := hap_67 (c := c) (a := 6) (b := 0) (d := 0) hu hxI1 hxJ1 (gd_rem hu hI hJ hQ hz) (Or.inl rfl) o1
            rw [← wr_eq] at o2
            refine ih (u + 1) _ _ (by omega) (by omega) ⟨xI_fe_happen _ u 6 0 0 hu hxI1 hxJ1, xJ_hap hxJ1, all_write hu hA g1, ?_, (xt_happen (i := u) (xt_remember xt_r)).trans hT⟩
            refine rl_out (c' := c) hR o2 (fun _ _ => rfl) (xo_happen (xo_remember xo_r)) (xt_happen (xt_remember xt_r)) (mO_write mO_r) (fun x z hx => m_wri_23 T u 6 0 0 x z (by omega)) ?_
            exact there_o hu hR.1 o2 (m_wri_23 T u 6 0 0 5 u (by omega)) th
        · rw [if_neg g2, if_neg g2, if_pos rfl]; exact next
theorem rs_tick {S T : q_S} {k : Nat} {v : Int32} (hk : k < 6) (h : Rs 4 S T k) (hv : v.toInt = (q_i (S 0 0 3)).toInt + 1) : Rs 5 (q_st S 0 0 3 (.int v)) (q_st T 0 0 34 (.int v)) k := by
  have kx : ∀ x z : Nat, x ≠ 0 → q_st S 0 0 3 (.int v) x k z = S x k z := fun x z hx => q_kj hx
  have km : ∀ x z : Nat, x ≠ 0 → q_st T 0 0 34 (.int v) x 0 z = T x 0 z := fun x z hx => q_kj hx
  have hm : mLn (q_st T 0 0 34 (.int v)) = mLn T := mLn_eq (q_st_n _ _ (by omega)) (fun z => km 32 z (by decide))
  obtain ⟨h1, h2, h3, h4, h5⟩ := h
  have htt : hasT (q_st S 0 0 3 (.int v)) (q_st T 0 0 34 (.int v)) k ↔ hasT S T k := by unfold hasT; rw [kx 21 2 (by decide), hm]
  have tpc : pc (q_st T 0 0 34 (.int v)) k = pc T k := pc_eq (km 9 k (by decide)) (km 11 k (by decide))
  refine ⟨?_, ?_, ?_, fun z => ?_, fun z => ?_⟩
  · rw [kx 9 10 (by decide), kx 11 4 (by decide), km 16 k (by decide)]; exact h1
  · rw [kx 9 10 (by decide), kx 9 15 (by decide), km 13 k (by decide)]; exact h2
  · unfold lf Vw at h3 ⊢
    rw [kx 9 6 (by decide), kx 9 7 (by decide), kx 9 10 (by decide), kx 11 3 (by decide), kx 11 4 (by decide), kx 9 13 (by decide), kx 9 14 (by decide), kx 9 8 (by decide), tpc, km 27 k (by decide), km 2 _ (by decide), km 3 _ (by decide)]
    exact h3
  · obtain ⟨q1, q2, q3, q4, q5⟩ := h4 (htt.mp z)
    refine ⟨by rw [kx 9 6 (by decide)]; exact q1, by rw [kx 9 10 (by decide)]; exact q2, lastW_eq q3 (by rw [kx 11 3 (by decide)]) (fun n => by rw [kx 12 n (by decide)]) (fun n => by rw [kx 13 n (by decide)]) (by rw [kx 21 0 (by decide)]), ?_, by rw [kx 9 7 (by decide), kx 9 13 (by decide), kx 21 0 (by decide)]; exact q5⟩
    unfold tkv at q4 ⊢
    rw [kx 21 0 (by decide), kx 21 2 (by decide), kx 21 3 (by decide), kx 21 4 (by decide), q_ss, km 28 k (by decide), km 30 k (by decide), km 31 k (by decide)]
    refine ⟨q4.1, fun q => ⟨(q4.2.1 q).1, ?_, ?_⟩, fun q => ?_⟩
    · have := (q4.2.1 q).2.1; omega
    · have := (q4.2.1 q).2.2; omega
    · rcases q4.2.2 q with q | ⟨q, q'⟩
      · exact Or.inl q
      · exact Or.inr ⟨q, by omega⟩
  · rw [kx 21 1 (by decide)]; exact h5 (fun q => z (htt.mpr q))
theorem all_time {T : q_S} {v : Int32} (hA : mAll T) : mAll (q_st T 0 0 34 (.int v)) := by
  obtain ⟨hI, hJ, hQ, hZ⟩ := hA
  have km : ∀ x z : Nat, x ≠ 0 → q_st T 0 0 34 (.int v) x 0 z = T x 0 z := fun x z hx => q_kj hx
  exact ⟨mIs hI rfl, mJ_eq hJ (fun k => km 1 k (by decide)) (fun k => km 2 k (by decide)) (fun k => km 3 k (by decide)) (fun k => km 4 k (by decide)), mQ_eq hQ (q_st_n _ _ (by omega)) (fun k => km 32 k (by decide)) (fun k => km 7 k (by decide)), mZ2_eq hZ (fun x z hx => km x z (by omega))⟩
def c4 : Nat → Int := fun _ => 4
theorem rl_cc {S T : q_S} (h : Rl (cc 6) S T) : Rl c4 S T := ⟨h.1, fun k hk => by
  have e : cc 6 k = 4 := by unfold cc; rw [if_pos hk]
  have := h.2 k hk
  rw [e] at this
  exact this⟩
set_option maxHeartbeats 4000000 in
theorem c_tickL0 {a : Int32} (ha : a.toInt ≤ 20) : ∀ (n t : Nat) (S T : q_S), t + n = 21 → t ≤ 20 → xI S → xJ S → mAll T → Rl c4 S T → 0 ≤ (q_i (S 0 0 3)).toInt → (q_i (S 0 0 3)).toInt ≤ 1000000 + t → (x_fe_tick_L0 n S a t).1 = (m_fm_tick_L0 n T a t).1 ∧ Rl c4 (x_fe_tick_L0 n S a t).2 (m_fm_tick_L0 n T a t).2 ∧ 0 ≤ (q_i ((x_fe_tick_L0 n S a t).2 0 0 3)).toInt ∧ (q_i ((x_fe_tick_L0 n S a t).2 0 0 3)).toInt ≤ (q_i (S 0 0 3)).toInt + (20 - t) := by
  intro n
  induction n with
  | zero => intro t S T h1 h2; omega
  | succ n ih =>
    intro t S T h1 h2 hxI hxJ hA hR h0 hb
    rw [x_fe_tick_L0, m_fm_tick_L0]
    by_cases g : a ≤ nI t
    · rw [if_pos g, if_pos g]
      exact ⟨ce_i hR.1 rm_t (by omega), hR, h0, by dsimp only; omega⟩
    · rw [if_neg g, if_neg g]
      rw [Int32.le_iff_toInt_le, nI_toInt (by omega)] at g
      have et : q_i (S 0 0 3) = q_i (T 0 0 34) := ce_i hR.1 rm_t (by omega)
      have inc := q_inc (x := q_i (S 0 0 3)) (by omega)
      rw [← et]
      generalize hv : q_i (S 0 0 3) + 1 = v at *
      have k0 : Tk (cc 0) (q_st S 0 0 3 (.int v)) (q_st S 0 0 3 (.int v)) (q_st T 0 0 34 (.int v)) := by
        refine ⟨q_Is hxI rfl, xJ_keep hxJ (fun x y z hh => q_kj (by omega)), all_time hA, ⟨ce_p hR.1 rm_t, fun k hk => ?_⟩, rfl⟩
        have e : cc 0 k = 5 := by unfold cc; rw [if_neg (by omega)]
        rw [e]
        exact rs_tick hk (hR.2 k hk) inc
      have k1 := c_tickL1 (a := a) (t := t) 7 0 _ _ rfl (by decide) k0
      have k2 := c_tickL2 (a := a) (t := t) 7 0 _ _ rfl (by decide) k1
      obtain ⟨y1, y2, y3, y4, y5⟩ := k2
      have e3 : q_i ((x_fe_tick_L2 7 (x_fe_tick_L1 7 (q_st S 0 0 3 (.int v)) a t 0) a t 0) 0 0 3) = v := by rw [y5, q_ss]
      have r := ih (t + 1) _ _ (by omega) (by omega) y1 y2 y3 (rl_cc y4) (by rw [e3]; omega) (by rw [e3]; omega)
      rw [e3] at r
      exact ⟨r.1, r.2.1, r.2.2.1, by omega⟩
theorem c_tick {S T : q_S} (hxI : xI S) (hxJ : xJ S) (hA : mAll T) (h : Rl c4 S T) (h0 : 0 ≤ (q_i (S 0 0 3)).toInt) (hb : (q_i (S 0 0 3)).toInt ≤ 20000) (a : Int32) : (x_fe_tick S a).1 = (m_fm_tick T a).1 ∧ Rl c4 (x_fe_tick S a).2 (m_fm_tick T a).2 ∧ 0 ≤ (q_i ((x_fe_tick S a).2 0 0 3)).toInt ∧ (q_i ((x_fe_tick S a).2 0 0 3)).toInt ≤ (q_i (S 0 0 3)).toInt + 20 := by
  unfold x_fe_tick m_fm_tick m_fm_in
  by_cases g1 : a < 1
  · rw [if_pos g1, if_pos g1, if_pos rfl]; exact ⟨rfl, h, h0, by dsimp only; omega⟩
  · rw [if_neg g1, if_neg g1]
    by_cases g2 : 20 < a
    · have g3 : ¬ a ≤ 20 := by rw [Int32.lt_iff_toInt_lt] at g2; rw [Int32.le_iff_toInt_le]; omega
      rw [if_neg g3, if_pos g2, if_pos rfl]; exact ⟨rfl, h, h0, by dsimp only; omega⟩
    · have g3 : a ≤ 20 := by rw [Int32.lt_iff_toInt_lt] at g2; rw [Int32.le_iff_toInt_le]; omega
      rw [if_pos g3, if_neg g2, if_neg (c := (1 : Int32) = 0) (by decide)]
      have g4 : a.toInt ≤ 20 := Int32.le_iff_toInt_le.mp g3
      have r := c_tickL0 g4 21 0 S T rfl (by decide) hxI hxJ hA h h0 (by omega)
      exact ⟨r.1, r.2.1, r.2.2.1, by have := r.2.2.2; omega⟩
