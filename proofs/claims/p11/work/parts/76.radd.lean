/-! add and change, side by side -/
theorem w_4 (S T : q_S) (y : Int32) : x_fe_isWithin S y 4 = m_fm_in T y 0 3 := by
  unfold x_fe_isWithin m_fm_in
  rw [if_neg (c := (4 : Int32) = 0) (by decide)]
  by_cases g : y < 0
  · rw [if_pos g, if_pos g]
  · rw [if_neg g, if_neg g]
    by_cases g2 : 3 < y
    · rw [if_pos g2, if_pos (by rw [Int32.lt_iff_toInt_lt] at g2; rw [Int32.le_iff_toInt_le]; have g2 : (3 : Int) < y.toInt := g2; show (4 : Int) ≤ y.toInt; omega)]
    · rw [if_neg g2, if_neg (by rw [Int32.lt_iff_toInt_lt] at g2; rw [Int32.le_iff_toInt_le]; have g2 : ¬ (3 : Int) < y.toInt := g2; show ¬ (4 : Int) ≤ y.toInt; omega)]
theorem w_15 (S T : q_S) (y : Int32) : x_fe_isWithin S y 15 = m_fm_in T y 0 14 := by
  unfold x_fe_isWithin m_fm_in
  rw [if_neg (c := (15 : Int32) = 0) (by decide)]
  by_cases g : y < 0
  · rw [if_pos g, if_pos g]
  · rw [if_neg g, if_neg g]
    by_cases g2 : 14 < y
    · rw [if_pos g2, if_pos (by rw [Int32.lt_iff_toInt_lt] at g2; rw [Int32.le_iff_toInt_le]; have g2 : (14 : Int) < y.toInt := g2; show (15 : Int) ≤ y.toInt; omega)]
    · rw [if_neg g2, if_neg (by rw [Int32.lt_iff_toInt_lt] at g2; rw [Int32.le_iff_toInt_le]; have g2 : ¬ (14 : Int) < y.toInt := g2; show ¬ (15 : Int) ≤ y.toInt; omega)]
theorem w_0 (S : q_S) (y : Int32) : x_fe_isWithin S y 0 = 1 := by
  unfold x_fe_isWithin
  rw [if_pos rfl]
theorem w_if {A : Int32} : ((if A = 0 then (0 : Int32) else if (1 : Int32) = 0 then 0 else 1) = 0) ↔ A = 0 := by
  by_cases g : A = 0
  · rw [if_pos g]; exact ⟨fun _ => g, fun _ => rfl⟩
  · rw [if_neg g]; exact ⟨fun z => absurd z (by decide), fun z => absurd z g⟩
theorem gd_0 (S T : q_S) (b d : Int32) : (if x_fe_isWithin S b (xL1 0) = 0 then (0 : Int32) else if x_fe_isWithin S d (xL2 0) = 0 then 0 else 1) = 0 ↔ m_fm_isGood T 0 b d = 0 := by
  have e1 : xL1 0 = 4 := rfl
  have e2 : xL2 0 = 0 := rfl
  rw [e1, e2, w_4 S T b, w_0 S d]
  unfold m_fm_isGood
  rw [if_pos (c := (0 : Int32) = 0) rfl]
  exact w_if
theorem gd_1 (S T : q_S) (b d : Int32) : (if x_fe_isWithin S b (xL1 1) = 0 then (0 : Int32) else if x_fe_isWithin S d (xL2 1) = 0 then 0 else 1) = 0 ↔ m_fm_isGood T 1 b d = 0 := by
  have e1 : xL1 1 = 4 := rfl
  have e2 : xL2 1 = 4 := rfl
  rw [e1, e2, w_4 S T b, w_4 S T d]
  unfold m_fm_isGood
  rw [if_neg (c := (1 : Int32) = 0) (by decide), if_pos (c := (1 : Int32) = 1) rfl]
theorem gd_2 (S T : q_S) (b d : Int32) : (if x_fe_isWithin S b (xL1 2) = 0 then (0 : Int32) else if x_fe_isWithin S d (xL2 2) = 0 then 0 else 1) = 0 ↔ m_fm_isGood T 2 b d = 0 := by
  have e1 : xL1 2 = 4 := rfl
  have e2 : xL2 2 = 4 := rfl
  rw [e1, e2, w_4 S T b, w_4 S T d]
  unfold m_fm_isGood
  rw [if_neg (c := (2 : Int32) = 0) (by decide), if_neg (c := (2 : Int32) = 1) (by decide), if_pos (c := (2 : Int32) = 2) rfl]
theorem gd_3 (S T : q_S) (b d : Int32) : (if x_fe_isWithin S b (xL1 3) = 0 then (0 : Int32) else if x_fe_isWithin S d (xL2 3) = 0 then 0 else 1) = 0 ↔ m_fm_isGood T 3 b d = 0 := by
  have e1 : xL1 3 = 15 := rfl
  have e2 : xL2 3 = 0 := rfl
  rw [e1, e2, w_15 S T b, w_0 S d]
  unfold m_fm_isGood
  rw [if_neg (c := (3 : Int32) = 0) (by decide), if_neg (c := (3 : Int32) = 1) (by decide), if_neg (c := (3 : Int32) = 2) (by decide), if_pos (c := (3 : Int32) = 3) rfl]
  exact w_if
theorem gd_4 (S T : q_S) (b d : Int32) : (if x_fe_isWithin S b (xL1 4) = 0 then (0 : Int32) else if x_fe_isWithin S d (xL2 4) = 0 then 0 else 1) = 0 ↔ m_fm_isGood T 4 b d = 0 := by
  have e1 : xL1 4 = 4 := rfl
  have e2 : xL2 4 = 15 := rfl
  rw [e1, e2, w_4 S T b, w_15 S T d]
  unfold m_fm_isGood
  rw [if_neg (c := (4 : Int32) = 0) (by decide), if_neg (c := (4 : Int32) = 1) (by decide), if_neg (c := (4 : Int32) = 2) (by decide), if_neg (c := (4 : Int32) = 3) (by decide), if_pos (c := (4 : Int32) = 4) rfl]
theorem gd_5 (S T : q_S) (b d : Int32) : (if x_fe_isWithin S b (xL1 5) = 0 then (0 : Int32) else if x_fe_isWithin S d (xL2 5) = 0 then 0 else 1) = 0 ↔ m_fm_isGood T 5 b d = 0 := by
  have e1 : xL1 5 = 4 := rfl
  have e2 : xL2 5 = 4 := rfl
  rw [e1, e2, w_4 S T b, w_4 S T d]
  unfold m_fm_isGood
  rw [if_neg (c := (5 : Int32) = 0) (by decide), if_neg (c := (5 : Int32) = 1) (by decide), if_neg (c := (5 : Int32) = 2) (by decide), if_neg (c := (5 : Int32) = 3) (by decide), if_neg (c := (5 : Int32) = 4) (by decide), if_pos (c := (5 : Int32) = 5) rfl]
theorem gd_6 (S T : q_S) (b d : Int32) : (if x_fe_isWithin S b (xL1 6) = 0 then (0 : Int32) else if x_fe_isWithin S d (xL2 6) = 0 then 0 else 1) = 0 ↔ m_fm_isGood T 6 b d = 0 := by
  have e1 : xL1 6 = 4 := rfl
  have e2 : xL2 6 = 0 := rfl
  rw [e1, e2, w_4 S T b, w_0 S d]
  unfold m_fm_isGood
  rw [if_neg (c := (6 : Int32) = 0) (by decide), if_neg (c := (6 : Int32) = 1) (by decide), if_neg (c := (6 : Int32) = 2) (by decide), if_neg (c := (6 : Int32) = 3) (by decide), if_neg (c := (6 : Int32) = 4) (by decide), if_neg (c := (6 : Int32) = 5) (by decide), if_pos (c := (6 : Int32) = 6) rfl]
  exact w_if
theorem gd_7 (S T : q_S) (b d : Int32) : (if x_fe_isWithin S b (xL1 7) = 0 then (0 : Int32) else if x_fe_isWithin S d (xL2 7) = 0 then 0 else 1) = 0 ↔ m_fm_isGood T 7 b d = 0 := by
  have e1 : xL1 7 = 4 := rfl
  have e2 : xL2 7 = 4 := rfl
  rw [e1, e2, w_4 S T b, w_4 S T d]
  unfold m_fm_isGood
  rw [if_neg (c := (7 : Int32) = 0) (by decide), if_neg (c := (7 : Int32) = 1) (by decide), if_neg (c := (7 : Int32) = 2) (by decide), if_neg (c := (7 : Int32) = 3) (by decide), if_neg (c := (7 : Int32) = 4) (by decide), if_neg (c := (7 : Int32) = 5) (by decide), if_neg (c := (7 : Int32) = 6) (by decide), if_pos (c := (7 : Int32) = 7) rfl]
theorem gd_8 (S T : q_S) (b d : Int32) : (if x_fe_isWithin S b (xL1 8) = 0 then (0 : Int32) else if x_fe_isWithin S d (xL2 8) = 0 then 0 else 1) = 0 ↔ m_fm_isGood T 8 b d = 0 := by
  have e1 : xL1 8 = 4 := rfl
  have e2 : xL2 8 = 4 := rfl
  rw [e1, e2, w_4 S T b, w_4 S T d]
  unfold m_fm_isGood
  rw [if_neg (c := (8 : Int32) = 0) (by decide), if_neg (c := (8 : Int32) = 1) (by decide), if_neg (c := (8 : Int32) = 2) (by decide), if_neg (c := (8 : Int32) = 3) (by decide), if_neg (c := (8 : Int32) = 4) (by decide), if_neg (c := (8 : Int32) = 5) (by decide), if_neg (c := (8 : Int32) = 6) (by decide), if_neg (c := (8 : Int32) = 7) (by decide), if_pos (c := (8 : Int32) = 8) rfl]
theorem gd_9 (S T : q_S) (b d : Int32) : (if x_fe_isWithin S b (xL1 9) = 0 then (0 : Int32) else if x_fe_isWithin S d (xL2 9) = 0 then 0 else 1) = 0 ↔ m_fm_isGood T 9 b d = 0 := by
  have e1 : xL1 9 = 0 := rfl
  have e2 : xL2 9 = 0 := rfl
  rw [e1, e2, w_0 S b, w_0 S d]
  unfold m_fm_isGood
  rw [if_neg (c := (9 : Int32) = 0) (by decide), if_neg (c := (9 : Int32) = 1) (by decide), if_neg (c := (9 : Int32) = 2) (by decide), if_neg (c := (9 : Int32) = 3) (by decide), if_neg (c := (9 : Int32) = 4) (by decide), if_neg (c := (9 : Int32) = 5) (by decide), if_neg (c := (9 : Int32) = 6) (by decide), if_neg (c := (9 : Int32) = 7) (by decide), if_neg (c := (9 : Int32) = 8) (by decide), if_pos (c := (9 : Int32) = 9) rfl, if_pos (c := (9 : Int32) = 9) rfl]
  decide
theorem gd_10 (S T : q_S) (b d : Int32) : (if x_fe_isWithin S b (xL1 10) = 0 then (0 : Int32) else if x_fe_isWithin S d (xL2 10) = 0 then 0 else 1) = 0 ↔ m_fm_isGood T 10 b d = 0 := by
  have e1 : xL1 10 = 4 := rfl
  have e2 : xL2 10 = 0 := rfl
  rw [e1, e2, w_4 S T b, w_0 S d]
  unfold m_fm_isGood
  rw [if_neg (c := (10 : Int32) = 0) (by decide), if_neg (c := (10 : Int32) = 1) (by decide), if_neg (c := (10 : Int32) = 2) (by decide), if_neg (c := (10 : Int32) = 3) (by decide), if_neg (c := (10 : Int32) = 4) (by decide), if_neg (c := (10 : Int32) = 5) (by decide), if_neg (c := (10 : Int32) = 6) (by decide), if_neg (c := (10 : Int32) = 7) (by decide), if_neg (c := (10 : Int32) = 8) (by decide), if_neg (c := (10 : Int32) = 9) (by decide), if_pos (c := (10 : Int32) = 10) rfl]
  exact w_if
theorem good_eq (S T : q_S) (a b d : Int32) : x_fe_isInstruction S a b d = 0 ↔ m_fm_isGood T a b d = 0 := by
  have bad : (a.toInt < 0 ∨ 10 < a.toInt) → m_fm_isGood T a b d = 0 := fun h => by
    by_cases q : m_fm_isGood T a b d = 0
    · exact q
    · exfalso
      rcases m_goodO q with rfl | rfl | rfl | rfl | rfl | rfl | rfl | rfl | rfl | rfl | rfl <;> revert h <;> decide
  unfold x_fe_isInstruction
  by_cases g1 : a < 0
  · rw [if_pos g1]
    exact ⟨fun _ => bad (Or.inl (by rw [Int32.lt_iff_toInt_lt] at g1; exact g1)), fun _ => rfl⟩
  · rw [if_neg g1]
    by_cases g2 : 10 < a
    · rw [if_pos g2]
      exact ⟨fun _ => bad (Or.inr (by rw [Int32.lt_iff_toInt_lt] at g2; exact g2)), fun _ => rfl⟩
    · rw [if_neg g2]
      obtain ⟨j, hj, rfl⟩ := nI_of2 (M := 10) (n := 10) rfl g1 (by rw [Int32.lt_iff_toInt_lt] at g2; rw [Int32.le_iff_toInt_le]; omega)
      rw [nI_clamp (by omega)]
      match j, hj with
      | 0, _ => exact gd_0 S T b d
      | 1, _ => exact gd_1 S T b d
      | 2, _ => exact gd_2 S T b d
      | 3, _ => exact gd_3 S T b d
      | 4, _ => exact gd_4 S T b d
      | 5, _ => exact gd_5 S T b d
      | 6, _ => exact gd_6 S T b d
      | 7, _ => exact gd_7 S T b d
      | 8, _ => exact gd_8 S T b d
      | 9, _ => exact gd_9 S T b d
      | 10, _ => exact gd_10 S T b d
      | j + 11, h => exact absurd h (by omega)
theorem prog_eq (S T : q_S) (a : Int32) : x_fe_isProgram S a = m_fm_in T a 0 2 := by
  unfold x_fe_isProgram m_fm_in
  by_cases g : a < 0
  · rw [if_pos g, if_pos g]
  · rw [if_neg g, if_neg g]
    by_cases g2 : 2 < a
    · rw [if_pos g2, if_pos (by rw [Int32.lt_iff_toInt_lt] at g2; rw [Int32.le_iff_toInt_le]; have g2 : (2 : Int) < a.toInt := g2; show (3 : Int) ≤ a.toInt; omega)]
    · rw [if_neg g2, if_neg (by rw [Int32.lt_iff_toInt_lt] at g2; rw [Int32.le_iff_toInt_le]; have g2 : ¬ (2 : Int) < a.toInt := g2; show ¬ (3 : Int) ≤ a.toInt; omega)]
theorem ce_faL {a : Int32} : ∀ (n t : Nat) (S T : q_S), t + n = 7 → t ≤ 6 → Ce 6 S T → Ce 6 (x_fe_forgetAllOf_L0 n S a t) (m_fm_forgetAll_L0 n T a t) := by
  intro n
  induction n with
  | zero => intro t S T h1 h2; omega
  | succ n ih =>
    intro t S T h1 h2 h
    rw [x_fe_forgetAllOf_L0, m_fm_forgetAll_L0]
    by_cases g : 6 ≤ nI t
    · rw [if_pos g, if_pos g]; exact h
    · rw [if_neg g, if_neg g, nI_clamp (by omega)]
      have ht : t < 6 := m_lt6 h2 g
      have next := ih (t + 1) S T (by omega) (by omega) h
      rw [ce_i h (rm_th ht) (by omega), ce_i h (rm_pg ht) (by omega)]
      by_cases g1 : q_i (T 5 0 t) = 0
      · rw [if_pos g1, if_pos g1]; exact next
      · rw [if_neg g1, if_neg g1]
        by_cases g2 : q_i (T 9 0 t) = a
        · rw [if_pos g2, if_pos g2]
          by_cases g3 : 5 ≤ q_i (T 10 0 t)
          · rw [if_pos g3, if_neg (by rw [en_x, ce_i h (rm_st ht) (by omega)]; exact fun z => z (Int32.le_iff_toInt_le.mp g3))]; exact next
          · rw [if_neg g3, if_pos (by rw [en_x, ce_i h (rm_st ht) (by omega)]; exact fun z => g3 (Int32.le_iff_toInt_le.mpr z))]
            exact ih (t + 1) _ _ (by omega) (by omega) (ce_p h (rm_fo ht))
        · rw [if_neg g2, if_neg g2]; exact next
theorem ce_fa {a : Int32} {S T : q_S} (h : Ce 6 S T) : Ce 6 (x_fe_forgetAllOf S a) (m_fm_forgetAll T a) := ce_faL 7 0 S T rfl (by decide) h
theorem x_faL {a : Int32} : ∀ (n t : Nat) (S : q_S) (x y z : Nat), ¬ (x = 9 ∧ z = 7) → x_fe_forgetAllOf_L0 n S a t x y z = S x y z := by
  intro n
  induction n with
  | zero => intro t S x y z h; rw [x_fe_forgetAllOf_L0]
  | succ n ih =>
    intro t S x y z h
    rw [x_fe_forgetAllOf_L0]
    repeat' split
    · rfl
    · exact ih _ _ x y z h
    · rw [ih _ _ x y z h, q_st_n _ _ (by omega)]
    · exact ih _ _ x y z h
    · exact ih _ _ x y z h
/-- a program changed, and its workflows forgotten -/
theorem rs_prog {c : Int} {S T S' T' : q_S} {k : Nat} (h : Rs c S T k) (hx : ∀ x z : Nat, 9 ≤ x → ¬ (x = 9 ∧ z = 7) → S' x k z = S x k z) (h0 : q_i (S' 0 0 3) = q_i (S 0 0 3)) (hm : ∀ x : Nat, (x = 9 ∨ x = 11 ∨ x = 13 ∨ x = 16 ∨ x = 27 ∨ x = 28 ∨ x = 30 ∨ x = 31) → T' x 0 k = T x 0 k) (hl : mLn T' = mLn T) (hf : q_i (S' 9 k 7) = 0 → q_i (S 9 k 7) = 0) (hp : q_i (S' 9 k 7) = 0 → ¬ q_i (S 9 k 6) = 0 → ¬ 5 ≤ (q_i (S 9 k 10)).toInt → (q_i (S 9 k 10) = 1 ∨ q_i (S 9 k 10) = 3) → T' 2 0 (pc T k) = T 2 0 (pc T k) ∧ T' 3 0 (pc T k) = T 3 0 (pc T k)) : Rs c S' T' k := by
  obtain ⟨h1, h2, h3, h4, h5⟩ := h
  have htt : hasT S' T' k ↔ hasT S T k := by unfold hasT; rw [hx 21 2 (by omega) (by omega), hl]
  refine ⟨?_, ?_, fun z1 z2 z3 => ?_, fun z => ?_, fun z => ?_⟩
  · rw [hx 9 10 (by omega) (by omega), hx 11 4 (by omega) (by omega), hm 16 (by omega)]; exact h1
  · rw [hx 9 10 (by omega) (by omega), hx 9 15 (by omega) (by omega), hm 13 (by omega)]; exact h2
  · rw [hx 9 6 (by omega) (by omega)] at z1
    rw [hx 9 10 (by omega) (by omega)] at z3
    obtain ⟨p1, p2, p3⟩ := h3 z1 (hf z2) z3
    have tpc : pc T' k = pc T k := pc_eq (hm 9 (by omega)) (hm 11 (by omega))
    obtain ⟨w1, w2, w3, w4⟩ := p3
    unfold lf Vw
    unfold lf at p2
    rw [hx 9 10 (by omega) (by omega), hx 11 3 (by omega) (by omega), hx 11 4 (by omega) (by omega), hx 9 13 (by omega) (by omega), hx 9 14 (by omega) (by omega), hx 9 8 (by omega) (by omega), tpc, hm 27 (by omega)]
    refine ⟨p1, p2, w1, fun q => ?_, fun q => ?_, w4⟩
    · rw [(hp z2 z1 z3 (Or.inr q)).1]; exact w2 q
    · rw [(hp z2 z1 z3 q).2]; exact w3 q
  · obtain ⟨q1, q2, q3, q4, q5⟩ := h4 (htt.mp z)
    refine ⟨by rw [hx 9 6 (by omega) (by omega)]; exact q1, by rw [hx 9 10 (by omega) (by omega)]; exact q2, lastW_eq q3 (by rw [hx 11 3 (by omega) (by omega)]) (fun n => by rw [hx 12 n (by omega) (by omega)]) (fun n => by rw [hx 13 n (by omega) (by omega)]) (by rw [hx 21 0 (by omega) (by omega)]), ?_, fun z => by rw [hx 9 13 (by omega) (by omega), hx 21 0 (by omega) (by omega)]; exact q5 (hf z)⟩
    unfold tkv at q4 ⊢
    rw [hx 21 0 (by omega) (by omega), hx 21 2 (by omega) (by omega), hx 21 3 (by omega) (by omega), hx 21 4 (by omega) (by omega), h0, hm 28 (by omega), hm 30 (by omega), hm 31 (by omega)]
    exact q4
  · rw [hx 21 1 (by omega) (by omega)]; exact h5 (fun q => z (htt.mpr q))
/-- behind the writing of an instruction at sl of program a -/
theorem rl_prog {c : Nat → Int} {S T S1 T1 : q_S} {a : Int32} {sl : Nat} (hA : mAll T) (h : Rl c S T) (ha : 0 ≤ a.toInt ∧ a.toInt ≤ 2) (hsl : 14 * a.toNatClampNeg ≤ sl ∧ sl < 14 * a.toNatClampNeg + 14) (hc : Ce 6 S1 T1) (hx : ∀ x y z : Nat, x = 0 ∨ 9 ≤ x → S1 x y z = S x y z) (hm : ∀ x z : Nat, x = 0 ∨ 4 < x → T1 x 0 z = T x 0 z) (hn : ∀ x z : Nat, x = 2 ∨ x = 3 → z ≠ sl → T1 x 0 z = T x 0 z) : Rl c (x_fe_forgetAllOf S1 a) (m_fm_forgetAll T1 a) := by
  obtain ⟨hI, hJ, hQ, hZ⟩ := hA
  have hce := ce_fa (a := a) hc
  have xo : ∀ x y z : Nat, ¬ (x = 9 ∧ z = 7) → x_fe_forgetAllOf S1 a x y z = S1 x y z := fun x y z hh => x_faL 7 0 S1 x y z hh
  have mo : ∀ x z : Nat, x ≠ 6 → m_fm_forgetAll T1 a x 0 z = T1 x 0 z := fun x z hh => mK_fm_forgetAll T1 a x 0 z hh
  refine ⟨hce, fun k hk => rs_prog (h.2 k hk) (fun x z h9 hh => by rw [xo x k z hh]; exact hx x k z (Or.inr h9)) (by rw [xo 0 0 3 (by omega), hx 0 0 3 (Or.inl rfl)]) (fun x hh => by rw [mo x k (by omega)]; exact hm x k (by omega)) (mLn_eq (by rw [mo 0 33 (by decide)]; exact hm 0 33 (Or.inl rfl)) (fun z => by rw [mo 32 z (by decide)]; exact hm 32 z (by omega))) (fun z => ?_) (fun z z1 z2 z3 => ?_)⟩
  · rw [ce_i hce (rm_fo hk) (by omega)] at z
    have r := (m_faL a 7 T1 0 rfl (by decide) k z).1
    rw [hm 6 k (by omega)] at r
    rw [ce_i h.1 (rm_fo hk) (by omega)]
    exact r
  · rw [ce_i hce (rm_fo hk) (by omega)] at z
    have r := m_faL a 7 T1 0 rfl (by decide) k z
    have f0 := r.1
    have r2 := r.2 (by omega) hk
    rw [hm 5 k (by omega), hm 9 k (by omega), hm 10 k (by omega)] at r2
    rw [hm 6 k (by omega)] at f0
    have tz : ¬ q_i (T 5 0 k) = 0 := by rw [← ce_i h.1 (rm_th hk) (by omega)]; exact z1
    have e10 : q_i (S 9 k 10) = q_i (T 10 0 k) := ce_i h.1 (rm_st hk) (by omega)
    have np : ¬ q_i (T 9 0 k) = a := fun q => r2 tz ⟨q, fun z5 => z2 (by rw [e10]; exact Int32.le_iff_toInt_le.mp z5)⟩
    have hV := (hZ k hk tz).2.2 f0
    have p13 := mV_13 hI hV (by rw [← e10]; exact z3.elim (fun q => Or.inl q) (fun q => Or.inr (Or.inr q)))
    have b9 : 0 ≤ (q_i (T 9 0 k)).toInt ∧ (q_i (T 9 0 k)).toInt ≤ 2 := hI 9 0 k
    have b11 : 0 ≤ (q_i (T 11 0 k)).toInt ∧ (q_i (T 11 0 k)).toInt ≤ 14 := hI 11 0 k
    have c9 := q_clI b9.1
    have c11 := q_clI b11.1
    have ca := q_clI ha.1
    have nt : ¬ (q_i (T 9 0 k)).toInt = a.toInt := fun q => np (Int32.toInt_inj.mp q)
    have ne : pc T k ≠ sl := by unfold pc; omega
    exact ⟨by rw [mo 2 _ (by decide)]; exact hn 2 _ (Or.inl rfl) ne, by rw [mo 3 _ (by decide)]; exact hn 3 _ (Or.inr rfl) ne⟩
theorem in_2 {T : q_S} {a : Int32} (h : ¬ m_fm_in T a 0 2 = 0) : 0 ≤ a.toInt ∧ a.toInt ≤ 2 := mF_in2 (n := 2) rfl h
set_option maxHeartbeats 4000000 in
theorem c_change {c : Nat → Int} {S T : q_S} (hA : mAll T) (h : Rl c S T) (a b d f g : Int32) : (x_fe_change S a b d f g).1 = (m_fm_change T a b d f g).1 ∧ Rl c (x_fe_change S a b d f g).2 (m_fm_change T a b d f g).2 := by
  obtain ⟨hI, hJ, hQ, hZ⟩ := id hA
  unfold x_fe_change m_fm_change
  rw [prog_eq S T]
  by_cases g0 : m_fm_in T a 0 2 = 0
  · rw [if_pos g0, if_pos g0]; exact ⟨rfl, h⟩
  · rw [if_neg g0, if_neg g0]
    have ha := in_2 g0
    have ca := q_clI ha.1
    by_cases g1 : m_fm_isGood T d f g = 0
    · rw [if_pos g1, if_pos ((good_eq S T d f g).mpr g1)]; exact ⟨rfl, h⟩
    · rw [if_neg g1, if_neg (fun z => g1 ((good_eq S T d f g).mp z))]
      have p3 : a.toNatClampNeg < 3 := by omega
      have e5 : q_i (S 5 a.toNatClampNeg 3) = q_i (T 4 0 a.toNatClampNeg) := ce_i h.1 (rm_sz p3) (by omega)
      have b4 : 0 ≤ (q_i (T 4 0 a.toNatClampNeg)).toInt ∧ (q_i (T 4 0 a.toNatClampNeg)).toInt ≤ 14 := hI 4 0 _
      have dc := q_dec (x := q_i (T 4 0 a.toNatClampNeg)) (by omega)
      have hh : x_pr_has S a.toNatClampNeg b = m_fm_in T b 0 (q_i (T 4 0 a.toNatClampNeg) - 1) := by
        unfold x_pr_has m_fm_in
        rw [e5]
        by_cases q : b < 0
        · rw [if_pos q, if_pos q]
        · rw [if_neg q, if_neg q]
          by_cases q2 : q_i (T 4 0 a.toNatClampNeg) - 1 < b
          · rw [if_pos q2, if_pos (by rw [Int32.lt_iff_toInt_lt, dc] at q2; rw [Int32.le_iff_toInt_le]; omega)]
          · rw [if_neg q2, if_neg (by rw [Int32.lt_iff_toInt_lt, dc] at q2; rw [Int32.le_iff_toInt_le]; omega)]
      rw [hh]
      by_cases g2 : m_fm_in T b 0 (q_i (T 4 0 a.toNatClampNeg) - 1) = 0
      · rw [if_pos g2, if_pos g2]; exact ⟨rfl, h⟩
      · rw [if_neg g2, if_neg g2]
        refine ⟨rfl, ?_⟩
        have bb := mF_in2 (n := (q_i (T 4 0 a.toNatClampNeg)).toInt - 1) dc g2
        have cb := q_clI bb.1
        have hm14 := q_mulI (c := 14) (x := a) (k := 14) rfl (by omega)
        have hs14 := q_addI (x := 14 * a) (y := b) (by omega)
        have es : ((14 * a) + b).toNatClampNeg = 14 * a.toNatClampNeg + b.toNatClampNeg := q_tn (by rw [hs14, hm14]; omega)
        have hp : x_pr_put S a.toNatClampNeg b d f g = q_st (q_st (q_st S 6 a.toNatClampNeg b.toNatClampNeg (.int d)) 7 a.toNatClampNeg b.toNatClampNeg (.int f)) 8 a.toNatClampNeg b.toNatClampNeg (.int g) := by
          unfold x_pr_put
          rw [if_neg (by rw [hh]; exact g2)]
        show Rl c (x_fe_forgetAllOf (x_pr_put S a.toNatClampNeg b d f g) a) (m_fm_forgetAll (m_fm_set T ((14 * a) + b) d f g) a)
        rw [hp]
        unfold m_fm_set
        rw [es]
        refine rl_prog hA h ha (sl := 14 * a.toNatClampNeg + b.toNatClampNeg) (by omega) (ce_p (ce_p (ce_p h.1 (rm_op p3 (by omega))) (rm_one p3 (by omega))) (rm_two p3 (by omega))) (fun x y z hx => ?_) (fun x z hx => ?_) (fun x z hx hz => ?_)
        · rw [q_kj (by omega), q_kj (by omega), q_kj (by omega)]
        · rw [q_kj (by omega), q_kj (by omega), q_kj (by omega)]
        · rw [q_st_n _ _ (by omega), q_st_n _ _ (by omega), q_st_n _ _ (by omega)]
set_option maxHeartbeats 4000000 in
theorem c_add {c : Nat → Int} {S T : q_S} (hA : mAll T) (h : Rl c S T) (a b d f : Int32) : (x_fe_add S a b d f).1 = (m_fm_add T a b d f).1 ∧ Rl c (x_fe_add S a b d f).2 (m_fm_add T a b d f).2 := by
  obtain ⟨hI, hJ, hQ, hZ⟩ := id hA
  unfold x_fe_add m_fm_add
  rw [prog_eq S T]
  by_cases g0 : m_fm_in T a 0 2 = 0
  · rw [if_pos g0, if_pos g0]; exact ⟨rfl, h⟩
  · rw [if_neg g0, if_neg g0]
    have ha := in_2 g0
    have ca := q_clI ha.1
    by_cases g1 : m_fm_isGood T b d f = 0
    · rw [if_pos g1, if_pos ((good_eq S T b d f).mpr g1)]; exact ⟨rfl, h⟩
    · rw [if_neg g1, if_neg (fun z => g1 ((good_eq S T b d f).mp z))]
      have p3 : a.toNatClampNeg < 3 := by omega
      have e5 : q_i (S 5 a.toNatClampNeg 3) = q_i (T 4 0 a.toNatClampNeg) := ce_i h.1 (rm_sz p3) (by omega)
      have b4 : 0 ≤ (q_i (T 4 0 a.toNatClampNeg)).toInt ∧ (q_i (T 4 0 a.toNatClampNeg)).toInt ≤ 14 := hI 4 0 _
      have c4' := q_clI b4.1
      rw [e5]
      by_cases g2 : q_i (T 4 0 a.toNatClampNeg) = 14
      · rw [if_pos g2, if_neg (by rw [g2]; decide)]; exact ⟨rfl, h⟩
      · have g2' := lv_neT g2 q_n14
        rw [if_neg g2, if_pos (by rw [Int32.lt_iff_toInt_lt]; show _ < (14 : Int); omega)]
        have ic := q_inc (x := q_i (T 4 0 a.toNatClampNeg)) (by omega)
        have dc := q_dec (x := q_i (T 4 0 a.toNatClampNeg) + 1) (by omega)
        refine ⟨Int32.toInt_inj.mp (by show (q_i (T 4 0 a.toNatClampNeg)).toInt = (q_i (T 4 0 a.toNatClampNeg) + 1 - 1).toInt; omega), ?_⟩
        have hm14 := q_mulI (c := 14) (x := a) (k := 14) rfl (by omega)
        have hs14 := q_addI (x := 14 * a) (y := q_i (T 4 0 a.toNatClampNeg)) (by omega)
        have es : ((14 * a) + q_i (T 4 0 a.toNatClampNeg)).toNatClampNeg = 14 * a.toNatClampNeg + (q_i (T 4 0 a.toNatClampNeg)).toNatClampNeg := q_tn (by rw [hs14, hm14]; omega)
        show Rl c (x_fe_forgetAllOf (x_pr_put (q_st S 5 a.toNatClampNeg 3 (.int (q_i (T 4 0 a.toNatClampNeg) + 1))) a.toNatClampNeg (q_i (T 4 0 a.toNatClampNeg)) b d f) a) (m_fm_forgetAll (q_st (m_fm_set T ((14 * a) + (q_i (T 4 0 a.toNatClampNeg))) b d f) 4 0 a.toNatClampNeg (.int ((q_i (T 4 0 a.toNatClampNeg)) + 1))) a)
        unfold m_fm_set
        rw [es]
        generalize q_i (T 4 0 a.toNatClampNeg) = sz at *
        generalize a.toNatClampNeg = p at *
        have hp : x_pr_put (q_st S 5 p 3 (.int (sz + 1))) p sz b d f = q_st (q_st (q_st (q_st S 6 p sz.toNatClampNeg (.int b)) 7 p sz.toNatClampNeg (.int d)) 8 p sz.toNatClampNeg (.int f)) 5 p 3 (.int (sz + 1)) := by
          unfold x_pr_put
          rw [if_neg (by
            unfold x_pr_has
            rw [q_ss, if_neg (by rw [Int32.lt_iff_toInt_lt]; show ¬ _ < (0 : Int); omega), if_neg (by rw [Int32.le_iff_toInt_le, ic]; omega)]
            decide)]
          rw [q_comm (j := 5) (j' := 6) (by decide), q_comm (j := 5) (j' := 7) (by decide), q_comm (j := 5) (j' := 8) (by decide)]
        rw [hp]
        refine rl_prog hA h ha (sl := 14 * p + sz.toNatClampNeg) (by have := q_clI ha.1; omega) (ce_p (ce_p (ce_p (ce_p h.1 (rm_op p3 (by omega))) (rm_one p3 (by omega))) (rm_two p3 (by omega))) (rm_sz p3)) (fun x y z hx => ?_) (fun x z hx => ?_) (fun x z hx hz => ?_)
        · rw [q_kj (by omega), q_kj (by omega), q_kj (by omega), q_kj (by omega)]
        · rw [q_kj (by omega), q_kj (by omega), q_kj (by omega), q_kj (by omega)]
        · rw [q_st_n _ _ (by omega), q_st_n _ _ (by omega), q_st_n _ _ (by omega), q_st_n _ _ (by omega)]
