/-! what only looks, side by side -/
theorem in_0 {T : q_S} {y m : Int32} {n : Int} (hm : m.toInt = n) : m_fm_in T y 0 m = 0 ↔ (y.toInt < 0 ∨ n < y.toInt) := by
  unfold m_fm_in
  by_cases g : y < 0
  · rw [if_pos g]
    exact ⟨fun _ => Or.inl (Int32.lt_iff_toInt_lt.mp g), fun _ => rfl⟩
  · rw [if_neg g]
    have g' : ¬ y.toInt < 0 := fun z => g (Int32.lt_iff_toInt_lt.mpr z)
    by_cases g2 : m < y
    · rw [if_pos g2]
      have := Int32.lt_iff_toInt_lt.mp g2
      exact ⟨fun _ => Or.inr (by omega), fun _ => rfl⟩
    · rw [if_neg g2]
      have : ¬ m.toInt < y.toInt := fun z => g2 (Int32.lt_iff_toInt_lt.mpr z)
      exact ⟨fun z => absurd z (by decide), fun z => by omega⟩
theorem in_p {T : q_S} {y m : Int32} {n : Int} (hm : m.toInt = n) (h : y.toInt < 0 ∨ n < y.toInt) : m_fm_in T y 0 m = 0 := (in_0 hm).mpr h
theorem in_n {T : q_S} {y m : Int32} {n : Int} (hm : m.toInt = n) (h : ¬ (y.toInt < 0 ∨ n < y.toInt)) : ¬ m_fm_in T y 0 m = 0 := fun z => h ((in_0 hm).mp z)
theorem i_lt {a b : Int32} : a < b ↔ a.toInt < b.toInt := Int32.lt_iff_toInt_lt
theorem i_le {a b : Int32} : a ≤ b ↔ a.toInt ≤ b.toInt := Int32.le_iff_toInt_le
theorem c_line {S T : q_S} (hI : mI T) (h : Ce 6 S T) (a : Int32) : x_fe_line S a = m_fm_line T a := by
  have b33 : 0 ≤ (q_i (T 0 0 33)).toInt ∧ (q_i (T 0 0 33)).toInt ≤ 6 := hI 0 0 33
  have dc := q_dec (x := q_i (T 0 0 33)) (by omega)
  unfold x_fe_line m_fm_line
  rw [ce_i h rm_qs (by omega)]
  by_cases g : a = (-1)
  · rw [if_pos g, if_pos g]
  · rw [if_neg g, if_neg g]
    by_cases g1 : a < 0
    · rw [if_pos g1, if_pos ((in_0 dc).mpr (Or.inl (i_lt.mp g1)))]
    · have g1' : ¬ a.toInt < 0 := fun z => g1 (i_lt.mpr z)
      rw [if_neg g1]
      by_cases g2 : q_i (T 0 0 33) ≤ a
      · rw [if_pos g2, if_pos ((in_0 dc).mpr (Or.inr (by have := i_le.mp g2; omega)))]
      · have g2' : ¬ (q_i (T 0 0 33)).toInt ≤ a.toInt := fun z => g2 (i_le.mpr z)
        have ca := q_cl g1
        rw [if_neg g2, if_neg (fun z => by have := (in_0 dc).mp z; omega), ce_i h (rm_q (k := a.toNatClampNeg) (by omega)) (by omega)]
theorem c_entry {S T : q_S} (hI : mI T) (h : Ce 6 S T) (a b d : Int32) : x_fe_entry S a b d = m_fm_entry T a b d := by
  unfold x_fe_entry m_fm_entry
  by_cases ga : a < 0
  · rw [if_pos ga, if_pos (c := m_fm_in T a 0 5 = 0) (in_p (n := 5) rfl (Or.inl (i_lt.mp ga)))]
  · have ga' : ¬ a.toInt < 0 := fun z => ga (i_lt.mpr z)
    rw [if_neg ga]
    by_cases ga2 : 6 ≤ a
    · have : (6 : Int) ≤ a.toInt := i_le.mp ga2
      rw [if_pos ga2, if_pos (c := m_fm_in T a 0 5 = 0) (in_p (n := 5) rfl (Or.inr (by omega)))]
    · have ga3 : ¬ (6 : Int) ≤ a.toInt := fun z => ga2 (i_le.mpr z)
      rw [if_neg ga2, if_neg (c := m_fm_in T a 0 5 = 0) (in_n (n := 5) rfl (by omega))]
      have hi : a.toNatClampNeg < 6 := by have := q_cl ga; omega
      by_cases gd : d < 0
      · rw [if_pos gd, if_pos (c := m_fm_in T d 0 2 = 0) (in_p (n := 2) rfl (Or.inl (i_lt.mp gd)))]
      · have gd' : ¬ d.toInt < 0 := fun z => gd (i_lt.mpr z)
        rw [if_neg gd]
        by_cases gd2 : d ≤ 2
        · have : d.toInt ≤ (2 : Int) := i_le.mp gd2
          rw [if_pos gd2, if_neg (c := m_fm_in T d 0 2 = 0) (in_n (n := 2) rfl (by omega))]
          rw [ce_i h (rm_th hi) (by omega)]
          by_cases gt : q_i (T 5 0 a.toNatClampNeg) = 0
          · rw [if_pos gt, if_pos gt]
          · rw [if_neg gt, if_neg gt]
            have b15 : 0 ≤ (q_i (T 15 0 a.toNatClampNeg)).toInt ∧ (q_i (T 15 0 a.toNatClampNeg)).toInt ≤ 20 := hI 15 0 _
            have dc := q_dec (x := q_i (T 15 0 a.toNatClampNeg)) (by omega)
            by_cases gb : b < 0
            · rw [if_pos gb, if_pos (c := m_fm_in T b 0 (q_i (T 15 0 a.toNatClampNeg) - 1) = 0) (in_p dc (Or.inl (i_lt.mp gb)))]
            · have gb' : ¬ b.toInt < 0 := fun z => gb (i_lt.mpr z)
              rw [if_neg gb, ce_i h (rm_hs hi) (by omega)]
              by_cases gb2 : b < q_i (T 15 0 a.toNatClampNeg)
              · have : b.toInt < (q_i (T 15 0 a.toNatClampNeg)).toInt := i_lt.mp gb2
                have cb := q_cl gb
                rw [if_pos gb2, if_neg (c := m_fm_in T b 0 (q_i (T 15 0 a.toNatClampNeg) - 1) = 0) (in_n dc (by omega)), ce_i h (rm_s hi (k := b.toNatClampNeg) (by omega)) (by omega), ce_i h (rm_n hi (k := b.toNatClampNeg) (by omega)) (by omega), ce_i h (rm_v hi (k := b.toNatClampNeg) (by omega)) (by omega)]
              · have : ¬ b.toInt < (q_i (T 15 0 a.toNatClampNeg)).toInt := fun z => gb2 (i_lt.mpr z)
                rw [if_neg gb2, if_pos (c := m_fm_in T b 0 (q_i (T 15 0 a.toNatClampNeg) - 1) = 0) (in_p dc (Or.inr (by omega)))]
        · have : ¬ d.toInt ≤ (2 : Int) := fun z => gd2 (i_le.mpr z)
          rw [if_neg gd2, if_pos (c := m_fm_in T d 0 2 = 0) (in_p (n := 2) rfl (Or.inr (by omega)))]
theorem c_cntL {S T : q_S} (h : Ce 6 S T) (a : Int32) : ∀ (n t : Nat) (v : Int32), t + n = 7 → t ≤ 6 → x_fe_countThere_L0 n S a v t = m_fm_flows_L0 n T a v t := by
  intro n
  induction n with
  | zero => intro t v h1 h2; omega
  | succ n ih =>
    intro t v h1 h2
    rw [x_fe_countThere_L0, m_fm_flows_L0]
    by_cases g : 6 ≤ nI t
    · rw [if_pos g, if_pos g]
    · rw [if_neg g, if_neg g, nI_clamp (by omega)]
      have ht : t < 6 := m_lt6 h2 g
      rw [ce_i h (rm_th ht) (by omega), ih (t + 1) v (by omega) (by omega), ih (t + 1) (v + 1) (by omega) (by omega)]
      by_cases g1 : q_i (T 5 0 t) = 0
      · rw [if_pos g1, if_pos g1]
      · rw [if_neg g1, if_neg g1]
        by_cases g2 : a = 0
        · rw [if_pos g2, if_pos g2]
        · rw [if_neg g2, if_neg g2]
          by_cases g3 : 5 ≤ q_i (T 10 0 t)
          · rw [if_pos g3, if_neg (by rw [en_x, ce_i h (rm_st ht) (by omega)]; exact fun z => z (i_le.mp g3))]
          · rw [if_neg g3, if_pos (by rw [en_x, ce_i h (rm_st ht) (by omega)]; exact fun z => g3 (i_le.mpr z))]
theorem c_count {S T : q_S} (h : Ce 6 S T) (a : Int32) (h6 : a = 6 → q_i (S 0 0 7) = q_i (T 33 0 6)) : x_fe_count S a = m_fm_count T a := by
  have cn : ∀ y, x_fe_countThere S y = m_fm_flows T y := fun y => c_cntL h y 7 0 0 rfl (by decide)
  have out : ∀ y : Int32, y.toInt ≤ 9 → m_fm_in T y 10 12 = 0 := fun y hy => by
    unfold m_fm_in
    rw [if_pos (i_lt.mpr (by show y.toInt < (10 : Int); omega))]
  have inn : ∀ y : Int32, 0 ≤ y.toInt → y.toInt ≤ 9 → ¬ m_fm_in T y 0 9 = 0 := fun y h0 hy z => by have := (in_0 (n := 9) rfl).mp z; omega
  have small : ∀ y : Int32, 0 ≤ y.toInt → y.toInt ≤ 9 → m_fm_count T y = if y = 0 then q_i (T 0 0 34) else if 3 ≤ y then q_i (T 33 0 y.toNatClampNeg) else if y = 2 then m_fm_flows T 1 else m_fm_flows T 0 := fun y h0 hy => by
    unfold m_fm_count
    rw [if_pos (out y hy), if_neg (inn y h0 hy)]
  unfold x_fe_count
  by_cases g0 : a = 0
  · rw [if_pos g0, g0, small 0 (by decide) (by decide), if_pos rfl]; exact ce_i h rm_t (by omega)
  · rw [if_neg g0]
    by_cases g1 : a = 1
    · rw [if_pos g1, g1, small 1 (by decide) (by decide), if_neg (by decide), if_neg (by decide), if_neg (by decide)]; exact cn 0
    · rw [if_neg g1]
      by_cases g2 : a = 2
      · rw [if_pos g2, g2, small 2 (by decide) (by decide), if_neg (by decide), if_neg (by decide), if_pos rfl]; exact cn 1
      · rw [if_neg g2]
        by_cases g3 : a = 3
        · rw [if_pos g3, g3, small 3 (by decide) (by decide), if_neg (by decide), if_pos (by decide)]; exact ce_i h rm_own (by omega)
        · rw [if_neg g3]
          by_cases g4 : a = 4
          · rw [if_pos g4, g4, small 4 (by decide) (by decide), if_neg (by decide), if_pos (by decide)]; exact ce_i h rm_rep (by omega)
          · rw [if_neg g4]
            by_cases g5 : a = 5
            · rw [if_pos g5, g5, small 5 (by decide) (by decide), if_neg (by decide), if_pos (by decide)]; exact ce_i h rm_rpl (by omega)
            · rw [if_neg g5]
              by_cases g6 : a = 6
              · rw [if_pos g6, h6 g6, g6, small 6 (by decide) (by decide), if_neg (by decide), if_pos (by decide)]; rfl
              · rw [if_neg g6]
                by_cases g7 : a = 7
                · rw [if_pos g7, g7, small 7 (by decide) (by decide), if_neg (by decide), if_pos (by decide)]; exact ce_i h rm_don (by omega)
                · rw [if_neg g7]
                  by_cases g8 : a = 8
                  · rw [if_pos g8, g8, small 8 (by decide) (by decide), if_neg (by decide), if_pos (by decide)]; exact ce_i h rm_fai (by omega)
                  · rw [if_neg g8]
                    by_cases g9 : a = 9
                    · rw [if_pos g9, g9, small 9 (by decide) (by decide), if_neg (by decide), if_pos (by decide)]; exact ce_i h rm_brk (by omega)
                    · rw [if_neg g9]
                      have nn : ∀ (k : Int32) (n : Int), k.toInt = n → ¬ a = k → ¬ a.toInt = n := fun k n hk hne z => hne (Int32.toInt_inj.mp (by rw [z, hk]))
                      have e0 := nn 0 0 rfl g0
                      have e1 := nn 1 1 rfl g1
                      have e2 := nn 2 2 rfl g2
                      have e3 := nn 3 3 rfl g3
                      have e4 := nn 4 4 rfl g4
                      have e5 := nn 5 5 rfl g5
                      have e6 := nn 6 6 rfl g6
                      have e7 := nn 7 7 rfl g7
                      have e8 := nn 8 8 rfl g8
                      have e9 := nn 9 9 rfl g9
                      rw [prog_eq S T]
                      unfold m_fm_count
                      by_cases gl : a.toInt < 0
                      · rw [if_pos (c := m_fm_in T a 10 12 = 0) (out a (by omega)), if_pos (c := m_fm_in T a 0 9 = 0) (in_p (n := 9) rfl (Or.inl gl)), if_pos (c := m_fm_in T (a - 10) 0 2 = 0)]
                        have ba := xI_any a
                        by_cases gw : a.toInt - 10 < -2147483648
                        · have e : (a - 10).toInt = a.toInt - 10 + 4294967296 := by
                            have b := xI_any a
                            rw [Int32.toInt_sub]
                            show (a.toInt - 10).bmod _ = _
                            rw [Int.bmod_def]
                            simp only [show ((2 : Nat) ^ 32) = 4294967296 by decide]
                            split <;> omega
                          exact in_p (n := 2) rfl (Or.inr (by omega))
                        · have e := q_subI (x := a) (y := 10) (by have b := xI_any a; show -2147483648 ≤ a.toInt - (10 : Int) ∧ a.toInt - (10 : Int) < 2147483648; omega)
                          have e : (a - 10).toInt = a.toInt - 10 := e
                          exact in_p (n := 2) rfl (Or.inl (by omega))
                      · have e := q_s10 (x := a) (by omega)
                        by_cases gh : a.toInt ≤ 12
                        · have hin : ¬ m_fm_in T a 10 12 = 0 := by
                            unfold m_fm_in
                            rw [if_neg (fun z => by have z : a.toInt < (10 : Int) := i_lt.mp z; omega), if_neg (fun z => by have z : (12 : Int) < a.toInt := i_lt.mp z; omega)]
                            decide
                          have hc := q_clI (x := a - 10) (by omega)
                          rw [if_neg (c := m_fm_in T a 10 12 = 0) hin, if_neg (c := m_fm_in T (a - 10) 0 2 = 0) (in_n (n := 2) rfl (by omega))]
                          exact ce_i h (rm_sz (p := (a - 10).toNatClampNeg) (by omega)) (by omega)
                        · have hin : m_fm_in T a 10 12 = 0 := by
                            unfold m_fm_in
                            rw [if_neg (fun z => by have z : a.toInt < (10 : Int) := i_lt.mp z; omega), if_pos (i_lt.mpr (by show (12 : Int) < a.toInt; omega))]
                          rw [if_pos (c := m_fm_in T a 10 12 = 0) hin, if_pos (c := m_fm_in T a 0 9 = 0) (in_p (n := 9) rfl (Or.inr (by omega))), if_pos (c := m_fm_in T (a - 10) 0 2 = 0) (in_p (n := 2) rfl (Or.inr (by omega)))]
set_option maxHeartbeats 4000000 in
theorem c_flow {c : Nat → Int} {S T : q_S} (h : Rl c S T) (a b : Int32) : x_fe_flow S a b = m_fm_flow T a b := by
  unfold x_fe_flow m_fm_flow
  by_cases ga : a < 0
  · rw [if_pos ga, if_pos (c := m_fm_in T a 0 5 = 0) (in_p (n := 5) rfl (Or.inl (i_lt.mp ga)))]
  · have ga' : ¬ a.toInt < 0 := fun z => ga (i_lt.mpr z)
    rw [if_neg ga]
    by_cases ga2 : 6 ≤ a
    · have : (6 : Int) ≤ a.toInt := i_le.mp ga2
      rw [if_pos ga2, if_pos (c := m_fm_in T a 0 5 = 0) (in_p (n := 5) rfl (Or.inr (by omega)))]
    · have ga3 : ¬ (6 : Int) ≤ a.toInt := fun z => ga2 (i_le.mpr z)
      rw [if_neg ga2, if_neg (c := m_fm_in T a 0 5 = 0) (in_n (n := 5) rfl (by omega))]
      have hi : a.toNatClampNeg < 6 := by have := q_cl ga; omega
      by_cases gb : b < 0
      · rw [if_pos gb, if_pos (c := m_fm_in T b 0 13 = 0) (in_p (n := 13) rfl (Or.inl (i_lt.mp gb)))]
      · have gb' : ¬ b.toInt < 0 := fun z => gb (i_lt.mpr z)
        rw [if_neg gb]
        by_cases gb2 : b < 14
        · have gb3 : b.toInt < (14 : Int) := i_lt.mp gb2
          rw [if_pos gb2, if_neg (c := m_fm_in T b 0 13 = 0) (in_n (n := 13) rfl (by omega))]
          generalize a.toNatClampNeg = i at *
          have eE := en_eq hi h.1
          have e5 : q_i (S 9 i 6) = q_i (T 5 0 i) := ce_i h.1 (rm_th hi) (by omega)
          have e6 : q_i (S 9 i 7) = q_i (T 6 0 i) := ce_i h.1 (rm_fo hi) (by omega)
          have e9 : q_i (S 9 i 9) = q_i (T 9 0 i) := ce_i h.1 (rm_pg hi) (by omega)
          have e10 : q_i (S 9 i 10) = q_i (T 10 0 i) := ce_i h.1 (rm_st hi) (by omega)
          have e11 : q_i (S 9 i 11) = q_i (T 11 0 i) := ce_i h.1 (rm_pl hi) (by omega)
          have e15 : q_i (S 11 i 3) = q_i (T 15 0 i) := ce_i h.1 (rm_hs hi) (by omega)
          have e20 : q_i (S 18 i 2) = q_i (T 20 0 i) := ce_i h.1 (rm_ns hi) (by omega)
          have e23 : q_i (S 15 i 2) = q_i (T 23 0 i) := ce_i h.1 (rm_ks hi) (by omega)
          have e29 : q_i (S 21 i 1) = q_i (T 29 0 i) := ce_i h.1 (rm_tr hi) (by omega)
          have e7 : q_i (S 21 i 2) = q_i (T 7 0 i) := ce_i h.1 (rm_ou hi) (by omega)
          have eo : (if q_i (T 10 0 i) = 5 then q_i (S 9 i 15) else 0) = (if q_i (T 10 0 i) = 5 then q_i (T 13 0 i) else 0) := by
            by_cases q : q_i (T 10 0 i) = 5
            · rw [if_pos q, if_pos q]; exact (h.2 i hi).2.1 (e10.trans q)
            · rw [if_neg q, if_neg q]
          have ev : ∀ n : Nat, n < 4 → q_i (S 10 i n) = q_i (T 14 0 (4 * i + n)) := fun n hn => ce_i h.1 (rm_va hi hn) (by omega)
          unfold x_wf_isInMind
          rw [e5, e6, e9, e10, e11, e15, e20, e23, e29, e7, eE, eo]
          have nn : ∀ (k : Int32) (n : Int), k.toInt = n → ¬ b = k → ¬ b.toInt = n := fun k n hk hne z => hne (Int32.toInt_inj.mp (by rw [z, hk]))
          have vv : ¬ b = 0 → ¬ b = 1 → ¬ b = 2 → ¬ b = 3 → ¬ b = 4 → ¬ b = 5 → ¬ b = 6 → ¬ b = 7 → ¬ b = 8 → ¬ b = 9 → q_i (S 10 i ((b - 10).toNatClampNeg)) = q_i (T 14 0 (4 * i + b.toNatClampNeg - 10)) := fun g0 g1 g2 g3 g4 g5 g6 g7 g8 g9 => by
            have n0 := nn 0 0 rfl g0
            have n1 := nn 1 1 rfl g1
            have n2 := nn 2 2 rfl g2
            have n3 := nn 3 3 rfl g3
            have n4 := nn 4 4 rfl g4
            have n5 := nn 5 5 rfl g5
            have n6 := nn 6 6 rfl g6
            have n7 := nn 7 7 rfl g7
            have n8 := nn 8 8 rfl g8
            have n9 := nn 9 9 rfl g9
            have e := q_s10 (x := b) (by omega)
            have hc := q_clI (x := b - 10) (by omega)
            have hb := q_cl gb
            rw [ev _ (by omega), show 4 * i + (b - 10).toNatClampNeg = 4 * i + b.toNatClampNeg - 10 by omega]
          by_cases gt : q_i (T 5 0 i) = 0
          · rw [if_pos gt, if_pos gt]
          · rw [if_neg gt, if_neg gt]
            by_cases g6 : q_i (T 6 0 i) = 0
            · by_cases gE : m_fm_hasEnded T i = 0
              · by_cases b0 : b = 0
                · simp only [if_pos b0, if_pos g6, if_pos gE, if_neg (show ¬ (1 : Int32) = 0 by decide)]
                by_cases b1 : b = 1
                · simp only [if_neg b0, if_pos b1, if_pos g6, if_pos gE, if_neg (show ¬ (1 : Int32) = 0 by decide)]
                by_cases b2 : b = 2
                · simp only [if_neg b0, if_neg b1, if_pos b2, if_pos g6, if_pos gE, if_neg (show ¬ (1 : Int32) = 0 by decide)]
                by_cases b3 : b = 3
                · simp only [if_neg b0, if_neg b1, if_neg b2, if_pos b3, if_pos g6, if_pos gE, if_neg (show ¬ (1 : Int32) = 0 by decide)]
                by_cases b4 : b = 4
                · simp only [if_neg b0, if_neg b1, if_neg b2, if_neg b3, if_pos b4, if_pos g6, if_pos gE, if_neg (show ¬ (1 : Int32) = 0 by decide)]
                by_cases b5 : b = 5
                · simp only [if_neg b0, if_neg b1, if_neg b2, if_neg b3, if_neg b4, if_pos b5, if_pos g6, if_pos gE, if_neg (show ¬ (1 : Int32) = 0 by decide)]
                by_cases b6 : b = 6
                · simp only [if_neg b0, if_neg b1, if_neg b2, if_neg b3, if_neg b4, if_neg b5, if_pos b6, if_pos g6, if_pos gE, if_neg (show ¬ (1 : Int32) = 0 by decide)]
                by_cases b7 : b = 7
                · simp only [if_neg b0, if_neg b1, if_neg b2, if_neg b3, if_neg b4, if_neg b5, if_neg b6, if_pos b7, if_pos g6, if_pos gE, if_neg (show ¬ (1 : Int32) = 0 by decide)]
                by_cases b8 : b = 8
                · simp only [if_neg b0, if_neg b1, if_neg b2, if_neg b3, if_neg b4, if_neg b5, if_neg b6, if_neg b7, if_pos b8, if_pos g6, if_pos gE, if_neg (show ¬ (1 : Int32) = 0 by decide)]
                by_cases b9 : b = 9
                · simp only [if_neg b0, if_neg b1, if_neg b2, if_neg b3, if_neg b4, if_neg b5, if_neg b6, if_neg b7, if_neg b8, if_pos b9, if_pos g6, if_pos gE, if_neg (show ¬ (1 : Int32) = 0 by decide)]
                simp only [if_neg b0, if_neg b1, if_neg b2, if_neg b3, if_neg b4, if_neg b5, if_neg b6, if_neg b7, if_neg b8, if_neg b9, if_pos g6, if_pos gE, if_neg (show ¬ (1 : Int32) = 0 by decide)]
                exact vv b0 b1 b2 b3 b4 b5 b6 b7 b8 b9
              · by_cases b0 : b = 0
                · simp only [if_pos b0, if_pos g6, if_neg gE, if_true]
                by_cases b1 : b = 1
                · simp only [if_neg b0, if_pos b1, if_pos g6, if_neg gE, if_true]
                by_cases b2 : b = 2
                · simp only [if_neg b0, if_neg b1, if_pos b2, if_pos g6, if_neg gE, if_true]
                by_cases b3 : b = 3
                · simp only [if_neg b0, if_neg b1, if_neg b2, if_pos b3, if_pos g6, if_neg gE, if_true]
                by_cases b4 : b = 4
                · simp only [if_neg b0, if_neg b1, if_neg b2, if_neg b3, if_pos b4, if_pos g6, if_neg gE, if_true]
                by_cases b5 : b = 5
                · simp only [if_neg b0, if_neg b1, if_neg b2, if_neg b3, if_neg b4, if_pos b5, if_pos g6, if_neg gE, if_true]
                by_cases b6 : b = 6
                · simp only [if_neg b0, if_neg b1, if_neg b2, if_neg b3, if_neg b4, if_neg b5, if_pos b6, if_pos g6, if_neg gE, if_true]
                by_cases b7 : b = 7
                · simp only [if_neg b0, if_neg b1, if_neg b2, if_neg b3, if_neg b4, if_neg b5, if_neg b6, if_pos b7, if_pos g6, if_neg gE, if_true]
                by_cases b8 : b = 8
                · simp only [if_neg b0, if_neg b1, if_neg b2, if_neg b3, if_neg b4, if_neg b5, if_neg b6, if_neg b7, if_pos b8, if_pos g6, if_neg gE, if_true]
                by_cases b9 : b = 9
                · simp only [if_neg b0, if_neg b1, if_neg b2, if_neg b3, if_neg b4, if_neg b5, if_neg b6, if_neg b7, if_neg b8, if_pos b9, if_pos g6, if_neg gE, if_true]
                simp only [if_neg b0, if_neg b1, if_neg b2, if_neg b3, if_neg b4, if_neg b5, if_neg b6, if_neg b7, if_neg b8, if_neg b9, if_pos g6, if_neg gE, if_true]
                exact vv b0 b1 b2 b3 b4 b5 b6 b7 b8 b9
            · simp only [if_neg g6, if_true]
        · have gb3 : ¬ b.toInt < (14 : Int) := fun z => gb2 (i_lt.mpr z)
          rw [if_neg gb2, if_pos (c := m_fm_in T b 0 13 = 0) (in_p (n := 13) rfl (Or.inr (by omega)))]
