/-! AWAIT, side by side -/
def awB (V : q_S) (i : Nat) (a b : Int32) (t : Nat) : q_S :=
  if (m_fm_put V i 7 a (q_i (V 25 0 (4 * i + t)))).1 = 0 then
    (m_fm_put V i 7 a (q_i (V 25 0 (4 * i + t)))).2
  else
    q_st (q_st (q_st (m_fm_await_L1 5 (q_st ((m_fm_put V i 7 a (q_i (V 25 0 (4 * i + t)))).2) 23 0 i (.int ((q_i (V 23 0 i)) - 1))) i a b (q_i (V 25 0 (4 * i + t))) t) 14 0 (4 * i + b.toNatClampNeg) (.int (q_i (V 25 0 (4 * i + t))))) 11 0 i (.int ((q_i (V 11 0 i)) + 1))) 10 0 i (.int 0)
theorem aw_L {e i : Nat} {U V : q_S} {a b : Int32} (hi : i < 6) (hc : Ce e U V) (hk : (q_i (V 23 0 i)).toInt ≤ 4) : ∀ n t : Nat, t + n = 5 → t ≤ 4 → (x_ke_oldest_L0 n U i a t = (-1) ∧ m_fm_await_L0 n V i a b t = V) ∨ (∃ k : Nat, k < 4 ∧ (k : Int) < (q_i (V 23 0 i)).toInt ∧ x_ke_oldest_L0 n U i a t = nI k ∧ m_fm_await_L0 n V i a b t = awB V i a b k) := by
  intro n
  induction n with
  | zero => intro t h1 h2; omega
  | succ n ih =>
    intro t h1 h2
    rw [x_ke_oldest_L0, m_fm_await_L0, nI_clamp (n := t) (by omega), ce_i hc (rm_ks hi) (by omega)]
    by_cases g : q_i (V 23 0 i) ≤ nI t
    · rw [if_pos g, if_pos g]
      exact Or.inl ⟨rfl, rfl⟩
    · rw [if_neg g, if_neg g]
      rw [Int32.le_iff_toInt_le, nI_toInt (by omega)] at g
      rw [ce_i hc (rm_kn hi (by omega)) (by omega)]
      by_cases g2 : q_i (V 24 0 (4 * i + t)) = a
      · rw [if_pos g2, if_pos g2]
        exact Or.inr ⟨t, by omega, by omega, rfl, rfl⟩
      · rw [if_neg g2, if_neg g2]
        exact ih (t + 1) (by omega) (by omega)
theorem q_comm {S : q_S} {j i k j' i' k' : Nat} {v v' : Value} (h : j ≠ j') : q_st (q_st S j i k v) j' i' k' v' = q_st (q_st S j' i' k' v') j i k v := by
  funext x y z
  simp only [q_st]
  by_cases h1 : x = j' ∧ y = i' ∧ z = k'
  · by_cases h2 : x = j ∧ y = i ∧ z = k
    · omega
    · rw [if_pos h1, if_neg h2, if_pos h1]
  · by_cases h2 : x = j ∧ y = i ∧ z = k
    · rw [if_neg h1, if_pos h2, if_pos h2]
    · rw [if_neg h1, if_neg h2, if_neg h2, if_neg h1]
theorem q_st_comm9 {S : q_S} {j i k k' : Nat} {v v' : Value} (h : k ≠ k') : q_st (q_st S j i k v) j i k' v' = q_st (q_st S j i k' v') j i k v := by
  funext x y z
  simp only [q_st]
  by_cases h1 : x = j ∧ y = i ∧ z = k'
  · by_cases h2 : x = j ∧ y = i ∧ z = k
    · omega
    · rw [if_pos h1, if_neg h2, if_pos h1]
  · by_cases h2 : x = j ∧ y = i ∧ z = k
    · rw [if_neg h1, if_pos h2, if_pos h2]
    · rw [if_neg h1, if_neg h2, if_neg h2, if_neg h1]
theorem ce_kdropL {e i : Nat} {a a' b v m : Int32} (hi : i < 6) (hm : m.toInt ≤ 3) : ∀ (n : Nat) (X Y : q_S) (t : Nat), t ≤ 4 → (q_i (X 15 i 2)).toInt = m.toInt + 1 → q_i (Y 23 0 i) = m → Ce e (q_st X 15 i 2 (.int m)) Y → Ce e (q_st (x_ke_drop_L0 n X i a t) 15 i 2 (.int m)) (m_fm_await_L1 n Y i a' b v t) := by
  intro n
  induction n with
  | zero => intro X Y t h1 h2 h3 h; rw [x_ke_drop_L0, m_fm_await_L1]; exact h
  | succ n ih =>
    intro X Y t h1 h2 h3 h
    rw [x_ke_drop_L0, m_fm_await_L1, h3]
    by_cases g : m ≤ nI t
    · rw [if_pos g, if_pos (by
        rw [Int32.le_iff_toInt_le, nI_toInt (by omega)] at g
        rw [Int32.le_iff_toInt_le, q_nT (by omega)]
        omega)]
      exact h
    · rw [if_neg g, if_neg (by
        rw [Int32.le_iff_toInt_le, nI_toInt (by omega)] at g
        rw [Int32.le_iff_toInt_le, q_nT (by omega)]
        omega)]
      rw [Int32.le_iff_toInt_le, nI_toInt (by omega)] at g
      rw [nI_1, nI_clamp (n := t) (by omega), nI_clamp (n := t + 1) (by omega)]
      have e16 : q_i (X 16 i (t + 1)) = q_i (Y 24 0 (4 * i + t + 1)) := by
        have := ce_i h (rm_kn hi (k := t + 1) (by omega)) (by omega)
        rw [q_kj (by decide)] at this
        exact this
      have e17 : q_i (X 17 i (t + 1)) = q_i (Y 25 0 (4 * i + t + 1)) := by
        have := ce_i h (rm_kv hi (k := t + 1) (by omega)) (by omega)
        rw [q_kj (by decide)] at this
        exact this
      rw [e16, e17]
      refine ih _ _ (t + 1) (by omega) ?_ ?_ ?_
      · rw [q_kj (by decide), q_kj (by decide)]; exact h2
      · rw [q_kj (by decide), q_kj (by decide)]; exact h3
      · rw [q_comm (j' := 15) (by decide), q_comm (j := 16) (j' := 15) (by decide)]
        exact ce_p (ce_p h (rm_kn hi (by omega))) (rm_kv hi (by omega))
theorem xK_ke_dropL_o {n : Nat} {S : q_S} {i : Nat} {a : Int32} {t : Nat} (x y z : Nat) (h : x ≠ 16 ∧ x ≠ 17) : x_ke_drop_L0 n S i a t x y z = S x y z := by
  induction n generalizing S t with
  | zero => rw [x_ke_drop_L0]
  | succ n ih =>
    rw [x_ke_drop_L0]
    split
    · rfl
    · rw [ih, q_kj h.2, q_kj h.1]
set_option maxHeartbeats 4000000 in
theorem rr_await {e i : Nat} {c : Int} {T0 S T : q_S} {a b : Int32} (hi : i < 6) (hI : mI T) (hg : mg T i) (h : Ru e c T0 S T i) (hf : q_i (S 9 i 8) = 0) (ha : q_i (T 2 0 (pc T i)) = a) (hb : q_i (T 3 0 (pc T i)) = b) (ht : q_i (S 9 i 14) = b) (hb3 : 0 ≤ b.toInt ∧ b.toInt ≤ 3) : RR e c T0 (x_fe_awaitSignal S i a) (m_fm_await T i a b) i := by
  obtain ⟨hB, hl, h0⟩ := id h
  obtain ⟨h1, ⟨h2, h20⟩, h3, h4, h5, h6, h7, h8⟩ := id hB
  have hBU : Ba e c T0 (q_st (q_st S 9 i 10 (.int 3)) 9 i 13 (.int a)) (q_st T 10 0 i (.int 3)) i := ba_x (ba_p hB (rm_st hi) (by omega)) (by omega)
  have hsame : x_hi_isLeft (q_st (q_st S 9 i 10 (.int 3)) 9 i 13 (.int a)) i = x_hi_isLeft S i := rfl
  have hval : ∀ k, q_i (S 17 i k) = q_i ((q_st (q_st S 9 i 10 (.int 3)) 9 i 13 (.int a)) 17 i k) := fun k => by rw [q_kj (by decide), q_kj (by decide)]
  have hIV : mI (q_st T 10 0 i (.int 3)) := mIs hI rfl
  have hgV : mg (q_st T 10 0 i (.int 3)) i := by unfold mg; rw [q_kj (by decide), q_kj (by decide)]; exact hg
  have hml := m_lf hi hIV hBU.1 hBU.2.2.1
  have s10 : q_i ((q_st (q_st S 9 i 10 (.int 3)) 9 i 13 (.int a)) 9 i 10) = 3 := q_sk (by decide) q_ss
  have s8 : q_i ((q_st (q_st S 9 i 10 (.int 3)) 9 i 13 (.int a)) 9 i 8) = 0 := q_sk (by decide) (q_sk (by decide) hf)
  have s14 : q_i ((q_st (q_st S 9 i 10 (.int 3)) 9 i 13 (.int a)) 9 i 14) = b := q_sk (by decide) (q_sk (by decide) ht)
  have htU : hasT (q_st (q_st S 9 i 10 (.int 3)) 9 i 13 (.int a)) (q_st T 10 0 i (.int 3)) i → hasT S T i := fun z => by
    unfold hasT at z ⊢
    rw [q_kj (by decide), q_kj (by decide), mLn_st (by decide) (by decide)] at z
    exact z
  have tpc : pc (q_st T 10 0 i (.int 3)) i = pc T i := pc_eq (q_kj (by decide)) (q_kj (by decide))
  have vw : Vw (q_st (q_st S 9 i 10 (.int 3)) 9 i 13 (.int a)) (q_st T 10 0 i (.int 3)) i := by
    refine ⟨fun z => ?_, fun z => ?_, fun z => ?_, ?_⟩
    · rw [s10] at z; exact absurd z (by decide)
    · rw [q_ss, tpc, q_kj (by decide)]; exact ha.symm
    · rw [s14, tpc, q_kj (by decide)]; exact hb.symm
    · rw [s8, s10]; decide
  have flU : (lf S i ↔ lf (q_st (q_st S 9 i 10 (.int 3)) 9 i 13 (.int a)) i) := Iff.rfl
  have hkb : (q_i ((q_st T 10 0 i (.int 3)) 23 0 i)).toInt ≤ 4 := (hIV 23 0 i).2
  have hk0 : 0 ≤ (q_i ((q_st T 10 0 i (.int 3)) 23 0 i)).toInt := (hIV 23 0 i).1
  unfold x_fe_awaitSignal m_fm_await
  rw [hsame]
  simp only [hval]
  unfold x_ke_oldest
  generalize hU : q_st (q_st S 9 i 10 (.int 3)) 9 i 13 (.int a) = U at *
  generalize hV : q_st T 10 0 i (.int 3) = V at *
  obtain ⟨u1, ⟨u2, u20⟩, u3, u4, u5, u6, u7, u8⟩ := id hBU
  by_cases g : lf S i
  · rw [if_neg (c := x_hi_isLeft S i = 0) (fun z => (x_left.mp z) g), if_neg (c := m_fm_left V i ≤ 0) (by
      rw [Int32.le_iff_toInt_le, hml]
      show ¬ _ ≤ (0 : Int)
      have := flU.mp g
      unfold lf at this
      omega)]
    exact Or.inl ⟨hBU, fun _ => Or.inl (flU.mp g), by rw [s10]; decide, vw⟩
  · have hn : ¬ hasT S T i := fun z => g (hl z)
    rw [if_pos (c := x_hi_isLeft S i = 0) (x_left.mpr g), if_pos (c := m_fm_left V i ≤ 0) (by
      rw [Int32.le_iff_toInt_le, hml]
      show _ ≤ (0 : Int)
      have := mt flU.mpr g
      unfold lf at this
      omega)]
    rcases aw_L (a := a) (b := b) hi u1 hkb 5 0 rfl (by omega) with ⟨q1, q2⟩ | ⟨k, k0, k1, q1, q2⟩
    · rw [q1, q2, if_neg (by decide)]
      exact Or.inl ⟨hBU, fun z => absurd (htU z) hn, by rw [s10]; decide, vw⟩
    · rw [q1, q2, if_pos (nI_pos' (by omega)), nI_clamp (by omega)]
      have ev : q_i (U 17 i k) = q_i (V 25 0 (4 * i + k)) := ce_i u1 (rm_kv hi k0) (by omega)
      rw [ev]
      unfold awB
      rcases ps_put (a := 7) (b := a) (d := q_i (V 25 0 (4 * i + k))) hi hIV u1 u3 hgV with ⟨f1, f2, f3, f4⟩ | ⟨f1, f2, ok⟩
      · rw [if_pos f1, if_pos f2, f3, f4]
        exact Or.inr (Or.inr ⟨by rw [q_ss]; decide, en_break hi u2 hIV u1 u6 u4⟩)
      · rw [if_neg f1, if_neg f2]
        generalize q_i (V 25 0 (4 * i + k)) = vl at *
        generalize (x_hi_pass U i 7 a vl).2 = S1 at ok ⊢
        generalize (m_fm_put V i 7 a vl).2 = T1 at ok ⊢
        obtain ⟨o1, o2, o3, o4, o5⟩ := id ok
        have e23 : q_i (S1 15 i 2) = q_i (V 23 0 i) := by rw [o3 15 i 2 (by omega)]; exact ce_i u1 (rm_ks hi) (by omega)
        have dd := q_dec (x := q_i (V 23 0 i)) (by omega)
        have hdr : x_ke_drop S1 i (nI k) = q_st (x_ke_drop_L0 5 S1 i (nI k) k) 15 i 2 (.int (q_i (V 23 0 i) - 1)) := by
          unfold x_ke_drop
          rw [if_neg (nI_pos (by omega)), if_pos (by rw [Int32.lt_iff_toInt_lt, nI_toInt (by omega), e23]; exact k1), nI_clamp (by omega), e23]
        have cd : Ce e (x_ke_drop S1 i (nI k)) (m_fm_await_L1 5 (q_st T1 23 0 i (.int (q_i (V 23 0 i) - 1))) i a b vl k) := by
          rw [hdr]
          refine ce_kdropL hi (by omega) 5 S1 _ k (by omega) ?_ q_ss (ce_p o1 (rm_ks hi))
          rw [e23, dd]; omega
        have od : ∀ x y z : Nat, x ≠ 15 → x ≠ 16 → x ≠ 17 → x_ke_drop S1 i (nI k) x y z = S1 x y z := fun x y z a1 a2 a3 => xK_ke_drop S1 i (nI k) x y z a1 a2 a3
        have d8 : q_i (x_ke_drop S1 i (nI k) 9 i 8) = 0 := by rw [od 9 i 8 (by decide) (by decide) (by decide), o3 9 i 8 (by omega)]; exact s8
        have d10 : q_i (x_ke_drop S1 i (nI k) 9 i 10) = 3 := by rw [od 9 i 10 (by decide) (by decide) (by decide), o3 9 i 10 (by omega)]; exact s10
        have d14 : q_i (x_ke_drop S1 i (nI k) 9 i 14) = b := by rw [od 9 i 14 (by decide) (by decide) (by decide), o3 9 i 14 (by omega)]; exact s14
        have d11 : q_i (x_ke_drop S1 i (nI k) 9 i 11) = q_i (V 11 0 i) := by rw [od 9 i 11 (by decide) (by decide) (by decide), o3 9 i 11 (by omega)]; exact ce_i u1 (rm_pl hi) (by omega)
        unfold x_wf_resume
        rw [if_neg (by decide), if_pos d8, if_neg (by rw [d10]; decide), d14, d11]
        have hcl := q_clI hb3.1
        have cf := ce_p (v := .int 0) (ce_p (v := .int (q_i (V 11 0 i) + 1)) (ce_p (v := .int vl) cd (rm_va hi (k := b.toNatClampNeg) (by omega))) (rm_pl hi)) (rm_st hi)
        have ml : ∀ x z : Nat, x ≠ 10 → x ≠ 11 → x ≠ 14 → x ≠ 23 → x ≠ 24 → x ≠ 25 → (x < 15 ∨ 19 < x) → q_st (q_st (q_st (m_fm_await_L1 5 (q_st T1 23 0 i (.int (q_i (V 23 0 i) - 1))) i a b vl k) 14 0 (4 * i + b.toNatClampNeg) (.int vl)) 11 0 i (.int (q_i (V 11 0 i) + 1))) 10 0 i (.int 0) x 0 z = V x 0 z := fun x z a1 a2 a3 a4 a5 a6 a7 => by
          rw [q_kj a1, q_kj a2, q_kj a3, m_aw1 _ _ _ _ _ _ _ _ _ _ ⟨a5, a6⟩, q_kj a4, o4 x z a7]
        have m16 : q_st (q_st (q_st (m_fm_await_L1 5 (q_st T1 23 0 i (.int (q_i (V 23 0 i) - 1))) i a b vl k) 14 0 (4 * i + b.toNatClampNeg) (.int vl)) 11 0 i (.int (q_i (V 11 0 i) + 1))) 10 0 i (.int 0) 16 0 i = T1 16 0 i := by
          rw [q_kj (by decide), q_kj (by decide), q_kj (by decide), m_aw1 _ _ _ _ _ _ _ _ _ _ (by decide), q_kj (by decide)]
        have hm : mLn (q_st (q_st (q_st (m_fm_await_L1 5 (q_st T1 23 0 i (.int (q_i (V 23 0 i) - 1))) i a b vl k) 14 0 (4 * i + b.toNatClampNeg) (.int vl)) 11 0 i (.int (q_i (V 11 0 i) + 1))) 10 0 i (.int 0)) = mLn V := mLn_eq (ml 0 33 (by decide) (by decide) (by decide) (by decide) (by decide) (by decide) (by decide)) (fun z => ml 32 z (by decide) (by decide) (by decide) (by decide) (by decide) (by decide) (by decide))
        have nU : ¬ hasT U V i := fun z => hn (htU z)
        have xl : ∀ z : Nat, q_st (q_st (q_st (x_ke_drop S1 i (nI k)) 10 i b.toNatClampNeg (.int vl)) 9 i 11 (.int (q_i (V 11 0 i) + 1))) 9 i 10 (.int 0) 21 i z = U 21 i z := fun z => by
          rw [q_kj (by decide), q_kj (by decide), q_kj (by decide), od 21 i z (by decide) (by decide) (by decide), o3 21 i z (by omega)]
        have hs1 : 1 ≤ (q_i (S1 11 i 3)).toInt := by
          rcases o5 with ⟨q, -⟩ | ⟨-, -, n, ⟨n00, n0⟩, n1, n2, n3⟩
          · exact absurd (flU.mpr q) g
          · rw [n1, nI_toInt (by omega)]; omega
        have hBF := ba_nt hBU nU cf (by
          rw [q_kj (by decide), q_kj (by decide), q_kj (by decide), od 11 i 4 (by decide) (by decide) (by decide), m16]
          exact o2) (fun z => by rw [xl z]) (by rw [q_st_n _ _ (by omega), q_st_n _ _ (by omega), q_kj (by decide), od 9 i 7 (by decide) (by decide) (by decide), o3 9 i 7 (by omega)]) hm (by
          rw [q_kj (by decide), q_kj (by decide), q_kj (by decide), od 11 i 3 (by decide) (by decide) (by decide)]
          exact hs1)
        refine Or.inr (Or.inl ⟨⟨hBF, fun z => absurd ?_ nU, q_ss⟩, ?_⟩)
        · unfold hasT at z ⊢
          rw [xl 2, hm] at z
          exact z
        · rw [q_st_n _ _ (by omega), q_st_n _ _ (by omega), q_kj (by decide)]
          exact d8
