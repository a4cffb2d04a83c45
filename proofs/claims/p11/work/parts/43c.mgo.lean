theorem mp_undo {S : q_S} {i : Nat} (hI : mI S) (hg : mg S i) : mA S (m_fm_undo S i) i 4 ∧ (mE (m_fm_undo S i) i ∨ m_fm_undo S i 12 0 i = S 12 0 i) := by
  unfold m_fm_undo
  split
  · exact ⟨mA_E (mE_end (by decide)) (mg_end hg) (Nat.le_of_eq mlf_end), Or.inl (mE_end (by decide))⟩
  · rename_i hn
    have b1 : 0 ≤ (q_i (S 20 0 i)).toInt ∧ (q_i (S 20 0 i)).toInt ≤ 6 := hI 20 0 i
    have hn := lv_neT hn (a := 0) (by decide)
    have e1 := q_dec (x := q_i (S 20 0 i)) (by omega)
    have h := mp_want (S := q_st S 20 0 i (.int (q_i (S 20 0 i) - 1))) (i := i) (mI_st hI (by rw [e1]; show (0 : Int) ≤ _ ∧ _ ≤ (6 : Int); omega)) (by
      unfold mg
      rw [q_kj (by decide), q_kj (by decide)]
      exact hg) (q_i (S 21 0 (6 * i + ((q_i (S 20 0 i) - 1).toNatClampNeg)))) (q_i (S 22 0 (6 * i + ((q_i (S 20 0 i) - 1).toNatClampNeg)))) 4
    have hlU : mlf (q_st S 20 0 i (.int (q_i (S 20 0 i) - 1))) i = mlf S i := by
      unfold mlf
      rw [q_kj (by decide), q_kj (by decide)]
    exact ⟨mA_t (U := q_st S 20 0 i (.int (q_i (S 20 0 i) - 1))) (Nat.le_of_eq hlU) (fun x z h => q_kj (by omega)) h.1, Or.inr (h.2.trans (q_kj (by decide)))⟩
theorem mp_sleep {S : q_S} {i : Nat} (hI : mI S) (hg : mg S i) (a : Int32) : mA S (m_fm_sleep S i a) i 2 ∧ m_fm_sleep S i a 12 0 i = S 12 0 i := by
  have h12 : m_fm_sleep S i a 12 0 i = S 12 0 i := by
    refine mK_fm_sleep S i a 12 0 i ?_ ?_ ?_ ?_ ?_ ?_ ?_ ?_ ?_ ?_ ?_ ?_ ?_ <;> decide
  refine ⟨?_, h12⟩
  generalize hr : m_fm_sleep S i a = V
  unfold m_fm_sleep at hr
  have hp := mp_put hI hg 5 a 0
  generalize m_fm_put S i 5 a 0 = P at hp hr
  rcases hp with ⟨p0, p1, p2, hl⟩ | ⟨p0, p1, p2, p3⟩
  · rw [if_pos p0, if_pos p0] at hr
    split at hr
    · subst hr; exact mA_E p1 p2 hl
    · subst hr; exact mA_E p1 p2 hl
  · have n0 : ¬ P.1 = 0 := by rw [p0]; decide
    rw [if_neg n0, if_neg n0] at hr
    split at hr
    · subst hr
      refine mA_t p2 (fun x z h => p3 x 0 z (by omega)) (mA_of p1 (by rw [q_kj (by decide), q_ss]) ?_)
      intro x z h
      rw [q_kj (by omega), q_kj (by omega)]
    · subst hr
      refine mA_t p2 (fun x z h => p3 x 0 z (by omega)) (mA_of p1 q_ss ?_)
      intro x z h
      rw [q_kj (by omega)]
theorem m_aw1 (n : Nat) (S : q_S) (i : Nat) (a b v : Int32) (u x y z : Nat) (h : x ≠ 24 ∧ x ≠ 25) : m_fm_await_L1 n S i a b v u x y z = S x y z := mK_fm_await_L1 n S i a b v u x y z h.1 h.2
theorem mp_awaitL {i : Nat} {a b : Int32} : ∀ (n : Nat) (S : q_S) (t : Nat), mI S → mg S i → q_i (S 10 0 i) = 3 → (mA S (m_fm_await_L0 n S i a b t) i 3 ∨ (mg (m_fm_await_L0 n S i a b t) i ∧ mlf (m_fm_await_L0 n S i a b t) i ≤ mlf S i ∧ q_i (m_fm_await_L0 n S i a b t 10 0 i) = 0)) := by
  intro n
  induction n with
  | zero => intro S t hI hg h; exact Or.inl (mA_of hg h (fun _ _ _ => rfl))
  | succ n ih =>
    intro S t hI hg h
    rw [m_fm_await_L0]
    split
    · exact Or.inl (mA_of hg h (fun _ _ _ => rfl))
    · split
      · have hp := mp_put hI hg 7 a (q_i (S 25 0 (4 * i + t)))
        generalize m_fm_put S i 7 a (q_i (S 25 0 (4 * i + t))) = P at hp ⊢
        rcases hp with ⟨p0, p1, p2, hl⟩ | ⟨p0, p1, p2, p3⟩
        · rw [if_pos p0]
          exact Or.inl (mA_E p1 p2 hl)
        · have n0 : ¬ P.1 = 0 := by rw [p0]; decide
          rw [if_neg n0]
          refine Or.inr ⟨?_, ?_, q_ss⟩
          · unfold mg
            rw [q_kj (by decide), q_kj (by decide), q_kj (by decide), m_aw1 _ _ _ _ _ _ _ _ _ _ (by decide), q_kj (by decide), q_kj (by decide), q_kj (by decide), q_kj (by decide), m_aw1 _ _ _ _ _ _ _ _ _ _ (by decide), q_kj (by decide)]
            exact p1
          · unfold mlf
            rw [q_kj (by decide), q_kj (by decide), q_kj (by decide), m_aw1 _ _ _ _ _ _ _ _ _ _ (by decide), q_kj (by decide), q_kj (by decide), q_kj (by decide), q_kj (by decide), m_aw1 _ _ _ _ _ _ _ _ _ _ (by decide), q_kj (by decide)]
            exact p2
      · exact ih S (t + 1) hI hg h
theorem mp_await {S : q_S} {i : Nat} (hI : mI S) (hg : mg S i) (a b : Int32) : (mA S (m_fm_await S i a b) i 3 ∨ (mg (m_fm_await S i a b) i ∧ mlf (m_fm_await S i a b) i ≤ mlf S i ∧ q_i (m_fm_await S i a b 10 0 i) = 0)) ∧ m_fm_await S i a b 12 0 i = S 12 0 i := by
  have h12 : m_fm_await S i a b 12 0 i = S 12 0 i := by
    refine mK_fm_await S i a b 12 0 i ?_ ?_ ?_ ?_ ?_ ?_ ?_ ?_ ?_ ?_ ?_ ?_ ?_ ?_ ?_ ?_ ?_ <;> decide
  refine ⟨?_, h12⟩
  have hgU : mg (q_st S 10 0 i (.int 3)) i := by
    unfold mg
    rw [q_kj (by decide), q_kj (by decide)]
    exact hg
  have hlU : mlf (q_st S 10 0 i (.int 3)) i = mlf S i := by
    unfold mlf
    rw [q_kj (by decide), q_kj (by decide)]
  unfold m_fm_await
  split
  · rcases mp_awaitL 5 (q_st S 10 0 i (.int 3)) 0 (mIs hI rfl) hgU q_ss (a := a) (b := b) with h | h
    · exact Or.inl (mA_t (Nat.le_of_eq hlU) (fun x z h => q_kj (by omega)) h)
    · exact Or.inr ⟨h.1, by rw [← hlU]; exact h.2.1, h.2.2⟩
  · exact Or.inl (mA_t (Nat.le_of_eq hlU) (fun x z h => q_kj (by omega)) (mA_of hgU q_ss (fun _ _ _ => rfl)))
theorem mp_note {S : q_S} {i : Nat} (hg : mg S i) (h0 : q_i (S 10 0 i) = 0) (a b : Int32) : mg (m_fm_note S i a b) i ∧ mlf (m_fm_note S i a b) i ≤ mlf S i ∧ (mE (m_fm_note S i a b) i ∨ q_i (m_fm_note S i a b 10 0 i) = 0) ∧ m_fm_note S i a b 12 0 i = S 12 0 i := by
  have h12 : m_fm_note S i a b 12 0 i = S 12 0 i := by
    refine mK_fm_note S i a b 12 0 i ?_ ?_ ?_ ?_ ?_ ?_ ?_ ?_ ?_ ?_ ?_ ?_ <;> decide
  refine ⟨?_, ?_, ?_, h12⟩
  · unfold m_fm_note
    split
    · exact mE_break.2
    · unfold mg
      rw [q_kj (by decide), q_kj (by decide), q_kj (by decide), q_kj (by decide), q_kj (by decide), q_kj (by decide), q_kj (by decide), q_kj (by decide)]
      exact hg
  · unfold m_fm_note
    split
    · rw [mlf_break]
      exact Nat.zero_le _
    · unfold mlf
      rw [q_kj (by decide), q_kj (by decide), q_kj (by decide), q_kj (by decide), q_kj (by decide), q_kj (by decide), q_kj (by decide), q_kj (by decide)]
      exact Nat.le_refl _
  · unfold m_fm_note
    split
    · exact Or.inl mE_break.1
    · rw [q_kj (by decide), q_kj (by decide), q_kj (by decide), q_kj (by decide)]
      exact Or.inr h0
/-- what a step comes to -/
def mT (U V : q_S) (i : Nat) : Prop := mg V i ∧ mlf V i ≤ mlf U i ∧ mV V i ∧ (mE V i ∨ V 12 0 i = U 12 0 i)
theorem mV_0 {S : q_S} {i : Nat} (h : q_i (S 10 0 i) = 0 ∨ q_i (S 10 0 i) = 4) : mV S i := by
  refine ⟨fun q => ?_, fun q => ?_, fun q => ?_⟩ <;> (rw [q] at h; exact absurd h (by decide))
theorem mT_A {U V : q_S} {i : Nat} {d : Int32} (h : mA U V i d) (h12 : mE V i ∨ V 12 0 i = U 12 0 i) (h1 : d = 1 → mPl U i ∧ mOp U i = 5) (h2 : d = 2 → mPl U i) (h3 : d = 3 → mPl U i ∧ mOp U i = 7) : mT U V i := by
  refine ⟨h.1, h.2.1, ?_, h12⟩
  rcases h.2.2 with q | ⟨g1, g2, g3, g4, g5⟩
  · exact mV_E q
  · have e1 : mPl V i = mPl U i := by unfold mPl; rw [g2, g3, g4]
    have e2 : mOp V i = mOp U i := by unfold mOp; rw [g2, g3, g5]
    unfold mV
    rw [g1, e1, e2]
    exact ⟨h1, h2, h3⟩
theorem mT_0 {U V : q_S} {i : Nat} (hg : mg U i) (h0 : q_i (V 10 0 i) = 0) (h : ∀ x, x = 12 ∨ x = 15 ∨ x = 16 → V x 0 i = U x 0 i) : mT U V i := by
  refine ⟨?_, ?_, mV_0 (Or.inl h0), Or.inr (h 12 (by omega))⟩
  · unfold mg
    rw [h 16 (by omega), h 15 (by omega)]
    exact hg
  · unfold mlf
    rw [h 16 (by omega), h 15 (by omega)]
    exact Nat.le_refl _
/-- a step of the reference: counted, then what the instruction says -/
def mCnt (S : q_S) (i : Nat) : q_S := if m_fm_left S i ≤ 0 then q_st (q_st S 33 0 3 (.int (q_i (S 33 0 3) + 1))) 12 0 i (.int (q_i (S 12 0 i) + 1)) else q_st (q_st S 33 0 4 (.int (q_i (S 33 0 4) + 1))) 12 0 i (.int (q_i (S 12 0 i) + 1))
def mDo (U : q_S) (i : Nat) (o a b : Int32) : q_S :=
  if o = 0 then q_st (q_st U 14 0 (4 * i + a.toNatClampNeg) (.int b)) 11 0 i (.int (q_i (U 11 0 i) + 1))
  else if o = 1 then q_st (q_st U 14 0 (4 * i + a.toNatClampNeg) (.int (q_i (U 14 0 (4 * i + a.toNatClampNeg)) + q_i (U 14 0 (4 * i + b.toNatClampNeg))))) 11 0 i (.int (q_i (U 11 0 i) + 1))
  else if o = 2 then (if q_i (U 14 0 (4 * i + b.toNatClampNeg)) ≤ q_i (U 14 0 (4 * i + a.toNatClampNeg)) then q_st (q_st U 14 0 (4 * i + a.toNatClampNeg) (.int 0)) 11 0 i (.int (q_i (U 11 0 i) + 1)) else q_st (q_st U 14 0 (4 * i + a.toNatClampNeg) (.int 1)) 11 0 i (.int (q_i (U 11 0 i) + 1)))
  else if o = 3 then q_st U 11 0 i (.int a)
  else if o = 4 then (if q_i (U 14 0 (4 * i + a.toNatClampNeg)) = 0 then q_st U 11 0 i (.int b) else q_st U 11 0 i (.int (q_i (U 11 0 i) + 1)))
  else if o = 5 then m_fm_want U i a (q_i (U 14 0 (4 * i + b.toNatClampNeg))) 1
  else if o = 6 then (if 1 ≤ q_i (U 14 0 (4 * i + a.toNatClampNeg)) then m_fm_sleep U i (q_i (U 14 0 (4 * i + a.toNatClampNeg))) else q_st U 11 0 i (.int (q_i (U 11 0 i) + 1)))
  else if o = 7 then m_fm_await U i a b
  else if o = 8 then m_fm_note U i a (q_i (U 14 0 (4 * i + b.toNatClampNeg)))
  else if o = 9 then m_fm_undo U i
  else m_fm_end (q_st U 13 0 i (.int (q_i (U 14 0 (4 * i + a.toNatClampNeg))))) i 5
theorem mCnt_o (S : q_S) (i a b d : Nat) (h1 : a ≠ 12) (h2 : a ≠ 33) : mCnt S i a b d = S a b d := by
  unfold mCnt
  split
  · exact (q_kj h1).trans (q_kj h2)
  · exact (q_kj h1).trans (q_kj h2)
theorem mCnt_st (S : q_S) (i : Nat) : q_i (mCnt S i 12 0 i) = q_i (S 12 0 i) + 1 := by
  unfold mCnt
  split
  · exact q_ss
  · exact q_ss
theorem mDo10 (U : q_S) (i : Nat) (b : Int32) : mDo U i 10 0 b = m_fm_end (q_st U 13 0 i (.int (q_i (U 14 0 (4 * i + (0 : Int32).toNatClampNeg))))) i 5 := by
  unfold mDo
  rw [if_neg (by decide), if_neg (by decide), if_neg (by decide), if_neg (by decide), if_neg (by decide), if_neg (by decide), if_neg (by decide), if_neg (by decide), if_neg (by decide), if_neg (by decide)]
set_option maxHeartbeats 4000000 in
theorem m_step_eq (S : q_S) (i : Nat) : m_fm_step S i = if q_i (S 11 0 i) < q_i (S 4 0 (q_i (S 9 0 i)).toNatClampNeg) then mDo (mCnt S i) i (mOp S i) (q_i (S 2 0 (14 * ((q_i (S 9 0 i)).toNatClampNeg) + ((q_i (S 11 0 i)).toNatClampNeg)))) (q_i (S 3 0 (14 * ((q_i (S 9 0 i)).toNatClampNeg) + ((q_i (S 11 0 i)).toNatClampNeg)))) else mDo (mCnt S i) i 10 0 0 := by
  have e14 : ∀ k, mCnt S i 14 0 k = S 14 0 k := fun k => mCnt_o S i 14 0 k (by decide) (by decide)
  have e11 : mCnt S i 11 0 i = S 11 0 i := mCnt_o S i 11 0 i (by decide) (by decide)
  have z0 : (0 : Int32).toNatClampNeg = 0 := by decide
  by_cases h1 : q_i (S 11 0 i) < q_i (S 4 0 (q_i (S 9 0 i)).toNatClampNeg)
  · rw [if_pos h1]
    unfold m_fm_step mOp mDo
    rw [if_pos h1]
    simp only [e14, e11]
    by_cases h2 : m_fm_left S i ≤ 0
    · rw [if_pos h2]
      have hU : mCnt S i = q_st (q_st S 33 0 3 (.int (q_i (S 33 0 3) + 1))) 12 0 i (.int (q_i (S 12 0 i) + 1)) := by unfold mCnt; rw [if_pos h2]
      rw [hU]
    · rw [if_neg h2]
      have hU : mCnt S i = q_st (q_st S 33 0 4 (.int (q_i (S 33 0 4) + 1))) 12 0 i (.int (q_i (S 12 0 i) + 1)) := by unfold mCnt; rw [if_neg h2]
      rw [hU]
  · rw [if_neg h1]
    rw [mDo10, e14, z0]
    unfold m_fm_step
    rw [if_neg h1]
    by_cases h2 : m_fm_left S i ≤ 0
    · rw [if_pos h2]
      have hU : mCnt S i = q_st (q_st S 33 0 3 (.int (q_i (S 33 0 3) + 1))) 12 0 i (.int (q_i (S 12 0 i) + 1)) := by unfold mCnt; rw [if_pos h2]
      rw [hU]
    · rw [if_neg h2]
      have hU : mCnt S i = q_st (q_st S 33 0 4 (.int (q_i (S 33 0 4) + 1))) 12 0 i (.int (q_i (S 12 0 i) + 1)) := by unfold mCnt; rw [if_neg h2]
      rw [hU]
/-- what an instruction comes to; at a place that has one, or END 0 -/
theorem mT_do {U : q_S} {i : Nat} (hI : mI U) (hg : mg U i) (h0 : q_i (U 10 0 i) = 0) (o a b : Int32) (hpl : ¬ o = 10 → mPl U i ∧ mOp U i = o) (h5 : mPl U i → mOp U i = o ∨ o = 10) : mT U (mDo U i o a b) i := by
  have ev : ∀ (V : q_S) (k : Nat) (u v : Value), q_i (V 10 0 i) = 0 → q_i ((q_st (q_st V 14 0 k u) 11 0 i v) 10 0 i) = 0 := fun V k u v h => by rw [q_kj (by decide), q_kj (by decide)]; exact h
  have e1 : ∀ (V : q_S) (v : Value), q_i (V 10 0 i) = 0 → q_i ((q_st V 11 0 i v) 10 0 i) = 0 := fun V v h => by rw [q_kj (by decide)]; exact h
  have k2 : ∀ (k : Nat) (u v : Value) (x : Nat), x = 12 ∨ x = 15 ∨ x = 16 → (q_st (q_st U 14 0 k u) 11 0 i v) x 0 i = U x 0 i := fun k u v x h => by rw [q_kj (by omega), q_kj (by omega)]
  have k1 : ∀ (v : Value) (x : Nat), x = 12 ∨ x = 15 ∨ x = 16 → (q_st U 11 0 i v) x 0 i = U x 0 i := fun v x h => by rw [q_kj (by omega)]
  by_cases o10 : o = 10
  · subst o10
    have hE : mT U (m_fm_end (q_st U 13 0 i (.int (q_i (U 14 0 (4 * i + a.toNatClampNeg))))) i 5) i := by
      refine ⟨mg_end ?_, ?_, mV_E (mE_end (by decide)), Or.inl (mE_end (by decide))⟩
      · unfold mg
        rw [q_kj (by decide), q_kj (by decide)]
        exact hg
      · rw [mlf_end]
        unfold mlf
        rw [q_kj (by decide), q_kj (by decide)]
        exact Nat.le_refl _
    unfold mDo
    rw [if_neg (by decide), if_neg (by decide), if_neg (by decide), if_neg (by decide), if_neg (by decide), if_neg (by decide), if_neg (by decide), if_neg (by decide), if_neg (by decide), if_neg (by decide)]
    exact hE
  · obtain ⟨hP, hO⟩ := hpl o10
    unfold mDo
    split
    · exact mT_0 hg (ev _ _ _ _ h0) (k2 _ _ _)
    · split
      · exact mT_0 hg (ev _ _ _ _ h0) (k2 _ _ _)
      · split
        · split
          · exact mT_0 hg (ev _ _ _ _ h0) (k2 _ _ _)
          · exact mT_0 hg (ev _ _ _ _ h0) (k2 _ _ _)
        · split
          · exact mT_0 hg (e1 _ _ h0) (k1 _)
          · split
            · split
              · exact mT_0 hg (e1 _ _ h0) (k1 _)
              · exact mT_0 hg (e1 _ _ h0) (k1 _)
            · split
              · rename_i q
                have h := mp_want hI hg a (q_i (U 14 0 (4 * i + b.toNatClampNeg))) 1
                exact mT_A h.1 (Or.inr h.2) (fun _ => ⟨hP, hO.trans q⟩) (fun z => absurd z (by decide)) (fun z => absurd z (by decide))
              · split
                · split
                  · have h := mp_sleep hI hg (q_i (U 14 0 (4 * i + a.toNatClampNeg)))
                    exact mT_A h.1 (Or.inr h.2) (fun z => absurd z (by decide)) (fun _ => hP) (fun z => absurd z (by decide))
                  · exact mT_0 hg (e1 _ _ h0) (k1 _)
                · split
                  · rename_i q
                    have h := mp_await hI hg a b
                    rcases h.1 with g | g
                    · exact mT_A g (Or.inr h.2) (fun z => absurd z (by decide)) (fun z => absurd z (by decide)) (fun _ => ⟨hP, hO.trans q⟩)
                    · exact ⟨g.1, g.2.1, mV_0 (Or.inl g.2.2), Or.inr h.2⟩
                  · split
                    · have h := mp_note hg h0 a (q_i (U 14 0 (4 * i + b.toNatClampNeg)))
                      exact ⟨h.1, h.2.1, h.2.2.1.elim mV_E (fun z => mV_0 (Or.inl z)), Or.inr h.2.2.2⟩
                    · split
                      · have h := mp_undo hI hg
                        exact mT_A h.1 h.2 (fun z => absurd z (by decide)) (fun z => absurd z (by decide)) (fun z => absurd z (by decide))
                      · refine ⟨mg_end ?_, ?_, mV_E (mE_end (by decide)), Or.inl (mE_end (by decide))⟩
                        · unfold mg
                          rw [q_kj (by decide), q_kj (by decide)]
                          exact hg
                        · rw [mlf_end]
                          unfold mlf
                          rw [q_kj (by decide), q_kj (by decide)]
                          exact Nat.le_refl _
theorem mCnt_I {S : q_S} {i : Nat} (hI : mI S) (hs : (q_i (S 12 0 i)).toInt ≤ 59) : mI (mCnt S i) := by
  have b1 : 0 ≤ (q_i (S 12 0 i)).toInt ∧ (q_i (S 12 0 i)).toInt ≤ 60 := hI 12 0 i
  have e1 := q_inc (x := q_i (S 12 0 i)) (by omega)
  unfold mCnt
  split
  · exact mI_st (mIs hI rfl) (by rw [e1]; show (0 : Int) ≤ _ ∧ _ ≤ (60 : Int); omega)
  · exact mI_st (mIs hI rfl) (by rw [e1]; show (0 : Int) ≤ _ ∧ _ ≤ (60 : Int); omega)
theorem mT_step {S : q_S} {i : Nat} (hI : mI S) (hg : mg S i) (hs : (q_i (S 12 0 i)).toInt ≤ 59) (h0 : q_i (S 10 0 i) = 0) : mT (mCnt S i) (m_fm_step S i) i := by
  have hIU := mCnt_I hI hs
  have hgU : mg (mCnt S i) i := by
    unfold mg
    rw [mCnt_o _ _ _ _ _ (by decide) (by decide), mCnt_o _ _ _ _ _ (by decide) (by decide)]
    exact hg
  have h0U : q_i (mCnt S i 10 0 i) = 0 := by rw [mCnt_o _ _ _ _ _ (by decide) (by decide)]; exact h0
  have eP : mPl (mCnt S i) i = mPl S i := by
    unfold mPl
    rw [mCnt_o _ _ 11 _ _ (by decide) (by decide), mCnt_o _ _ 9 _ _ (by decide) (by decide), mCnt_o _ _ 4 _ _ (by decide) (by decide)]
  have eO : mOp (mCnt S i) i = mOp S i := by
    unfold mOp
    rw [mCnt_o _ _ 11 _ _ (by decide) (by decide), mCnt_o _ _ 9 _ _ (by decide) (by decide), mCnt_o _ _ 1 _ _ (by decide) (by decide)]
  rw [m_step_eq]
  split
  · rename_i h
    exact mT_do hIU hgU h0U _ _ _ (fun _ => ⟨by rw [eP]; exact h, eO⟩) (fun _ => Or.inl eO)
  · exact mT_do hIU hgU h0U 10 0 0 (fun z => absurd rfl z) (fun _ => Or.inr rfl)
theorem mM_step {S : q_S} {i : Nat} (hI : mI S) (hg : mg S i) (hs : (q_i (S 12 0 i)).toInt ≤ 59) (h0 : q_i (S 10 0 i) = 0) : mM (m_fm_step S i) i < mM S i := by
  obtain ⟨h1, h2, h3, h4⟩ := mT_step hI hg hs h0
  have b1 : 0 ≤ (q_i (S 12 0 i)).toInt ∧ (q_i (S 12 0 i)).toInt ≤ 60 := hI 12 0 i
  have e1 := q_inc (x := q_i (S 12 0 i)) (by omega)
  have hl : mlf (mCnt S i) i = mlf S i := by
    unfold mlf
    rw [mCnt_o _ _ _ _ _ (by decide) (by decide), mCnt_o _ _ _ _ _ (by decide) (by decide)]
  have hS : mM S i = 1 + mlf S i * 62 + (1 + (60 - (q_i (S 12 0 i)).toInt).toNat) := by
    unfold mM
    rw [if_neg (by rw [h0]; decide), if_pos h0]
  rcases h4 with q | q
  · rw [mM_E q, hS]
    omega
  · rw [hS]
    unfold mM
    rw [q, mCnt_st, e1]
    rw [hl] at h2
    split
    · omega
    · split <;> omega
