theorem mQ_fm_want (S : q_S) (i : Nat) (a b d : Int32) (hi : i < 6) (hI : mI S) (hg : mg S i) (hQ : mQ S) : mQ (m_fm_want S i a b d) := by
  have h1 := mQ_fm_put S i 2 a b hi hI hg hQ
  have h2 : mQ (q_st (q_st (m_fm_put S i 2 a b).2 27 0 i (.int a)) 10 0 i (.int d)) := mQ_eq h1 ((q_kj (by decide)).trans (q_kj (by decide))) (fun _ => (q_kj (by decide)).trans (q_kj (by decide))) (fun _ => (q_kj (by decide)).trans (q_kj (by decide)))
  unfold m_fm_want
  repeat' split
  · exact h1
  · exact mQ_newTask hi (mIs (mIs (mI_fm_put S i 2 a b hi hI hg) rfl) rfl) h2
  · exact h1
  · exact h2
theorem mQ_fm_undo (S : q_S) (i : Nat) (hi : i < 6) (hI : mI S) (hg : mg S i) (hQ : mQ S) : mQ (m_fm_undo S i) := by
  unfold m_fm_undo
  split
  · exact mQ_fm_end S i 6 hi hI (by decide) hQ
  · rename_i hn
    have b1 : 0 ≤ (q_i (S 20 0 i)).toInt ∧ (q_i (S 20 0 i)).toInt ≤ 6 := hI 20 0 i
    have hn := lv_neT hn (a := 0) (by decide)
    have e1 := q_dec (x := q_i (S 20 0 i)) (by omega)
    refine mQ_fm_want _ i _ _ 4 hi (mI_st hI (by rw [e1]; show (0 : Int) ≤ _ ∧ _ ≤ (6 : Int); omega)) ?_ (mQ_eq hQ (q_kj (by decide)) (fun _ => q_kj (by decide)) (fun _ => q_kj (by decide)))
    unfold mg
    rw [q_kj (by decide), q_kj (by decide)]
    exact hg
theorem mQ_fm_sleep (S : q_S) (i : Nat) (a : Int32) (hi : i < 6) (hI : mI S) (hg : mg S i) (hQ : mQ S) : mQ (m_fm_sleep S i a) := by
  have h1 := mQ_fm_put S i 5 a 0 hi hI hg hQ
  unfold m_fm_sleep
  repeat' split
  · exact h1
  · exact mQ_eq h1 ((q_kj (by decide)).trans (q_kj (by decide))) (fun _ => (q_kj (by decide)).trans (q_kj (by decide))) (fun _ => (q_kj (by decide)).trans (q_kj (by decide)))
  · exact h1
  · exact mQ_eq h1 (q_kj (by decide)) (fun _ => q_kj (by decide)) (fun _ => q_kj (by decide))
theorem mQ_awaitL {i : Nat} {a b : Int32} (hi : i < 6) : ∀ (n : Nat) (S : q_S) (t : Nat), mI S → mg S i → mQ S → mQ (m_fm_await_L0 n S i a b t) := by
  intro n
  induction n with
  | zero => intro S t _ _ h; exact h
  | succ n ih =>
    intro S t hI hg hQ
    rw [m_fm_await_L0]
    split
    · exact hQ
    · split
      · have h1 := mQ_fm_put S i 7 a (q_i (S 25 0 (4 * i + t))) hi hI hg hQ
        generalize m_fm_put S i 7 a (q_i (S 25 0 (4 * i + t))) = P at h1 ⊢
        split
        · exact h1
        · have e : ∀ x y z : Nat, (x = 0 ∨ x = 32 ∨ x = 7) → (q_st (q_st (q_st (m_fm_await_L1 5 (q_st P.2 23 0 i (.int (q_i (S 23 0 i) - 1))) i a b (q_i (S 25 0 (4 * i + t))) t) 14 0 (4 * i + b.toNatClampNeg) (.int (q_i (S 25 0 (4 * i + t))))) 11 0 i (.int (q_i (S 11 0 i) + 1))) 10 0 i (.int 0)) x y z = P.2 x y z := by
            intro x y z h
            rw [q_kj (by omega), q_kj (by omega), q_kj (by omega), m_aw1 _ _ _ _ _ _ _ _ _ _ (by omega), q_kj (by omega)]
          exact mQ_eq h1 (e 0 0 33 (Or.inl rfl)) (fun k => e 32 0 k (Or.inr (Or.inl rfl))) (fun k => e 7 0 k (Or.inr (Or.inr rfl)))
      · exact ih S (t + 1) hI hg hQ
theorem mQ_fm_await (S : q_S) (i : Nat) (a b : Int32) (hi : i < 6) (hI : mI S) (hg : mg S i) (hQ : mQ S) : mQ (m_fm_await S i a b) := by
  have h2 : mQ (q_st S 10 0 i (.int 3)) := mQ_eq hQ (q_kj (by decide)) (fun _ => q_kj (by decide)) (fun _ => q_kj (by decide))
  unfold m_fm_await
  split
  · refine mQ_awaitL hi 5 _ 0 (mIs hI rfl) ?_ h2
    unfold mg
    rw [q_kj (by decide), q_kj (by decide)]
    exact hg
  · exact h2
theorem mQ_note (S : q_S) (i : Nat) (a b : Int32) (hi : i < 6) (hI : mI S) (hQ : mQ S) : mQ (m_fm_note S i a b) := by
  unfold m_fm_note
  split
  · exact mQ_fm_breakUp S i hi hI hQ
  · have e : ∀ x y z : Nat, (x = 0 ∨ x = 32 ∨ x = 7) → (q_st (q_st (q_st (q_st S 21 0 (6 * i + ((q_i (S 20 0 i)).toNatClampNeg)) (.int a)) 22 0 (6 * i + ((q_i (S 20 0 i)).toNatClampNeg)) (.int b)) 20 0 i (.int ((q_i (S 20 0 i)) + 1))) 11 0 i (.int ((q_i (S 11 0 i)) + 1))) x y z = S x y z := by
      intro x y z h
      rw [q_kj (by omega), q_kj (by omega), q_kj (by omega), q_kj (by omega)]
    exact mQ_eq hQ (e 0 0 33 (Or.inl rfl)) (fun k => e 32 0 k (Or.inr (Or.inl rfl))) (fun k => e 7 0 k (Or.inr (Or.inr rfl)))
theorem mQ_do {U : q_S} {i : Nat} (hi : i < 6) (hI : mI U) (hg : mg U i) (hQ : mQ U) (o a b : Int32) : mQ (mDo U i o a b) := by
  have e2 : ∀ (k : Nat) (u v : Value), mQ (q_st (q_st U 14 0 k u) 11 0 i v) := fun k u v => mQ_eq hQ ((q_kj (by decide)).trans (q_kj (by decide))) (fun _ => (q_kj (by decide)).trans (q_kj (by decide))) (fun _ => (q_kj (by decide)).trans (q_kj (by decide)))
  have e1 : ∀ v : Value, mQ (q_st U 11 0 i v) := fun v => mQ_eq hQ (q_kj (by decide)) (fun _ => q_kj (by decide)) (fun _ => q_kj (by decide))
  unfold mDo
  repeat' split
  · exact e2 _ _ _
  · exact e2 _ _ _
  · exact e2 _ _ _
  · exact e2 _ _ _
  · exact e1 _
  · exact e1 _
  · exact e1 _
  · exact mQ_fm_want U i _ _ 1 hi hI hg hQ
  · exact mQ_fm_sleep U i _ hi hI hg hQ
  · exact e1 _
  · exact mQ_fm_await U i _ _ hi hI hg hQ
  · exact mQ_note U i _ _ hi hI hQ
  · exact mQ_fm_undo U i hi hI hg hQ
  · exact mQ_fm_end _ i 5 hi (mIs hI rfl) (by decide) (mQ_eq hQ (q_kj (by decide)) (fun _ => q_kj (by decide)) (fun _ => q_kj (by decide)))
theorem mQ_fm_step (S : q_S) (i : Nat) (hi : i < 6) (hI : mI S) (hJ : mJ S) (hg : mg S i) (hQ : mQ S) (hs : (q_i (S 12 0 i)).toInt ≤ 59) : mQ (m_fm_step S i) := by
  have hIU := mCnt_I hI hs
  have hgU : mg (mCnt S i) i := by
    unfold mg
    rw [mCnt_o _ _ _ _ _ (by decide) (by decide), mCnt_o _ _ _ _ _ (by decide) (by decide)]
    exact hg
  have hQU : mQ (mCnt S i) := mQ_eq hQ (mCnt_o _ _ _ _ _ (by decide) (by decide)) (fun _ => mCnt_o _ _ _ _ _ (by decide) (by decide)) (fun _ => mCnt_o _ _ _ _ _ (by decide) (by decide))
  rw [m_step_eq]
  split
  · exact mQ_do hi hIU hgU hQU _ _ _
  · exact mQ_do hi hIU hgU hQU _ _ _
/-! a workflow that waits is at an instruction for which it waits -/
theorem mV_w {S : q_S} {i : Nat} (hV : mV S i) (h : q_i (S 10 0 i) = 1 ∨ q_i (S 10 0 i) = 2 ∨ q_i (S 10 0 i) = 3) : mPl S i := by
  rcases h with h | h | h
  · exact (hV.1 h).1
  · exact hV.2.1 h
  · exact (hV.2.2 h).1
theorem mV_13 {S : q_S} {i : Nat} (hI : mI S) (hV : mV S i) (h : q_i (S 10 0 i) = 1 ∨ q_i (S 10 0 i) = 2 ∨ q_i (S 10 0 i) = 3) : (q_i (S 11 0 i)).toInt ≤ 13 := by
  have h1 := mV_w hV h
  unfold mPl at h1
  rw [Int32.lt_iff_toInt_lt] at h1
  have b1 : 0 ≤ (q_i (S 4 0 (q_i (S 9 0 i)).toNatClampNeg)).toInt ∧ (q_i (S 4 0 (q_i (S 9 0 i)).toNatClampNeg)).toInt ≤ 14 := hI 4 0 _
  omega
def mSt (S : q_S) (i : Nat) (a : Int32) : Prop := (q_i (S 10 0 i) = 1 ∧ (a = 3 ∨ a = 4)) ∨ (q_i (S 10 0 i) = 2 ∧ a = 6) ∨ (q_i (S 10 0 i) = 3 ∧ a = 7) ∨ (q_i (S 10 0 i) = 4 ∧ (a = 3 ∨ a = 4))
theorem mSt_w {S : q_S} {i : Nat} {a : Int32} (h : mSt S i a) (h4 : ¬ q_i (S 10 0 i) = 4) : q_i (S 10 0 i) = 1 ∨ q_i (S 10 0 i) = 2 ∨ q_i (S 10 0 i) = 3 := by
  rcases h with h | h | h | h
  · exact Or.inl h.1
  · exact Or.inr (Or.inl h.1)
  · exact Or.inr (Or.inr h.1)
  · exact absurd h.1 h4
theorem mSt_two {S : q_S} {i : Nat} {a : Int32} (hI : mI S) (hJ : mJ S) (hV : mV S i) (h : mSt S i a) (h4 : ¬ q_i (S 10 0 i) = 4) (h6 : ¬ a = 6) : 0 ≤ (q_i (S 3 0 (14 * ((q_i (S 9 0 i)).toNatClampNeg) + ((q_i (S 11 0 i)).toNatClampNeg)))).toInt ∧ (q_i (S 3 0 (14 * ((q_i (S 9 0 i)).toNatClampNeg) + ((q_i (S 11 0 i)).toNatClampNeg)))).toInt ≤ 3 := by
  rcases h with h | h | h | h
  · obtain ⟨g1, g2⟩ := hV.1 h.1
    exact mG_b (mJ_at hI hJ g1) (Or.inr (Or.inr (Or.inl g2)))
  · exact absurd h.2 h6
  · obtain ⟨g1, g2⟩ := hV.2.2 h.1
    exact mG_b (mJ_at hI hJ g1) (Or.inr (Or.inr (Or.inr (Or.inl g2))))
  · exact absurd h.1 h4
