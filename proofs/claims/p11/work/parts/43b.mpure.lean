/-! THE REFERENCE'S GOING ON: what it keeps, and why it ends -/
def mPl (S : q_S) (i : Nat) : Prop := q_i (S 11 0 i) < q_i (S 4 0 (q_i (S 9 0 i)).toNatClampNeg)
def mOp (S : q_S) (i : Nat) : Int32 := q_i (S 1 0 (14 * ((q_i (S 9 0 i)).toNatClampNeg) + ((q_i (S 11 0 i)).toNatClampNeg)))
def mV (S : q_S) (i : Nat) : Prop := (q_i (S 10 0 i) = 1 → mPl S i ∧ mOp S i = 5) ∧ (q_i (S 10 0 i) = 2 → mPl S i) ∧ (q_i (S 10 0 i) = 3 → mPl S i ∧ mOp S i = 7)
def mE (S : q_S) (i : Nat) : Prop := 5 ≤ (q_i (S 10 0 i)).toInt
def mg (S : q_S) (i : Nat) : Prop := (q_i (S 16 0 i)).toInt ≤ (q_i (S 15 0 i)).toInt
def mlf (S : q_S) (i : Nat) : Nat := ((q_i (S 15 0 i)).toInt - (q_i (S 16 0 i)).toInt).toNat
/-- how far it can still come -/
def mM (S : q_S) (i : Nat) : Nat := if 5 ≤ (q_i (S 10 0 i)).toInt then 0 else 1 + mlf S i * 62 + (if q_i (S 10 0 i) = 0 then 1 + (60 - (q_i (S 12 0 i)).toInt).toNat else 0)
theorem mV_E {S : q_S} {i : Nat} (h : mE S i) : mV S i := by
  have h : 5 ≤ (q_i (S 10 0 i)).toInt := h
  refine ⟨fun q => ?_, fun q => ?_, fun q => ?_⟩ <;> (rw [q] at h; exact absurd h (by decide))
theorem mM_E {S : q_S} {i : Nat} (h : mE S i) : mM S i = 0 := by
  unfold mM
  exact if_pos h
theorem m_left_n {S : q_S} {i : Nat} (hI : mI S) (hg : mg S i) : (m_fm_left S i).toInt = (mlf S i : Int) := by
  rw [mF_left hI i]
  have hg : (q_i (S 16 0 i)).toInt ≤ (q_i (S 15 0 i)).toInt := hg
  unfold mlf
  omega
theorem mE_end {S : q_S} {i : Nat} {a : Int32} (ha : 5 ≤ a.toInt) : mE (m_fm_end S i a) i := by
  unfold mE m_fm_end
  split
  · rw [mK_fm_noTask _ _ 10 0 i (by decide) (by decide) (by decide) (by decide) (by decide), q_kj (by decide), q_ss]
    exact ha
  · rw [mK_fm_noTask _ _ 10 0 i (by decide) (by decide) (by decide) (by decide) (by decide), q_kj (by decide), q_ss]
    decide
theorem m_end_15 {S : q_S} {i : Nat} {a : Int32} (x y z : Nat) (h : x = 15 ∨ x = 16) : m_fm_end S i a x y z = S x y z := by
  refine mK_fm_end S i a x y z ?_ ?_ ?_ ?_ ?_ ?_ ?_ <;> omega
theorem mg_end {S : q_S} {i : Nat} {a : Int32} (h : mg S i) : mg (m_fm_end S i a) i := by
  unfold mg
  rw [m_end_15 16 0 i (Or.inr rfl), m_end_15 15 0 i (Or.inl rfl)]
  exact h
theorem mE_break {S : q_S} {i : Nat} : mE (m_fm_breakUp S i) i ∧ mg (m_fm_breakUp S i) i := by
  unfold m_fm_breakUp
  refine ⟨mE_end (by decide), mg_end ?_⟩
  unfold mg
  rw [q_ss, q_kj (by decide)]
  exact Int.le_refl _
theorem mlf_break {S : q_S} {i : Nat} : mlf (m_fm_breakUp S i) i = 0 := by
  unfold m_fm_breakUp mlf
  rw [m_end_15 16 0 i (Or.inr rfl), m_end_15 15 0 i (Or.inl rfl), q_ss, q_kj (by decide)]
  omega
/-- an entry put: broken, or one is passed or written -/
theorem mp_put {S : q_S} {i : Nat} (hI : mI S) (hg : mg S i) (a b d : Int32) : ((m_fm_put S i a b d).1 = 0 ∧ mE (m_fm_put S i a b d).2 i ∧ mg (m_fm_put S i a b d).2 i ∧ mlf (m_fm_put S i a b d).2 i ≤ mlf S i) ∨
    ((m_fm_put S i a b d).1 = 1 ∧ mg (m_fm_put S i a b d).2 i ∧ mlf (m_fm_put S i a b d).2 i ≤ mlf S i ∧ ∀ x y z : Nat, (x < 15 ∨ 19 < x) → (m_fm_put S i a b d).2 x y z = S x y z) := by
  have b1 : 0 ≤ (q_i (S 15 0 i)).toInt ∧ (q_i (S 15 0 i)).toInt ≤ 20 := hI 15 0 i
  have b2 : 0 ≤ (q_i (S 16 0 i)).toInt ∧ (q_i (S 16 0 i)).toInt ≤ 20 := hI 16 0 i
  have e1 := q_inc (x := q_i (S 15 0 i)) (by omega)
  have e2 := q_inc (x := q_i (S 16 0 i)) (by omega)
  have hl := m_left_n hI hg
  have hg0 : (q_i (S 16 0 i)).toInt ≤ (q_i (S 15 0 i)).toInt := hg
  have W1 : ∀ (u v w : Value) (k1 k2 k3 : Nat), mg (q_st (q_st (q_st (q_st (q_st S 17 0 k1 u) 18 0 k2 v) 19 0 k3 w) 15 0 i (.int (q_i (S 15 0 i) + 1))) 16 0 i (.int (q_i (S 16 0 i) + 1))) i ∧ mlf (q_st (q_st (q_st (q_st (q_st S 17 0 k1 u) 18 0 k2 v) 19 0 k3 w) 15 0 i (.int (q_i (S 15 0 i) + 1))) 16 0 i (.int (q_i (S 16 0 i) + 1))) i ≤ mlf S i ∧ ∀ x y z : Nat, (x < 15 ∨ 19 < x) → (q_st (q_st (q_st (q_st (q_st S 17 0 k1 u) 18 0 k2 v) 19 0 k3 w) 15 0 i (.int (q_i (S 15 0 i) + 1))) 16 0 i (.int (q_i (S 16 0 i) + 1))) x y z = S x y z := by
    intro u v w k1 k2 k3
    refine ⟨?_, ?_, fun x y z h => ?_⟩
    · unfold mg
      rw [q_ss, q_kj (by decide), q_ss]
      omega
    · unfold mlf
      rw [q_ss, q_kj (by decide), q_ss]
      omega
    · rw [q_kj (by omega), q_kj (by omega), q_kj (by omega), q_kj (by omega), q_kj (by omega)]
  have W2 : ¬ m_fm_left S i = 0 → mg (q_st S 16 0 i (.int (q_i (S 16 0 i) + 1))) i ∧ mlf (q_st S 16 0 i (.int (q_i (S 16 0 i) + 1))) i ≤ mlf S i ∧ ∀ x y z : Nat, (x < 15 ∨ 19 < x) → (q_st S 16 0 i (.int (q_i (S 16 0 i) + 1))) x y z = S x y z := by
    intro hn
    have hn := lv_neT hn (a := 0) (by decide)
    refine ⟨?_, ?_, fun x y z h => ?_⟩
    · unfold mg
      rw [q_ss, q_kj (by decide)]
      unfold mlf at hl
      omega
    · unfold mlf
      rw [q_ss, q_kj (by decide)]
      omega
    · rw [q_kj (by omega)]
  generalize hr : m_fm_put S i a b d = r
  unfold m_fm_put at hr
  repeat' split at hr
  · subst hr
    exact Or.inl ⟨rfl, mE_break.1, mE_break.2, by rw [mlf_break]; exact Nat.zero_le _⟩
  · subst hr
    exact Or.inr ⟨rfl, W1 _ _ _ _ _ _⟩
  · rename_i hn
    subst hr
    exact Or.inr ⟨rfl, W2 hn⟩
  · subst hr
    exact Or.inr ⟨rfl, W1 _ _ _ _ _ _⟩
  · rename_i hn
    subst hr
    exact Or.inr ⟨rfl, W2 hn⟩
  · subst hr
    exact Or.inl ⟨rfl, mE_break.1, mE_break.2, by rw [mlf_break]; exact Nat.zero_le _⟩
  · subst hr
    exact Or.inl ⟨rfl, mE_break.1, mE_break.2, by rw [mlf_break]; exact Nat.zero_le _⟩
  · subst hr
    exact Or.inl ⟨rfl, mE_break.1, mE_break.2, by rw [mlf_break]; exact Nat.zero_le _⟩
/-- ended, or it waits as d says, at its place -/
def mA (S U : q_S) (i : Nat) (d : Int32) : Prop := mg U i ∧ mlf U i ≤ mlf S i ∧ (mE U i ∨ (q_i (U 10 0 i) = d ∧ U 11 0 i = S 11 0 i ∧ U 9 0 i = S 9 0 i ∧ (∀ k, U 4 0 k = S 4 0 k) ∧ (∀ k, U 1 0 k = S 1 0 k)))
theorem mA_E {S U : q_S} {i : Nat} {d : Int32} (h : mE U i) (hg : mg U i) (hl : mlf U i ≤ mlf S i) : mA S U i d := ⟨hg, hl, Or.inl h⟩
theorem mlf_end {S : q_S} {i : Nat} {a : Int32} : mlf (m_fm_end S i a) i = mlf S i := by
  unfold mlf
  rw [m_end_15 16 0 i (Or.inr rfl), m_end_15 15 0 i (Or.inl rfl)]
theorem m_new_o {S : q_S} {i : Nat} {a : Int32} (x y z : Nat) (h : (0 < x ∧ x < 7) ∨ (8 < x ∧ x < 28)) : m_fm_newTask S i a x y z = S x y z := by
  unfold m_fm_newTask
  rw [q_kj (by omega), q_kj (by omega), q_kj (by omega), q_kj (by omega), q_kj (by omega)]
  exact mK_fm_noTask S i x y z (by omega) (by omega) (by omega) (by omega) (by omega)
theorem mA_of {S U : q_S} {i : Nat} {d : Int32} (hg : mg S i) (h10 : q_i (U 10 0 i) = d) (h : ∀ x z : Nat, (x = 1 ∨ x = 4 ∨ x = 9 ∨ x = 11 ∨ x = 15 ∨ x = 16) → U x 0 z = S x 0 z) : mA S U i d := by
  refine ⟨?_, ?_, Or.inr ⟨h10, h 11 i (by omega), h 9 i (by omega), fun k => h 4 k (by omega), fun k => h 1 k (by omega)⟩⟩
  · unfold mg
    rw [h 16 i (by omega), h 15 i (by omega)]
    exact hg
  · unfold mlf
    rw [h 16 i (by omega), h 15 i (by omega)]
    exact Nat.le_refl _
theorem mA_t {S U V : q_S} {i : Nat} {d : Int32} (hl : mlf U i ≤ mlf S i) (hs : ∀ x z : Nat, (x = 1 ∨ x = 4 ∨ x = 9 ∨ x = 11) → U x 0 z = S x 0 z) (h : mA U V i d) : mA S V i d := by
  refine ⟨h.1, Nat.le_trans h.2.1 hl, h.2.2.imp id ?_⟩
  rintro ⟨h1, h2, h3, h4, h5⟩
  exact ⟨h1, h2.trans (hs 11 i (by omega)), h3.trans (hs 9 i (by omega)), fun k => (h4 k).trans (hs 4 k (by omega)), fun k => (h5 k).trans (hs 1 k (by omega))⟩
theorem mp_want {S : q_S} {i : Nat} (hI : mI S) (hg : mg S i) (a b d : Int32) : mA S (m_fm_want S i a b d) i d ∧ (m_fm_want S i a b d 12 0 i = S 12 0 i) := by
  have h12 : m_fm_want S i a b d 12 0 i = S 12 0 i := by
    refine mK_fm_want S i a b d 12 0 i ?_ ?_ ?_ ?_ ?_ ?_ ?_ ?_ ?_ ?_ ?_ ?_ ?_ ?_ ?_ <;> decide
  refine ⟨?_, h12⟩
  generalize hr : m_fm_want S i a b d = V
  unfold m_fm_want at hr
  have hp := mp_put hI hg 2 a b
  generalize m_fm_put S i 2 a b = P at hp hr
  rcases hp with ⟨p0, p1, p2, hl⟩ | ⟨p0, p1, p2, p3⟩
  · rw [if_pos p0, if_pos p0] at hr
    split at hr
    · subst hr; exact mA_E p1 p2 hl
    · subst hr; exact mA_E p1 p2 hl
  · have n0 : ¬ P.1 = 0 := by rw [p0]; decide
    rw [if_neg n0, if_neg n0] at hr
    have hB : mA S (q_st (q_st P.2 27 0 i (.int a)) 10 0 i (.int d)) i d := by
      refine mA_t p2 (fun x z h => p3 x 0 z (by omega)) (mA_of p1 q_ss ?_)
      intro x z h
      rw [q_kj (by omega), q_kj (by omega)]
    split at hr
    · subst hr
      refine mA_t (Nat.le_refl _) (fun _ _ _ => rfl) ?_
      refine ⟨?_, ?_, hB.2.2.imp ?_ ?_⟩
      · unfold mg
        rw [m_new_o 16 0 i (by omega), m_new_o 15 0 i (by omega)]
        exact hB.1
      · unfold mlf
        rw [m_new_o 16 0 i (by omega), m_new_o 15 0 i (by omega)]
        exact hB.2.1
      · intro h
        unfold mE
        rw [m_new_o 10 0 i (by omega)]
        exact h
      · rintro ⟨g1, g2, g3, g4, g5⟩
        exact ⟨by rw [m_new_o 10 0 i (by omega)]; exact g1, by rw [m_new_o 11 0 i (by omega)]; exact g2, by rw [m_new_o 9 0 i (by omega)]; exact g3, fun k => by rw [m_new_o 4 0 k (by omega)]; exact g4 k, fun k => by rw [m_new_o 1 0 k (by omega)]; exact g5 k⟩
    · subst hr
      exact hB
