theorem mp_begin {S : q_S} {i : Nat} (hi : i < 6) (hI : mI S) (hJ : mJ S) (hQ : mQ S) (hw : 1 ≤ (q_i (S 15 0 i)).toInt) : mg (m_fm_begin S i) i ∧ mV (m_fm_begin S i) i ∧ mQ (m_fm_begin S i) := by
  have hL : ∀ x y z : Nat, x ≠ 14 → m_fm_begin_L0 5 S i 0 x y z = S x y z := fun x y z h => mK_fm_begin_L0 5 S i 0 x y z h
  have hIL := mI_fm_begin_L0 i hi 5 S 0 rfl (by decide) hI
  unfold m_fm_begin
  generalize m_fm_begin_L0 5 S i 0 = L at hL hIL ⊢
  have hk : ∀ x y z : Nat, (x < 10 ∨ 20 < x ∨ x = 15) → (q_st (q_st (q_st (q_st (q_st (q_st L 14 0 (4 * i) (.int (q_i (S 19 0 (20 * i))))) 11 0 i (.int 0)) 12 0 i (.int 0)) 20 0 i (.int 0)) 16 0 i (.int 1)) 10 0 i (.int 0)) x y z = S x y z := by
    intro x y z h
    rw [q_kj (by omega), q_kj (by omega), q_kj (by omega), q_kj (by omega), q_kj (by omega), q_kj (by omega), hL x y z (by omega)]
  refine mp_goOn hi ?_ (mJ_eq hJ (fun k => hk 1 0 k (by omega)) (fun k => hk 2 0 k (by omega)) (fun k => hk 3 0 k (by omega)) (fun k => hk 4 0 k (by omega))) ?_ (mQ_eq hQ (hk 0 0 33 (by omega)) (fun k => hk 32 0 k (by omega)) (fun k => hk 7 0 k (by omega))) (mV_0 (Or.inl q_ss))
  · refine mIs (mI_st (mI_st (mI_st (mI_st (mIs hIL rfl) ?_) ?_) ?_) ?_) rfl
    · show (0 : Int) ≤ (0 : Int32).toInt ∧ (0 : Int32).toInt ≤ 14; decide
    · show (0 : Int) ≤ (0 : Int32).toInt ∧ (0 : Int32).toInt ≤ 60; decide
    · show (0 : Int) ≤ (0 : Int32).toInt ∧ (0 : Int32).toInt ≤ 6; decide
    · show (0 : Int) ≤ (1 : Int32).toInt ∧ (1 : Int32).toInt ≤ 20; decide
  · unfold mg
    rw [hk 15 0 i (by omega), q_kj (by decide), q_ss, q_n1]
    exact hw
theorem mQ_fm_begin (S : q_S) (i : Nat) (hi : i < 6) (hI : mI S) (hJ : mJ S) (hQ : mQ S) (hw : 1 ≤ (q_i (S 15 0 i)).toInt) : mQ (m_fm_begin S i) := (mp_begin hi hI hJ hQ hw).2.2
theorem mp_remember {S : q_S} {i : Nat} (hi : i < 6) (hI : mI S) (hJ : mJ S) (hg : mg S i) (hQ : mQ S) (hw : 1 ≤ (q_i (S 15 0 i)).toInt) (hVf : q_i (S 6 0 i) = 0 → mV S i) : mg (m_fm_remember S i) i ∧ mV (m_fm_remember S i) i ∧ mQ (m_fm_remember S i) := by
  unfold m_fm_remember
  split
  · rename_i h
    exact ⟨hg, hVf h, hQ⟩
  · refine mp_begin hi (mIs (mIs hI rfl) rfl) (mJ_eq hJ (fun k => (q_kj (by decide)).trans (q_kj (by decide))) (fun k => (q_kj (by decide)).trans (q_kj (by decide))) (fun k => (q_kj (by decide)).trans (q_kj (by decide))) (fun k => (q_kj (by decide)).trans (q_kj (by decide)))) (mQ_eq hQ ((q_kj (by decide)).trans (q_kj (by decide))) (fun _ => (q_kj (by decide)).trans (q_kj (by decide))) (fun _ => (q_kj (by decide)).trans (q_kj (by decide)))) ?_
    rw [q_kj (by decide), q_kj (by decide)]
    exact hw
theorem mQ_fm_remember (S : q_S) (i : Nat) (hi : i < 6) (hI : mI S) (hJ : mJ S) (hQ : mQ S) (hw : 1 ≤ (q_i (S 15 0 i)).toInt) : mQ (m_fm_remember S i) := by
  unfold m_fm_remember
  split
  · exact hQ
  · refine mQ_fm_begin _ i hi (mIs (mIs hI rfl) rfl) (mJ_eq hJ (fun k => (q_kj (by decide)).trans (q_kj (by decide))) (fun k => (q_kj (by decide)).trans (q_kj (by decide))) (fun k => (q_kj (by decide)).trans (q_kj (by decide))) (fun k => (q_kj (by decide)).trans (q_kj (by decide)))) (mQ_eq hQ ((q_kj (by decide)).trans (q_kj (by decide))) (fun _ => (q_kj (by decide)).trans (q_kj (by decide))) (fun _ => (q_kj (by decide)).trans (q_kj (by decide)))) ?_
    rw [q_kj (by decide), q_kj (by decide)]
    exact hw
theorem mp_put1 {S : q_S} {i : Nat} {a b d : Int32} (hI : mI S) (hg : mg S i) (h : ¬ (m_fm_put S i a b d).1 = 0) : mg (m_fm_put S i a b d).2 i ∧ ∀ x y z : Nat, (x < 15 ∨ 19 < x) → (m_fm_put S i a b d).2 x y z = S x y z := by
  rcases mp_put hI hg a b d with q | q
  · exact absurd q.1 h
  · exact ⟨q.2.1, q.2.2.2⟩
theorem mV_put {S : q_S} {i : Nat} {a b d : Int32} (hI : mI S) (hg : mg S i) (hV : mV S i) (h : ¬ (m_fm_put S i a b d).1 = 0) : mV (m_fm_put S i a b d).2 i := mV_eq hV (fun x z q => (mp_put1 hI hg h).2 x 0 z (by omega))
theorem mSt_put {S : q_S} {i : Nat} {a b d e : Int32} (hI : mI S) (hg : mg S i) (hst : mSt S i e) (h : ¬ (m_fm_put S i a b d).1 = 0) : mSt (m_fm_put S i a b d).2 i e := by
  unfold mSt
  rw [(mp_put1 hI hg h).2 10 0 i (by omega)]
  exact hst
