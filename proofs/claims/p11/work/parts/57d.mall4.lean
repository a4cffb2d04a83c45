theorem m_faL (a : Int32) : ∀ (n : Nat) (S : q_S) (t : Nat), t + n = 7 → t ≤ 6 → ∀ k : Nat, q_i (m_fm_forgetAll_L0 n S a t 6 0 k) = 0 → q_i (S 6 0 k) = 0 ∧ (t ≤ k → k < 6 → ¬ q_i (S 5 0 k) = 0 → ¬ (q_i (S 9 0 k) = a ∧ ¬ 5 ≤ q_i (S 10 0 k))) := by
  intro n
  induction n with
  | zero => intro S t h1 h2; omega
  | succ n ih =>
    intro S t h1 h2 k
    rw [m_fm_forgetAll_L0]
    split
    · rename_i h6
      rw [Int32.le_iff_toInt_le, nI_toInt (by omega)] at h6
      have h6 : (6 : Int) ≤ (t : Int) := h6
      exact fun q => ⟨q, fun h3 h4 => by omega⟩
    · rename_i h6
      have ht := m_lt6 h2 h6
      have step : (¬ q_i (S 5 0 t) = 0 → ¬ (q_i (S 9 0 t) = a ∧ ¬ 5 ≤ q_i (S 10 0 t))) → q_i (m_fm_forgetAll_L0 n S a (t + 1) 6 0 k) = 0 → q_i (S 6 0 k) = 0 ∧ (t ≤ k → k < 6 → ¬ q_i (S 5 0 k) = 0 → ¬ (q_i (S 9 0 k) = a ∧ ¬ 5 ≤ q_i (S 10 0 k))) := by
        intro hn q
        obtain ⟨g1, g2⟩ := ih S (t + 1) (by omega) (by omega) k q
        refine ⟨g1, fun h3 h4 h5 => ?_⟩
        by_cases hk : k = t
        · rw [hk] at h5 ⊢
          exact hn h5
        · exact g2 (by omega) h4 h5
      split
      · rename_i h5
        exact step (fun z => absurd h5 z)
      · split
        · split
          · rename_i h10
            exact step (fun _ z => z.2 h10)
          · intro q
            obtain ⟨g1, g2⟩ := ih (q_st S 6 0 t (.int 1)) (t + 1) (by omega) (by omega) k q
            have hk : k ≠ t := fun z => by
              rw [z, q_ss] at g1
              exact absurd g1 (by decide)
            rw [q_st_n S _ (fun z => hk z.2.2)] at g1
            refine ⟨g1, fun h3 h4 h5 => ?_⟩
            have g3 := g2 (by omega) h4 (by rw [q_kj (by decide)]; exact h5)
            rw [q_kj (by decide), q_kj (by decide)] at g3
            exact g3
        · rename_i h9
          exact step (fun _ z => h9 z.1)
theorem m_fa_o (S : q_S) (a : Int32) (x y z : Nat) (h : x ≠ 6) : m_fm_forgetAll S a x y z = S x y z := mK_fm_forgetAll S a x y z h
/-- an instruction put into a program, and all its workflows forgotten -/
theorem mZ2_put {S V : q_S} {a : Int32} {sl : Nat} (hI : mI S) (ha : 0 ≤ a.toInt ∧ a.toInt ≤ 2) (hZ : mZ2 S) (hs : 14 * a.toNatClampNeg ≤ sl ∧ sl < 14 * a.toNatClampNeg + 14) (h4 : ∀ k, k ≠ a.toNatClampNeg → V 4 0 k = S 4 0 k) (h1 : ∀ k, k ≠ sl → V 1 0 k = S 1 0 k) (hV : ∀ x z : Nat, 4 < x → V x 0 z = S x 0 z) : mZ2 (m_fm_forgetAll V a) := by
  intro k hk h5
  rw [m_fa_o V a 5 0 k (by decide), hV 5 k (by omega)] at h5
  obtain ⟨z1, z2, z3⟩ := hZ k hk h5
  refine ⟨?_, ?_, fun q => ?_⟩
  · rw [m_fa_o V a 15 0 k (by decide), hV 15 k (by omega)]
    exact z1
  · unfold mg
    rw [m_fa_o V a 15 0 k (by decide), m_fa_o V a 16 0 k (by decide), hV 15 k (by omega), hV 16 k (by omega)]
    exact z2
  · have q : q_i (m_fm_forgetAll_L0 7 V a 0 6 0 k) = 0 := q
    obtain ⟨g1, g2⟩ := m_faL a 7 V 0 rfl (by decide) k q
    have g3 := g2 (Nat.zero_le _) hk (by rw [hV 5 k (by omega)]; exact h5)
    rw [hV 9 k (by omega), hV 10 k (by omega)] at g3
    rw [hV 6 k (by omega)] at g1
    have hm := z3 g1
    by_cases hE : 5 ≤ q_i (S 10 0 k)
    · refine mV_E ?_
      unfold mE
      rw [m_fa_o V a 10 0 k (by decide), hV 10 k (by omega)]
      rw [Int32.le_iff_toInt_le] at hE
      exact hE
    · have hp : ¬ q_i (S 9 0 k) = a := fun z => g3 ⟨z, hE⟩
      have b1 : 0 ≤ (q_i (S 9 0 k)).toInt ∧ (q_i (S 9 0 k)).toInt ≤ 2 := hI 9 0 k
      have b2 : 0 ≤ (q_i (S 11 0 k)).toInt ∧ (q_i (S 11 0 k)).toInt ≤ 14 := hI 11 0 k
      have c1 := q_clI b1.1
      have c2 := q_clI b2.1
      have c3 := q_clI ha.1
      have hp2 : (q_i (S 9 0 k)).toNatClampNeg ≠ a.toNatClampNeg := fun z => hp (Int32.toInt_inj.mp (by omega))
      have e9 : m_fm_forgetAll V a 9 0 k = S 9 0 k := (m_fa_o V a 9 0 k (by decide)).trans (hV 9 k (by omega))
      have e11 : m_fm_forgetAll V a 11 0 k = S 11 0 k := (m_fa_o V a 11 0 k (by decide)).trans (hV 11 k (by omega))
      have e10 : m_fm_forgetAll V a 10 0 k = S 10 0 k := (m_fa_o V a 10 0 k (by decide)).trans (hV 10 k (by omega))
      have p1 : mPl (m_fm_forgetAll V a) k = mPl S k := by
        unfold mPl
        rw [e9, e11, m_fa_o V a 4 0 _ (by decide), h4 _ hp2]
      have p2 : mPl S k → mOp (m_fm_forgetAll V a) k = mOp S k := by
        intro hl
        unfold mPl at hl
        have b4 : 0 ≤ (q_i (S 4 0 (q_i (S 9 0 k)).toNatClampNeg)).toInt ∧ (q_i (S 4 0 (q_i (S 9 0 k)).toNatClampNeg)).toInt ≤ 14 := hI 4 0 _
        rw [Int32.lt_iff_toInt_lt] at hl
        unfold mOp
        rw [e9, e11, m_fa_o V a 1 0 _ (by decide), h1 _ (by omega)]
      unfold mV
      rw [p1, e10]
      exact ⟨fun z => ⟨(hm.1 z).1, (p2 (hm.1 z).1).trans (hm.1 z).2⟩, hm.2.1, fun z => ⟨(hm.2.2 z).1, (p2 (hm.2.2 z).1).trans (hm.2.2 z).2⟩⟩
theorem mQ_fa {S : q_S} (a : Int32) (h : mQ S) : mQ (m_fm_forgetAll S a) := mQ_eq h (m_fa_o S a 0 0 33 (by decide)) (fun k => m_fa_o S a 32 0 k (by decide)) (fun k => m_fa_o S a 7 0 k (by decide))
theorem mJ_fa {S : q_S} (a : Int32) (h : mJ S) : mJ (m_fm_forgetAll S a) := mJ_eq h (fun k => m_fa_o S a 1 0 k (by decide)) (fun k => m_fa_o S a 2 0 k (by decide)) (fun k => m_fa_o S a 3 0 k (by decide)) (fun k => m_fa_o S a 4 0 k (by decide))
theorem m_set_o (S : q_S) (k b d f : Int32) (x y z : Nat) (h : 3 < x ∨ x = 0) : m_fm_set S k b d f x y z = S x y z := by
  unfold m_fm_set
  rw [q_kj (by omega), q_kj (by omega), q_kj (by omega)]
theorem m_set_n (S : q_S) (k b d f : Int32) (x z : Nat) (h : z ≠ k.toNatClampNeg) : m_fm_set S k b d f x 0 z = S x 0 z := by
  unfold m_fm_set
  rw [q_st_n _ _ (fun q => h q.2.2), q_st_n _ _ (fun q => h q.2.2), q_st_n _ _ (fun q => h q.2.2)]
theorem m_set_s (S : q_S) (k b d f : Int32) : q_i (m_fm_set S k b d f 1 0 k.toNatClampNeg) = b ∧ q_i (m_fm_set S k b d f 2 0 k.toNatClampNeg) = d ∧ q_i (m_fm_set S k b d f 3 0 k.toNatClampNeg) = f := by
  unfold m_fm_set
  exact ⟨by rw [q_kj (by decide), q_kj (by decide), q_ss], by rw [q_kj (by decide), q_ss], q_ss⟩
theorem mAll_change {S : q_S} (h : mAll S) (a b d f g : Int32) : mAll (m_fm_change S a b d f g).2 := by
  obtain ⟨hI, hJ, hQ, hZ⟩ := h
  refine ⟨mI_fm_change S a b d f g hI, ?_⟩
  unfold m_fm_change
  split
  · exact ⟨hJ, hQ, hZ⟩
  · rename_i q1
    split
    · exact ⟨hJ, hQ, hZ⟩
    · rename_i q2
      split
      · exact ⟨hJ, hQ, hZ⟩
      · rename_i q3
        have ha : 0 ≤ a.toInt ∧ a.toInt ≤ 2 := mF_in2 rfl q1
        have b4 : 0 ≤ (q_i (S 4 0 a.toNatClampNeg)).toInt ∧ (q_i (S 4 0 a.toNatClampNeg)).toInt ≤ 14 := hI 4 0 _
        have e4 := q_dec (x := q_i (S 4 0 a.toNatClampNeg)) (by omega)
        have hb := mF_in2 e4 q3
        have l1 := q_mulI (c := 14) (x := a) (k := 14) rfl (by omega)
        have l2 := q_addI (x := 14 * a) (y := b) (by omega)
        have c1 := q_clI ha.1
        have c2 := q_clI hb.1
        have hsl : (14 * a + b).toNatClampNeg = 14 * a.toNatClampNeg + b.toNatClampNeg := q_tn (by omega)
        have hJV : mJ (m_fm_set S (14 * a + b) d f g) := by
          intro p k hp hk
          rw [m_set_o S _ _ _ _ 4 0 p (by omega)] at hk
          rw [m_good_S S]
          by_cases he : 14 * p + k = (14 * a + b).toNatClampNeg
          · obtain ⟨s1, s2, s3⟩ := m_set_s S (14 * a + b) d f g
            rw [he, s1, s2, s3]
            exact q2
          · rw [m_set_n S _ _ _ _ 1 _ he, m_set_n S _ _ _ _ 2 _ he, m_set_n S _ _ _ _ 3 _ he]
            exact hJ p k hp hk
        refine ⟨mJ_fa a hJV, mQ_fa a (mQ_eq hQ (m_set_o S _ _ _ _ 0 0 33 (by omega)) (fun k => m_set_o S _ _ _ _ 32 0 k (by omega)) (fun k => m_set_o S _ _ _ _ 7 0 k (by omega))), ?_⟩
        exact mZ2_put (sl := (14 * a + b).toNatClampNeg) hI ha hZ (by omega) (fun k _ => m_set_o S _ _ _ _ 4 0 k (by omega)) (fun k hk => m_set_n S _ _ _ _ 1 k hk) (fun x z hx => m_set_o S _ _ _ _ x 0 z (by omega))
