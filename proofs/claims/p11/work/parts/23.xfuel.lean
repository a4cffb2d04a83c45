/-! THE RUN, without its cap: it never reaches it -/
def xM (S : q_S) (i : Nat) : Nat := xl S i * 61 + (60 - (q_i (S 9 i 12)).toInt).toNat
/-- one turn of the run's loop -/
def xIt (S : q_S) (i : Nat) : q_S :=
  if q_i (S 9 i 8) = 0 then (if x_hi_isLeft (x_fe_step S i) i = 0 then x_fe_step S i else x_wf_meetNext (x_fe_step S i) i)
  else (if x_hi_isLeft (x_fe_undoLatest S i) i = 0 then x_fe_undoLatest S i else x_wf_meetNext (x_fe_undoLatest S i) i)
theorem x_run_it (n : Nat) (S : q_S) (i t : Nat) : x_fe_run_L0 (n + 1) S i t = if 1288 ≤ nI t then S else if q_i (S 9 i 10) = 0 then x_fe_run_L0 n (xIt S i) i (t + 1) else S := by
  rw [x_fe_run_L0]
  unfold xIt
  repeat' split
  all_goals rfl
theorem xI_it {S : q_S} {i : Nat} (hi : i < 6) (hI : xI S) (hJ : xJ S) : xI (xIt S i) := by
  have h1 := xI_fe_step S i hi hI hJ
  have h2 := xI_fe_undoLatest S i hi hI
  unfold xIt
  repeat' split
  · exact h1
  · exact xI_wf_meetNext _ i hi h1
  · exact h2
  · exact xI_wf_meetNext _ i hi h2
theorem xKp_it (S : q_S) (i x y z : Nat) (h : x = 5 ∨ x = 6 ∨ x = 7 ∨ x = 8) : xIt S i x y z = S x y z := by
  have h1 : x_fe_step S i x y z = S x y z := xK_fe_step S i x y z (by omega) (by omega) (by omega) (by omega) (by omega) (by omega) (by omega) (by omega) (by omega) (by omega) (by omega) (by omega) (by omega) (by omega) (by omega) (by omega)
  have h2 : x_fe_undoLatest S i x y z = S x y z := by
    refine xK_fe_undoLatest S i x y z ?_ ?_ ?_ ?_ ?_ ?_ ?_ ?_ ?_ <;> omega
  have h3 : ∀ U : q_S, x_wf_meetNext U i x y z = U x y z := fun U => by
    refine xK_wf_meetNext U i x y z ?_ ?_ ?_ <;> omega
  unfold xIt
  repeat' split
  · exact h1
  · exact (h3 _).trans h1
  · exact h2
  · exact (h3 _).trans h2
theorem xJ_it {S : q_S} {i : Nat} (hJ : xJ S) : xJ (xIt S i) := xJ_keep hJ (fun a b d h => xKp_it S i a b d h)
theorem xIt_M {S : q_S} {i : Nat} (hi : i < 6) (hI : xI S) (hJ : xJ S) : q_i (xIt S i 9 i 10) ≠ 0 ∨ xM (xIt S i) i < xM S i := by
  have b0 : 0 ≤ (q_i (S 9 i 12)).toInt ∧ (q_i (S 9 i 12)).toInt ≤ 60 := hI 9 i 12
  have h1 := xI_fe_step S i hi hI hJ
  have h2 := xI_fe_undoLatest S i hi hI
  have p1 := xp_step (i := i) hI hJ hi
  have p2 := xp_undo (i := i) hi hI
  have b1 : 0 ≤ (q_i (x_fe_step S i 9 i 12)).toInt ∧ (q_i (x_fe_step S i 9 i 12)).toInt ≤ 60 := h1 9 i 12
  have zz : (0 : Int32).toInt = 0 := rfl
  unfold xIt
  repeat' split
  · by_cases hs : q_i (x_fe_step S i 9 i 10) = 0
    · refine Or.inr ?_
      have h3 := p1.2 hs
      unfold xM
      omega
    · exact Or.inl hs
  · by_cases hs : q_i (x_fe_step S i 9 i 10) = 0
    · rw [xp_meet0 hs]
      refine Or.inr ?_
      have h3 := p1.2 hs
      unfold xM
      omega
    · rcases xp_meet h1 hs with q | ⟨q1, q2⟩
      · exact Or.inl q
      · refine Or.inr ?_
        unfold xM
        rw [q2, zz]
        omega
  · exact Or.inl p2.1
  · rcases xp_meet h2 p2.1 with q | ⟨q1, q2⟩
    · exact Or.inl q
    · refine Or.inr ?_
      unfold xM
      rw [q2, zz]
      omega
def xRun : Nat → q_S → Nat → q_S
  | 0, S, _ => S
  | n + 1, S, i => if q_i (S 9 i 10) = 0 then xRun n (xIt S i) i else S
theorem xRun_end {S : q_S} {i : Nat} (h : q_i (S 9 i 10) ≠ 0) : ∀ n : Nat, xRun n S i = S
  | 0 => rfl
  | n + 1 => by rw [xRun, if_neg h]
theorem x_run_end {S : q_S} {i : Nat} (h : q_i (S 9 i 10) ≠ 0) : ∀ n t : Nat, x_fe_run_L0 n S i t = S
  | 0, t => by rw [x_fe_run_L0]
  | n + 1, t => by
    rw [x_run_it]
    split
    · rfl
    · rfl
theorem x_run_cap {i : Nat} (hi : i < 6) : ∀ (n : Nat) (S : q_S) (t : Nat), xI S → xJ S → t + xM S i < 1288 → x_fe_run_L0 n S i t = xRun n S i := by
  intro n
  induction n with
  | zero => intro S t _ _ _; rw [x_fe_run_L0, xRun]
  | succ n ih =>
    intro S t hI hJ ht
    have hc : ¬ (1288 : Int32) ≤ nI t := by
      rw [Int32.le_iff_toInt_le, nI_toInt (by omega)]
      show ¬ (1288 : Int) ≤ _
      omega
    rw [x_run_it, if_neg hc, xRun]
    split
    · rcases xIt_M hi hI hJ with q | q
      · rw [x_run_end q, xRun_end q]
      · exact ih (xIt S i) (t + 1) (xI_it hi hI hJ) (xJ_it hJ) (by omega)
    · rfl
/-- enough fuel: it stops -/
theorem xRun_stop {i : Nat} (hi : i < 6) : ∀ (n : Nat) (S : q_S), xI S → xJ S → xM S i < n → q_i (xRun n S i 9 i 10) ≠ 0 := by
  intro n
  induction n with
  | zero => intro S _ _ h; omega
  | succ n ih =>
    intro S hI hJ h
    rw [xRun]
    split
    · rcases xIt_M hi hI hJ with q | q
      · rw [xRun_end q]
        exact q
      · exact ih (xIt S i) (xI_it hi hI hJ) (xJ_it hJ) (by omega)
    · assumption
theorem xRun_more {i : Nat} (hi : i < 6) : ∀ (n k : Nat) (S : q_S), xI S → xJ S → xM S i < n → xRun (n + k) S i = xRun n S i := by
  intro n
  induction n with
  | zero => intro k S _ _ h; omega
  | succ n ih =>
    intro k S hI hJ h
    rw [show n + 1 + k = n + k + 1 by omega, xRun, xRun]
    split
    · rcases xIt_M hi hI hJ with q | q
      · rw [xRun_end q, xRun_end q]
      · exact ih k (xIt S i) (xI_it hi hI hJ) (xJ_it hJ) (by omega)
    · rfl
theorem xM_le {S : q_S} {i : Nat} (hI : xI S) : xM S i ≤ 1280 := by
  have b0 : 0 ≤ (q_i (S 9 i 12)).toInt ∧ (q_i (S 9 i 12)).toInt ≤ 60 := hI 9 i 12
  have b1 : 0 ≤ (q_i (S 11 i 3)).toInt ∧ (q_i (S 11 i 3)).toInt ≤ 20 := hI 11 i 3
  have b2 : 0 ≤ (q_i (S 11 i 4)).toInt ∧ (q_i (S 11 i 4)).toInt ≤ 20 := hI 11 i 4
  unfold xM xl
  omega
/-- the run as it is: to the end of its going on -/
theorem x_run_eq {S : q_S} {i : Nat} (hi : i < 6) (hI : xI S) (hJ : xJ S) : x_fe_run_L0 1289 S i 0 = xRun 1281 S i ∧ q_i (xRun 1281 S i 9 i 10) ≠ 0 := by
  have h := xM_le (i := i) hI
  refine ⟨?_, xRun_stop hi 1281 S hI hJ (by omega)⟩
  rw [x_run_cap hi 1289 S 0 hI hJ (by omega)]
  exact xRun_more hi 1281 8 S hI hJ (by omega)
