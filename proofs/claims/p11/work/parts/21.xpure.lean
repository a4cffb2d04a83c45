/-! THE RUN ENDS: how far a going on can come -/
def xl (S : q_S) (i : Nat) : Nat := ((q_i (S 11 i 3)).toInt - (q_i (S 11 i 4)).toInt).toNat
theorem x_left0 (S : q_S) (i : Nat) : x_hi_isLeft S i = 0 ↔ xl S i = 0 := by
  unfold x_hi_isLeft xl
  split
  · rename_i h
    rw [Int32.le_iff_toInt_le] at h
    exact ⟨fun _ => by omega, fun _ => rfl⟩
  · rename_i h
    rw [Int32.le_iff_toInt_le] at h
    exact ⟨fun z => absurd z (by decide), fun z => by omega⟩
theorem xl_eq {S S' : q_S} {i : Nat} (h : ∀ k, S' 11 i k = S 11 i k) : xl S' i = xl S i := by
  unfold xl
  rw [h, h]
theorem xp_pass {S : q_S} {i : Nat} (hI : xI S) (a b d : Int32) : xl (x_hi_pass S i a b d).2 i ≤ xl S i := by
  have b1 : 0 ≤ (q_i (S 11 i 4)).toInt ∧ (q_i (S 11 i 4)).toInt ≤ 20 := hI 11 i 4
  have e1 := q_inc (x := q_i (S 11 i 4)) (by omega)
  unfold x_hi_pass
  repeat' split
  all_goals simp only [xl]
  · have h1 : ∀ v : Int32, q_i ((q_st (q_st (q_st (q_st (q_st S 12 i ((q_i (S 11 i 3)).toNatClampNeg) (.int a)) 13 i ((q_i (S 11 i 3)).toNatClampNeg) (.int b)) 14 i ((q_i (S 11 i 3)).toNatClampNeg) (.int d)) 11 i 3 (.int v)) 11 i 4 (.int v)) 11 i 3) = v := fun v => by simp [q_st, q_i]
    rw [h1, q_ss]
    omega
  · exact Nat.le_refl _
  · rw [q_ss, e1]
    have h1 : q_i ((q_st S 11 i 4 (.int (q_i (S 11 i 4) + 1))) 11 i 3) = q_i (S 11 i 3) := by simp [q_st]
    rw [h1]
    omega
  · exact Nat.le_refl _
  · exact Nat.le_refl _
  · exact Nat.le_refl _
theorem xp_pass9 (S : q_S) (i : Nat) (a b d : Int32) (y z : Nat) : (x_hi_pass S i a b d).2 9 y z = S 9 y z := xK_hi_pass S i a b d 9 y z (by decide) (by decide) (by decide) (by decide)
/-- an activity is wanted: it waits, or is broken -/
theorem xp_want {S : q_S} {i : Nat} (hI : xI S) (a b d : Int32) (ha : a ≠ 0) : q_i (x_fe_want S i a b d 9 i 10) ≠ 0 ∧ xl (x_fe_want S i a b d) i ≤ xl S i := by
  have hp := xp_pass (i := i) hI 2 b d
  unfold x_fe_want
  repeat' split
  · refine ⟨by rw [q_ss]; decide, ?_⟩
    rw [xl_eq (S := (x_hi_pass S i 2 b d).2) (fun k => q_kj (by decide))]
    exact hp
  · refine ⟨?_, ?_⟩
    · rw [xK_tl_append _ _ 9 i 10 (by decide) (by decide)]
      unfold x_ta_renew
      simpa [q_st, q_i] using ha
    · rw [xl_eq (S := (x_hi_pass S i 2 b d).2) (fun k => by
        rw [xK_tl_append _ _ 11 i k (by decide) (by decide)]
        unfold x_ta_renew
        simp [q_st])]
      exact hp
  · refine ⟨by rw [q_ss]; decide, ?_⟩
    rw [xl_eq (S := (x_hi_pass S i 2 b d).2) (fun k => q_kj (by decide))]
    exact hp
  · refine ⟨by simpa [q_st, q_i] using ha, ?_⟩
    rw [xl_eq (S := (x_hi_pass S i 2 b d).2) (fun k => by simp [q_st])]
    exact hp
theorem xp_undo {S : q_S} {i : Nat} (hi : i < 6) (hI : xI S) : q_i (x_fe_undoLatest S i 9 i 10) ≠ 0 ∧ xl (x_fe_undoLatest S i) i ≤ xl S i := by
  unfold x_fe_undoLatest
  split
  · rename_i h
    have b1 : 0 ≤ (q_i (S 18 i 2)).toInt ∧ (q_i (S 18 i 2)).toInt ≤ 6 := hI 18 i 2
    have e1 := q_dec (x := q_i (S 18 i 2)) (by omega)
    rw [Int32.lt_iff_toInt_lt] at h
    have h : (0 : Int) < (q_i (S 18 i 2)).toInt := h
    have h2 := xp_want (i := i) (xI_st hI (j := 18) (i := i) (k := 2) (x := q_i (S 18 i 2) - 1) (by rw [e1]; show (0 : Int) ≤ _ ∧ _ ≤ (6 : Int); omega)) 4 (q_i (S 19 i ((q_i (S 18 i 2) - 1).toNatClampNeg))) (q_i (S 20 i ((q_i (S 18 i 2) - 1).toNatClampNeg))) (by decide)
    exact ⟨h2.1, Nat.le_trans h2.2 (Nat.le_of_eq (xl_eq (fun k => q_kj (by decide))))⟩
  · refine ⟨by rw [q_ss]; decide, Nat.le_of_eq (xl_eq (fun k => q_kj (by decide)))⟩
theorem xp_resume (S : q_S) (i : Nat) (a b : Int32) : (∀ k, x_wf_resume S i a b 11 i k = S 11 i k) ∧ x_wf_resume S i a b 9 i 12 = S 9 i 12 := by
  unfold x_wf_resume
  repeat' split
  all_goals exact ⟨fun k => by simp [q_st], by simp [q_st]⟩
/-- the next entry: it goes on by it (one fewer is left, the steps begin anew), or does not go on -/
theorem xp_meet {S : q_S} {i : Nat} (hI : xI S) (hs : q_i (S 9 i 10) ≠ 0) : q_i (x_wf_meetNext S i 9 i 10) ≠ 0 ∨ (xl (x_wf_meetNext S i) i < xl S i ∧ q_i (x_wf_meetNext S i 9 i 12) = 0) := by
  have b1 : 0 ≤ (q_i (S 11 i 4)).toInt ∧ (q_i (S 11 i 4)).toInt ≤ 20 := hI 11 i 4
  have e1 := q_inc (x := q_i (S 11 i 4)) (by omega)
  unfold x_wf_meetNext
  repeat' split
  · exact Or.inl hs
  · exact Or.inl (by rw [q_ss]; decide)
  · rename_i h1 h2
    refine Or.inr ⟨?_, ?_⟩
    · rw [xl_eq (xp_resume _ i _ _).1]
      unfold xl
      have h3 : q_i ((q_st (q_st S 11 i 4 (.int (q_i (S 11 i 4) + 1))) 9 i 12 (.int 0)) 11 i 3) = q_i (S 11 i 3) := by simp [q_st]
      have h4 : q_i ((q_st (q_st S 11 i 4 (.int (q_i (S 11 i 4) + 1))) 9 i 12 (.int 0)) 11 i 4) = q_i (S 11 i 4) + 1 := by simp [q_st, q_i]
      rw [h3, h4, e1]
      rw [Int32.lt_iff_toInt_lt] at h1
      omega
    · rw [(xp_resume _ i _ _).2, q_ss]
  · exact Or.inl hs
  · exact Or.inl hs
theorem xp_meet0 {S : q_S} {i : Nat} (hs : q_i (S 9 i 10) = 0) : x_wf_meetNext S i = S := by
  unfold x_wf_meetNext
  rw [if_pos hs]
