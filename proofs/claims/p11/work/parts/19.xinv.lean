/-! every call keeps the bounds and the programs' instructions as said -/
def xOkI (a b d : Int32) : Prop := ¬ x_fe_isInstruction xS0 a b d = 0
theorem xOkI_S (S : q_S) (a b d : Int32) : (¬ x_fe_isInstruction S a b d = 0) ↔ xOkI a b d := Iff.rfl
theorem xOk_end : xOkI 10 0 0 := by
  show ¬ x_fe_isInstruction xS0 10 0 0 = 0
  decide +kernel
theorem xJ_of {S : q_S} (h : ∀ (p : Nat) (pl : Int32), p < 3 → ¬ x_pr_has S p pl = 0 → xOkI (q_i (S 6 p pl.toNatClampNeg)) (q_i (S 7 p pl.toNatClampNeg)) (q_i (S 8 p pl.toNatClampNeg))) : xJ S := by
  intro p pl hp
  by_cases q : x_pr_has S p pl = 0
  · unfold x_pr_opAt x_pr_firstAt x_pr_secondAt
    rw [if_pos q, if_pos q, if_pos q]
    exact xOk_end
  · unfold x_pr_opAt x_pr_firstAt x_pr_secondAt
    rw [if_neg q, if_neg q, if_neg q]
    exact h p pl hp q
theorem xJ_at {S : q_S} (h : xJ S) {p : Nat} {pl : Int32} (hp : p < 3) (q : ¬ x_pr_has S p pl = 0) : xOkI (q_i (S 6 p pl.toNatClampNeg)) (q_i (S 7 p pl.toNatClampNeg)) (q_i (S 8 p pl.toNatClampNeg)) := by
  have h1 := h p pl hp
  unfold x_pr_opAt x_pr_firstAt x_pr_secondAt at h1
  rw [if_neg q, if_neg q, if_neg q] at h1
  exact h1
theorem xJ_put {S : q_S} {i : Nat} {a b d f : Int32} (hh : ¬ x_pr_has S i a = 0) (hv : xOkI b d f) (ho : ∀ (p : Nat) (pl : Int32), p < 3 → ¬ x_pr_has S p pl = 0 → ¬ (p = i ∧ pl.toNatClampNeg = a.toNatClampNeg) → xOkI (q_i (S 6 p pl.toNatClampNeg)) (q_i (S 7 p pl.toNatClampNeg)) (q_i (S 8 p pl.toNatClampNeg))) : xJ (x_pr_put S i a b d f) := by
  unfold x_pr_put
  rw [if_neg hh]
  refine xJ_of fun p pl hp q => ?_
  have e5 : ∀ y z, (q_st (q_st (q_st S 6 i a.toNatClampNeg (.int b)) 7 i a.toNatClampNeg (.int d)) 8 i a.toNatClampNeg (.int f)) 5 y z = S 5 y z := fun y z => (q_kj (by decide)).trans ((q_kj (by decide)).trans (q_kj (by decide)))
  have q2 : ¬ x_pr_has S p pl = 0 := by
    intro z
    apply q
    rw [← z]
    unfold x_pr_has
    rw [e5]
  by_cases he : p = i ∧ pl.toNatClampNeg = a.toNatClampNeg
  · obtain ⟨rfl, he⟩ := he
    rw [he]
    rw [q_sj (x := b) (by decide) (q_sj (by decide) q_ss), q_sj (x := d) (by decide) q_ss, q_ss]
    exact hv
  · have n6 : ¬ (6 = 6 ∧ p = i ∧ pl.toNatClampNeg = a.toNatClampNeg) := fun z => he z.2
    rw [q_kj (by decide), q_kj (by decide), q_st_n S _ (fun z => he z.2)]
    rw [q_kj (by decide), q_st_n _ _ (fun z => he z.2), q_kj (by decide)]
    rw [q_st_n _ _ (fun z => he z.2), q_kj (by decide), q_kj (by decide)]
    exact ho p pl hp q2 he
theorem q_clt {a b : Int32} (ha : ¬ a < 0) (hb : ¬ b < 0) (h : a.toNatClampNeg = b.toNatClampNeg) : a = b := by
  rw [← q_nn ha, ← q_nn hb, h]
theorem xJ_change {S : q_S} (hI : xI S) (hJ : xJ S) (a b d f g : Int32) : xJ (x_fe_change S a b d f g).2 := by
  unfold x_fe_change
  split
  · exact hJ
  · split
    · exact hJ
    · split
      · exact hJ
      · rename_i h1 h2 h3
        refine xJ_keep (S := x_pr_put S a.toNatClampNeg b d f g) ?_ (fun x y z hx => xK_fe_forgetAllOf _ _ x y z (by omega))
        exact xJ_put h3 h2 (fun p pl hp q _ => xJ_at hJ hp q)
theorem xJ_add {S : q_S} (hI : xI S) (hJ : xJ S) (a b d f : Int32) : xJ (x_fe_add S a b d f).2 := by
  unfold x_fe_add
  split
  · exact hJ
  · split
    · exact hJ
    · split
      · rename_i h1 h2 h3
        refine xJ_keep (S := x_pr_put (q_st S 5 a.toNatClampNeg 3 (.int ((q_i (S 5 a.toNatClampNeg 3)) + 1))) a.toNatClampNeg (q_i (S 5 a.toNatClampNeg 3)) b d f) ?_ (fun x y z hx => xK_fe_forgetAllOf _ _ x y z (by omega))
        have b1 : 0 ≤ (q_i (S 5 a.toNatClampNeg 3)).toInt ∧ (q_i (S 5 a.toNatClampNeg 3)).toInt ≤ 14 := hI 5 a.toNatClampNeg 3
        have i1 := q_inc (x := q_i (S 5 a.toNatClampNeg 3)) (by omega)
        refine xJ_put ?_ h2 (fun p pl hp q hne => ?_)
        · unfold x_pr_has
          rw [q_ss]
          have g1 : ¬ q_i (S 5 a.toNatClampNeg 3) < 0 := by rw [Int32.lt_iff_toInt_lt]; show ¬ _ < (0 : Int); omega
          have g2 : ¬ q_i (S 5 a.toNatClampNeg 3) + 1 ≤ q_i (S 5 a.toNatClampNeg 3) := by rw [Int32.le_iff_toInt_le, i1]; omega
          rw [if_neg g1, if_neg g2]
          decide
        · rw [q_kj (by decide), q_kj (by decide), q_kj (by decide)]
          refine xJ_at hJ hp ?_
          obtain ⟨f1, f2⟩ := xF_pr_has q
          by_cases hp2 : p = a.toNatClampNeg
          · subst hp2
            rw [q_ss] at f2
            have g1 : ¬ q_i (S 5 a.toNatClampNeg 3) < 0 := by rw [Int32.lt_iff_toInt_lt]; show ¬ _ < (0 : Int); omega
            have hne2 : ¬ pl = q_i (S 5 a.toNatClampNeg 3) := fun z => hne ⟨rfl, by rw [z]⟩
            have hne3 : ¬ pl.toInt = (q_i (S 5 a.toNatClampNeg 3)).toInt := fun z => hne2 (Int32.toInt_inj.mp z)
            rw [Int32.le_iff_toInt_le, i1] at f2
            have f3 : ¬ q_i (S 5 a.toNatClampNeg 3) ≤ pl := by rw [Int32.le_iff_toInt_le]; omega
            unfold x_pr_has
            rw [if_neg f1, if_neg f3]
            decide
          · rw [q_st_n S _ (fun z => hp2 z.2.1)] at f2
            unfold x_pr_has
            rw [if_neg f1, if_neg f2]
            decide
      · exact hJ
theorem xI_0 : xI xS0 := by
  intro j i k
  show (xB j k).1 ≤ (0 : Int) ∧ (0 : Int) ≤ (xB j k).2
  unfold xB
  split <;> decide
theorem xJ_0 : xJ xS0 := by
  refine xJ_of fun p pl hp q => ?_
  obtain ⟨f1, f2⟩ := xF_pr_has q
  exact absurd (show q_i (xS0 5 p 3) ≤ pl by show (0 : Int32) ≤ pl; rw [Int32.le_iff_toInt_le]; rw [Int32.lt_iff_toInt_lt] at f1; have f1 : ¬ pl.toInt < 0 := f1; show (0 : Int) ≤ _; omega) f2
theorem xJ_start {S : q_S} (hJ : xJ S) (a b : Int32) : xJ (x_fe_start S a b).2 := xJ_keep hJ (fun x y z hx => xK_fe_start S a b x y z (show x ≠ 0 by omega) (show x ≠ 3 by omega) (show x ≠ 4 by omega) (show x ≠ 9 by omega) (show x ≠ 10 by omega) (show x ≠ 11 by omega) (show x ≠ 12 by omega) (show x ≠ 13 by omega) (show x ≠ 14 by omega) (show x ≠ 15 by omega) (show x ≠ 16 by omega) (show x ≠ 17 by omega) (show x ≠ 18 by omega) (show x ≠ 19 by omega) (show x ≠ 20 by omega) (show x ≠ 21 by omega))
theorem xJ_remove {S : q_S} (hJ : xJ S) (a : Int32) : xJ (x_fe_remove S a).2 := xJ_keep hJ (fun x y z hx => xK_fe_remove S a x y z (show x ≠ 3 by omega) (show x ≠ 4 by omega) (show x ≠ 9 by omega) (show x ≠ 21 by omega))
theorem xJ_signal {S : q_S} (hJ : xJ S) (a b d : Int32) : xJ (x_fe_signal S a b d).2 := xJ_keep hJ (fun x y z hx => xK_fe_signal S a b d x y z (show x ≠ 0 by omega) (show x ≠ 3 by omega) (show x ≠ 4 by omega) (show x ≠ 9 by omega) (show x ≠ 10 by omega) (show x ≠ 11 by omega) (show x ≠ 12 by omega) (show x ≠ 13 by omega) (show x ≠ 14 by omega) (show x ≠ 15 by omega) (show x ≠ 16 by omega) (show x ≠ 17 by omega) (show x ≠ 18 by omega) (show x ≠ 19 by omega) (show x ≠ 20 by omega) (show x ≠ 21 by omega))
theorem xJ_take {S : q_S} (hJ : xJ S) : xJ (x_fe_take S ).2 := xJ_keep hJ (fun x y z hx => xK_fe_take S  x y z (show x ≠ 3 by omega) (show x ≠ 4 by omega) (show x ≠ 21 by omega))
theorem xJ_answer {S : q_S} (hJ : xJ S) (a b d : Int32) : xJ (x_fe_answer S a b d).2 := xJ_keep hJ (fun x y z hx => xK_fe_answer S a b d x y z (show x ≠ 0 by omega) (show x ≠ 3 by omega) (show x ≠ 4 by omega) (show x ≠ 9 by omega) (show x ≠ 10 by omega) (show x ≠ 11 by omega) (show x ≠ 12 by omega) (show x ≠ 13 by omega) (show x ≠ 14 by omega) (show x ≠ 15 by omega) (show x ≠ 16 by omega) (show x ≠ 17 by omega) (show x ≠ 18 by omega) (show x ≠ 19 by omega) (show x ≠ 20 by omega) (show x ≠ 21 by omega))
theorem xJ_tick {S : q_S} (hJ : xJ S) (a : Int32) : xJ (x_fe_tick S a).2 := xJ_keep hJ (fun x y z hx => xK_fe_tick S a x y z (show x ≠ 0 by omega) (show x ≠ 3 by omega) (show x ≠ 4 by omega) (show x ≠ 9 by omega) (show x ≠ 10 by omega) (show x ≠ 11 by omega) (show x ≠ 12 by omega) (show x ≠ 13 by omega) (show x ≠ 14 by omega) (show x ≠ 15 by omega) (show x ≠ 16 by omega) (show x ≠ 17 by omega) (show x ≠ 18 by omega) (show x ≠ 19 by omega) (show x ≠ 20 by omega) (show x ≠ 21 by omega))
theorem xJ_forget {S : q_S} (hJ : xJ S) (a : Int32) : xJ (x_fe_forget S a).2 := xJ_keep hJ (fun x y z hx => xK_fe_forget S a x y z (show x ≠ 9 by omega))
