/-! what holds of each workflow that is there, between calls -/
def mZi (S : q_S) (i : Nat) : Prop := 1 ≤ (q_i (S 15 0 i)).toInt ∧ mg S i ∧ (q_i (S 6 0 i) = 0 → mV S i)
def mZ2 (S : q_S) : Prop := ∀ i : Nat, i < 6 → ¬ q_i (S 5 0 i) = 0 → mZi S i
theorem mZi_eq {S U : q_S} {i : Nat} (h : mZi S i) (e : ∀ x z : Nat, (x = 1 ∨ x = 4 ∨ x = 6 ∨ x = 9 ∨ x = 10 ∨ x = 11 ∨ x = 15 ∨ x = 16) → U x 0 z = S x 0 z) : mZi U i := by
  unfold mZi mg
  rw [e 15 i (by omega), e 16 i (by omega), e 6 i (by omega)]
  exact ⟨h.1, h.2.1, fun q => mV_eq (h.2.2 q) (fun x z hx => e x z (by omega))⟩
theorem mQ_clr {S : q_S} {i : Nat} (h : mQ S) : mQ (q_st S 7 0 i (.int 0)) := by
  unfold mQ
  rw [mLn_st (by decide) (by decide)]
  refine ⟨h.1, fun w hw q => ?_⟩
  by_cases hk : w = i
  · rw [hk, q_ss] at q
    exact absurd rfl q
  · rw [q_st_n S _ (fun z => hk z.2.2)] at q
    exact h.2 w hw q
