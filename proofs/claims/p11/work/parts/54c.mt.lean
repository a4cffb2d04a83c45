theorem mQ_fm_wrong (S : q_S) (i : Nat) (hi : i < 6) (hI : mI S) (hJ : mJ S) (hQ : mQ S) (hz : mZi S i) (ho : ¬ q_i (S 7 0 i) = 0) : mQ (m_fm_wrong S i) := (mp_wrong hi hI hJ hQ hz ho).2
theorem mQ_fm_write (S : q_S) (i : Nat) (a b d : Int32) (hi : i < 6) (hI : mI S) (hJ : mJ S) (hg : mg S i) (hQ : mQ S) (hw : 1 ≤ (q_i (S 15 0 i)).toInt) (hVf : q_i (S 6 0 i) = 0 → mV S i) : mQ (m_fm_write S i a b d) := (mp_write hi hI hJ hQ ⟨hw, hg, hVf⟩ a b d).2
theorem mZ2_eq {S U : q_S} (h : mZ2 S) (e : ∀ x z : Nat, (0 < x ∧ x < 17) → U x 0 z = S x 0 z) : mZ2 U := by
  intro k hk h5
  rw [e 5 k (by omega)] at h5
  exact mZi_k (h k hk h5) (fun x z q => e x z (by omega)) (fun x q => e x k (by omega))
