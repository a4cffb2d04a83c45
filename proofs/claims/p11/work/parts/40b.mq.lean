theorem mQ_fm_end (S : q_S) (i : Nat) (a : Int32) (hi : i < 6) (hI : mI S) (ha : 5 ≤ a.toInt ∧ a.toInt ≤ 7) (hQ : mQ S) : mQ (m_fm_end S i a) := by
  unfold m_fm_end
  split
  · exact mQ_noTask (mIs (mIs hI rfl) rfl) (mQ_eq hQ ((q_kj (by decide)).trans (q_kj (by decide))) (fun _ => (q_kj (by decide)).trans (q_kj (by decide))) (fun _ => (q_kj (by decide)).trans (q_kj (by decide))))
  · exact mQ_noTask (mIs (mIs hI rfl) rfl) (mQ_eq hQ ((q_kj (by decide)).trans (q_kj (by decide))) (fun _ => (q_kj (by decide)).trans (q_kj (by decide))) (fun _ => (q_kj (by decide)).trans (q_kj (by decide))))
theorem mQ_fm_breakUp (S : q_S) (i : Nat) (hi : i < 6) (hI : mI S) (hQ : mQ S) : mQ (m_fm_breakUp S i) := by
  unfold m_fm_breakUp
  exact mQ_fm_end _ i 7 hi (mI_st hI (hI 15 0 i)) (by decide) (mQ_eq hQ (q_kj (by decide)) (fun _ => q_kj (by decide)) (fun _ => q_kj (by decide)))
theorem mQ_fm_put (S : q_S) (i : Nat) (a b d : Int32) (hi : i < 6) (hI : mI S) (hg : (q_i (S 16 0 i)).toInt ≤ (q_i (S 15 0 i)).toInt) (hQ : mQ S) : mQ (m_fm_put S i a b d).2 := by
  unfold m_fm_put
  repeat' split
  all_goals first
    | exact mQ_fm_breakUp S i hi hI hQ
    | exact mQ_eq hQ (q_kj (by decide)) (fun _ => q_kj (by decide)) (fun _ => q_kj (by decide))
    | exact mQ_eq hQ (by simp [q_st]) (fun _ => by simp [q_st]) (fun _ => by simp [q_st])
