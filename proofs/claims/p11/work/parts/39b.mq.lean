/-! THE LINE of the reference, as a list; no number stands in it twice, and none of a task that is out -/
theorem q_pig : ∀ (m : Nat) (l : List Nat), l.Nodup → (∀ x ∈ l, x < m) → l.length ≤ m := by
  intro m
  induction m with
  | zero =>
    intro l _ h
    match l, h with
    | [], _ => exact Nat.le_refl _
    | x :: l, h => exact absurd (h x List.mem_cons_self) (Nat.not_lt_zero _)
  | succ m ih =>
    intro l hn h
    have h1 := ih (l.erase m) (hn.erase m) (fun x hx => by
      have h2 := h x (List.mem_of_mem_erase hx)
      have h3 : x ≠ m := fun q => by
        subst q
        exact (hn.not_mem_erase) hx
      omega)
    by_cases hm : m ∈ l
    · have := List.length_erase_of_mem hm
      have := List.length_pos_of_mem hm
      omega
    · rw [List.erase_of_not_mem hm] at h1
      omega
def mLn (S : q_S) : List Int32 := (List.range (q_i (S 0 0 33)).toNatClampNeg).map (fun a => q_i (S 32 0 a))
def mQ (S : q_S) : Prop := (mLn S).Nodup ∧ ∀ w : Nat, w < 6 → q_i (S 7 0 w) ≠ 0 → nI w ∉ mLn S
theorem mLn_eq {S S' : q_S} (h0 : S' 0 0 33 = S 0 0 33) (h1 : ∀ k, S' 32 0 k = S 32 0 k) : mLn S' = mLn S := by
  unfold mLn
  rw [h0]
  exact List.map_congr_left (fun a _ => by rw [h1])
theorem mQ_eq {S S' : q_S} (h : mQ S) (h0 : S' 0 0 33 = S 0 0 33) (h1 : ∀ k, S' 32 0 k = S 32 0 k) (h7 : ∀ k, S' 7 0 k = S 7 0 k) : mQ S' := by
  unfold mQ
  rw [mLn_eq h0 h1]
  exact ⟨h.1, fun w hw q => h.2 w hw (by rw [← h7]; exact q)⟩
theorem mLn_st {S : q_S} {j i k : Nat} {v : Value} (h : j ≠ 0) (h2 : j ≠ 32) : mLn (q_st S j i k v) = mLn S := mLn_eq (q_kj (Ne.symm h)) (fun _ => q_kj (Ne.symm h2))
theorem mLn_leaveL (a : Int32) : ∀ (n : Nat) (S : q_S) (v t : Nat), t + n = 7 → t ≤ (q_i (S 0 0 33)).toNatClampNeg → v ≤ t → mI S →
    mLn (m_fm_leaveLine_L0 n S a v t) = (List.range v).map (fun k => q_i (S 32 0 k)) ++ ((List.range' t ((q_i (S 0 0 33)).toNatClampNeg - t)).map (fun k => q_i (S 32 0 k))).filter (fun x => decide (x ≠ a)) := by
  intro n
  induction n with
  | zero =>
    intro S v t h1 h2 h3 hI
    have b1 : 0 ≤ (q_i (S 0 0 33)).toInt ∧ (q_i (S 0 0 33)).toInt ≤ 6 := hI 0 0 33
    have c1 := q_clI b1.1
    omega
  | succ n ih =>
    intro S v t h1 h2 h3 hI
    have b1 : 0 ≤ (q_i (S 0 0 33)).toInt ∧ (q_i (S 0 0 33)).toInt ≤ 6 := hI 0 0 33
    have c1 := q_clI b1.1
    have n_t := nI_toInt (n := t) (by omega)
    rw [m_fm_leaveLine_L0]
    by_cases q : q_i (S 0 0 33) ≤ nI t
    · rw [if_pos q]
      rw [Int32.le_iff_toInt_le] at q
      have e : (q_i (S 0 0 33)).toNatClampNeg - t = 0 := by omega
      rw [e]
      unfold mLn
      rw [q_ss, nI_clamp (by omega)]
      simp only [List.range', List.map_nil, List.filter_nil, List.append_nil]
      exact List.map_congr_left (fun k _ => by rw [q_kj (by decide)])
    · rw [if_neg q]
      rw [Int32.le_iff_toInt_le] at q
      have hlt : t < (q_i (S 0 0 33)).toNatClampNeg := by omega
      obtain ⟨d, hd⟩ : ∃ d, (q_i (S 0 0 33)).toNatClampNeg - t = d + 1 := ⟨(q_i (S 0 0 33)).toNatClampNeg - t - 1, by omega⟩
      have hd2 : (q_i (S 0 0 33)).toNatClampNeg - (t + 1) = d := by omega
      rw [hd, List.range'_succ, List.map_cons]
      by_cases q2 : q_i (S 32 0 t) = a
      · rw [if_pos q2, ih S v (t + 1) (by omega) (by omega) (by omega) hI, hd2, List.filter_cons_of_neg (by simp [q2])]
      · rw [if_neg q2]
        have hI2 : mI (q_st S 32 0 v (.int (q_i (S 32 0 t)))) := mI_st hI (hI 32 0 t)
        have e0 : q_i ((q_st S 32 0 v (.int (q_i (S 32 0 t)))) 0 0 33) = q_i (S 0 0 33) := by rw [q_kj (by decide)]
        have em : (List.range' (t + 1) d).map (fun k => q_i ((q_st S 32 0 v (.int (q_i (S 32 0 t)))) 32 0 k)) = (List.range' (t + 1) d).map (fun k => q_i (S 32 0 k)) := List.map_congr_left (fun k hk => by
          obtain ⟨j, _, rfl⟩ := List.mem_range'.mp hk
          rw [q_st_n S _ (fun z => by omega)])
        rw [ih (q_st S 32 0 v (.int (q_i (S 32 0 t)))) (v + 1) (t + 1) (by omega) (by rw [e0]; omega) (by omega) hI2, e0, hd2, List.filter_cons_of_pos (by simp [q2])]
        rw [List.range_succ, List.map_append, List.map_cons, List.map_nil, q_ss, List.append_assoc]
        congr 1
        · exact List.map_congr_left (fun k hk => by
            have hk := List.mem_range.mp hk
            rw [q_st_n S _ (fun z => by omega)])
        · rw [em]
          rfl
theorem mLn_leave {S : q_S} (hI : mI S) (a : Int32) : mLn (m_fm_leaveLine S a) = (mLn S).filter (fun x => decide (x ≠ a)) := by
  rw [m_fm_leaveLine, mLn_leaveL a 7 S 0 0 rfl (Nat.zero_le _) (Nat.le_refl _) hI]
  simp only [List.range_zero, List.map_nil, List.nil_append, Nat.sub_zero]
  unfold mLn
  rw [List.range_eq_range']
theorem mLn_noTask {S : q_S} {i : Nat} (hI : mI S) : mLn (m_fm_noTask S i) = (mLn S).filter (fun x => decide (x ≠ nI i)) := by
  unfold m_fm_noTask
  rw [mLn_leave (mIs (mIs (mIs hI rfl) rfl) rfl)]
  rw [mLn_st (by decide) (by decide), mLn_st (by decide) (by decide), mLn_st (by decide) (by decide)]
theorem m_out_noTask (S : q_S) (i k : Nat) : q_i (m_fm_noTask S i 7 0 k) = if k = i then 0 else q_i (S 7 0 k) := by
  unfold m_fm_noTask
  rw [mK_fm_leaveLine _ _ 7 0 k (by decide) (by decide), q_kj (by decide)]
  by_cases h : k = i
  · rw [if_pos h, h, q_ss]
  · rw [if_neg h, q_st_n _ _ (fun z => h z.2.2), q_kj (by decide)]
theorem mQ_noTask {S : q_S} {i : Nat} (hI : mI S) (h : mQ S) : mQ (m_fm_noTask S i) := by
  unfold mQ
  rw [mLn_noTask hI]
  refine ⟨h.1.filter _, fun w hw q z => ?_⟩
  rw [m_out_noTask] at q
  by_cases hk : w = i
  · rw [if_pos hk] at q
    exact q rfl
  · rw [if_neg hk] at q
    exact h.2 w hw q (List.mem_filter.mp z).1
theorem mLn_len {S : q_S} (hI : mI S) : (mLn S).length = (q_i (S 0 0 33)).toNatClampNeg ∧ (q_i (S 0 0 33)).toInt = ((mLn S).length : Int) := by
  have b1 : 0 ≤ (q_i (S 0 0 33)).toInt ∧ (q_i (S 0 0 33)).toInt ≤ 6 := hI 0 0 33
  have c1 := q_clI b1.1
  have e : (mLn S).length = (q_i (S 0 0 33)).toNatClampNeg := by simp [mLn]
  exact ⟨e, by rw [e]; omega⟩
theorem mLn_in {S : q_S} (hI : mI S) {x : Int32} (h : x ∈ mLn S) : 0 ≤ x.toInt ∧ x.toInt ≤ 5 := by
  unfold mLn at h
  obtain ⟨a, -, rfl⟩ := List.mem_map.mp h
  exact hI 32 0 a
/-- a number that is not in the line: there is room for it -/
theorem mLn_room {S : q_S} (hI : mI S) (h : (mLn S).Nodup) {i : Nat} (hi : i < 6) (hn : nI i ∉ mLn S) : (q_i (S 0 0 33)).toInt ≤ 5 := by
  rw [(mLn_len hI).2]
  have hc : ∀ x ∈ mLn S, (x.toNatClampNeg : Int) = x.toInt ∧ x.toNatClampNeg < 6 ∧ x.toNatClampNeg ≠ i := fun x hx => by
    have h1 := mLn_in hI hx
    have h2 := q_clI h1.1
    refine ⟨h2, by omega, fun z => hn ?_⟩
    rw [← z, q_nn (by rw [Int32.lt_iff_toInt_lt]; show ¬ _ < (0 : Int); omega)]
    exact hx
  have h5 := q_pig 5 ((mLn S).map (fun x => if x.toNatClampNeg = 5 then i else x.toNatClampNeg)) ?_ ?_
  · rw [List.length_map] at h5
    omega
  · refine List.pairwise_map.mpr (h.imp_of_mem ?_)
    intro a b ha hb hab
    obtain ⟨a1, a2, a3⟩ := hc a ha
    obtain ⟨b1, b2, b3⟩ := hc b hb
    have hne : a.toNatClampNeg ≠ b.toNatClampNeg := fun z => hab (Int32.toInt_inj.mp (by omega))
    split <;> split <;> omega
  · intro x hx
    obtain ⟨y, hy, rfl⟩ := List.mem_map.mp hx
    obtain ⟨a1, a2, a3⟩ := hc y hy
    split <;> omega
theorem mQ_q {S : q_S} {i : Nat} (hi : i < 6) (hI : mI S) (h : mQ S) : (q_i ((m_fm_noTask S i) 0 0 33)).toInt ≤ 5 :=
  mLn_room (mI_fm_noTask S i hi hI) (mQ_noTask hI h).1 hi (by
    rw [mLn_noTask hI]
    intro z
    simpa using (List.mem_filter.mp z).2)
theorem mLn_newTask {S : q_S} {i : Nat} {a : Int32} (hi : i < 6) (hI : mI S) (h : mQ S) : mLn (m_fm_newTask S i a) = mLn (m_fm_noTask S i) ++ [nI i] := by
  have hq := mQ_q hi hI h
  have b1 : 0 ≤ (q_i ((m_fm_noTask S i) 0 0 33)).toInt ∧ (q_i ((m_fm_noTask S i) 0 0 33)).toInt ≤ 6 := mI_fm_noTask S i hi hI 0 0 33
  have c1 := q_clI b1.1
  have e1 := q_inc (x := q_i ((m_fm_noTask S i) 0 0 33)) (by omega)
  unfold m_fm_newTask
  generalize m_fm_noTask S i = U at *
  unfold mLn
  rw [q_ss, show (q_i (U 0 0 33) + 1).toNatClampNeg = (q_i (U 0 0 33)).toNatClampNeg + 1 from q_tn (by omega), List.range_succ, List.map_append]
  congr 1
  · exact List.map_congr_left (fun k hk => by
      have hk := List.mem_range.mp hk
      rw [q_kj (by decide), q_st_n _ _ (fun z => by omega), q_kj (by decide), q_kj (by decide), q_kj (by decide)])
  · simp only [List.map_cons, List.map_nil]
    rw [q_kj (by decide), q_ss]
theorem mQ_newTask {S : q_S} {i : Nat} {a : Int32} (hi : i < 6) (hI : mI S) (h : mQ S) : mQ (m_fm_newTask S i a) := by
  have h2 := mQ_noTask (i := i) hI h
  unfold mQ
  rw [mLn_newTask hi hI h]
  have hni : nI i ∉ mLn (m_fm_noTask S i) := by
    rw [mLn_noTask hI]
    intro z
    simpa using (List.mem_filter.mp z).2
  refine ⟨List.nodup_append.mpr ⟨h2.1, by simp, fun x hx y hy => by
    rw [List.mem_singleton.mp hy]
    exact fun z => hni (by rw [← z]; exact hx)⟩, fun w hw q z => ?_⟩
  have hk : q_i (m_fm_newTask S i a 7 0 w) = q_i (m_fm_noTask S i 7 0 w) := by
    unfold m_fm_newTask
    rw [q_kj (by decide), q_kj (by decide), q_kj (by decide), q_kj (by decide), q_kj (by decide)]
  rw [hk] at q
  rcases List.mem_append.mp z with z | z
  · exact h2.2 w hw q z
  · have e : nI w = nI i := List.mem_singleton.mp z
    have e2 : w = i := (nI_eq (by omega) (by omega)).mp e
    rw [m_out_noTask, if_pos e2] at q
    exact q rfl
