def mTb : Nat → q_K := fun j => match j with
  | 0 => ((1, 0, 0), .inl (0, [(3, 1), (3, 2), (3, 3), (3, 4), (3, 5), (3, 6), (3, 7), (3, 8), (3, 9), (3, 10), (3, 11), (3, 12), (3, 13), (3, 14), (3, 15), (3, 16), (3, 17), (3, 18), (3, 19), (3, 20), (3, 21), (3, 22), (3, 23), (3, 24), (3, 25), (3, 26), (3, 27), (3, 28), (3, 29), (3, 30), (3, 31), (3, 32), (3, 33), (0, 0), (0, 0)]))
  | 1 => ((1, 1, 0), .inr (42, 0, none))
  | 2 => ((1, 2, 0), .inr (42, 0, none))
  | 3 => ((1, 3, 0), .inr (42, 0, none))
  | 4 => ((1, 4, 0), .inr (3, 0, none))
  | 5 => ((1, 5, 0), .inr (6, 1, none))
  | 6 => ((1, 6, 0), .inr (6, 1, none))
  | 7 => ((1, 7, 0), .inr (6, 1, none))
  | 8 => ((1, 8, 0), .inr (6, 1, none))
  | 9 => ((1, 9, 0), .inr (6, 0, none))
  | 10 => ((1, 10, 0), .inr (6, 0, none))
  | 11 => ((1, 11, 0), .inr (6, 0, none))
  | 12 => ((1, 12, 0), .inr (6, 0, none))
  | 13 => ((1, 13, 0), .inr (6, 0, none))
  | 14 => ((1, 14, 0), .inr (24, 0, none))
  | 15 => ((1, 15, 0), .inr (6, 0, none))
  | 16 => ((1, 16, 0), .inr (6, 0, none))
  | 17 => ((1, 17, 0), .inr (120, 0, none))
  | 18 => ((1, 18, 0), .inr (120, 0, none))
  | 19 => ((1, 19, 0), .inr (120, 0, none))
  | 20 => ((1, 20, 0), .inr (6, 0, none))
  | 21 => ((1, 21, 0), .inr (36, 0, none))
  | 22 => ((1, 22, 0), .inr (36, 0, none))
  | 23 => ((1, 23, 0), .inr (6, 0, none))
  | 24 => ((1, 24, 0), .inr (24, 0, none))
  | 25 => ((1, 25, 0), .inr (24, 0, none))
  | 26 => ((1, 26, 0), .inr (6, 2, some none))
  | 27 => ((1, 27, 0), .inr (6, 0, none))
  | 28 => ((1, 28, 0), .inr (6, 0, none))
  | 29 => ((1, 29, 0), .inr (6, 0, none))
  | 30 => ((1, 30, 0), .inr (6, 0, none))
  | 31 => ((1, 31, 0), .inr (6, 0, none))
  | 32 => ((1, 32, 0), .inr (6, 0, none))
  | 33 => ((1, 33, 0), .inr (10, 0, none))
  | _ => ((0, 0, 0), .inr (0, 0, none))
theorem mcnt : ∀ j, j < 34 → (mTb j).1.1 ≤ 1 := by decide +kernel
theorem mbig (n : Nat) : (mTb (n + 34)).1.1 = 0 := rfl
theorem minjB : ((List.range 34).all fun j => (List.range 1).all fun i => (List.range 34).all fun j' => (List.range 1).all fun i' => !(decide (i < (mTb j).1.1) && decide (i' < (mTb j').1.1) && decide ((mTb j).1.2.1 + (mTb j).1.2.2 * i = (mTb j').1.2.1 + (mTb j').1.2.2 * i')) || (decide (j = j') && decide (i = i'))) = true := by decide +kernel
theorem minj : ∀ j, j < 34 → ∀ i, i < 1 → ∀ j', j' < 34 → ∀ i', i' < 1 → i < (mTb j).1.1 → i' < (mTb j').1.1 → (mTb j).1.2.1 + (mTb j).1.2.2 * i = (mTb j').1.2.1 + (mTb j').1.2.2 * i' → j = j' ∧ i = i' := by
  intro j hj i hi j' hj' i' hi' h1 h2 h3
  have h := List.all_eq_true.mp (List.all_eq_true.mp (List.all_eq_true.mp (List.all_eq_true.mp minjB j (List.mem_range.mpr hj)) i (List.mem_range.mpr hi)) j' (List.mem_range.mpr hj')) i' (List.mem_range.mpr hi')
  rw [decide_eq_true h1, decide_eq_true h2, decide_eq_true h3] at h
  simpa using h
theorem mbnd : ∀ j, j < 34 → ∀ i, i < 1 → i < (mTb j).1.1 → (mTb j).1.2.1 + (mTb j).1.2.2 * i < 34 := by decide +kernel
theorem mlt {j i : Nat} (h : i < (mTb j).1.1) : j < 34 ∧ i < 1 := by
  rcases Nat.lt_or_ge j 34 with q | q
  · exact ⟨q, Nat.lt_of_lt_of_le h (mcnt j q)⟩
  · obtain ⟨n, rfl⟩ : ∃ n, j = n + 34 := ⟨j - 34, by omega⟩
    rw [mbig] at h
    exact absurd h (Nat.not_lt_zero _)
def mZ (_ : q_G) (_ : State) (_ : Heap) : Prop := True
def mX : q_X := (mTb, mCl, fun _ => [(0, .int), (1, .boolean), (2, .long)], mZ, 34)
theorem mZkept (G : q_G) (u U : State) (H H1 : Heap) (_ : u.vm.Alike U.vm) (_ : ∀ a : Nat, a < G.2.2 → H1[a]? = H[a]?) (_ : mX.2.2.2.1 G u H) : mX.2.2.2.1 G U H1 := trivial
theorem mOk : q_Ok mX := by
  refine ⟨fun j i j' i' h h' e => ?_, fun j i h => ?_, mZkept⟩
  · obtain ⟨a, b⟩ := mlt h
    obtain ⟨a', b'⟩ := mlt h'
    exact minj j a i b j' a' i' b' h h' e
  · obtain ⟨a, b⟩ := mlt h
    exact mbnd j a i b h
