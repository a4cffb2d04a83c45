def xTb : Nat → q_K := fun j => match j with
  | 0 => ((1, 0, 0), .inl (0, [(3, 1), (3, 2), (3, 3), (0, 0), (0, 0), (0, 0), (0, 0), (0, 0), (0, 0), (0, 0), (0, 0)]))
  | 1 => ((1, 1, 0), .inr (3, 1, some (some 5)))
  | 2 => ((1, 2, 0), .inr (6, 2, some (some 9)))
  | 3 => ((1, 3, 0), .inl (5, [(3, 4), (0, 0)]))
  | 4 => ((1, 4, 0), .inr (6, 0, none))
  | 5 => ((3, 5, 4), .inl (3, [(2, 6), (2, 7), (2, 8), (0, 0)]))
  | 6 => ((3, 6, 4), .inr (14, 0, none))
  | 7 => ((3, 7, 4), .inr (14, 0, none))
  | 8 => ((3, 8, 4), .inr (14, 0, none))
  | 9 => ((6, 17, 13), .inl (7, [(4, 0), (2, 10), (2, 11), (2, 15), (2, 18), (2, 21), (0, 0), (0, 0), (0, 0), (0, 0), (0, 0), (0, 0), (0, 0), (0, 0), (0, 0), (0, 0), (1, 0)]))
  | 10 => ((6, 18, 13), .inr (4, 0, none))
  | 11 => ((6, 19, 13), .inl (1, [(2, 12), (2, 13), (2, 14), (0, 0), (0, 0)]))
  | 12 => ((6, 20, 13), .inr (20, 0, none))
  | 13 => ((6, 21, 13), .inr (20, 0, none))
  | 14 => ((6, 22, 13), .inr (20, 0, none))
  | 15 => ((6, 23, 13), .inl (2, [(2, 16), (2, 17), (0, 0)]))
  | 16 => ((6, 24, 13), .inr (4, 0, none))
  | 17 => ((6, 25, 13), .inr (4, 0, none))
  | 18 => ((6, 26, 13), .inl (6, [(2, 19), (2, 20), (0, 0)]))
  | 19 => ((6, 27, 13), .inr (6, 0, none))
  | 20 => ((6, 28, 13), .inr (6, 0, none))
  | 21 => ((6, 29, 13), .inl (4, [(0, 0), (0, 0), (0, 0), (0, 0), (0, 0)]))
  | _ => ((0, 0, 0), .inr (0, 0, none))
theorem xcnt : ∀ j, j < 22 → (xTb j).1.1 ≤ 6 := by decide +kernel
theorem xbig (n : Nat) : (xTb (n + 22)).1.1 = 0 := rfl
theorem xinjB : ((List.range 22).all fun j => (List.range 6).all fun i => (List.range 22).all fun j' => (List.range 6).all fun i' => !(decide (i < (xTb j).1.1) && decide (i' < (xTb j').1.1) && decide ((xTb j).1.2.1 + (xTb j).1.2.2 * i = (xTb j').1.2.1 + (xTb j').1.2.2 * i')) || (decide (j = j') && decide (i = i'))) = true := by decide +kernel
theorem xinj : ∀ j, j < 22 → ∀ i, i < 6 → ∀ j', j' < 22 → ∀ i', i' < 6 → i < (xTb j).1.1 → i' < (xTb j').1.1 → (xTb j).1.2.1 + (xTb j).1.2.2 * i = (xTb j').1.2.1 + (xTb j').1.2.2 * i' → j = j' ∧ i = i' := by
  intro j hj i hi j' hj' i' hi' h1 h2 h3
  have h := List.all_eq_true.mp (List.all_eq_true.mp (List.all_eq_true.mp (List.all_eq_true.mp xinjB j (List.mem_range.mpr hj)) i (List.mem_range.mpr hi)) j' (List.mem_range.mpr hj')) i' (List.mem_range.mpr hi')
  rw [decide_eq_true h1, decide_eq_true h2, decide_eq_true h3] at h
  simpa using h
theorem xbnd : ∀ j, j < 22 → ∀ i, i < 6 → i < (xTb j).1.1 → (xTb j).1.2.1 + (xTb j).1.2.2 * i < 95 := by decide +kernel
theorem xlt {j i : Nat} (h : i < (xTb j).1.1) : j < 22 ∧ i < 6 := by
  rcases Nat.lt_or_ge j 22 with q | q
  · exact ⟨q, Nat.lt_of_lt_of_le h (xcnt j q)⟩
  · obtain ⟨n, rfl⟩ : ∃ n, j = n + 22 := ⟨j - 22, by omega⟩
    rw [xbig] at h
    exact absurd h (Nat.not_lt_zero _)
/-- what the static tables hold: nobody writes them -/
def xL1 : Nat → Int32 := fun j => ([4, 4, 4, 15, 4, 4, 4, 4, 4, 0, 4] : List Int32).getD j 0
def xL2 : Nat → Int32 := fun j => ([0, 4, 4, 0, 15, 4, 0, 4, 4, 0, 0] : List Int32).getD j 0
def xAA (G : q_G) : Nat → Prop := fun q => G.2.2 ≤ q
def xZ (G : q_G) (s : State) (H : Heap) : Prop := (∃ t : Nat, va_Z "FlowEngine" "FIRST_LIMITS" "[I" (.ref t) (xAA G) s H ∧ va_T .int t 11 (fun j => .int (xL1 j)) (xAA G) s H) ∧ ∃ t : Nat, va_Z "FlowEngine" "SECOND_LIMITS" "[I" (.ref t) (xAA G) s H ∧ va_T .int t 11 (fun j => .int (xL2 j)) (xAA G) s H
theorem xZkept0 (G : q_G) (u U : State) (H H1 : Heap) (hvm : u.vm.Alike U.vm) (hk0 : ∀ a : Nat, a < G.2.2 → H1[a]? = H[a]?) (h : xZ G u H) : xZ G U H1 := by
  have hk : ∀ a : Nat, a < H.size → ¬ xAA G a → H1[a]? = H[a]? := fun a _ h2 => hk0 a (Nat.not_le.mp h2)
  obtain ⟨⟨t1, a1, b1⟩, t2, a2, b2⟩ := h
  exact ⟨⟨t1, (a1.moved hvm).kept hk, (b1.moved hvm).kept hk⟩, t2, (a2.moved hvm).kept hk, (b2.moved hvm).kept hk⟩
def xX : q_X := (xTb, xCl, fun _ => [(0, .int), (1, .object "FlowEngine$Program"), (2, .object "FlowEngine$Workflow")], xZ, 95)
theorem xZkept (G : q_G) (u U : State) (H H1 : Heap) (hvm : u.vm.Alike U.vm) (hk : ∀ a : Nat, a < G.2.2 → H1[a]? = H[a]?) (h : xX.2.2.2.1 G u H) : xX.2.2.2.1 G U H1 := xZkept0 G u U H H1 hvm hk h
theorem xOk : q_Ok xX := by
  refine ⟨fun j i j' i' h h' e => ?_, fun j i h => ?_, xZkept⟩
  · obtain ⟨a, b⟩ := xlt h
    obtain ⟨a', b'⟩ := xlt h'
    exact xinj j a i b j' a' i' b' h h' e
  · obtain ⟨a, b⟩ := xlt h
    exact xbnd j a i b h
