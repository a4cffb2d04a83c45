def xS0 : q_S := fun _ _ _ => .int 0
theorem q_arr {D : va_G} {cl : List vw_C} {a N : Nat} {cA : ClassId} {f g : Nat → Option Nat} {H : Heap} (h : va_at D cl (a, .inl (cA, N, .inr (.inr (.inr (.inr f))))) H) (hfg : ∀ j, j < N → f j = g j) : va_at D cl (a, .inl (cA, N, .inr (.inr (.inr (.inr g))))) H := by
  have h : H[a]? = some (vp_cell cA (N, .inr (.inr (.inr (.inr f))))) := h
  show H[a]? = some (vp_cell cA (N, .inr (.inr (.inr (.inr g)))))
  rw [h, vp_cell_q, vp_cell_q]
  congr 1
  unfold arrV
  congr 1
  apply Array.ext
  · simp
  · intro i h1 h2
    simp only [Array.getElem_ofFn]
    rw [hfg i (by simpa using h1)]
set_option maxRecDepth 100000 in
set_option maxHeartbeats 8000000 in
theorem xW0 (G : q_G) {H : Heap} (hL : q_L G.1 xCl G.2.2 (xk_fe G G.2.2) H) : q_W xX G xS0 H := by
  intro j i h
  have hj : j < 22 := (xlt h).1
  rcases (show j = 0 ∨ j = 1 ∨ j = 2 ∨ j = 3 ∨ j = 4 ∨ j = 5 ∨ j = 6 ∨ j = 7 ∨ j = 8 ∨ j = 9 ∨ j = 10 ∨ j = 11 ∨ j = 12 ∨ j = 13 ∨ j = 14 ∨ j = 15 ∨ j = 16 ∨ j = 17 ∨ j = 18 ∨ j = 19 ∨ j = 20 ∨ j = 21 by omega) with rfl | rfl | rfl | rfl | rfl | rfl | rfl | rfl | rfl | rfl | rfl | rfl | rfl | rfl | rfl | rfl | rfl | rfl | rfl | rfl | rfl | rfl
  · have h : i < 1 := h
    obtain rfl : i = 0 := by omega
    exact hL.2 0 _ rfl
  · have h : i < 1 := h
    obtain rfl : i = 0 := by omega
    exact q_arr (hL.2 1 _ rfl) (fun k hk => by rw [if_pos hk]; rfl)
  · have h : i < 1 := h
    obtain rfl : i = 0 := by omega
    exact q_arr (hL.2 2 _ rfl) (fun k hk => by rw [if_pos hk]; rfl)
  · have h : i < 1 := h
    obtain rfl : i = 0 := by omega
    exact hL.2 3 _ rfl
  · have h : i < 1 := h
    obtain rfl : i = 0 := by omega
    exact hL.2 4 _ rfl
  · have h : i < 3 := h
    rcases (show i = 0 ∨ i = 1 ∨ i = 2 by omega) with rfl | rfl | rfl
    · exact hL.2 5 _ rfl
    · exact hL.2 9 _ rfl
    · exact hL.2 13 _ rfl
  · have h : i < 3 := h
    rcases (show i = 0 ∨ i = 1 ∨ i = 2 by omega) with rfl | rfl | rfl
    · exact hL.2 6 _ rfl
    · exact hL.2 10 _ rfl
    · exact hL.2 14 _ rfl
  · have h : i < 3 := h
    rcases (show i = 0 ∨ i = 1 ∨ i = 2 by omega) with rfl | rfl | rfl
    · exact hL.2 7 _ rfl
    · exact hL.2 11 _ rfl
    · exact hL.2 15 _ rfl
  · have h : i < 3 := h
    rcases (show i = 0 ∨ i = 1 ∨ i = 2 by omega) with rfl | rfl | rfl
    · exact hL.2 8 _ rfl
    · exact hL.2 12 _ rfl
    · exact hL.2 16 _ rfl
  · have h : i < 6 := h
    rcases (show i = 0 ∨ i = 1 ∨ i = 2 ∨ i = 3 ∨ i = 4 ∨ i = 5 by omega) with rfl | rfl | rfl | rfl | rfl | rfl
    · exact hL.2 17 _ rfl
    · exact hL.2 30 _ rfl
    · exact hL.2 43 _ rfl
    · exact hL.2 56 _ rfl
    · exact hL.2 69 _ rfl
    · exact hL.2 82 _ rfl
  · have h : i < 6 := h
    rcases (show i = 0 ∨ i = 1 ∨ i = 2 ∨ i = 3 ∨ i = 4 ∨ i = 5 by omega) with rfl | rfl | rfl | rfl | rfl | rfl
    · exact hL.2 18 _ rfl
    · exact hL.2 31 _ rfl
    · exact hL.2 44 _ rfl
    · exact hL.2 57 _ rfl
    · exact hL.2 70 _ rfl
    · exact hL.2 83 _ rfl
  · have h : i < 6 := h
    rcases (show i = 0 ∨ i = 1 ∨ i = 2 ∨ i = 3 ∨ i = 4 ∨ i = 5 by omega) with rfl | rfl | rfl | rfl | rfl | rfl
    · exact hL.2 19 _ rfl
    · exact hL.2 32 _ rfl
    · exact hL.2 45 _ rfl
    · exact hL.2 58 _ rfl
    · exact hL.2 71 _ rfl
    · exact hL.2 84 _ rfl
  · have h : i < 6 := h
    rcases (show i = 0 ∨ i = 1 ∨ i = 2 ∨ i = 3 ∨ i = 4 ∨ i = 5 by omega) with rfl | rfl | rfl | rfl | rfl | rfl
    · exact hL.2 20 _ rfl
    · exact hL.2 33 _ rfl
    · exact hL.2 46 _ rfl
    · exact hL.2 59 _ rfl
    · exact hL.2 72 _ rfl
    · exact hL.2 85 _ rfl
  · have h : i < 6 := h
    rcases (show i = 0 ∨ i = 1 ∨ i = 2 ∨ i = 3 ∨ i = 4 ∨ i = 5 by omega) with rfl | rfl | rfl | rfl | rfl | rfl
    · exact hL.2 21 _ rfl
    · exact hL.2 34 _ rfl
    · exact hL.2 47 _ rfl
    · exact hL.2 60 _ rfl
    · exact hL.2 73 _ rfl
    · exact hL.2 86 _ rfl
  · have h : i < 6 := h
    rcases (show i = 0 ∨ i = 1 ∨ i = 2 ∨ i = 3 ∨ i = 4 ∨ i = 5 by omega) with rfl | rfl | rfl | rfl | rfl | rfl
    · exact hL.2 22 _ rfl
    · exact hL.2 35 _ rfl
    · exact hL.2 48 _ rfl
    · exact hL.2 61 _ rfl
    · exact hL.2 74 _ rfl
    · exact hL.2 87 _ rfl
  · have h : i < 6 := h
    rcases (show i = 0 ∨ i = 1 ∨ i = 2 ∨ i = 3 ∨ i = 4 ∨ i = 5 by omega) with rfl | rfl | rfl | rfl | rfl | rfl
    · exact hL.2 23 _ rfl
    · exact hL.2 36 _ rfl
    · exact hL.2 49 _ rfl
    · exact hL.2 62 _ rfl
    · exact hL.2 75 _ rfl
    · exact hL.2 88 _ rfl
  · have h : i < 6 := h
    rcases (show i = 0 ∨ i = 1 ∨ i = 2 ∨ i = 3 ∨ i = 4 ∨ i = 5 by omega) with rfl | rfl | rfl | rfl | rfl | rfl
    · exact hL.2 24 _ rfl
    · exact hL.2 37 _ rfl
    · exact hL.2 50 _ rfl
    · exact hL.2 63 _ rfl
    · exact hL.2 76 _ rfl
    · exact hL.2 89 _ rfl
  · have h : i < 6 := h
    rcases (show i = 0 ∨ i = 1 ∨ i = 2 ∨ i = 3 ∨ i = 4 ∨ i = 5 by omega) with rfl | rfl | rfl | rfl | rfl | rfl
    · exact hL.2 25 _ rfl
    · exact hL.2 38 _ rfl
    · exact hL.2 51 _ rfl
    · exact hL.2 64 _ rfl
    · exact hL.2 77 _ rfl
    · exact hL.2 90 _ rfl
  · have h : i < 6 := h
    rcases (show i = 0 ∨ i = 1 ∨ i = 2 ∨ i = 3 ∨ i = 4 ∨ i = 5 by omega) with rfl | rfl | rfl | rfl | rfl | rfl
    · exact hL.2 26 _ rfl
    · exact hL.2 39 _ rfl
    · exact hL.2 52 _ rfl
    · exact hL.2 65 _ rfl
    · exact hL.2 78 _ rfl
    · exact hL.2 91 _ rfl
  · have h : i < 6 := h
    rcases (show i = 0 ∨ i = 1 ∨ i = 2 ∨ i = 3 ∨ i = 4 ∨ i = 5 by omega) with rfl | rfl | rfl | rfl | rfl | rfl
    · exact hL.2 27 _ rfl
    · exact hL.2 40 _ rfl
    · exact hL.2 53 _ rfl
    · exact hL.2 66 _ rfl
    · exact hL.2 79 _ rfl
    · exact hL.2 92 _ rfl
  · have h : i < 6 := h
    rcases (show i = 0 ∨ i = 1 ∨ i = 2 ∨ i = 3 ∨ i = 4 ∨ i = 5 by omega) with rfl | rfl | rfl | rfl | rfl | rfl
    · exact hL.2 28 _ rfl
    · exact hL.2 41 _ rfl
    · exact hL.2 54 _ rfl
    · exact hL.2 67 _ rfl
    · exact hL.2 80 _ rfl
    · exact hL.2 93 _ rfl
  · have h : i < 6 := h
    rcases (show i = 0 ∨ i = 1 ∨ i = 2 ∨ i = 3 ∨ i = 4 ∨ i = 5 by omega) with rfl | rfl | rfl | rfl | rfl | rfl
    · exact hL.2 29 _ rfl
    · exact hL.2 42 _ rfl
    · exact hL.2 55 _ rfl
    · exact hL.2 68 _ rfl
    · exact hL.2 81 _ rfl
    · exact hL.2 94 _ rfl
