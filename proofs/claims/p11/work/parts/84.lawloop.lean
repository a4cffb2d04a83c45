def lw_ok0 (Y : q_X) (G2 : q_G) (l : Launch) (s : State) (ad : Nat) (C2 : String) (P : Nat → q_S → q_S → Prop) : Prop := ∀ (n : Nat) (S T : q_S) (a b d f : Int32), n < 512 → P n S T → ∃ (r : Int32) (T' : q_S), lw_M Y G2 l s ad C2 17 4 [.int a, .int b, .int d, .int f] T r T' ∧ P (n + 1) (x_fe_add S a b d f).2 T'
def lw_ok1 (Y : q_X) (G2 : q_G) (l : Launch) (s : State) (ad : Nat) (C2 : String) (P : Nat → q_S → q_S → Prop) : Prop := ∀ (n : Nat) (S T : q_S) (a b d f g : Int32), n < 512 → P n S T → ∃ (r : Int32) (T' : q_S), lw_M Y G2 l s ad C2 22 5 [.int a, .int b, .int d, .int f, .int g] T r T' ∧ P (n + 1) (x_fe_change S a b d f g).2 T'
def lw_ok2 (Y : q_X) (G2 : q_G) (l : Launch) (s : State) (ad : Nat) (C2 : String) (P : Nat → q_S → q_S → Prop) : Prop := ∀ (n : Nat) (S T : q_S) (a b : Int32), n < 512 → P n S T → ∃ (r : Int32) (T' : q_S), lw_M Y G2 l s ad C2 27 2 [.int a, .int b] T r T' ∧ P (n + 1) (x_fe_start S a b).2 T'
def lw_ok3 (Y : q_X) (G2 : q_G) (l : Launch) (s : State) (ad : Nat) (C2 : String) (P : Nat → q_S → q_S → Prop) : Prop := ∀ (n : Nat) (S T : q_S) (a : Int32), n < 512 → P n S T → ∃ (r : Int32) (T' : q_S), lw_M Y G2 l s ad C2 32 1 [.int a] T r T' ∧ P (n + 1) (x_fe_remove S a).2 T'
def lw_ok4 (Y : q_X) (G2 : q_G) (l : Launch) (s : State) (ad : Nat) (C2 : String) (P : Nat → q_S → q_S → Prop) : Prop := ∀ (n : Nat) (S T : q_S) (a b d : Int32), n < 512 → P n S T → ∃ (r : Int32) (T' : q_S), lw_M Y G2 l s ad C2 37 3 [.int a, .int b, .int d] T r T' ∧ P (n + 1) (x_fe_signal S a b d).2 T'
def lw_ok5 (Y : q_X) (G2 : q_G) (l : Launch) (s : State) (ad : Nat) (C2 : String) (P : Nat → q_S → q_S → Prop) : Prop := ∀ (n : Nat) (S T : q_S), n < 512 → P n S T → ∃ (r : Int32) (T' : q_S), lw_M Y G2 l s ad C2 42 0 [] T r T' ∧ P (n + 1) (x_fe_take S).2 T'
def lw_ok6 (Y : q_X) (G2 : q_G) (l : Launch) (s : State) (ad : Nat) (C2 : String) (P : Nat → q_S → q_S → Prop) : Prop := ∀ (n : Nat) (S T : q_S) (a b d : Int32), n < 512 → (b = 0 ∨ b = 1) → P n S T → ∃ (r : Int32) (T' : q_S), lw_M Y G2 l s ad C2 47 3 [.int a, .int b, .int d] T r T' ∧ P (n + 1) (x_fe_answer S a b d).2 T'
def lw_ok7 (Y : q_X) (G2 : q_G) (l : Launch) (s : State) (ad : Nat) (C2 : String) (P : Nat → q_S → q_S → Prop) : Prop := ∀ (n : Nat) (S T : q_S) (a : Int32), n < 512 → P n S T → ∃ (r : Int32) (T' : q_S), lw_M Y G2 l s ad C2 52 1 [.int a] T r T' ∧ P (n + 1) (x_fe_tick S a).2 T'
def lw_ok8 (Y : q_X) (G2 : q_G) (l : Launch) (s : State) (ad : Nat) (C2 : String) (P : Nat → q_S → q_S → Prop) : Prop := ∀ (n : Nat) (S T : q_S) (a : Int32), n < 512 → P n S T → ∃ (r : Int32) (T' : q_S), lw_M Y G2 l s ad C2 56 1 [.int a] T r T' ∧ P (n + 1) (x_fe_forget S a).2 T'
def lw_ok9 (Y : q_X) (G2 : q_G) (l : Launch) (s : State) (ad : Nat) (C2 : String) (P : Nat → q_S → q_S → Prop) : Prop := ∀ (n : Nat) (S T : q_S) (a b : Int32), n < 512 → P n S T → ∃ (r : Int32) (T' : q_S), lw_M Y G2 l s ad C2 60 2 [.int a, .int b] T r T' ∧ x_fe_flow S a b = r ∧ P (n + 1) S T'
def lw_ok10 (Y : q_X) (G2 : q_G) (l : Launch) (s : State) (ad : Nat) (C2 : String) (P : Nat → q_S → q_S → Prop) : Prop := ∀ (n : Nat) (S T : q_S) (a b d : Int32), n < 512 → P n S T → ∃ (r : Int32) (T' : q_S), lw_M Y G2 l s ad C2 64 3 [.int a, .int b, .int d] T r T' ∧ P (n + 1) S T'
def lw_ok11 (Y : q_X) (G2 : q_G) (l : Launch) (s : State) (ad : Nat) (C2 : String) (P : Nat → q_S → q_S → Prop) : Prop := ∀ (n : Nat) (S T : q_S) (a : Int32), n < 512 → P n S T → ∃ (r : Int32) (T' : q_S), lw_M Y G2 l s ad C2 68 1 [.int a] T r T' ∧ P (n + 1) S T'
def lw_ok12 (Y : q_X) (G2 : q_G) (l : Launch) (s : State) (ad : Nat) (C2 : String) (P : Nat → q_S → q_S → Prop) : Prop := ∀ (n : Nat) (S T : q_S) (a : Int32), n < 512 → P n S T → ∃ (r : Int32) (T' : q_S), lw_M Y G2 l s ad C2 72 1 [.int a] T r T' ∧ P (n + 1) S T'
def lw_Oks (Y : q_X) (G2 : q_G) (l : Launch) (s : State) (b : Nat) (C2 : String) (P : Nat → q_S → q_S → Prop) : Prop := (∀ (n : Nat) (S T : q_S), P n S T → xI S ∧ xJ S) ∧ (∀ (n : Nat) (S T : q_S), n < 512 → P n S T → P (n + 1) S T) ∧ lw_ok0 Y G2 l s b C2 P ∧ lw_ok1 Y G2 l s b C2 P ∧ lw_ok2 Y G2 l s b C2 P ∧ lw_ok3 Y G2 l s b C2 P ∧ lw_ok4 Y G2 l s b C2 P ∧ lw_ok5 Y G2 l s b C2 P ∧ lw_ok6 Y G2 l s b C2 P ∧ lw_ok7 Y G2 l s b C2 P ∧ lw_ok8 Y G2 l s b C2 P ∧ lw_ok9 Y G2 l s b C2 P ∧ lw_ok10 Y G2 l s b C2 P ∧ lw_ok11 Y G2 l s b C2 P ∧ lw_ok12 Y G2 l s b C2 P
set_option maxRecDepth 100000 in
set_option maxHeartbeats 4000000 in
theorem lw_loop {p : Program} {l : Launch} {e : Env} {s : State} {m : MethodId} {below : List Frame} {meth : Method} {c : Code} {Q : State → Prop} {Y : q_X} {G G2 : q_G} {w0 : Cond} {b L : Nat} {xs : Nat → Int32} {C2 : String} {T2 : u_T} {N2 ci2 : Nat} {ds2 : List (Nat × Nat)} {P : Nat → q_S → q_S → Prop} (hJ0 : lw_J Y G G2 p m c s b L xs w0 C2 T2 N2 ci2 ds2) (hO : lw_Oks Y G2 l s b C2 P) (hEnd : ∀ (H : Heap) (locs : List Loc) (ls : Array Slot), va_S (lw_A s) s.heap H locs → W p l e room_1 s m #[.ref b] below meth c H locs 600000 7302250 Q (F0 m 561 ls [])) : ∀ (n j i : Nat) (S T : q_S) (H : Heap) (locs : List Loc) (ls : Array Slot), i = 6 * j → L < i + 6 * n → i ≤ L → P j S T → lv_has ls 4 [(0, .ref b), (1, .ref (q_a xX G 0 0)), (2, .ref (q_a Y G2 0 0)), (3, .int (nI i))] → q_w xX G s S H → q_w Y G2 s T H → va_S (lw_A s) s.heap H locs → W p l e room_1 s m #[.ref b] below meth c H locs 600000 7302250 Q (F0 m 18 ls []) := by
  obtain ⟨hC, hD, hX, hbl, hL, -⟩ := id hJ0
  obtain ⟨hP0, hO0, o0, o1, o2, o3, o4, o5, o6, o7, o8, o9, o10, o11, o12⟩ := hO
  have hx := hC.1.1
  have hb := hC.1.2.1
  intro n
  induction n with
  | zero => intro j i S T H locs ls h0 h1 h2; omega
  | succ n ih =>
    intro j i S T H locs ls h0 h1 h2 hP hl hW hV hS
    obtain ⟨hI, hJ⟩ := hP0 j S T hP
    refine lv_iload_n hx hb d_law_18 rfl (lv_at hl 3 rfl) ?_
    refine lv_aload_n hx hb d_law_19 rfl (lv_at hl 0 rfl) ?_
    refine va_slen hx hb hX hbl (Nat.not_le.mpr hbl) hS d_law_20 ?_
    refine lv_bipush (v := 6) hx hb d_law_21 (by decide) ?_
    refine lv_isub hx hb d_law_23 ?_
    refine lv_icmp_gt (tgt := 561) hx hb d_law_24 (by decide) (fun _ => hEnd H locs ls hS) (fun hc => ?_)
    have hi : i + 5 < L := by
      have := mt (lw_sub6 (Nat.le_trans hL (by decide)) h2).mpr hc
      omega
    have hj : j < 512 := by omega
    have back : ∀ (S1 T1 : q_S) (H1 : Heap) (locs1 : List Loc), P (j + 1) S1 T1 → q_w xX G s S1 H1 → q_w Y G2 s T1 H1 → va_S (lw_A s) s.heap H1 locs1 → W p l e room_1 s m #[.ref b] below meth c H1 locs1 600000 7302250 Q (F0 m 555 ls []) := by
      intro S1 T1 H1 locs1 hP1 hW1 hV1 hS1
      refine lv_iinc (v := nI (i + 6)) (lv' := [(3, .int (nI (i + 6))), (0, .ref b), (1, .ref (q_a xX G 0 0)), (2, .ref (q_a Y G2 0 0))]) hx hb d_law_555 hl (k := 3) rfl (nI_add i 6) (by decide) rfl (fun ls hl => ?_)
      refine lv_goto (tgt := 18) hx hb d_law_558 (by decide) ?_
      exact ih (j + 1) (i + 6) S1 T1 H1 locs1 ls (by omega) (by omega) (by omega) hP1 (lv_sub hl [1, 2, 3, 0] rfl) hW1 hV1 hS1
    refine lv_aload_n hx hb d_law_27 rfl (lv_at hl 0 rfl) ?_
    refine lv_iload_n hx hb d_law_28 rfl (lv_at hl 3 rfl) ?_
    refine va_sld hx hb hX hbl (Nat.not_le.mpr hbl) hS (lw_vin (by omega) (Nat.le_trans hL (by decide))) d_law_29 ?_
    refine lv_bipush (v := 15) hx hb d_law_30 (by decide) ?_
    refine lv_iand hx hb d_law_32 ?_
    refine lv_topi (fun v _ => ?_)
    by_cases hlo : v.toInt < 0
    · exact lv_tableOut (tgt := 555) hx hb d_law_33 (Or.inl hlo) (by decide) (back S T H locs (hO0 j S T hj hP) hW hV hS)
    by_cases hhi : 12 < v.toInt
    · exact lv_tableOut (tgt := 555) hx hb d_law_33 (Or.inr hhi) (by decide) (back S T H locs (hO0 j S T hj hP) hW hV hS)
    have hv : v.toInt = 0 ∨ v.toInt = 1 ∨ v.toInt = 2 ∨ v.toInt = 3 ∨ v.toInt = 4 ∨ v.toInt = 5 ∨ v.toInt = 6 ∨ v.toInt = 7 ∨ v.toInt = 8 ∨ v.toInt = 9 ∨ v.toInt = 10 ∨ v.toInt = 11 ∨ v.toInt = 12 := by omega
    rcases hv with hv | hv | hv | hv | hv | hv | hv | hv | hv | hv | hv | hv | hv
    · obtain ⟨r, T', hM, hP'⟩ := o0 j S T (xs (i + 1)) (xs (i + 2)) (xs (i + 3)) (xs (i + 4)) hj hP
      refine lv_tableIn (tgt := 100) hx hb d_law_33 hlo hhi (by rw [hv]; rfl) (by decide) ?_
      exact lw_case0 hJ0 hi hl hI hJ hW hV hS hM (fun H1 locs1 w1 w2 s1 => back _ _ H1 locs1 hP' w1 w2 s1)
    · obtain ⟨r, T', hM, hP'⟩ := o1 j S T (xs (i + 1)) (xs (i + 2)) (xs (i + 3)) (xs (i + 4)) (xs (i + 5)) hj hP
      refine lv_tableIn (tgt := 153) hx hb d_law_33 hlo hhi (by rw [hv]; rfl) (by decide) ?_
      exact lw_case1 hJ0 hi hl hI hJ hW hV hS hM (fun H1 locs1 w1 w2 s1 => back _ _ H1 locs1 hP' w1 w2 s1)
    · obtain ⟨r, T', hM, hP'⟩ := o2 j S T (xs (i + 1)) (xs (i + 2)) hj hP
      refine lv_tableIn (tgt := 216) hx hb d_law_33 hlo hhi (by rw [hv]; rfl) (by decide) ?_
      exact lw_case2 hJ0 hi hl hI hJ hW hV hS hM (fun H1 locs1 w1 w2 s1 => back _ _ H1 locs1 hP' w1 w2 s1)
    · obtain ⟨r, T', hM, hP'⟩ := o3 j S T (xs (i + 1)) hj hP
      refine lv_tableIn (tgt := 249) hx hb d_law_33 hlo hhi (by rw [hv]; rfl) (by decide) ?_
      exact lw_case3 hJ0 hi hl hI hJ hW hV hS hM (fun H1 locs1 w1 w2 s1 => back _ _ H1 locs1 hP' w1 w2 s1)
    · obtain ⟨r, T', hM, hP'⟩ := o4 j S T (xs (i + 1)) (xs (i + 2)) (xs (i + 3)) hj hP
      refine lv_tableIn (tgt := 272) hx hb d_law_33 hlo hhi (by rw [hv]; rfl) (by decide) ?_
      exact lw_case4 hJ0 hi hl hI hJ hW hV hS hM (fun H1 locs1 w1 w2 s1 => back _ _ H1 locs1 hP' w1 w2 s1)
    · obtain ⟨r, T', hM, hP'⟩ := o5 j S T  hj hP
      refine lv_tableIn (tgt := 315) hx hb d_law_33 hlo hhi (by rw [hv]; rfl) (by decide) ?_
      exact lw_case5 hJ0 hi hl hI hJ hW hV hS hM (fun H1 locs1 w1 w2 s1 => back _ _ H1 locs1 hP' w1 w2 s1)
    · obtain ⟨r, T', hM, hP'⟩ := o6 j S T (xs (i + 1)) (if xs (i + 2) = 0 then 0 else 1) (xs (i + 3)) hj (by split <;> simp) hP
      refine lv_tableIn (tgt := 328) hx hb d_law_33 hlo hhi (by rw [hv]; rfl) (by decide) ?_
      exact lw_case6 hJ0 hi hl hI hJ hW hV hS hM (fun H1 locs1 w1 w2 s1 => back _ _ H1 locs1 hP' w1 w2 s1)
    · obtain ⟨r, T', hM, hP'⟩ := o7 j S T (xs (i + 1)) hj hP
      refine lv_tableIn (tgt := 387) hx hb d_law_33 hlo hhi (by rw [hv]; rfl) (by decide) ?_
      exact lw_case7 hJ0 hi hl hI hJ hW hV hS hM (fun H1 locs1 w1 w2 s1 => back _ _ H1 locs1 hP' w1 w2 s1)
    · obtain ⟨r, T', hM, hP'⟩ := o8 j S T (xs (i + 1)) hj hP
      refine lv_tableIn (tgt := 410) hx hb d_law_33 hlo hhi (by rw [hv]; rfl) (by decide) ?_
      exact lw_case8 hJ0 hi hl hI hJ hW hV hS hM (fun H1 locs1 w1 w2 s1 => back _ _ H1 locs1 hP' w1 w2 s1)
    · obtain ⟨r, T', hM, hE, hP'⟩ := o9 j S T (xs (i + 1)) (xs (i + 2)) hj hP
      refine lv_tableIn (tgt := 433) hx hb d_law_33 hlo hhi (by rw [hv]; rfl) (by decide) ?_
      exact lw_case9 hJ0 hi hl hI hJ hW hV hS hM hE (fun H1 locs1 w1 w2 s1 => back _ _ H1 locs1 hP' w1 w2 s1)
    · obtain ⟨r, T', hM, hP'⟩ := o10 j S T (xs (i + 1)) (xs (i + 2)) (xs (i + 3)) hj hP
      refine lv_tableIn (tgt := 466) hx hb d_law_33 hlo hhi (by rw [hv]; rfl) (by decide) ?_
      exact lw_case10 hJ0 hi hl hI hJ hW hV hS hM (fun H1 locs1 w1 w2 s1 => back _ _ H1 locs1 hP' w1 w2 s1)
    · obtain ⟨r, T', hM, hP'⟩ := o11 j S T (xs (i + 1)) hj hP
      refine lv_tableIn (tgt := 509) hx hb d_law_33 hlo hhi (by rw [hv]; rfl) (by decide) ?_
      exact lw_case11 hJ0 hi hl hI hJ hW hV hS hM (fun H1 locs1 w1 w2 s1 => back _ _ H1 locs1 hP' w1 w2 s1)
    · obtain ⟨r, T', hM, hP'⟩ := o12 j S T (xs (i + 1)) hj hP
      refine lv_tableIn (tgt := 532) hx hb d_law_33 hlo hhi (by rw [hv]; rfl) (by decide) ?_
      exact lw_case12 hJ0 hi hl hI hJ hW hV hS hM (fun H1 locs1 w1 w2 s1 => back _ _ H1 locs1 hP' w1 w2 s1)
