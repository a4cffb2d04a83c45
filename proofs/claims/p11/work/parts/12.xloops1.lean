def x_ke_oldest_L0 : Nat → q_S → Nat → Int32 → Nat → Int32
  | 0, S, _, _, _ => 0
  | n + 1, S, i, a, t =>
    if q_i (S 15 i 2) ≤ nI t then
      (-1)
    else
      if q_i (S 16 i ((nI t).toNatClampNeg)) = a then
        nI t
      else
        x_ke_oldest_L0 n S i a (t + 1)
set_option maxRecDepth 100000 in
set_option maxHeartbeats 4000000 in
theorem xL_ke_oldest_L0 (l : Launch) (G : q_G) (i : Nat) (a : Int32) (hi : i < 6) {p : Program} {e : Env} {s : State} {m : MethodId} {below : List Frame} {meth : Method} {c : Code} (hC : q_C xX G p m c xb_ke_oldest 3 s ([.ref (q_a xX G 15 i), .int a] : List Value).toArray (q_ws (q_gw lw_tbl) xy_ke_oldest xb_ke_oldest 3 (some .int)) xR_ke) (hr : meth.sig.returnType = (some .int)) (hlocks : meth.locks = false) : ∀ (n : Nat) (S : q_S) (t : Nat) (H : Heap) (locs : List Loc) (ls : Array Slot), t + n = 5 → t ≤ 4 → xI S → q_w xX G s S H → va_S (q_A xX G) s.heap H locs → lv_has ls 3 [(0, .ref (q_a xX G 15 i)), (1, .int a), (2, .int (nI t))] → W p l e (headSpec (q_ws (q_gw lw_tbl) xy_ke_oldest xb_ke_oldest 3 (some .int)) (q_rm 0)).room s m ([.ref (q_a xX G 15 i), .int a] : List Value).toArray below meth c H locs 0 0 (MQ below (va_Qi (fun (r' : Int32) (u : q_S) => r' = x_ke_oldest_L0 n S i a t ∧ u = S) (q_P xX G) (q_A xX G)) ([.ref (q_a xX G 15 i), .int a] : List Value).toArray s 0 0 (q_A xX G)) (F0 m 2 ls []) := by
  have hx := hC.1.1
  have hb := hC.1.2.1
  intro n
  induction n with
  | zero =>
    intro S t H locs ls ht hu hI hW hS hl
    exfalso
    omega
  | succ n ih =>
    intro S t H locs ls ht hu hI hW hS hl
    refine lv_iload_n hx hb xd_ke_oldest_2 rfl (lv_at hl 2 rfl) ?_
    refine lv_aload_n hx hb xd_ke_oldest_3 rfl (lv_at hl 0 rfl) ?_
    refine xg_ke_18 hC hW i hi (rfl) xd_ke_oldest_4 ?_
    refine lv_icmp_ge (tgt := 28) hx hb xd_ke_oldest_7 (by decide) (fun c_1 => ?_) (fun c_1 => ?_)
    · -- taken
      refine lv_iconst (v := (-1)) hx hb xd_ke_oldest_28 (by decide) ?_
      have hf : x_ke_oldest_L0 (n + 1) S i a t = (-1) := by rw [x_ke_oldest_L0, if_pos c_1]
      rw [hf]
      exact q_iret hC hr hlocks hW hS rfl rfl xd_ke_oldest_29
    · -- not taken
      refine lv_aload_n hx hb xd_ke_oldest_10 rfl (lv_at hl 0 rfl) ?_
      refine xg_ke_9 hC hW i hi xd_ke_oldest_11 ?_
      refine lv_iload_n hx hb xd_ke_oldest_14 rfl (lv_at hl 2 rfl) ?_
      have h_2 : vp_in (nI t) 4 := by have b1 : 0 ≤ (q_i (S 15 i 2)).toInt ∧ (q_i (S 15 i 2)).toInt ≤ 4 := hI 15 i 2; have n_t := nI_toInt (n := t) (by omega); have m_t := q_nT (n := t) (by omega); simp only [vp_in_iff, Int32.lt_iff_toInt_lt, Int32.le_iff_toInt_le, q_n0, q_n1, q_n2, q_n3, q_n4, q_n5, q_n6, q_n7, q_n10, q_n14, q_n15, q_n20, q_n60, q_n1288] at c_1 ⊢; omega
      refine xal_16 hC hW i hi h_2 (rfl) xd_ke_oldest_15 ?_
      refine lv_iload_n hx hb xd_ke_oldest_16 rfl (lv_at hl 1 rfl) ?_
      refine lv_icmp_ne (tgt := 22) hx hb xd_ke_oldest_17 (by decide) (fun c_3 => ?_) (fun c_3 => ?_)
      · -- taken
        refine lv_iinc (v := nI t + 1) (lv' := [(2, .int (nI t + 1)), (0, .ref (q_a xX G 15 i)), (1, .int a)]) hx hb xd_ke_oldest_22 hl (k := 2) rfl rfl (by decide) rfl (fun ls hl => ?_)
        refine lv_goto (tgt := 2) hx hb xd_ke_oldest_25 (by decide) ?_
        have hf : x_ke_oldest_L0 (n + 1) S i a t = x_ke_oldest_L0 n S i a (t + 1) := by rw [x_ke_oldest_L0, if_neg c_1, if_neg c_3]
        rw [hf]
        have hl2 : lv_has ls 3 [(0, .ref (q_a xX G 15 i)), (1, .int a), (2, .int (nI (t + 1)))] := by rw [← nI_1 t]; exact lv_sub hl [1, 2, 0] rfl
        exact ih S (t + 1) _ _ ls (by have b1 : 0 ≤ (q_i (S 15 i 2)).toInt ∧ (q_i (S 15 i 2)).toInt ≤ 4 := hI 15 i 2; have n_t := nI_toInt (n := t) (by omega); have m_t := q_nT (n := t) (by omega); simp only [Int32.lt_iff_toInt_lt, Int32.le_iff_toInt_le, q_n0, q_n1, q_n2, q_n3, q_n4, q_n5, q_n6, q_n7, q_n10, q_n14, q_n15, q_n20, q_n60, q_n1288] at c_1; omega) (by have b1 : 0 ≤ (q_i (S 15 i 2)).toInt ∧ (q_i (S 15 i 2)).toInt ≤ 4 := hI 15 i 2; have n_t := nI_toInt (n := t) (by omega); have m_t := q_nT (n := t) (by omega); simp only [Int32.lt_iff_toInt_lt, Int32.le_iff_toInt_le, q_n0, q_n1, q_n2, q_n3, q_n4, q_n5, q_n6, q_n7, q_n10, q_n14, q_n15, q_n20, q_n60, q_n1288] at c_1; omega) hI hW hS hl2
      · -- not taken
        refine lv_iload_n hx hb xd_ke_oldest_20 rfl (lv_at hl 2 rfl) ?_
        have hf : x_ke_oldest_L0 (n + 1) S i a t = nI t := by rw [x_ke_oldest_L0, if_neg c_1, if_pos c_3]
        rw [hf]
        exact q_iret hC hr hlocks hW hS rfl rfl xd_ke_oldest_21
def x_ke_oldest (S : q_S) (i : Nat) (a : Int32) : Int32 :=
  x_ke_oldest_L0 5 S i a 0
set_option maxRecDepth 100000 in
set_option maxHeartbeats 4000000 in
theorem xC_ke_oldest (l : Launch) (G : q_G) (S : q_S) (i : Nat) (a : Int32) (hi : i < 6) (hI : xI S) : q_Mi xX G l xy_ke_oldest (q_ws (q_gw lw_tbl) xy_ke_oldest xb_ke_oldest 3 (some .int)) (q_rm 0) [.ref (q_a xX G 15 i), .int a] S (x_ke_oldest S i a) S := by
  refine q_met (cc := xb_ke_oldest) (maxL := 3) (ret := (some .int)) xOk (by decide) rfl (Nat.le_of_ble_eq_true rfl) ?_
  intro p e s m below meth c ls hC hr hlocks hW hS hl
  have hx := hC.1.1
  have hb := hC.1.2.1
  have hl : lv_has ls 3 [(0, .ref (q_a xX G 15 i)), (1, .int a)] := hl
  refine lv_iconst (v := 0) hx hb xd_ke_oldest_0 (by decide) ?_
  refine lv_istore_n (lv' := [(2, .int 0), (0, .ref (q_a xX G 15 i)), (1, .int a)]) hx hb xd_ke_oldest_1 rfl hl (by decide) rfl (fun ls hl => ?_)
  have hf : x_ke_oldest S i a = x_ke_oldest_L0 5 S i a 0 := by unfold x_ke_oldest; rfl
  rw [hf]
  have hl2 : lv_has ls 3 [(0, .ref (q_a xX G 15 i)), (1, .int a), (2, .int (nI 0))] := by rw [(show nI 0 = 0 from rfl)]; exact lv_sub hl [1, 2, 0] rfl
  exact xL_ke_oldest_L0 l G i a hi hC hr hlocks 5 S 0 _ _ ls (by omega) (by omega) hI hW hS hl2
def x_ke_drop_L0 : Nat → q_S → Nat → Int32 → Nat → q_S
  | 0, S, _, _, _ => S
  | n + 1, S, i, a, t =>
    if q_i (S 15 i 2) ≤ (nI t) + 1 then
      S
    else
      x_ke_drop_L0 n (q_st (q_st S 16 i ((nI t).toNatClampNeg) (.int (q_i (S 16 i (((nI t) + 1).toNatClampNeg))))) 17 i ((nI t).toNatClampNeg) (.int (q_i (S 17 i (((nI t) + 1).toNatClampNeg))))) i a (t + 1)
set_option maxRecDepth 100000 in
set_option maxHeartbeats 4000000 in
theorem xL_ke_drop_L0 (l : Launch) (G : q_G) (i : Nat) (a : Int32) (hi : i < 6) {p : Program} {e : Env} {s : State} {m : MethodId} {below : List Frame} {meth : Method} {c : Code} {Q : State → Prop} (hC : q_C xX G p m c xb_ke_drop 3 s ([.ref (q_a xX G 15 i), .int a] : List Value).toArray (q_ws (q_gw lw_tbl) xy_ke_drop xb_ke_drop 3 none) xR_ke) : ∀ (n : Nat) (S : q_S) (t : Nat) (H : Heap) (locs : List Loc) (ls : Array Slot), t + n ≥ 5 → t ≤ 4 → xI S → q_w xX G s S H → va_S (q_A xX G) s.heap H locs → lv_has ls 3 [(0, .ref (q_a xX G 15 i)), (1, .int a), (2, .int (nI t))] → (∀ (H1 : Heap) (locs1 : List Loc) (ls1 : Array Slot), q_w xX G s (x_ke_drop_L0 n S i a t) H1 → va_S (q_A xX G) s.heap H1 locs1 → lv_has ls1 3 [(0, .ref (q_a xX G 15 i)), (1, .int a)] → W p l e (headSpec (q_ws (q_gw lw_tbl) xy_ke_drop xb_ke_drop 3 none) (q_rm 0)).room s m ([.ref (q_a xX G 15 i), .int a] : List Value).toArray below meth c H1 locs1 0 0 Q (F0 m 59 ls1 [])) → W p l e (headSpec (q_ws (q_gw lw_tbl) xy_ke_drop xb_ke_drop 3 none) (q_rm 0)).room s m ([.ref (q_a xX G 15 i), .int a] : List Value).toArray below meth c H locs 0 0 Q (F0 m 15 ls []) := by
  have hx := hC.1.1
  have hb := hC.1.2.1
  intro n
  induction n with
  | zero =>
    intro S t H locs ls ht hu hI hW hS hl kk
    exfalso
    omega
  | succ n ih =>
    intro S t H locs ls ht hu hI hW hS hl kk
    refine lv_iload_n hx hb xd_ke_drop_15 rfl (lv_at hl 2 rfl) ?_
    refine lv_iconst (v := 1) hx hb xd_ke_drop_16 (by decide) ?_
    refine lv_iadd hx hb xd_ke_drop_17 ?_
    refine lv_aload_n hx hb xd_ke_drop_18 rfl (lv_at hl 0 rfl) ?_
    refine xg_ke_18 hC hW i hi (rfl) xd_ke_drop_19 ?_
    refine lv_icmp_ge (tgt := 59) hx hb xd_ke_drop_22 (by decide) (fun c_1 => ?_) (fun c_1 => ?_)
    · -- taken
      have hf : x_ke_drop_L0 (n + 1) S i a t = S := by rw [x_ke_drop_L0, if_pos c_1]
      rw [hf] at kk
      exact kk H locs ls hW hS (lv_sub hl [0, 1] rfl)
    · -- not taken
      refine lv_aload_n hx hb xd_ke_drop_25 rfl (lv_at hl 0 rfl) ?_
      refine xg_ke_9 hC hW i hi xd_ke_drop_26 ?_
      refine lv_iload_n hx hb xd_ke_drop_29 rfl (lv_at hl 2 rfl) ?_
      refine lv_aload_n hx hb xd_ke_drop_30 rfl (lv_at hl 0 rfl) ?_
      refine xg_ke_9 hC hW i hi xd_ke_drop_31 ?_
      refine lv_iload_n hx hb xd_ke_drop_34 rfl (lv_at hl 2 rfl) ?_
      refine lv_iconst (v := 1) hx hb xd_ke_drop_35 (by decide) ?_
      refine lv_iadd hx hb xd_ke_drop_36 ?_
      have h_2 : vp_in ((nI t) + 1) 4 := by have b1 : 0 ≤ (q_i (S 15 i 2)).toInt ∧ (q_i (S 15 i 2)).toInt ≤ 4 := hI 15 i 2; have n_t := nI_toInt (n := t) (by omega); have m_t := q_nT (n := t) (by omega); simp only [vp_in_iff, Int32.lt_iff_toInt_lt, Int32.le_iff_toInt_le, q_n0, q_n1, q_n2, q_n3, q_n4, q_n5, q_n6, q_n7, q_n10, q_n14, q_n15, q_n20, q_n60, q_n1288] at c_1 ⊢; omega
      refine xal_16 hC hW i hi h_2 (rfl) xd_ke_drop_37 ?_
      have h_3 : vp_in (nI t) 4 := by have b1 : 0 ≤ (q_i (S 15 i 2)).toInt ∧ (q_i (S 15 i 2)).toInt ≤ 4 := hI 15 i 2; have n_t := nI_toInt (n := t) (by omega); have m_t := q_nT (n := t) (by omega); simp only [vp_in_iff, Int32.lt_iff_toInt_lt, Int32.le_iff_toInt_le, q_n0, q_n1, q_n2, q_n3, q_n4, q_n5, q_n6, q_n7, q_n10, q_n14, q_n15, q_n20, q_n60, q_n1288] at c_1 ⊢; omega
      refine xas_16 hC hW hS (fun _ h => h) i hi h_3 xd_ke_drop_38 (fun H locs hW hS => ?_)
      refine lv_aload_n hx hb xd_ke_drop_39 rfl (lv_at hl 0 rfl) ?_
      refine xg_ke_15 hC hW i hi xd_ke_drop_40 ?_
      refine lv_iload_n hx hb xd_ke_drop_43 rfl (lv_at hl 2 rfl) ?_
      refine lv_aload_n hx hb xd_ke_drop_44 rfl (lv_at hl 0 rfl) ?_
      refine W.eq (g2 := F0 m 45 ls [.ref (q_a xX G 15 i), .int (nI t), .ref (q_a xX G 17 i)]) rfl ?_
      refine xg_ke_15 hC hW i hi xd_ke_drop_45 ?_
      refine lv_iload_n hx hb xd_ke_drop_48 rfl (lv_at hl 2 rfl) ?_
      refine lv_iconst (v := 1) hx hb xd_ke_drop_49 (by decide) ?_
      refine lv_iadd hx hb xd_ke_drop_50 ?_
      have h_4 : vp_in ((nI t) + 1) 4 := by have b1 : 0 ≤ (q_i (S 15 i 2)).toInt ∧ (q_i (S 15 i 2)).toInt ≤ 4 := hI 15 i 2; have n_t := nI_toInt (n := t) (by omega); have m_t := q_nT (n := t) (by omega); simp only [vp_in_iff, Int32.lt_iff_toInt_lt, Int32.le_iff_toInt_le, q_n0, q_n1, q_n2, q_n3, q_n4, q_n5, q_n6, q_n7, q_n10, q_n14, q_n15, q_n20, q_n60, q_n1288] at c_1 ⊢; omega
      refine xal_17 hC hW i hi h_4 (q_sj (by decide) (rfl)) xd_ke_drop_51 ?_
      have h_5 : vp_in (nI t) 4 := by have b1 : 0 ≤ (q_i (S 15 i 2)).toInt ∧ (q_i (S 15 i 2)).toInt ≤ 4 := hI 15 i 2; have n_t := nI_toInt (n := t) (by omega); have m_t := q_nT (n := t) (by omega); simp only [vp_in_iff, Int32.lt_iff_toInt_lt, Int32.le_iff_toInt_le, q_n0, q_n1, q_n2, q_n3, q_n4, q_n5, q_n6, q_n7, q_n10, q_n14, q_n15, q_n20, q_n60, q_n1288] at c_1 ⊢; omega
      refine xas_17 hC hW hS (fun _ h => h) i hi h_5 xd_ke_drop_52 (fun H locs hW hS => ?_)
      refine lv_iinc (v := nI t + 1) (lv' := [(2, .int (nI t + 1)), (0, .ref (q_a xX G 15 i)), (1, .int a)]) hx hb xd_ke_drop_53 hl (k := 2) rfl rfl (by decide) rfl (fun ls hl => ?_)
      refine lv_goto (tgt := 15) hx hb xd_ke_drop_56 (by decide) ?_
      have hf : x_ke_drop_L0 (n + 1) S i a t = x_ke_drop_L0 n (q_st (q_st S 16 i ((nI t).toNatClampNeg) (.int (q_i (S 16 i (((nI t) + 1).toNatClampNeg))))) 17 i ((nI t).toNatClampNeg) (.int (q_i (S 17 i (((nI t) + 1).toNatClampNeg))))) i a (t + 1) := by rw [x_ke_drop_L0, if_neg c_1]
      rw [hf] at kk
      have hl2 : lv_has ls 3 [(0, .ref (q_a xX G 15 i)), (1, .int a), (2, .int (nI (t + 1)))] := by rw [← nI_1 t]; exact lv_sub hl [1, 2, 0] rfl
      have hI_6 : xI (q_st (q_st S 16 i ((nI t).toNatClampNeg) (.int (q_i (S 16 i (((nI t) + 1).toNatClampNeg))))) 17 i ((nI t).toNatClampNeg) (.int (q_i (S 17 i (((nI t) + 1).toNatClampNeg))))) := (q_Is (q_Is hI rfl) rfl)
      exact ih (q_st (q_st S 16 i ((nI t).toNatClampNeg) (.int (q_i (S 16 i (((nI t) + 1).toNatClampNeg))))) 17 i ((nI t).toNatClampNeg) (.int (q_i (S 17 i (((nI t) + 1).toNatClampNeg))))) (t + 1) _ _ ls (by have b1 : 0 ≤ (q_i (S 15 i 2)).toInt ∧ (q_i (S 15 i 2)).toInt ≤ 4 := hI 15 i 2; have n_t := nI_toInt (n := t) (by omega); have m_t := q_nT (n := t) (by omega); simp only [Int32.lt_iff_toInt_lt, Int32.le_iff_toInt_le, q_n0, q_n1, q_n2, q_n3, q_n4, q_n5, q_n6, q_n7, q_n10, q_n14, q_n15, q_n20, q_n60, q_n1288] at c_1; omega) (by have b1 : 0 ≤ (q_i (S 15 i 2)).toInt ∧ (q_i (S 15 i 2)).toInt ≤ 4 := hI 15 i 2; have n_t := nI_toInt (n := t) (by omega); have m_t := q_nT (n := t) (by omega); simp only [Int32.lt_iff_toInt_lt, Int32.le_iff_toInt_le, q_n0, q_n1, q_n2, q_n3, q_n4, q_n5, q_n6, q_n7, q_n10, q_n14, q_n15, q_n20, q_n60, q_n1288] at c_1; omega) hI_6 hW hS hl2 kk
set_option maxRecDepth 100000 in
set_option maxHeartbeats 4000000 in
theorem xK_ke_drop_L0 : ∀ (n : Nat) (S : q_S) (i : Nat) (a : Int32) (t : Nat) (x y z : Nat) (h16 : x ≠ 16) (h17 : x ≠ 17), (x_ke_drop_L0 n S i a t) x y z = S x y z := by
  intro n
  induction n with
  | zero => intro S i a t x y z h16 h17; rfl
  | succ n ih =>
    intro S i a t x y z h16 h17
    by_cases c_1 : q_i (S 15 i 2) ≤ (nI t) + 1
    · -- yes
      have hf : x_ke_drop_L0 (n + 1) S i a t = S := by rw [x_ke_drop_L0, if_pos c_1]
      rw [hf]
    · -- no
      have hf : x_ke_drop_L0 (n + 1) S i a t = x_ke_drop_L0 n (q_st (q_st S 16 i ((nI t).toNatClampNeg) (.int (q_i (S 16 i (((nI t) + 1).toNatClampNeg))))) 17 i ((nI t).toNatClampNeg) (.int (q_i (S 17 i (((nI t) + 1).toNatClampNeg))))) i a (t + 1) := by rw [x_ke_drop_L0, if_neg c_1]
      rw [hf]
      exact (ih (q_st (q_st S 16 i ((nI t).toNatClampNeg) (.int (q_i (S 16 i (((nI t) + 1).toNatClampNeg))))) 17 i ((nI t).toNatClampNeg) (.int (q_i (S 17 i (((nI t) + 1).toNatClampNeg))))) i a (t + 1) x y z h16 h17).trans ((q_kj h17).trans ((q_kj h16)))
set_option maxRecDepth 100000 in
set_option maxHeartbeats 4000000 in
theorem xI_ke_drop_L0 (i : Nat) (a : Int32) (hi : i < 6) : ∀ (n : Nat) (S : q_S) (t : Nat), t + n ≥ 5 → t ≤ 4 → xI S → xI (x_ke_drop_L0 n S i a t) := by
  intro n
  induction n with
  | zero =>
    intro S t ht hu hI
    exfalso
    omega
  | succ n ih =>
    intro S t ht hu hI
    by_cases c_1 : q_i (S 15 i 2) ≤ (nI t) + 1
    · -- yes
      have hf : x_ke_drop_L0 (n + 1) S i a t = S := by rw [x_ke_drop_L0, if_pos c_1]
      rw [hf]
      exact hI
    · -- no
      have h_2 : vp_in ((nI t) + 1) 4 := by have b1 : 0 ≤ (q_i (S 15 i 2)).toInt ∧ (q_i (S 15 i 2)).toInt ≤ 4 := hI 15 i 2; have n_t := nI_toInt (n := t) (by omega); have m_t := q_nT (n := t) (by omega); simp only [vp_in_iff, Int32.lt_iff_toInt_lt, Int32.le_iff_toInt_le, q_n0, q_n1, q_n2, q_n3, q_n4, q_n5, q_n6, q_n7, q_n10, q_n14, q_n15, q_n20, q_n60, q_n1288] at c_1 ⊢; omega
      have h_3 : vp_in (nI t) 4 := by have b1 : 0 ≤ (q_i (S 15 i 2)).toInt ∧ (q_i (S 15 i 2)).toInt ≤ 4 := hI 15 i 2; have n_t := nI_toInt (n := t) (by omega); have m_t := q_nT (n := t) (by omega); simp only [vp_in_iff, Int32.lt_iff_toInt_lt, Int32.le_iff_toInt_le, q_n0, q_n1, q_n2, q_n3, q_n4, q_n5, q_n6, q_n7, q_n10, q_n14, q_n15, q_n20, q_n60, q_n1288] at c_1 ⊢; omega
      have h_4 : vp_in ((nI t) + 1) 4 := by have b1 : 0 ≤ (q_i (S 15 i 2)).toInt ∧ (q_i (S 15 i 2)).toInt ≤ 4 := hI 15 i 2; have n_t := nI_toInt (n := t) (by omega); have m_t := q_nT (n := t) (by omega); simp only [vp_in_iff, Int32.lt_iff_toInt_lt, Int32.le_iff_toInt_le, q_n0, q_n1, q_n2, q_n3, q_n4, q_n5, q_n6, q_n7, q_n10, q_n14, q_n15, q_n20, q_n60, q_n1288] at c_1 ⊢; omega
      have h_5 : vp_in (nI t) 4 := by have b1 : 0 ≤ (q_i (S 15 i 2)).toInt ∧ (q_i (S 15 i 2)).toInt ≤ 4 := hI 15 i 2; have n_t := nI_toInt (n := t) (by omega); have m_t := q_nT (n := t) (by omega); simp only [vp_in_iff, Int32.lt_iff_toInt_lt, Int32.le_iff_toInt_le, q_n0, q_n1, q_n2, q_n3, q_n4, q_n5, q_n6, q_n7, q_n10, q_n14, q_n15, q_n20, q_n60, q_n1288] at c_1 ⊢; omega
      have hI_6 : xI (q_st (q_st S 16 i ((nI t).toNatClampNeg) (.int (q_i (S 16 i (((nI t) + 1).toNatClampNeg))))) 17 i ((nI t).toNatClampNeg) (.int (q_i (S 17 i (((nI t) + 1).toNatClampNeg))))) := (q_Is (q_Is hI rfl) rfl)
      have hf : x_ke_drop_L0 (n + 1) S i a t = x_ke_drop_L0 n (q_st (q_st S 16 i ((nI t).toNatClampNeg) (.int (q_i (S 16 i (((nI t) + 1).toNatClampNeg))))) 17 i ((nI t).toNatClampNeg) (.int (q_i (S 17 i (((nI t) + 1).toNatClampNeg))))) i a (t + 1) := by rw [x_ke_drop_L0, if_neg c_1]
      rw [hf]
      have hI_904 : xI (q_st (q_st S 16 i ((nI t).toNatClampNeg) (.int (q_i (S 16 i (((nI t) + 1).toNatClampNeg))))) 17 i ((nI t).toNatClampNeg) (.int (q_i (S 17 i (((nI t) + 1).toNatClampNeg))))) := (q_Is (q_Is hI rfl) rfl)
      exact ih (q_st (q_st S 16 i ((nI t).toNatClampNeg) (.int (q_i (S 16 i (((nI t) + 1).toNatClampNeg))))) 17 i ((nI t).toNatClampNeg) (.int (q_i (S 17 i (((nI t) + 1).toNatClampNeg))))) (t + 1) (by have b1 : 0 ≤ (q_i (S 15 i 2)).toInt ∧ (q_i (S 15 i 2)).toInt ≤ 4 := hI 15 i 2; have n_t := nI_toInt (n := t) (by omega); have m_t := q_nT (n := t) (by omega); simp only [Int32.lt_iff_toInt_lt, Int32.le_iff_toInt_le, q_n0, q_n1, q_n2, q_n3, q_n4, q_n5, q_n6, q_n7, q_n10, q_n14, q_n15, q_n20, q_n60, q_n1288] at c_1; omega) (by have b1 : 0 ≤ (q_i (S 15 i 2)).toInt ∧ (q_i (S 15 i 2)).toInt ≤ 4 := hI 15 i 2; have n_t := nI_toInt (n := t) (by omega); have m_t := q_nT (n := t) (by omega); simp only [Int32.lt_iff_toInt_lt, Int32.le_iff_toInt_le, q_n0, q_n1, q_n2, q_n3, q_n4, q_n5, q_n6, q_n7, q_n10, q_n14, q_n15, q_n20, q_n60, q_n1288] at c_1; omega) hI_904
def x_ke_drop (S : q_S) (i : Nat) (a : Int32) : q_S :=
  if a < 0 then
    S
  else
    if a < q_i (S 15 i 2) then
      q_st (x_ke_drop_L0 5 S i a a.toNatClampNeg) 15 i 2 (.int ((q_i (S 15 i 2)) - 1))
    else
      S
set_option maxRecDepth 100000 in
set_option maxHeartbeats 4000000 in
theorem xC_ke_drop (l : Launch) (G : q_G) (S : q_S) (i : Nat) (a : Int32) (hi : i < 6) (hI : xI S) : q_Mv xX G l xy_ke_drop (q_ws (q_gw lw_tbl) xy_ke_drop xb_ke_drop 3 none) (q_rm 0) [.ref (q_a xX G 15 i), .int a] S (x_ke_drop S i a) := by
  refine q_met (cc := xb_ke_drop) (maxL := 3) (ret := none) xOk (by decide) rfl (Nat.le_of_ble_eq_true rfl) ?_
  intro p e s m below meth c ls hC hr hlocks hW hS hl
  have hx := hC.1.1
  have hb := hC.1.2.1
  have hl : lv_has ls 3 [(0, .ref (q_a xX G 15 i)), (1, .int a)] := hl
  refine lv_iload_n hx hb xd_ke_drop_0 rfl (lv_at hl 1 rfl) ?_
  refine lv_if_lt (tgt := 12) hx hb xd_ke_drop_1 (by decide) (fun c_1 => ?_) (fun c_1 => ?_)
  · -- taken
    have hf : x_ke_drop S i a = S := by unfold x_ke_drop; rw [if_pos c_1]
    rw [hf]
    exact q_vret hC hr hlocks hW hS rfl xd_ke_drop_12
  · -- not taken
    refine lv_iload_n hx hb xd_ke_drop_4 rfl (lv_at hl 1 rfl) ?_
    refine lv_aload_n hx hb xd_ke_drop_5 rfl (lv_at hl 0 rfl) ?_
    refine xg_ke_18 hC hW i hi (rfl) xd_ke_drop_6 ?_
    refine lv_icmp_lt (tgt := 13) hx hb xd_ke_drop_9 (by decide) (fun c_2 => ?_) (fun c_2 => ?_)
    · -- taken
      refine lv_iload_n hx hb xd_ke_drop_13 rfl (lv_at hl 1 rfl) ?_
      refine lv_istore_n (lv' := [(2, .int a), (0, .ref (q_a xX G 15 i)), (1, .int a)]) hx hb xd_ke_drop_14 rfl hl (by decide) rfl (fun ls hl => ?_)
      have hl2 : lv_has ls 3 [(0, .ref (q_a xX G 15 i)), (1, .int a), (2, .int (nI a.toNatClampNeg))] := by rw [q_nn (by assumption)]; exact lv_sub hl [1, 2, 0] rfl
      refine xL_ke_drop_L0 l G i a hi hC 5 S a.toNatClampNeg _ _ ls (by have k_a := q_cl (a := a) (by assumption); have b1 : 0 ≤ (q_i (S 15 i 2)).toInt ∧ (q_i (S 15 i 2)).toInt ≤ 4 := hI 15 i 2; simp only [Int32.lt_iff_toInt_lt, Int32.le_iff_toInt_le, q_n0, q_n1, q_n2, q_n3, q_n4, q_n5, q_n6, q_n7, q_n10, q_n14, q_n15, q_n20, q_n60, q_n1288] at c_1 c_2; omega) (by have k_a := q_cl (a := a) (by assumption); have b1 : 0 ≤ (q_i (S 15 i 2)).toInt ∧ (q_i (S 15 i 2)).toInt ≤ 4 := hI 15 i 2; simp only [Int32.lt_iff_toInt_lt, Int32.le_iff_toInt_le, q_n0, q_n1, q_n2, q_n3, q_n4, q_n5, q_n6, q_n7, q_n10, q_n14, q_n15, q_n20, q_n60, q_n1288] at c_1 c_2; omega) hI hW hS hl2 (fun H locs ls hW hS hl => ?_)
      refine lv_aload_n hx hb xd_ke_drop_59 rfl (lv_at hl 0 rfl) ?_
      refine lv_dup hx hb xd_ke_drop_60 rfl ?_
      refine xg_ke_18 hC hW i hi (q_kc (xK_ke_drop_L0 5 S i a a.toNatClampNeg _ _ _ (by decide) (by decide)) (rfl)) xd_ke_drop_61 ?_
      refine lv_iconst (v := 1) hx hb xd_ke_drop_64 (by decide) ?_
      refine lv_isub hx hb xd_ke_drop_65 ?_
      refine xg_ke_18p hC hW hS (fun _ h => h) i hi xd_ke_drop_66 (fun H locs hW hS => ?_)
      have hf : x_ke_drop S i a = q_st (x_ke_drop_L0 5 S i a a.toNatClampNeg) 15 i 2 (.int ((q_i (S 15 i 2)) - 1)) := by unfold x_ke_drop; rw [if_neg c_1, if_pos c_2]
      rw [hf]
      exact q_vret hC hr hlocks hW hS rfl xd_ke_drop_69
    · -- not taken
      have hf : x_ke_drop S i a = S := by unfold x_ke_drop; rw [if_neg c_1, if_neg c_2]
      rw [hf]
      exact q_vret hC hr hlocks hW hS rfl xd_ke_drop_12
set_option maxRecDepth 100000 in
set_option maxHeartbeats 4000000 in
theorem xI_ke_drop (S : q_S) (i : Nat) (a : Int32) (hi : i < 6) (hI : xI S) : xI (x_ke_drop S i a) := by
  by_cases c_1 : a < 0
  · -- yes
    have hf : x_ke_drop S i a = S := by unfold x_ke_drop; rw [if_pos c_1]
    rw [hf]
    exact hI
  · -- no
    by_cases c_2 : a < q_i (S 15 i 2)
    · -- yes
      have hf : x_ke_drop S i a = q_st (x_ke_drop_L0 5 S i a a.toNatClampNeg) 15 i 2 (.int ((q_i (S 15 i 2)) - 1)) := by unfold x_ke_drop; rw [if_neg c_1, if_pos c_2]
      rw [hf]
      exact (xI_st (xI_ke_drop_L0 i a hi 5 S a.toNatClampNeg (by have k_a := q_cl (a := a) (by assumption); have b1 : 0 ≤ (q_i (S 15 i 2)).toInt ∧ (q_i (S 15 i 2)).toInt ≤ 4 := hI 15 i 2; simp only [Int32.lt_iff_toInt_lt, Int32.le_iff_toInt_le, q_n0, q_n1, q_n2, q_n3, q_n4, q_n5, q_n6, q_n7, q_n10, q_n14, q_n15, q_n20, q_n60, q_n1288] at c_1 c_2; omega) (by have k_a := q_cl (a := a) (by assumption); have b1 : 0 ≤ (q_i (S 15 i 2)).toInt ∧ (q_i (S 15 i 2)).toInt ≤ 4 := hI 15 i 2; simp only [Int32.lt_iff_toInt_lt, Int32.le_iff_toInt_le, q_n0, q_n1, q_n2, q_n3, q_n4, q_n5, q_n6, q_n7, q_n10, q_n14, q_n15, q_n20, q_n60, q_n1288] at c_1 c_2; omega) hI) (by have k_a := q_cl (a := a) (by assumption); have b1 : 0 ≤ (q_i (S 15 i 2)).toInt ∧ (q_i (S 15 i 2)).toInt ≤ 4 := hI 15 i 2; have d_1 := q_dec (x := (q_i (S 15 i 2))) (by omega); simp only [Int32.lt_iff_toInt_lt, Int32.le_iff_toInt_le, q_n0, q_n1, q_n2, q_n3, q_n4, q_n5, q_n6, q_n7, q_n10, q_n14, q_n15, q_n20, q_n60, q_n1288] at c_1 c_2; show 0 ≤ ((q_i (S 15 i 2)) - 1).toInt ∧ ((q_i (S 15 i 2)) - 1).toInt ≤ 4; rw [q_dec (by omega)]; omega))
    · -- no
      have hf : x_ke_drop S i a = S := by unfold x_ke_drop; rw [if_neg c_1, if_neg c_2]
      rw [hf]
      exact hI
set_option maxRecDepth 100000 in
set_option maxHeartbeats 4000000 in
theorem xK_ke_drop (S : q_S) (i : Nat) (a : Int32) (x y z : Nat) (h15 : x ≠ 15) (h16 : x ≠ 16) (h17 : x ≠ 17) : (x_ke_drop S i a) x y z = S x y z := by
  by_cases c_1 : a < 0
  · -- yes
    have hf : x_ke_drop S i a = S := by unfold x_ke_drop; rw [if_pos c_1]
    rw [hf]
  · -- no
    by_cases c_2 : a < q_i (S 15 i 2)
    · -- yes
      have hf : x_ke_drop S i a = q_st (x_ke_drop_L0 5 S i a a.toNatClampNeg) 15 i 2 (.int ((q_i (S 15 i 2)) - 1)) := by unfold x_ke_drop; rw [if_neg c_1, if_pos c_2]
      rw [hf]
      exact (q_kj h15).trans (((xK_ke_drop_L0 5 S i a a.toNatClampNeg x y z h16 h17)))
    · -- no
      have hf : x_ke_drop S i a = S := by unfold x_ke_drop; rw [if_neg c_1, if_neg c_2]
      rw [hf]
