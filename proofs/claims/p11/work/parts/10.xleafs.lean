/-- the numbers that index arrays lie within -/
def xB (j k : Nat) : Int × Int := match j, k with
  | 3, 1 => (0, 6)
  | 4, _ => (0, 5)
  | 5, 3 => (0, 14)
  | 9, 9 => (0, 2)
  | 9, 12 => (0, 60)
  | 9, 14 => (0, 3)
  | 11, 3 => (0, 20)
  | 11, 4 => (0, 20)
  | 15, 2 => (0, 4)
  | 18, 2 => (0, 6)
  | _, _ => (-2147483648, 2147483647)
def xI (S : q_S) : Prop := ∀ j i k : Nat, (xB j k).1 ≤ (q_i (S j i k)).toInt ∧ (q_i (S j i k)).toInt ≤ (xB j k).2
theorem xI_any (x : Int32) : (-2147483648 : Int) ≤ x.toInt ∧ x.toInt ≤ 2147483647 := ⟨by have := Int32.le_toInt x; omega, by have := Int32.toInt_lt x; omega⟩
theorem xI_st {S : q_S} (h : xI S) {j i k : Nat} {x : Int32} (hx : (xB j k).1 ≤ x.toInt ∧ x.toInt ≤ (xB j k).2) : xI (q_st S j i k (.int x)) := by
  intro a b d
  by_cases q : a = j ∧ b = i ∧ d = k
  · obtain ⟨rfl, rfl, rfl⟩ := q
    rw [q_st_s]
    exact hx
  · rw [q_st_n S _ q]
    exact h a b d
theorem q_Is {S : q_S} (h : xI S) {j i k : Nat} {x : Int32} (hb : xB j k = (-2147483648, 2147483647)) : xI (q_st S j i k (.int x)) := xI_st h (by rw [hb]; exact xI_any x)
theorem q_Il {S : q_S} (h : xI S) {j i k : Nat} {x : Int64} (hb : xB j k = (-2147483648, 2147483647)) : xI (q_st S j i k (.long x)) := by
  intro a b d
  by_cases q : a = j ∧ b = i ∧ d = k
  · obtain ⟨rfl, rfl, rfl⟩ := q
    rw [q_st_s, hb]
    exact xI_any 0
  · rw [q_st_n S _ q]
    exact h a b d
theorem q_nT {n : Nat} (h : n + 1 < 2 ^ 31) : (nI n + 1).toInt = (n : Int) + 1 := by
  rw [nI_1, nI_toInt h]
  omega
theorem q_cl {a : Int32} (h : ¬ a < 0) : (a.toNatClampNeg : Int) = a.toInt := by
  rw [Int32.lt_iff_toInt_lt] at h
  have h : ¬ a.toInt < 0 := h
  show ((a.toInt.toNat : Nat) : Int) = a.toInt
  omega
theorem q_nn {a : Int32} (h : ¬ a < 0) : nI a.toNatClampNeg = a := by
  have h1 := q_cl h
  have h2 := Int32.toInt_lt a
  refine Int32.toInt_inj.mp ?_
  rw [nI_toInt (by omega)]
  exact h1
theorem q_inc {x : Int32} (h : x.toInt < 2147483647) : (x + 1).toInt = x.toInt + 1 := by
  rw [Int32.toInt_add]
  have h0 := Int32.le_toInt x
  show (x.toInt + 1).bmod _ = _
  rw [Int.bmod_eq_of_le (by omega) (by omega)]
theorem q_dec {x : Int32} (h : -2147483648 < x.toInt) : (x - 1).toInt = x.toInt - 1 := by
  rw [Int32.toInt_sub]
  have h0 := Int32.toInt_lt x
  show (x.toInt - 1).bmod _ = _
  rw [Int.bmod_eq_of_le (by omega) (by omega)]
theorem q_n0 : (0 : Int32).toInt = 0 := rfl
theorem q_n1 : (1 : Int32).toInt = 1 := rfl
theorem q_n2 : (2 : Int32).toInt = 2 := rfl
theorem q_n3 : (3 : Int32).toInt = 3 := rfl
theorem q_n4 : (4 : Int32).toInt = 4 := rfl
theorem q_n5 : (5 : Int32).toInt = 5 := rfl
theorem q_n6 : (6 : Int32).toInt = 6 := rfl
theorem q_n7 : (7 : Int32).toInt = 7 := rfl
theorem q_n10 : (10 : Int32).toInt = 10 := rfl
theorem q_n14 : (14 : Int32).toInt = 14 := rfl
theorem q_n15 : (15 : Int32).toInt = 15 := rfl
theorem q_n20 : (20 : Int32).toInt = 20 := rfl
theorem q_n60 : (60 : Int32).toInt = 60 := rfl
theorem q_n1288 : (1288 : Int32).toInt = 1288 := rfl
def x_hi_isLeft (S : q_S) (i : Nat) : Int32 :=
  if q_i (S 11 i 3) ≤ q_i (S 11 i 4) then
    0
  else
    1
set_option maxRecDepth 100000 in
set_option maxHeartbeats 4000000 in
theorem xC_hi_isLeft (l : Launch) (G : q_G) (S : q_S) (i : Nat) (hi : i < 6) : q_Mi xX G l xy_hi_isLeft (q_ws (q_gw lw_tbl) xy_hi_isLeft xb_hi_isLeft 1 (some .boolean)) (q_rm 0) [.ref (q_a xX G 11 i)] S (x_hi_isLeft S i) S := by
  refine q_met (cc := xb_hi_isLeft) (maxL := 1) (ret := (some .boolean)) xOk (by decide) rfl (Nat.le_of_ble_eq_true rfl) ?_
  intro p e s m below meth c ls hC hr hlocks hW hS hl
  have hx := hC.1.1
  have hb := hC.1.2.1
  have hl : lv_has ls 1 [(0, .ref (q_a xX G 11 i))] := hl
  refine lv_aload_n hx hb xd_hi_isLeft_0 rfl (lv_at hl 0 rfl) ?_
  refine xg_hi_21 hC hW i hi (rfl) xd_hi_isLeft_1 ?_
  refine lv_aload_n hx hb xd_hi_isLeft_4 rfl (lv_at hl 0 rfl) ?_
  refine xg_hi_25 hC hW i hi (rfl) xd_hi_isLeft_5 ?_
  refine lv_icmp_ge (tgt := 15) hx hb xd_hi_isLeft_8 (by decide) (fun c_1 => ?_) (fun c_1 => ?_)
  · -- taken
    refine lv_iconst (v := 0) hx hb xd_hi_isLeft_15 (by decide) ?_
    have hf : x_hi_isLeft S i = 0 := by unfold x_hi_isLeft; rw [if_pos c_1]
    rw [hf]
    exact q_zret hC hr hlocks hW hS (by decide) rfl rfl xd_hi_isLeft_16
  · -- not taken
    refine lv_iconst (v := 1) hx hb xd_hi_isLeft_11 (by decide) ?_
    refine lv_goto (tgt := 16) hx hb xd_hi_isLeft_12 (by decide) ?_
    have hf : x_hi_isLeft S i = 1 := by unfold x_hi_isLeft; rw [if_neg c_1]
    rw [hf]
    exact q_zret hC hr hlocks hW hS (by decide) rfl rfl xd_hi_isLeft_16
def x_ke_isFull (S : q_S) (i : Nat) : Int32 :=
  if q_i (S 15 i 2) < 4 then
    0
  else
    1
set_option maxRecDepth 100000 in
set_option maxHeartbeats 4000000 in
theorem xC_ke_isFull (l : Launch) (G : q_G) (S : q_S) (i : Nat) (hi : i < 6) : q_Mi xX G l xy_ke_isFull (q_ws (q_gw lw_tbl) xy_ke_isFull xb_ke_isFull 1 (some .boolean)) (q_rm 0) [.ref (q_a xX G 15 i)] S (x_ke_isFull S i) S := by
  refine q_met (cc := xb_ke_isFull) (maxL := 1) (ret := (some .boolean)) xOk (by decide) rfl (Nat.le_of_ble_eq_true rfl) ?_
  intro p e s m below meth c ls hC hr hlocks hW hS hl
  have hx := hC.1.1
  have hb := hC.1.2.1
  have hl : lv_has ls 1 [(0, .ref (q_a xX G 15 i))] := hl
  refine lv_aload_n hx hb xd_ke_isFull_0 rfl (lv_at hl 0 rfl) ?_
  refine xg_ke_18 hC hW i hi (rfl) xd_ke_isFull_1 ?_
  refine lv_iconst (v := 4) hx hb xd_ke_isFull_4 (by decide) ?_
  refine lv_icmp_lt (tgt := 12) hx hb xd_ke_isFull_5 (by decide) (fun c_1 => ?_) (fun c_1 => ?_)
  · -- taken
    refine lv_iconst (v := 0) hx hb xd_ke_isFull_12 (by decide) ?_
    have hf : x_ke_isFull S i = 0 := by unfold x_ke_isFull; rw [if_pos c_1]
    rw [hf]
    exact q_zret hC hr hlocks hW hS (by decide) rfl rfl xd_ke_isFull_13
  · -- not taken
    refine lv_iconst (v := 1) hx hb xd_ke_isFull_8 (by decide) ?_
    refine lv_goto (tgt := 13) hx hb xd_ke_isFull_9 (by decide) ?_
    have hf : x_ke_isFull S i = 1 := by unfold x_ke_isFull; rw [if_neg c_1]
    rw [hf]
    exact q_zret hC hr hlocks hW hS (by decide) rfl rfl xd_ke_isFull_13
theorem xF_ke_isFull {S : q_S} {i : Nat} (h : x_ke_isFull S i = 0) : q_i (S 15 i 2) < 4 := by
  unfold x_ke_isFull at h
  split at h
  · assumption
  · exact absurd h (by decide)
def x_pr_has (S : q_S) (i : Nat) (a : Int32) : Int32 :=
  if a < 0 then
    0
  else
    if q_i (S 5 i 3) ≤ a then
      0
    else
      1
set_option maxRecDepth 100000 in
set_option maxHeartbeats 4000000 in
theorem xC_pr_has (l : Launch) (G : q_G) (S : q_S) (i : Nat) (a : Int32) (hi : i < 3) : q_Mi xX G l xy_pr_has (q_ws (q_gw lw_tbl) xy_pr_has xb_pr_has 2 (some .boolean)) (q_rm 0) [.ref (q_a xX G 5 i), .int a] S (x_pr_has S i a) S := by
  refine q_met (cc := xb_pr_has) (maxL := 2) (ret := (some .boolean)) xOk (by decide) rfl (Nat.le_of_ble_eq_true rfl) ?_
  intro p e s m below meth c ls hC hr hlocks hW hS hl
  have hx := hC.1.1
  have hb := hC.1.2.1
  have hl : lv_has ls 2 [(0, .ref (q_a xX G 5 i)), (1, .int a)] := hl
  refine lv_iload_n hx hb xd_pr_has_0 rfl (lv_at hl 1 rfl) ?_
  refine lv_if_lt (tgt := 16) hx hb xd_pr_has_1 (by decide) (fun c_1 => ?_) (fun c_1 => ?_)
  · -- taken
    refine lv_iconst (v := 0) hx hb xd_pr_has_16 (by decide) ?_
    have hf : x_pr_has S i a = 0 := by unfold x_pr_has; rw [if_pos c_1]
    rw [hf]
    exact q_zret hC hr hlocks hW hS (by decide) rfl rfl xd_pr_has_17
  · -- not taken
    refine lv_iload_n hx hb xd_pr_has_4 rfl (lv_at hl 1 rfl) ?_
    refine lv_aload_n hx hb xd_pr_has_5 rfl (lv_at hl 0 rfl) ?_
    refine xg_pr_21 hC hW i hi (rfl) xd_pr_has_6 ?_
    refine lv_icmp_ge (tgt := 16) hx hb xd_pr_has_9 (by decide) (fun c_2 => ?_) (fun c_2 => ?_)
    · -- taken
      refine lv_iconst (v := 0) hx hb xd_pr_has_16 (by decide) ?_
      have hf : x_pr_has S i a = 0 := by unfold x_pr_has; rw [if_neg c_1, if_pos c_2]
      rw [hf]
      exact q_zret hC hr hlocks hW hS (by decide) rfl rfl xd_pr_has_17
    · -- not taken
      refine lv_iconst (v := 1) hx hb xd_pr_has_12 (by decide) ?_
      refine lv_goto (tgt := 17) hx hb xd_pr_has_13 (by decide) ?_
      have hf : x_pr_has S i a = 1 := by unfold x_pr_has; rw [if_neg c_1, if_neg c_2]
      rw [hf]
      exact q_zret hC hr hlocks hW hS (by decide) rfl rfl xd_pr_has_17
theorem xF_pr_has {S : q_S} {i : Nat} {a : Int32} (h : ¬ x_pr_has S i a = 0) : ¬ a < 0 ∧ ¬ q_i (S 5 i 3) ≤ a := by
  unfold x_pr_has at h
  split at h
  · exact absurd rfl h
  · split at h
    · exact absurd rfl h
    · exact ⟨by assumption, by assumption⟩
def x_ta_isOverdue (S : q_S) (i : Nat) (a : Int32) : Int32 :=
  if q_i (S 21 i 2) = 0 then
    0
  else
    if a - (q_i (S 21 i 3)) < 5 then
      0
    else
      1
set_option maxRecDepth 100000 in
set_option maxHeartbeats 4000000 in
theorem xC_ta_isOverdue (l : Launch) (G : q_G) (S : q_S) (i : Nat) (a : Int32) (hi : i < 6) : q_Mi xX G l xy_ta_isOverdue (q_ws (q_gw lw_tbl) xy_ta_isOverdue xb_ta_isOverdue 2 (some .boolean)) (q_rm 0) [.ref (q_a xX G 21 i), .int a] S (x_ta_isOverdue S i a) S := by
  refine q_met (cc := xb_ta_isOverdue) (maxL := 2) (ret := (some .boolean)) xOk (by decide) rfl (Nat.le_of_ble_eq_true rfl) ?_
  intro p e s m below meth c ls hC hr hlocks hW hS hl
  have hx := hC.1.1
  have hb := hC.1.2.1
  have hl : lv_has ls 2 [(0, .ref (q_a xX G 21 i)), (1, .int a)] := hl
  refine lv_aload_n hx hb xd_ta_isOverdue_0 rfl (lv_at hl 0 rfl) ?_
  refine xg_ta_18 hC hW i hi (rfl) xd_ta_isOverdue_1 ?_
  refine lv_if_eq (tgt := 21) hx hb xd_ta_isOverdue_4 (by decide) (fun c_1 => ?_) (fun c_1 => ?_)
  · -- taken
    refine lv_iconst (v := 0) hx hb xd_ta_isOverdue_21 (by decide) ?_
    have hf : x_ta_isOverdue S i a = 0 := by unfold x_ta_isOverdue; rw [if_pos c_1]
    rw [hf]
    exact q_zret hC hr hlocks hW hS (by decide) rfl rfl xd_ta_isOverdue_22
  · -- not taken
    refine lv_iload_n hx hb xd_ta_isOverdue_7 rfl (lv_at hl 1 rfl) ?_
    refine lv_aload_n hx hb xd_ta_isOverdue_8 rfl (lv_at hl 0 rfl) ?_
    refine xg_ta_22 hC hW i hi (rfl) xd_ta_isOverdue_9 ?_
    refine lv_isub hx hb xd_ta_isOverdue_12 ?_
    refine lv_iconst (v := 5) hx hb xd_ta_isOverdue_13 (by decide) ?_
    refine lv_icmp_lt (tgt := 21) hx hb xd_ta_isOverdue_14 (by decide) (fun c_2 => ?_) (fun c_2 => ?_)
    · -- taken
      refine lv_iconst (v := 0) hx hb xd_ta_isOverdue_21 (by decide) ?_
      have hf : x_ta_isOverdue S i a = 0 := by unfold x_ta_isOverdue; rw [if_neg c_1, if_pos c_2]
      rw [hf]
      exact q_zret hC hr hlocks hW hS (by decide) rfl rfl xd_ta_isOverdue_22
    · -- not taken
      refine lv_iconst (v := 1) hx hb xd_ta_isOverdue_17 (by decide) ?_
      refine lv_goto (tgt := 22) hx hb xd_ta_isOverdue_18 (by decide) ?_
      have hf : x_ta_isOverdue S i a = 1 := by unfold x_ta_isOverdue; rw [if_neg c_1, if_neg c_2]
      rw [hf]
      exact q_zret hC hr hlocks hW hS (by decide) rfl rfl xd_ta_isOverdue_22
def x_wf_hasEnded (S : q_S) (i : Nat) : Int32 :=
  if q_i (S 9 i 10) < 5 then
    0
  else
    1
set_option maxRecDepth 100000 in
set_option maxHeartbeats 4000000 in
theorem xC_wf_hasEnded (l : Launch) (G : q_G) (S : q_S) (i : Nat) (hi : i < 6) : q_Mi xX G l xy_wf_hasEnded (q_ws (q_gw lw_tbl) xy_wf_hasEnded xb_wf_hasEnded 1 (some .boolean)) (q_rm 0) [.ref (q_a xX G 9 i)] S (x_wf_hasEnded S i) S := by
  refine q_met (cc := xb_wf_hasEnded) (maxL := 1) (ret := (some .boolean)) xOk (by decide) rfl (Nat.le_of_ble_eq_true rfl) ?_
  intro p e s m below meth c ls hC hr hlocks hW hS hl
  have hx := hC.1.1
  have hb := hC.1.2.1
  have hl : lv_has ls 1 [(0, .ref (q_a xX G 9 i))] := hl
  refine lv_aload_n hx hb xd_wf_hasEnded_0 rfl (lv_at hl 0 rfl) ?_
  refine xg_wf_74 hC hW i hi (rfl) xd_wf_hasEnded_1 ?_
  refine lv_iconst (v := 5) hx hb xd_wf_hasEnded_4 (by decide) ?_
  refine lv_icmp_lt (tgt := 12) hx hb xd_wf_hasEnded_5 (by decide) (fun c_1 => ?_) (fun c_1 => ?_)
  · -- taken
    refine lv_iconst (v := 0) hx hb xd_wf_hasEnded_12 (by decide) ?_
    have hf : x_wf_hasEnded S i = 0 := by unfold x_wf_hasEnded; rw [if_pos c_1]
    rw [hf]
    exact q_zret hC hr hlocks hW hS (by decide) rfl rfl xd_wf_hasEnded_13
  · -- not taken
    refine lv_iconst (v := 1) hx hb xd_wf_hasEnded_8 (by decide) ?_
    refine lv_goto (tgt := 13) hx hb xd_wf_hasEnded_9 (by decide) ?_
    have hf : x_wf_hasEnded S i = 1 := by unfold x_wf_hasEnded; rw [if_neg c_1]
    rw [hf]
    exact q_zret hC hr hlocks hW hS (by decide) rfl rfl xd_wf_hasEnded_13
def x_wf_isInMind (S : q_S) (i : Nat) : Int32 :=
  if q_i (S 9 i 7) = 0 then
    if x_wf_hasEnded S i = 0 then
      1
    else
      0
  else
    0
set_option maxRecDepth 100000 in
set_option maxHeartbeats 4000000 in
theorem xC_wf_isInMind (l : Launch) (G : q_G) (S : q_S) (i : Nat) (hi : i < 6) : q_Mi xX G l xy_wf_isInMind (q_ws (q_gw lw_tbl) xy_wf_isInMind xb_wf_isInMind 1 (some .boolean)) (q_rm 1) [.ref (q_a xX G 9 i)] S (x_wf_isInMind S i) S := by
  refine q_met (cc := xb_wf_isInMind) (maxL := 1) (ret := (some .boolean)) xOk (by decide) rfl (Nat.le_of_ble_eq_true rfl) ?_
  intro p e s m below meth c ls hC hr hlocks hW hS hl
  have hx := hC.1.1
  have hb := hC.1.2.1
  have hl : lv_has ls 1 [(0, .ref (q_a xX G 9 i))] := hl
  refine lv_aload_n hx hb xd_wf_isInMind_0 rfl (lv_at hl 0 rfl) ?_
  refine xg_wf_68 hC hW i hi (rfl) xd_wf_isInMind_1 ?_
  refine lv_if_ne (tgt := 18) hx hb xd_wf_isInMind_4 (by decide) (fun c_1 => ?_) (fun c_1 => ?_)
  · -- taken
    refine lv_iconst (v := 0) hx hb xd_wf_isInMind_18 (by decide) ?_
    have hf : x_wf_isInMind S i = 0 := by unfold x_wf_isInMind; rw [if_neg c_1]
    rw [hf]
    exact q_zret hC hr hlocks hW hS (by decide) rfl rfl xd_wf_isInMind_19
  · -- not taken
    refine lv_aload_n hx hb xd_wf_isInMind_7 rfl (lv_at hl 0 rfl) ?_
    refine q_calli hC hS (fun _ h => h) (q_runV (rest := []) hC hW (xC_wf_hasEnded l G S i hi) (xc_wf_87 (q_rm 0) hC.1.2.2.2.2 ⟨Nat.le_of_ble_eq_true rfl, Nat.le_of_ble_eq_true rfl⟩ rfl rfl) hi rfl rfl rfl hl.1 rfl (Nat.le_of_ble_eq_true rfl) xd_wf_isInMind_8 ⟨Nat.zero_le _, Nat.zero_le _⟩) (fun H locs hW hS => ?_)
    refine lv_if_ne (tgt := 18) hx hb xd_wf_isInMind_11 (by decide) (fun c_2 => ?_) (fun c_2 => ?_)
    · -- taken
      refine lv_iconst (v := 0) hx hb xd_wf_isInMind_18 (by decide) ?_
      have hf : x_wf_isInMind S i = 0 := by unfold x_wf_isInMind; rw [if_pos c_1, if_neg c_2]
      rw [hf]
      exact q_zret hC hr hlocks hW hS (by decide) rfl rfl xd_wf_isInMind_19
    · -- not taken
      refine lv_iconst (v := 1) hx hb xd_wf_isInMind_14 (by decide) ?_
      refine lv_goto (tgt := 19) hx hb xd_wf_isInMind_15 (by decide) ?_
      have hf : x_wf_isInMind S i = 1 := by unfold x_wf_isInMind; rw [if_pos c_1, if_pos c_2]
      rw [hf]
      exact q_zret hC hr hlocks hW hS (by decide) rfl rfl xd_wf_isInMind_19
def x_wf_hasSlept (S : q_S) (i : Nat) (a : Int32) : Int32 :=
  if q_i (S 9 i 6) = 0 then
    0
  else
    if q_i (S 9 i 10) = 2 then
      if 0 < lg_cmp (q_l (S 9 i 16)) (Int32.toInt64 a) then
        0
      else
        1
    else
      0
set_option maxRecDepth 100000 in
set_option maxHeartbeats 4000000 in
theorem xC_wf_hasSlept (l : Launch) (G : q_G) (S : q_S) (i : Nat) (a : Int32) (hi : i < 6) : q_Mi xX G l xy_wf_hasSlept (q_ws (q_gw lw_tbl) xy_wf_hasSlept xb_wf_hasSlept 2 (some .boolean)) (q_rm 0) [.ref (q_a xX G 9 i), .int a] S (x_wf_hasSlept S i a) S := by
  refine q_met (cc := xb_wf_hasSlept) (maxL := 2) (ret := (some .boolean)) xOk (by decide) rfl (Nat.le_of_ble_eq_true rfl) ?_
  intro p e s m below meth c ls hC hr hlocks hW hS hl
  have hx := hC.1.1
  have hb := hC.1.2.1
  have hl : lv_has ls 2 [(0, .ref (q_a xX G 9 i)), (1, .int a)] := hl
  refine lv_aload_n hx hb xd_wf_hasSlept_0 rfl (lv_at hl 0 rfl) ?_
  refine xg_wf_47 hC hW i hi (rfl) xd_wf_hasSlept_1 ?_
  refine lv_if_eq (tgt := 29) hx hb xd_wf_hasSlept_4 (by decide) (fun c_1 => ?_) (fun c_1 => ?_)
  · -- taken
    refine lv_iconst (v := 0) hx hb xd_wf_hasSlept_29 (by decide) ?_
    have hf : x_wf_hasSlept S i a = 0 := by unfold x_wf_hasSlept; rw [if_pos c_1]
    rw [hf]
    exact q_zret hC hr hlocks hW hS (by decide) rfl rfl xd_wf_hasSlept_30
  · -- not taken
    refine lv_aload_n hx hb xd_wf_hasSlept_7 rfl (lv_at hl 0 rfl) ?_
    refine xg_wf_74 hC hW i hi (rfl) xd_wf_hasSlept_8 ?_
    refine lv_iconst (v := 2) hx hb xd_wf_hasSlept_11 (by decide) ?_
    refine lv_icmp_ne (tgt := 29) hx hb xd_wf_hasSlept_12 (by decide) (fun c_2 => ?_) (fun c_2 => ?_)
    · -- taken
      refine lv_iconst (v := 0) hx hb xd_wf_hasSlept_29 (by decide) ?_
      have hf : x_wf_hasSlept S i a = 0 := by unfold x_wf_hasSlept; rw [if_neg c_1, if_neg c_2]
      rw [hf]
      exact q_zret hC hr hlocks hW hS (by decide) rfl rfl xd_wf_hasSlept_30
    · -- not taken
      refine lv_aload_n hx hb xd_wf_hasSlept_15 rfl (lv_at hl 0 rfl) ?_
      refine xg_wf_91 hC hW i hi (rfl) xd_wf_hasSlept_16 ?_
      refine lv_iload_n hx hb xd_wf_hasSlept_19 rfl (lv_at hl 1 rfl) ?_
      refine lv_i2l (v := Int32.toInt64 a) hx hb xd_wf_hasSlept_20 rfl ?_
      refine W.lcmp hx hb xd_wf_hasSlept_21 ?_
      refine lv_if_gt (tgt := 29) hx hb xd_wf_hasSlept_22 (by decide) (fun c_3 => ?_) (fun c_3 => ?_)
      · -- taken
        refine lv_iconst (v := 0) hx hb xd_wf_hasSlept_29 (by decide) ?_
        have hf : x_wf_hasSlept S i a = 0 := by unfold x_wf_hasSlept; rw [if_neg c_1, if_pos c_2, if_pos c_3]
        rw [hf]
        exact q_zret hC hr hlocks hW hS (by decide) rfl rfl xd_wf_hasSlept_30
      · -- not taken
        refine lv_iconst (v := 1) hx hb xd_wf_hasSlept_25 (by decide) ?_
        refine lv_goto (tgt := 30) hx hb xd_wf_hasSlept_26 (by decide) ?_
        have hf : x_wf_hasSlept S i a = 1 := by unfold x_wf_hasSlept; rw [if_neg c_1, if_pos c_2, if_neg c_3]
        rw [hf]
        exact q_zret hC hr hlocks hW hS (by decide) rfl rfl xd_wf_hasSlept_30
def x_wf_waitsFor (S : q_S) (i : Nat) (a b : Int32) : Int32 :=
  if q_i (S 9 i 10) = 1 then
    if a = 3 then
      if b = q_i (S 9 i 13) then
        1
      else
        0
    else
      if a = 4 then
        if b = q_i (S 9 i 13) then
          1
        else
          0
      else
        0
  else
    if q_i (S 9 i 10) = 2 then
      if a = 6 then
        1
      else
        0
    else
      if q_i (S 9 i 10) = 3 then
        if a = 7 then
          if b = q_i (S 9 i 13) then
            1
          else
            0
        else
          0
      else
        if q_i (S 9 i 10) = 4 then
          if a = 3 then
            if b = q_i (S 9 i 13) then
              1
            else
              0
          else
            if a = 4 then
              if b = q_i (S 9 i 13) then
                1
              else
                0
            else
              0
        else
          0
set_option maxRecDepth 100000 in
set_option maxHeartbeats 4000000 in
theorem xC_wf_waitsFor (l : Launch) (G : q_G) (S : q_S) (i : Nat) (a b : Int32) (hi : i < 6) : q_Mi xX G l xy_wf_waitsFor (q_ws (q_gw lw_tbl) xy_wf_waitsFor xb_wf_waitsFor 3 (some .boolean)) (q_rm 0) [.ref (q_a xX G 9 i), .int a, .int b] S (x_wf_waitsFor S i a b) S := by
  refine q_met (cc := xb_wf_waitsFor) (maxL := 3) (ret := (some .boolean)) xOk (by decide) rfl (Nat.le_of_ble_eq_true rfl) ?_
  intro p e s m below meth c ls hC hr hlocks hW hS hl
  have hx := hC.1.1
  have hb := hC.1.2.1
  have hl : lv_has ls 3 [(0, .ref (q_a xX G 9 i)), (1, .int a), (2, .int b)] := hl
  refine lv_aload_n hx hb xd_wf_waitsFor_0 rfl (lv_at hl 0 rfl) ?_
  refine xg_wf_74 hC hW i hi (rfl) xd_wf_waitsFor_1 ?_
  by_cases c_1 : q_i (S 9 i 10) = 1
  · -- case 1
    refine lv_tableIn (off := 32) (tgt := 36) hx hb xd_wf_waitsFor_4 (by rw [c_1]; decide) (by rw [c_1]; decide) (by rw [c_1]; decide) (by decide) ?_
    refine lv_iload_n hx hb xd_wf_waitsFor_36 rfl (lv_at hl 1 rfl) ?_
    refine lv_iconst (v := 3) hx hb xd_wf_waitsFor_37 (by decide) ?_
    refine lv_icmp_eq (tgt := 46) hx hb xd_wf_waitsFor_38 (by decide) (fun c_2 => ?_) (fun c_2 => ?_)
    · -- taken
      refine lv_iload_n hx hb xd_wf_waitsFor_46 rfl (lv_at hl 2 rfl) ?_
      refine lv_aload_n hx hb xd_wf_waitsFor_47 rfl (lv_at hl 0 rfl) ?_
      refine xg_wf_95 hC hW i hi (rfl) xd_wf_waitsFor_48 ?_
      refine lv_icmp_ne (tgt := 58) hx hb xd_wf_waitsFor_51 (by decide) (fun c_3 => ?_) (fun c_3 => ?_)
      · -- taken
        refine lv_iconst (v := 0) hx hb xd_wf_waitsFor_58 (by decide) ?_
        have hf : x_wf_waitsFor S i a b = 0 := by unfold x_wf_waitsFor; rw [if_pos c_1, if_pos c_2, if_neg c_3]
        rw [hf]
        exact q_zret hC hr hlocks hW hS (by decide) rfl rfl xd_wf_waitsFor_59
      · -- not taken
        refine lv_iconst (v := 1) hx hb xd_wf_waitsFor_54 (by decide) ?_
        refine lv_goto (tgt := 59) hx hb xd_wf_waitsFor_55 (by decide) ?_
        have hf : x_wf_waitsFor S i a b = 1 := by unfold x_wf_waitsFor; rw [if_pos c_1, if_pos c_2, if_pos c_3]
        rw [hf]
        exact q_zret hC hr hlocks hW hS (by decide) rfl rfl xd_wf_waitsFor_59
    · -- not taken
      refine lv_iload_n hx hb xd_wf_waitsFor_41 rfl (lv_at hl 1 rfl) ?_
      refine lv_iconst (v := 4) hx hb xd_wf_waitsFor_42 (by decide) ?_
      refine lv_icmp_ne (tgt := 58) hx hb xd_wf_waitsFor_43 (by decide) (fun c_4 => ?_) (fun c_4 => ?_)
      · -- taken
        refine lv_iconst (v := 0) hx hb xd_wf_waitsFor_58 (by decide) ?_
        have hf : x_wf_waitsFor S i a b = 0 := by unfold x_wf_waitsFor; rw [if_pos c_1, if_neg c_2, if_neg c_4]
        rw [hf]
        exact q_zret hC hr hlocks hW hS (by decide) rfl rfl xd_wf_waitsFor_59
      · -- not taken
        refine lv_iload_n hx hb xd_wf_waitsFor_46 rfl (lv_at hl 2 rfl) ?_
        refine lv_aload_n hx hb xd_wf_waitsFor_47 rfl (lv_at hl 0 rfl) ?_
        refine xg_wf_95 hC hW i hi (rfl) xd_wf_waitsFor_48 ?_
        refine lv_icmp_ne (tgt := 58) hx hb xd_wf_waitsFor_51 (by decide) (fun c_5 => ?_) (fun c_5 => ?_)
        · -- taken
          refine lv_iconst (v := 0) hx hb xd_wf_waitsFor_58 (by decide) ?_
          have hf : x_wf_waitsFor S i a b = 0 := by unfold x_wf_waitsFor; rw [if_pos c_1, if_neg c_2, if_pos c_4, if_neg c_5]
          rw [hf]
          exact q_zret hC hr hlocks hW hS (by decide) rfl rfl xd_wf_waitsFor_59
        · -- not taken
          refine lv_iconst (v := 1) hx hb xd_wf_waitsFor_54 (by decide) ?_
          refine lv_goto (tgt := 59) hx hb xd_wf_waitsFor_55 (by decide) ?_
          have hf : x_wf_waitsFor S i a b = 1 := by unfold x_wf_waitsFor; rw [if_pos c_1, if_neg c_2, if_pos c_4, if_pos c_5]
          rw [hf]
          exact q_zret hC hr hlocks hW hS (by decide) rfl rfl xd_wf_waitsFor_59
  · -- others
    by_cases c_6 : q_i (S 9 i 10) = 2
    · -- case 2
      refine lv_tableIn (off := 56) (tgt := 60) hx hb xd_wf_waitsFor_4 (by rw [c_6]; decide) (by rw [c_6]; decide) (by rw [c_6]; decide) (by decide) ?_
      refine lv_iload_n hx hb xd_wf_waitsFor_60 rfl (lv_at hl 1 rfl) ?_
      refine lv_bipush (v := 6) hx hb xd_wf_waitsFor_61 (by decide) ?_
      refine lv_icmp_ne (tgt := 70) hx hb xd_wf_waitsFor_63 (by decide) (fun c_7 => ?_) (fun c_7 => ?_)
      · -- taken
        refine lv_iconst (v := 0) hx hb xd_wf_waitsFor_70 (by decide) ?_
        have hf : x_wf_waitsFor S i a b = 0 := by unfold x_wf_waitsFor; rw [if_neg c_1, if_pos c_6, if_neg c_7]
        rw [hf]
        exact q_zret hC hr hlocks hW hS (by decide) rfl rfl xd_wf_waitsFor_71
      · -- not taken
        refine lv_iconst (v := 1) hx hb xd_wf_waitsFor_66 (by decide) ?_
        refine lv_goto (tgt := 71) hx hb xd_wf_waitsFor_67 (by decide) ?_
        have hf : x_wf_waitsFor S i a b = 1 := by unfold x_wf_waitsFor; rw [if_neg c_1, if_pos c_6, if_pos c_7]
        rw [hf]
        exact q_zret hC hr hlocks hW hS (by decide) rfl rfl xd_wf_waitsFor_71
    · -- others
      by_cases c_8 : q_i (S 9 i 10) = 3
      · -- case 3
        refine lv_tableIn (off := 68) (tgt := 72) hx hb xd_wf_waitsFor_4 (by rw [c_8]; decide) (by rw [c_8]; decide) (by rw [c_8]; decide) (by decide) ?_
        refine lv_iload_n hx hb xd_wf_waitsFor_72 rfl (lv_at hl 1 rfl) ?_
        refine lv_bipush (v := 7) hx hb xd_wf_waitsFor_73 (by decide) ?_
        refine lv_icmp_ne (tgt := 90) hx hb xd_wf_waitsFor_75 (by decide) (fun c_9 => ?_) (fun c_9 => ?_)
        · -- taken
          refine lv_iconst (v := 0) hx hb xd_wf_waitsFor_90 (by decide) ?_
          have hf : x_wf_waitsFor S i a b = 0 := by unfold x_wf_waitsFor; rw [if_neg c_1, if_neg c_6, if_pos c_8, if_neg c_9]
          rw [hf]
          exact q_zret hC hr hlocks hW hS (by decide) rfl rfl xd_wf_waitsFor_91
        · -- not taken
          refine lv_iload_n hx hb xd_wf_waitsFor_78 rfl (lv_at hl 2 rfl) ?_
          refine lv_aload_n hx hb xd_wf_waitsFor_79 rfl (lv_at hl 0 rfl) ?_
          refine xg_wf_95 hC hW i hi (rfl) xd_wf_waitsFor_80 ?_
          refine lv_icmp_ne (tgt := 90) hx hb xd_wf_waitsFor_83 (by decide) (fun c_10 => ?_) (fun c_10 => ?_)
          · -- taken
            refine lv_iconst (v := 0) hx hb xd_wf_waitsFor_90 (by decide) ?_
            have hf : x_wf_waitsFor S i a b = 0 := by unfold x_wf_waitsFor; rw [if_neg c_1, if_neg c_6, if_pos c_8, if_pos c_9, if_neg c_10]
            rw [hf]
            exact q_zret hC hr hlocks hW hS (by decide) rfl rfl xd_wf_waitsFor_91
          · -- not taken
            refine lv_iconst (v := 1) hx hb xd_wf_waitsFor_86 (by decide) ?_
            refine lv_goto (tgt := 91) hx hb xd_wf_waitsFor_87 (by decide) ?_
            have hf : x_wf_waitsFor S i a b = 1 := by unfold x_wf_waitsFor; rw [if_neg c_1, if_neg c_6, if_pos c_8, if_pos c_9, if_pos c_10]
            rw [hf]
            exact q_zret hC hr hlocks hW hS (by decide) rfl rfl xd_wf_waitsFor_91
      · -- others
        by_cases c_11 : q_i (S 9 i 10) = 4
        · -- case 4
          refine lv_tableIn (off := 32) (tgt := 36) hx hb xd_wf_waitsFor_4 (by rw [c_11]; decide) (by rw [c_11]; decide) (by rw [c_11]; decide) (by decide) ?_
          refine lv_iload_n hx hb xd_wf_waitsFor_36 rfl (lv_at hl 1 rfl) ?_
          refine lv_iconst (v := 3) hx hb xd_wf_waitsFor_37 (by decide) ?_
          refine lv_icmp_eq (tgt := 46) hx hb xd_wf_waitsFor_38 (by decide) (fun c_12 => ?_) (fun c_12 => ?_)
          · -- taken
            refine lv_iload_n hx hb xd_wf_waitsFor_46 rfl (lv_at hl 2 rfl) ?_
            refine lv_aload_n hx hb xd_wf_waitsFor_47 rfl (lv_at hl 0 rfl) ?_
            refine xg_wf_95 hC hW i hi (rfl) xd_wf_waitsFor_48 ?_
            refine lv_icmp_ne (tgt := 58) hx hb xd_wf_waitsFor_51 (by decide) (fun c_13 => ?_) (fun c_13 => ?_)
            · -- taken
              refine lv_iconst (v := 0) hx hb xd_wf_waitsFor_58 (by decide) ?_
              have hf : x_wf_waitsFor S i a b = 0 := by unfold x_wf_waitsFor; rw [if_neg c_1, if_neg c_6, if_neg c_8, if_pos c_11, if_pos c_12, if_neg c_13]
              rw [hf]
              exact q_zret hC hr hlocks hW hS (by decide) rfl rfl xd_wf_waitsFor_59
            · -- not taken
              refine lv_iconst (v := 1) hx hb xd_wf_waitsFor_54 (by decide) ?_
              refine lv_goto (tgt := 59) hx hb xd_wf_waitsFor_55 (by decide) ?_
              have hf : x_wf_waitsFor S i a b = 1 := by unfold x_wf_waitsFor; rw [if_neg c_1, if_neg c_6, if_neg c_8, if_pos c_11, if_pos c_12, if_pos c_13]
              rw [hf]
              exact q_zret hC hr hlocks hW hS (by decide) rfl rfl xd_wf_waitsFor_59
          · -- not taken
            refine lv_iload_n hx hb xd_wf_waitsFor_41 rfl (lv_at hl 1 rfl) ?_
            refine lv_iconst (v := 4) hx hb xd_wf_waitsFor_42 (by decide) ?_
            refine lv_icmp_ne (tgt := 58) hx hb xd_wf_waitsFor_43 (by decide) (fun c_14 => ?_) (fun c_14 => ?_)
            · -- taken
              refine lv_iconst (v := 0) hx hb xd_wf_waitsFor_58 (by decide) ?_
              have hf : x_wf_waitsFor S i a b = 0 := by unfold x_wf_waitsFor; rw [if_neg c_1, if_neg c_6, if_neg c_8, if_pos c_11, if_neg c_12, if_neg c_14]
              rw [hf]
              exact q_zret hC hr hlocks hW hS (by decide) rfl rfl xd_wf_waitsFor_59
            · -- not taken
              refine lv_iload_n hx hb xd_wf_waitsFor_46 rfl (lv_at hl 2 rfl) ?_
              refine lv_aload_n hx hb xd_wf_waitsFor_47 rfl (lv_at hl 0 rfl) ?_
              refine xg_wf_95 hC hW i hi (rfl) xd_wf_waitsFor_48 ?_
              refine lv_icmp_ne (tgt := 58) hx hb xd_wf_waitsFor_51 (by decide) (fun c_15 => ?_) (fun c_15 => ?_)
              · -- taken
                refine lv_iconst (v := 0) hx hb xd_wf_waitsFor_58 (by decide) ?_
                have hf : x_wf_waitsFor S i a b = 0 := by unfold x_wf_waitsFor; rw [if_neg c_1, if_neg c_6, if_neg c_8, if_pos c_11, if_neg c_12, if_pos c_14, if_neg c_15]
                rw [hf]
                exact q_zret hC hr hlocks hW hS (by decide) rfl rfl xd_wf_waitsFor_59
              · -- not taken
                refine lv_iconst (v := 1) hx hb xd_wf_waitsFor_54 (by decide) ?_
                refine lv_goto (tgt := 59) hx hb xd_wf_waitsFor_55 (by decide) ?_
                have hf : x_wf_waitsFor S i a b = 1 := by unfold x_wf_waitsFor; rw [if_neg c_1, if_neg c_6, if_neg c_8, if_pos c_11, if_neg c_12, if_pos c_14, if_pos c_15]
                rw [hf]
                exact q_zret hC hr hlocks hW hS (by decide) rfl rfl xd_wf_waitsFor_59
        · -- others
          refine lv_tableOut (tgt := 92) hx hb xd_wf_waitsFor_4 (by have n0 := lv_neT c_1 (a := 1) (by decide); have n1 := lv_neT c_6 (a := 2) (by decide); have n2 := lv_neT c_8 (a := 3) (by decide); have n3 := lv_neT c_11 (a := 4) (by decide); omega) (by decide) ?_
          refine lv_iconst (v := 0) hx hb xd_wf_waitsFor_92 (by decide) ?_
          have hf : x_wf_waitsFor S i a b = 0 := by unfold x_wf_waitsFor; rw [if_neg c_1, if_neg c_6, if_neg c_8, if_neg c_11]
          rw [hf]
          exact q_zret hC hr hlocks hW hS (by decide) rfl rfl xd_wf_waitsFor_93
def x_hi_pass (S : q_S) (i : Nat) (a b d : Int32) : Int32 × q_S :=
  if q_i (S 11 i 3) ≤ q_i (S 11 i 4) then
    if q_i (S 11 i 3) < 20 then
      (1, q_st (q_st (q_st (q_st (q_st S 12 i ((q_i (S 11 i 3)).toNatClampNeg) (.int a)) 13 i ((q_i (S 11 i 3)).toNatClampNeg) (.int b)) 14 i ((q_i (S 11 i 3)).toNatClampNeg) (.int d)) 11 i 3 (.int ((q_i (S 11 i 3)) + 1))) 11 i 4 (.int ((q_i (S 11 i 3)) + 1)))
    else
      (0, S)
  else
    if q_i (S 12 i ((q_i (S 11 i 4)).toNatClampNeg)) = a then
      if q_i (S 13 i ((q_i (S 11 i 4)).toNatClampNeg)) = b then
        if q_i (S 14 i ((q_i (S 11 i 4)).toNatClampNeg)) = d then
          (1, q_st S 11 i 4 (.int ((q_i (S 11 i 4)) + 1)))
        else
          (0, S)
      else
        (0, S)
    else
      (0, S)
set_option maxRecDepth 100000 in
set_option maxHeartbeats 4000000 in
theorem xC_hi_pass (l : Launch) (G : q_G) (S : q_S) (i : Nat) (a b d : Int32) (hi : i < 6) (hI : xI S) : q_Mi xX G l xy_hi_pass (q_ws (q_gw lw_tbl) xy_hi_pass xb_hi_pass 4 (some .boolean)) (q_rm 0) [.ref (q_a xX G 11 i), .int a, .int b, .int d] S (x_hi_pass S i a b d).1 (x_hi_pass S i a b d).2 := by
  refine q_met (cc := xb_hi_pass) (maxL := 4) (ret := (some .boolean)) xOk (by decide) rfl (Nat.le_of_ble_eq_true rfl) ?_
  intro p e s m below meth c ls hC hr hlocks hW hS hl
  have hx := hC.1.1
  have hb := hC.1.2.1
  have hl : lv_has ls 4 [(0, .ref (q_a xX G 11 i)), (1, .int a), (2, .int b), (3, .int d)] := hl
  refine lv_aload_n hx hb xd_hi_pass_0 rfl (lv_at hl 0 rfl) ?_
  refine xg_hi_21 hC hW i hi (rfl) xd_hi_pass_1 ?_
  refine lv_aload_n hx hb xd_hi_pass_4 rfl (lv_at hl 0 rfl) ?_
  refine xg_hi_25 hC hW i hi (rfl) xd_hi_pass_5 ?_
  refine lv_icmp_ge (tgt := 64) hx hb xd_hi_pass_8 (by decide) (fun c_1 => ?_) (fun c_1 => ?_)
  · -- taken
    refine lv_aload_n hx hb xd_hi_pass_64 rfl (lv_at hl 0 rfl) ?_
    refine xg_hi_25 hC hW i hi (rfl) xd_hi_pass_65 ?_
    refine lv_bipush (v := 20) hx hb xd_hi_pass_68 (by decide) ?_
    refine lv_icmp_lt (tgt := 75) hx hb xd_hi_pass_70 (by decide) (fun c_2 => ?_) (fun c_2 => ?_)
    · -- taken
      refine lv_aload_n hx hb xd_hi_pass_75 rfl (lv_at hl 0 rfl) ?_
      refine xg_hi_9 hC hW i hi xd_hi_pass_76 ?_
      refine lv_aload_n hx hb xd_hi_pass_79 rfl (lv_at hl 0 rfl) ?_
      refine xg_hi_25 hC hW i hi (rfl) xd_hi_pass_80 ?_
      refine lv_iload_n hx hb xd_hi_pass_83 rfl (lv_at hl 1 rfl) ?_
      have h_3 : vp_in (q_i (S 11 i 3)) 20 := by have b1 : 0 ≤ (q_i (S 11 i 3)).toInt ∧ (q_i (S 11 i 3)).toInt ≤ 20 := hI 11 i 3; have b2 : 0 ≤ (q_i (S 11 i 4)).toInt ∧ (q_i (S 11 i 4)).toInt ≤ 20 := hI 11 i 4; simp only [vp_in_iff, Int32.lt_iff_toInt_lt, Int32.le_iff_toInt_le, q_n0, q_n1, q_n2, q_n3, q_n4, q_n5, q_n6, q_n7, q_n10, q_n14, q_n15, q_n20, q_n60, q_n1288] at c_1 c_2 ⊢; omega
      refine xas_12 hC hW hS (fun _ h => h) i hi h_3 xd_hi_pass_84 (fun H locs hW hS => ?_)
      refine lv_aload_n hx hb xd_hi_pass_85 rfl (lv_at hl 0 rfl) ?_
      refine xg_hi_15 hC hW i hi xd_hi_pass_86 ?_
      refine lv_aload_n hx hb xd_hi_pass_89 rfl (lv_at hl 0 rfl) ?_
      refine xg_hi_25 hC hW i hi (q_sj (by decide) (rfl)) xd_hi_pass_90 ?_
      refine lv_iload_n hx hb xd_hi_pass_93 rfl (lv_at hl 2 rfl) ?_
      have h_4 : vp_in (q_i (S 11 i 3)) 20 := by have b1 : 0 ≤ (q_i (S 11 i 3)).toInt ∧ (q_i (S 11 i 3)).toInt ≤ 20 := hI 11 i 3; have b2 : 0 ≤ (q_i (S 11 i 4)).toInt ∧ (q_i (S 11 i 4)).toInt ≤ 20 := hI 11 i 4; simp only [vp_in_iff, Int32.lt_iff_toInt_lt, Int32.le_iff_toInt_le, q_n0, q_n1, q_n2, q_n3, q_n4, q_n5, q_n6, q_n7, q_n10, q_n14, q_n15, q_n20, q_n60, q_n1288] at c_1 c_2 ⊢; omega
      refine xas_13 hC hW hS (fun _ h => h) i hi h_4 xd_hi_pass_94 (fun H locs hW hS => ?_)
      refine lv_aload_n hx hb xd_hi_pass_95 rfl (lv_at hl 0 rfl) ?_
      refine xg_hi_18 hC hW i hi xd_hi_pass_96 ?_
      refine W.eq (g2 := F0 m 99 ls [.ref (q_a xX G 14 i)]) rfl ?_
      refine lv_aload_n hx hb xd_hi_pass_99 rfl (lv_at hl 0 rfl) ?_
      refine xg_hi_25 hC hW i hi (q_sj (by decide) (q_sj (by decide) (rfl))) xd_hi_pass_100 ?_
      refine lv_iload_n hx hb xd_hi_pass_103 rfl (lv_at hl 3 rfl) ?_
      have h_5 : vp_in (q_i (S 11 i 3)) 20 := by have b1 : 0 ≤ (q_i (S 11 i 3)).toInt ∧ (q_i (S 11 i 3)).toInt ≤ 20 := hI 11 i 3; have b2 : 0 ≤ (q_i (S 11 i 4)).toInt ∧ (q_i (S 11 i 4)).toInt ≤ 20 := hI 11 i 4; simp only [vp_in_iff, Int32.lt_iff_toInt_lt, Int32.le_iff_toInt_le, q_n0, q_n1, q_n2, q_n3, q_n4, q_n5, q_n6, q_n7, q_n10, q_n14, q_n15, q_n20, q_n60, q_n1288] at c_1 c_2 ⊢; omega
      refine xas_14 hC hW hS (fun _ h => h) i hi h_5 xd_hi_pass_104 (fun H locs hW hS => ?_)
      refine lv_aload_n hx hb xd_hi_pass_105 rfl (lv_at hl 0 rfl) ?_
      refine lv_dup hx hb xd_hi_pass_106 rfl ?_
      refine xg_hi_25 hC hW i hi (q_sj (by decide) (q_sj (by decide) (q_sj (by decide) (rfl)))) xd_hi_pass_107 ?_
      refine lv_iconst (v := 1) hx hb xd_hi_pass_110 (by decide) ?_
      refine lv_iadd hx hb xd_hi_pass_111 ?_
      refine xg_hi_25p hC hW hS (fun _ h => h) i hi xd_hi_pass_112 (fun H locs hW hS => ?_)
      refine lv_aload_n hx hb xd_hi_pass_115 rfl (lv_at hl 0 rfl) ?_
      refine lv_aload_n hx hb xd_hi_pass_116 rfl (lv_at hl 0 rfl) ?_
      refine xg_hi_25 hC hW i hi (q_ss) xd_hi_pass_117 ?_
      refine xg_hi_21p hC hW hS (fun _ h => h) i hi xd_hi_pass_120 (fun H locs hW hS => ?_)
      refine W.eq (g2 := F0 m 123 ls []) rfl ?_
      refine lv_iconst (v := 1) hx hb xd_hi_pass_123 (by decide) ?_
      have hf : x_hi_pass S i a b d = (1, q_st (q_st (q_st (q_st (q_st S 12 i ((q_i (S 11 i 3)).toNatClampNeg) (.int a)) 13 i ((q_i (S 11 i 3)).toNatClampNeg) (.int b)) 14 i ((q_i (S 11 i 3)).toNatClampNeg) (.int d)) 11 i 3 (.int ((q_i (S 11 i 3)) + 1))) 11 i 4 (.int ((q_i (S 11 i 3)) + 1))) := by unfold x_hi_pass; rw [if_pos c_1, if_pos c_2]
      rw [hf]
      exact q_zret hC hr hlocks hW hS (by decide) rfl rfl xd_hi_pass_124
    · -- not taken
      refine lv_iconst (v := 0) hx hb xd_hi_pass_73 (by decide) ?_
      have hf : x_hi_pass S i a b d = (0, S) := by unfold x_hi_pass; rw [if_pos c_1, if_neg c_2]
      rw [hf]
      exact q_zret hC hr hlocks hW hS (by decide) rfl rfl xd_hi_pass_74
  · -- not taken
    refine lv_aload_n hx hb xd_hi_pass_11 rfl (lv_at hl 0 rfl) ?_
    refine xg_hi_9 hC hW i hi xd_hi_pass_12 ?_
    refine lv_aload_n hx hb xd_hi_pass_15 rfl (lv_at hl 0 rfl) ?_
    refine xg_hi_21 hC hW i hi (rfl) xd_hi_pass_16 ?_
    have h_6 : vp_in (q_i (S 11 i 4)) 20 := by have b1 : 0 ≤ (q_i (S 11 i 4)).toInt ∧ (q_i (S 11 i 4)).toInt ≤ 20 := hI 11 i 4; have b2 : 0 ≤ (q_i (S 11 i 3)).toInt ∧ (q_i (S 11 i 3)).toInt ≤ 20 := hI 11 i 3; simp only [vp_in_iff, Int32.lt_iff_toInt_lt, Int32.le_iff_toInt_le, q_n0, q_n1, q_n2, q_n3, q_n4, q_n5, q_n6, q_n7, q_n10, q_n14, q_n15, q_n20, q_n60, q_n1288] at c_1 ⊢; omega
    refine xal_12 hC hW i hi h_6 (rfl) xd_hi_pass_19 ?_
    refine lv_iload_n hx hb xd_hi_pass_20 rfl (lv_at hl 1 rfl) ?_
    refine lv_icmp_ne (tgt := 50) hx hb xd_hi_pass_21 (by decide) (fun c_7 => ?_) (fun c_7 => ?_)
    · -- taken
      refine lv_iconst (v := 0) hx hb xd_hi_pass_50 (by decide) ?_
      have hf : x_hi_pass S i a b d = (0, S) := by unfold x_hi_pass; rw [if_neg c_1, if_neg c_7]
      rw [hf]
      exact q_zret hC hr hlocks hW hS (by decide) rfl rfl xd_hi_pass_51
    · -- not taken
      refine lv_aload_n hx hb xd_hi_pass_24 rfl (lv_at hl 0 rfl) ?_
      refine xg_hi_15 hC hW i hi xd_hi_pass_25 ?_
      refine lv_aload_n hx hb xd_hi_pass_28 rfl (lv_at hl 0 rfl) ?_
      refine xg_hi_21 hC hW i hi (rfl) xd_hi_pass_29 ?_
      have h_8 : vp_in (q_i (S 11 i 4)) 20 := by have b1 : 0 ≤ (q_i (S 11 i 4)).toInt ∧ (q_i (S 11 i 4)).toInt ≤ 20 := hI 11 i 4; have b2 : 0 ≤ (q_i (S 11 i 3)).toInt ∧ (q_i (S 11 i 3)).toInt ≤ 20 := hI 11 i 3; simp only [vp_in_iff, Int32.lt_iff_toInt_lt, Int32.le_iff_toInt_le, q_n0, q_n1, q_n2, q_n3, q_n4, q_n5, q_n6, q_n7, q_n10, q_n14, q_n15, q_n20, q_n60, q_n1288] at c_1 ⊢; omega
      refine xal_13 hC hW i hi h_8 (rfl) xd_hi_pass_32 ?_
      refine lv_iload_n hx hb xd_hi_pass_33 rfl (lv_at hl 2 rfl) ?_
      refine lv_icmp_ne (tgt := 50) hx hb xd_hi_pass_34 (by decide) (fun c_9 => ?_) (fun c_9 => ?_)
      · -- taken
        refine lv_iconst (v := 0) hx hb xd_hi_pass_50 (by decide) ?_
        have hf : x_hi_pass S i a b d = (0, S) := by unfold x_hi_pass; rw [if_neg c_1, if_pos c_7, if_neg c_9]
        rw [hf]
        exact q_zret hC hr hlocks hW hS (by decide) rfl rfl xd_hi_pass_51
      · -- not taken
        refine lv_aload_n hx hb xd_hi_pass_37 rfl (lv_at hl 0 rfl) ?_
        refine xg_hi_18 hC hW i hi xd_hi_pass_38 ?_
        refine lv_aload_n hx hb xd_hi_pass_41 rfl (lv_at hl 0 rfl) ?_
        refine xg_hi_21 hC hW i hi (rfl) xd_hi_pass_42 ?_
        have h_10 : vp_in (q_i (S 11 i 4)) 20 := by have b1 : 0 ≤ (q_i (S 11 i 4)).toInt ∧ (q_i (S 11 i 4)).toInt ≤ 20 := hI 11 i 4; have b2 : 0 ≤ (q_i (S 11 i 3)).toInt ∧ (q_i (S 11 i 3)).toInt ≤ 20 := hI 11 i 3; simp only [vp_in_iff, Int32.lt_iff_toInt_lt, Int32.le_iff_toInt_le, q_n0, q_n1, q_n2, q_n3, q_n4, q_n5, q_n6, q_n7, q_n10, q_n14, q_n15, q_n20, q_n60, q_n1288] at c_1 ⊢; omega
        refine xal_14 hC hW i hi h_10 (rfl) xd_hi_pass_45 ?_
        refine lv_iload_n hx hb xd_hi_pass_46 rfl (lv_at hl 3 rfl) ?_
        refine lv_icmp_eq (tgt := 52) hx hb xd_hi_pass_47 (by decide) (fun c_11 => ?_) (fun c_11 => ?_)
        · -- taken
          refine lv_aload_n hx hb xd_hi_pass_52 rfl (lv_at hl 0 rfl) ?_
          refine lv_dup hx hb xd_hi_pass_53 rfl ?_
          refine xg_hi_21 hC hW i hi (rfl) xd_hi_pass_54 ?_
          refine lv_iconst (v := 1) hx hb xd_hi_pass_57 (by decide) ?_
          refine lv_iadd hx hb xd_hi_pass_58 ?_
          refine xg_hi_21p hC hW hS (fun _ h => h) i hi xd_hi_pass_59 (fun H locs hW hS => ?_)
          refine lv_iconst (v := 1) hx hb xd_hi_pass_62 (by decide) ?_
          have hf : x_hi_pass S i a b d = (1, q_st S 11 i 4 (.int ((q_i (S 11 i 4)) + 1))) := by unfold x_hi_pass; rw [if_neg c_1, if_pos c_7, if_pos c_9, if_pos c_11]
          rw [hf]
          exact q_zret hC hr hlocks hW hS (by decide) rfl rfl xd_hi_pass_63
        · -- not taken
          refine lv_iconst (v := 0) hx hb xd_hi_pass_50 (by decide) ?_
          have hf : x_hi_pass S i a b d = (0, S) := by unfold x_hi_pass; rw [if_neg c_1, if_pos c_7, if_pos c_9, if_neg c_11]
          rw [hf]
          exact q_zret hC hr hlocks hW hS (by decide) rfl rfl xd_hi_pass_51
set_option maxRecDepth 100000 in
set_option maxHeartbeats 4000000 in
theorem xI_hi_pass (S : q_S) (i : Nat) (a b d : Int32) (hi : i < 6) (hI : xI S) : xI ((x_hi_pass S i a b d).2) := by
  by_cases c_1 : q_i (S 11 i 3) ≤ q_i (S 11 i 4)
  · -- yes
    by_cases c_2 : q_i (S 11 i 3) < 20
    · -- yes
      have h_3 : vp_in (q_i (S 11 i 3)) 20 := by have b1 : 0 ≤ (q_i (S 11 i 3)).toInt ∧ (q_i (S 11 i 3)).toInt ≤ 20 := hI 11 i 3; have b2 : 0 ≤ (q_i (S 11 i 4)).toInt ∧ (q_i (S 11 i 4)).toInt ≤ 20 := hI 11 i 4; simp only [vp_in_iff, Int32.lt_iff_toInt_lt, Int32.le_iff_toInt_le, q_n0, q_n1, q_n2, q_n3, q_n4, q_n5, q_n6, q_n7, q_n10, q_n14, q_n15, q_n20, q_n60, q_n1288] at c_1 c_2 ⊢; omega
      have h_4 : vp_in (q_i (S 11 i 3)) 20 := by have b1 : 0 ≤ (q_i (S 11 i 3)).toInt ∧ (q_i (S 11 i 3)).toInt ≤ 20 := hI 11 i 3; have b2 : 0 ≤ (q_i (S 11 i 4)).toInt ∧ (q_i (S 11 i 4)).toInt ≤ 20 := hI 11 i 4; simp only [vp_in_iff, Int32.lt_iff_toInt_lt, Int32.le_iff_toInt_le, q_n0, q_n1, q_n2, q_n3, q_n4, q_n5, q_n6, q_n7, q_n10, q_n14, q_n15, q_n20, q_n60, q_n1288] at c_1 c_2 ⊢; omega
      have h_5 : vp_in (q_i (S 11 i 3)) 20 := by have b1 : 0 ≤ (q_i (S 11 i 3)).toInt ∧ (q_i (S 11 i 3)).toInt ≤ 20 := hI 11 i 3; have b2 : 0 ≤ (q_i (S 11 i 4)).toInt ∧ (q_i (S 11 i 4)).toInt ≤ 20 := hI 11 i 4; simp only [vp_in_iff, Int32.lt_iff_toInt_lt, Int32.le_iff_toInt_le, q_n0, q_n1, q_n2, q_n3, q_n4, q_n5, q_n6, q_n7, q_n10, q_n14, q_n15, q_n20, q_n60, q_n1288] at c_1 c_2 ⊢; omega
      have hf : x_hi_pass S i a b d = (1, q_st (q_st (q_st (q_st (q_st S 12 i ((q_i (S 11 i 3)).toNatClampNeg) (.int a)) 13 i ((q_i (S 11 i 3)).toNatClampNeg) (.int b)) 14 i ((q_i (S 11 i 3)).toNatClampNeg) (.int d)) 11 i 3 (.int ((q_i (S 11 i 3)) + 1))) 11 i 4 (.int ((q_i (S 11 i 3)) + 1))) := by unfold x_hi_pass; rw [if_pos c_1, if_pos c_2]
      rw [hf]
      exact (xI_st (xI_st (q_Is (q_Is (q_Is hI rfl) rfl) rfl) (by have b1 : 0 ≤ (q_i (S 11 i 3)).toInt ∧ (q_i (S 11 i 3)).toInt ≤ 20 := hI 11 i 3; have b2 : 0 ≤ (q_i (S 11 i 4)).toInt ∧ (q_i (S 11 i 4)).toInt ≤ 20 := hI 11 i 4; have d_1 := q_inc (x := (q_i (S 11 i 3))) (by omega); simp only [Int32.lt_iff_toInt_lt, Int32.le_iff_toInt_le, q_n0, q_n1, q_n2, q_n3, q_n4, q_n5, q_n6, q_n7, q_n10, q_n14, q_n15, q_n20, q_n60, q_n1288] at c_1 c_2; show 0 ≤ ((q_i (S 11 i 3)) + 1).toInt ∧ ((q_i (S 11 i 3)) + 1).toInt ≤ 20; rw [q_inc (by omega)]; omega)) (by have b1 : 0 ≤ (q_i (S 11 i 3)).toInt ∧ (q_i (S 11 i 3)).toInt ≤ 20 := hI 11 i 3; have b2 : 0 ≤ (q_i (S 11 i 4)).toInt ∧ (q_i (S 11 i 4)).toInt ≤ 20 := hI 11 i 4; have d_1 := q_inc (x := (q_i (S 11 i 3))) (by omega); simp only [Int32.lt_iff_toInt_lt, Int32.le_iff_toInt_le, q_n0, q_n1, q_n2, q_n3, q_n4, q_n5, q_n6, q_n7, q_n10, q_n14, q_n15, q_n20, q_n60, q_n1288] at c_1 c_2; show 0 ≤ ((q_i (S 11 i 3)) + 1).toInt ∧ ((q_i (S 11 i 3)) + 1).toInt ≤ 20; rw [q_inc (by omega)]; omega))
    · -- no
      have hf : x_hi_pass S i a b d = (0, S) := by unfold x_hi_pass; rw [if_pos c_1, if_neg c_2]
      rw [hf]
      exact hI
  · -- no
    by_cases c_7 : q_i (S 12 i ((q_i (S 11 i 4)).toNatClampNeg)) = a
    · -- yes
      by_cases c_9 : q_i (S 13 i ((q_i (S 11 i 4)).toNatClampNeg)) = b
      · -- yes
        by_cases c_11 : q_i (S 14 i ((q_i (S 11 i 4)).toNatClampNeg)) = d
        · -- yes
          have h_6 : vp_in (q_i (S 11 i 4)) 20 := by have b1 : 0 ≤ (q_i (S 11 i 4)).toInt ∧ (q_i (S 11 i 4)).toInt ≤ 20 := hI 11 i 4; have b2 : 0 ≤ (q_i (S 11 i 3)).toInt ∧ (q_i (S 11 i 3)).toInt ≤ 20 := hI 11 i 3; simp only [vp_in_iff, Int32.lt_iff_toInt_lt, Int32.le_iff_toInt_le, q_n0, q_n1, q_n2, q_n3, q_n4, q_n5, q_n6, q_n7, q_n10, q_n14, q_n15, q_n20, q_n60, q_n1288] at c_1 ⊢; omega
          have h_8 : vp_in (q_i (S 11 i 4)) 20 := by have b1 : 0 ≤ (q_i (S 11 i 4)).toInt ∧ (q_i (S 11 i 4)).toInt ≤ 20 := hI 11 i 4; have b2 : 0 ≤ (q_i (S 11 i 3)).toInt ∧ (q_i (S 11 i 3)).toInt ≤ 20 := hI 11 i 3; simp only [vp_in_iff, Int32.lt_iff_toInt_lt, Int32.le_iff_toInt_le, q_n0, q_n1, q_n2, q_n3, q_n4, q_n5, q_n6, q_n7, q_n10, q_n14, q_n15, q_n20, q_n60, q_n1288] at c_1 ⊢; omega
          have h_10 : vp_in (q_i (S 11 i 4)) 20 := by have b1 : 0 ≤ (q_i (S 11 i 4)).toInt ∧ (q_i (S 11 i 4)).toInt ≤ 20 := hI 11 i 4; have b2 : 0 ≤ (q_i (S 11 i 3)).toInt ∧ (q_i (S 11 i 3)).toInt ≤ 20 := hI 11 i 3; simp only [vp_in_iff, Int32.lt_iff_toInt_lt, Int32.le_iff_toInt_le, q_n0, q_n1, q_n2, q_n3, q_n4, q_n5, q_n6, q_n7, q_n10, q_n14, q_n15, q_n20, q_n60, q_n1288] at c_1 ⊢; omega
          have hf : x_hi_pass S i a b d = (1, q_st S 11 i 4 (.int ((q_i (S 11 i 4)) + 1))) := by unfold x_hi_pass; rw [if_neg c_1, if_pos c_7, if_pos c_9, if_pos c_11]
          rw [hf]
          exact (xI_st hI (by have b1 : 0 ≤ (q_i (S 11 i 4)).toInt ∧ (q_i (S 11 i 4)).toInt ≤ 20 := hI 11 i 4; have b2 : 0 ≤ (q_i (S 11 i 3)).toInt ∧ (q_i (S 11 i 3)).toInt ≤ 20 := hI 11 i 3; have d_1 := q_inc (x := (q_i (S 11 i 4))) (by omega); simp only [Int32.lt_iff_toInt_lt, Int32.le_iff_toInt_le, q_n0, q_n1, q_n2, q_n3, q_n4, q_n5, q_n6, q_n7, q_n10, q_n14, q_n15, q_n20, q_n60, q_n1288] at c_1; show 0 ≤ ((q_i (S 11 i 4)) + 1).toInt ∧ ((q_i (S 11 i 4)) + 1).toInt ≤ 20; rw [q_inc (by omega)]; omega))
        · -- no
          have h_6 : vp_in (q_i (S 11 i 4)) 20 := by have b1 : 0 ≤ (q_i (S 11 i 4)).toInt ∧ (q_i (S 11 i 4)).toInt ≤ 20 := hI 11 i 4; have b2 : 0 ≤ (q_i (S 11 i 3)).toInt ∧ (q_i (S 11 i 3)).toInt ≤ 20 := hI 11 i 3; simp only [vp_in_iff, Int32.lt_iff_toInt_lt, Int32.le_iff_toInt_le, q_n0, q_n1, q_n2, q_n3, q_n4, q_n5, q_n6, q_n7, q_n10, q_n14, q_n15, q_n20, q_n60, q_n1288] at c_1 ⊢; omega
          have h_8 : vp_in (q_i (S 11 i 4)) 20 := by have b1 : 0 ≤ (q_i (S 11 i 4)).toInt ∧ (q_i (S 11 i 4)).toInt ≤ 20 := hI 11 i 4; have b2 : 0 ≤ (q_i (S 11 i 3)).toInt ∧ (q_i (S 11 i 3)).toInt ≤ 20 := hI 11 i 3; simp only [vp_in_iff, Int32.lt_iff_toInt_lt, Int32.le_iff_toInt_le, q_n0, q_n1, q_n2, q_n3, q_n4, q_n5, q_n6, q_n7, q_n10, q_n14, q_n15, q_n20, q_n60, q_n1288] at c_1 ⊢; omega
          have h_10 : vp_in (q_i (S 11 i 4)) 20 := by have b1 : 0 ≤ (q_i (S 11 i 4)).toInt ∧ (q_i (S 11 i 4)).toInt ≤ 20 := hI 11 i 4; have b2 : 0 ≤ (q_i (S 11 i 3)).toInt ∧ (q_i (S 11 i 3)).toInt ≤ 20 := hI 11 i 3; simp only [vp_in_iff, Int32.lt_iff_toInt_lt, Int32.le_iff_toInt_le, q_n0, q_n1, q_n2, q_n3, q_n4, q_n5, q_n6, q_n7, q_n10, q_n14, q_n15, q_n20, q_n60, q_n1288] at c_1 ⊢; omega
          have hf : x_hi_pass S i a b d = (0, S) := by unfold x_hi_pass; rw [if_neg c_1, if_pos c_7, if_pos c_9, if_neg c_11]
          rw [hf]
          exact hI
      · -- no
        have h_6 : vp_in (q_i (S 11 i 4)) 20 := by have b1 : 0 ≤ (q_i (S 11 i 4)).toInt ∧ (q_i (S 11 i 4)).toInt ≤ 20 := hI 11 i 4; have b2 : 0 ≤ (q_i (S 11 i 3)).toInt ∧ (q_i (S 11 i 3)).toInt ≤ 20 := hI 11 i 3; simp only [vp_in_iff, Int32.lt_iff_toInt_lt, Int32.le_iff_toInt_le, q_n0, q_n1, q_n2, q_n3, q_n4, q_n5, q_n6, q_n7, q_n10, q_n14, q_n15, q_n20, q_n60, q_n1288] at c_1 ⊢; omega
        have h_8 : vp_in (q_i (S 11 i 4)) 20 := by have b1 : 0 ≤ (q_i (S 11 i 4)).toInt ∧ (q_i (S 11 i 4)).toInt ≤ 20 := hI 11 i 4; have b2 : 0 ≤ (q_i (S 11 i 3)).toInt ∧ (q_i (S 11 i 3)).toInt ≤ 20 := hI 11 i 3; simp only [vp_in_iff, Int32.lt_iff_toInt_lt, Int32.le_iff_toInt_le, q_n0, q_n1, q_n2, q_n3, q_n4, q_n5, q_n6, q_n7, q_n10, q_n14, q_n15, q_n20, q_n60, q_n1288] at c_1 ⊢; omega
        have hf : x_hi_pass S i a b d = (0, S) := by unfold x_hi_pass; rw [if_neg c_1, if_pos c_7, if_neg c_9]
        rw [hf]
        exact hI
    · -- no
      have h_6 : vp_in (q_i (S 11 i 4)) 20 := by have b1 : 0 ≤ (q_i (S 11 i 4)).toInt ∧ (q_i (S 11 i 4)).toInt ≤ 20 := hI 11 i 4; have b2 : 0 ≤ (q_i (S 11 i 3)).toInt ∧ (q_i (S 11 i 3)).toInt ≤ 20 := hI 11 i 3; simp only [vp_in_iff, Int32.lt_iff_toInt_lt, Int32.le_iff_toInt_le, q_n0, q_n1, q_n2, q_n3, q_n4, q_n5, q_n6, q_n7, q_n10, q_n14, q_n15, q_n20, q_n60, q_n1288] at c_1 ⊢; omega
      have hf : x_hi_pass S i a b d = (0, S) := by unfold x_hi_pass; rw [if_neg c_1, if_neg c_7]
      rw [hf]
      exact hI
set_option maxRecDepth 100000 in
set_option maxHeartbeats 4000000 in
theorem xK_hi_pass (S : q_S) (i : Nat) (a b d : Int32) (x y z : Nat) (h11 : x ≠ 11) (h12 : x ≠ 12) (h13 : x ≠ 13) (h14 : x ≠ 14) : (x_hi_pass S i a b d).2 x y z = S x y z := by
  by_cases c_1 : q_i (S 11 i 3) ≤ q_i (S 11 i 4)
  · -- yes
    by_cases c_2 : q_i (S 11 i 3) < 20
    · -- yes
      have hf : x_hi_pass S i a b d = (1, q_st (q_st (q_st (q_st (q_st S 12 i ((q_i (S 11 i 3)).toNatClampNeg) (.int a)) 13 i ((q_i (S 11 i 3)).toNatClampNeg) (.int b)) 14 i ((q_i (S 11 i 3)).toNatClampNeg) (.int d)) 11 i 3 (.int ((q_i (S 11 i 3)) + 1))) 11 i 4 (.int ((q_i (S 11 i 3)) + 1))) := by unfold x_hi_pass; rw [if_pos c_1, if_pos c_2]
      rw [hf]
      exact (q_kj h11).trans ((q_kj h11).trans ((q_kj h14).trans ((q_kj h13).trans ((q_kj h12)))))
    · -- no
      have hf : x_hi_pass S i a b d = (0, S) := by unfold x_hi_pass; rw [if_pos c_1, if_neg c_2]
      rw [hf]
  · -- no
    by_cases c_7 : q_i (S 12 i ((q_i (S 11 i 4)).toNatClampNeg)) = a
    · -- yes
      by_cases c_9 : q_i (S 13 i ((q_i (S 11 i 4)).toNatClampNeg)) = b
      · -- yes
        by_cases c_11 : q_i (S 14 i ((q_i (S 11 i 4)).toNatClampNeg)) = d
        · -- yes
          have hf : x_hi_pass S i a b d = (1, q_st S 11 i 4 (.int ((q_i (S 11 i 4)) + 1))) := by unfold x_hi_pass; rw [if_neg c_1, if_pos c_7, if_pos c_9, if_pos c_11]
          rw [hf]
          exact (q_kj h11)
        · -- no
          have hf : x_hi_pass S i a b d = (0, S) := by unfold x_hi_pass; rw [if_neg c_1, if_pos c_7, if_pos c_9, if_neg c_11]
          rw [hf]
      · -- no
        have hf : x_hi_pass S i a b d = (0, S) := by unfold x_hi_pass; rw [if_neg c_1, if_pos c_7, if_neg c_9]
        rw [hf]
    · -- no
      have hf : x_hi_pass S i a b d = (0, S) := by unfold x_hi_pass; rw [if_neg c_1, if_neg c_7]
      rw [hf]
def x_pr_put (S : q_S) (i : Nat) (a b d f : Int32) : q_S :=
  if x_pr_has S i a = 0 then
    S
  else
    q_st (q_st (q_st S 6 i a.toNatClampNeg (.int b)) 7 i a.toNatClampNeg (.int d)) 8 i a.toNatClampNeg (.int f)
set_option maxRecDepth 100000 in
set_option maxHeartbeats 4000000 in
theorem xC_pr_put (l : Launch) (G : q_G) (S : q_S) (i : Nat) (a b d f : Int32) (hi : i < 3) (hI : xI S) : q_Mv xX G l xy_pr_put (q_ws (q_gw lw_tbl) xy_pr_put xb_pr_put 5 none) (q_rm 1) [.ref (q_a xX G 5 i), .int a, .int b, .int d, .int f] S (x_pr_put S i a b d f) := by
  refine q_met (cc := xb_pr_put) (maxL := 5) (ret := none) xOk (by decide) rfl (Nat.le_of_ble_eq_true rfl) ?_
  intro p e s m below meth c ls hC hr hlocks hW hS hl
  have hx := hC.1.1
  have hb := hC.1.2.1
  have hl : lv_has ls 5 [(0, .ref (q_a xX G 5 i)), (1, .int a), (2, .int b), (3, .int d), (4, .int f)] := hl
  refine lv_aload_n hx hb xd_pr_put_0 rfl (lv_at hl 0 rfl) ?_
  refine lv_iload_n hx hb xd_pr_put_1 rfl (lv_at hl 1 rfl) ?_
  refine q_calli hC hS (fun _ h => h) (q_runV (rest := []) hC hW (xC_pr_has l G S i a hi) (xc_pr_25 (q_rm 0) hC.1.2.2.2.2 ⟨Nat.le_of_ble_eq_true rfl, Nat.le_of_ble_eq_true rfl⟩ rfl rfl) hi rfl rfl rfl hl.1 rfl (Nat.le_of_ble_eq_true rfl) xd_pr_put_2 ⟨Nat.zero_le _, Nat.zero_le _⟩) (fun H locs hW hS => ?_)
  refine lv_if_eq (tgt := 30) hx hb xd_pr_put_5 (by decide) (fun c_1 => ?_) (fun c_1 => ?_)
  · -- taken
    have hf : x_pr_put S i a b d f = S := by unfold x_pr_put; rw [if_pos c_1]
    rw [hf]
    exact q_vret hC hr hlocks hW hS rfl xd_pr_put_30
  · -- not taken
    refine lv_aload_n hx hb xd_pr_put_8 rfl (lv_at hl 0 rfl) ?_
    refine xg_pr_9 hC hW i hi xd_pr_put_9 ?_
    refine lv_iload_n hx hb xd_pr_put_12 rfl (lv_at hl 1 rfl) ?_
    refine lv_iload_n hx hb xd_pr_put_13 rfl (lv_at hl 2 rfl) ?_
    have h_2 : vp_in a 14 := by obtain ⟨f_c_1_0, f_c_1_1⟩ := xF_pr_has c_1; have b1 : 0 ≤ (q_i (S 5 i 3)).toInt ∧ (q_i (S 5 i 3)).toInt ≤ 14 := hI 5 i 3; simp only [vp_in_iff, Int32.lt_iff_toInt_lt, Int32.le_iff_toInt_le, q_n0, q_n1, q_n2, q_n3, q_n4, q_n5, q_n6, q_n7, q_n10, q_n14, q_n15, q_n20, q_n60, q_n1288] at f_c_1_0 f_c_1_1 ⊢; omega
    refine xas_6 hC hW hS (fun _ h => h) i hi h_2 xd_pr_put_14 (fun H locs hW hS => ?_)
    refine lv_aload_n hx hb xd_pr_put_15 rfl (lv_at hl 0 rfl) ?_
    refine xg_pr_15 hC hW i hi xd_pr_put_16 ?_
    refine lv_iload_n hx hb xd_pr_put_19 rfl (lv_at hl 1 rfl) ?_
    refine lv_iload_n hx hb xd_pr_put_20 rfl (lv_at hl 3 rfl) ?_
    have h_3 : vp_in a 14 := by obtain ⟨f_c_1_0, f_c_1_1⟩ := xF_pr_has c_1; have b1 : 0 ≤ (q_i (S 5 i 3)).toInt ∧ (q_i (S 5 i 3)).toInt ≤ 14 := hI 5 i 3; simp only [vp_in_iff, Int32.lt_iff_toInt_lt, Int32.le_iff_toInt_le, q_n0, q_n1, q_n2, q_n3, q_n4, q_n5, q_n6, q_n7, q_n10, q_n14, q_n15, q_n20, q_n60, q_n1288] at f_c_1_0 f_c_1_1 ⊢; omega
    refine xas_7 hC hW hS (fun _ h => h) i hi h_3 xd_pr_put_21 (fun H locs hW hS => ?_)
    refine lv_aload_n hx hb xd_pr_put_22 rfl (lv_at hl 0 rfl) ?_
    refine xg_pr_18 hC hW i hi xd_pr_put_23 ?_
    refine lv_iload_n hx hb xd_pr_put_26 rfl (lv_at hl 1 rfl) ?_
    refine lv_iload hx hb xd_pr_put_27 (lv_at hl 4 rfl) ?_
    refine W.eq (g2 := F0 m 29 ls [.int f, .int a, .ref (q_a xX G 8 i)]) rfl ?_
    have h_4 : vp_in a 14 := by obtain ⟨f_c_1_0, f_c_1_1⟩ := xF_pr_has c_1; have b1 : 0 ≤ (q_i (S 5 i 3)).toInt ∧ (q_i (S 5 i 3)).toInt ≤ 14 := hI 5 i 3; simp only [vp_in_iff, Int32.lt_iff_toInt_lt, Int32.le_iff_toInt_le, q_n0, q_n1, q_n2, q_n3, q_n4, q_n5, q_n6, q_n7, q_n10, q_n14, q_n15, q_n20, q_n60, q_n1288] at f_c_1_0 f_c_1_1 ⊢; omega
    refine xas_8 hC hW hS (fun _ h => h) i hi h_4 xd_pr_put_29 (fun H locs hW hS => ?_)
    have hf : x_pr_put S i a b d f = q_st (q_st (q_st S 6 i a.toNatClampNeg (.int b)) 7 i a.toNatClampNeg (.int d)) 8 i a.toNatClampNeg (.int f) := by unfold x_pr_put; rw [if_neg c_1]
    rw [hf]
    exact q_vret hC hr hlocks hW hS rfl xd_pr_put_30
set_option maxRecDepth 100000 in
set_option maxHeartbeats 4000000 in
theorem xI_pr_put (S : q_S) (i : Nat) (a b d f : Int32) (hi : i < 3) (hI : xI S) : xI (x_pr_put S i a b d f) := by
  by_cases c_1 : x_pr_has S i a = 0
  · -- yes
    have hf : x_pr_put S i a b d f = S := by unfold x_pr_put; rw [if_pos c_1]
    rw [hf]
    exact hI
  · -- no
    have h_2 : vp_in a 14 := by obtain ⟨f_c_1_0, f_c_1_1⟩ := xF_pr_has c_1; have b1 : 0 ≤ (q_i (S 5 i 3)).toInt ∧ (q_i (S 5 i 3)).toInt ≤ 14 := hI 5 i 3; simp only [vp_in_iff, Int32.lt_iff_toInt_lt, Int32.le_iff_toInt_le, q_n0, q_n1, q_n2, q_n3, q_n4, q_n5, q_n6, q_n7, q_n10, q_n14, q_n15, q_n20, q_n60, q_n1288] at f_c_1_0 f_c_1_1 ⊢; omega
    have h_3 : vp_in a 14 := by obtain ⟨f_c_1_0, f_c_1_1⟩ := xF_pr_has c_1; have b1 : 0 ≤ (q_i (S 5 i 3)).toInt ∧ (q_i (S 5 i 3)).toInt ≤ 14 := hI 5 i 3; simp only [vp_in_iff, Int32.lt_iff_toInt_lt, Int32.le_iff_toInt_le, q_n0, q_n1, q_n2, q_n3, q_n4, q_n5, q_n6, q_n7, q_n10, q_n14, q_n15, q_n20, q_n60, q_n1288] at f_c_1_0 f_c_1_1 ⊢; omega
    have h_4 : vp_in a 14 := by obtain ⟨f_c_1_0, f_c_1_1⟩ := xF_pr_has c_1; have b1 : 0 ≤ (q_i (S 5 i 3)).toInt ∧ (q_i (S 5 i 3)).toInt ≤ 14 := hI 5 i 3; simp only [vp_in_iff, Int32.lt_iff_toInt_lt, Int32.le_iff_toInt_le, q_n0, q_n1, q_n2, q_n3, q_n4, q_n5, q_n6, q_n7, q_n10, q_n14, q_n15, q_n20, q_n60, q_n1288] at f_c_1_0 f_c_1_1 ⊢; omega
    have hf : x_pr_put S i a b d f = q_st (q_st (q_st S 6 i a.toNatClampNeg (.int b)) 7 i a.toNatClampNeg (.int d)) 8 i a.toNatClampNeg (.int f) := by unfold x_pr_put; rw [if_neg c_1]
    rw [hf]
    exact (q_Is (q_Is (q_Is hI rfl) rfl) rfl)
set_option maxRecDepth 100000 in
set_option maxHeartbeats 4000000 in
theorem xK_pr_put (S : q_S) (i : Nat) (a b d f : Int32) (x y z : Nat) (h6 : x ≠ 6) (h7 : x ≠ 7) (h8 : x ≠ 8) : (x_pr_put S i a b d f) x y z = S x y z := by
  by_cases c_1 : x_pr_has S i a = 0
  · -- yes
    have hf : x_pr_put S i a b d f = S := by unfold x_pr_put; rw [if_pos c_1]
    rw [hf]
  · -- no
    have hf : x_pr_put S i a b d f = q_st (q_st (q_st S 6 i a.toNatClampNeg (.int b)) 7 i a.toNatClampNeg (.int d)) 8 i a.toNatClampNeg (.int f) := by unfold x_pr_put; rw [if_neg c_1]
    rw [hf]
    exact (q_kj h8).trans ((q_kj h7).trans ((q_kj h6)))
def x_pr_opAt (S : q_S) (i : Nat) (a : Int32) : Int32 :=
  if x_pr_has S i a = 0 then
    10
  else
    q_i (S 6 i a.toNatClampNeg)
set_option maxRecDepth 100000 in
set_option maxHeartbeats 4000000 in
theorem xC_pr_opAt (l : Launch) (G : q_G) (S : q_S) (i : Nat) (a : Int32) (hi : i < 3) (hI : xI S) : q_Mi xX G l xy_pr_opAt (q_ws (q_gw lw_tbl) xy_pr_opAt xb_pr_opAt 2 (some .int)) (q_rm 1) [.ref (q_a xX G 5 i), .int a] S (x_pr_opAt S i a) S := by
  refine q_met (cc := xb_pr_opAt) (maxL := 2) (ret := (some .int)) xOk (by decide) rfl (Nat.le_of_ble_eq_true rfl) ?_
  intro p e s m below meth c ls hC hr hlocks hW hS hl
  have hx := hC.1.1
  have hb := hC.1.2.1
  have hl : lv_has ls 2 [(0, .ref (q_a xX G 5 i)), (1, .int a)] := hl
  refine lv_aload_n hx hb xd_pr_opAt_0 rfl (lv_at hl 0 rfl) ?_
  refine lv_iload_n hx hb xd_pr_opAt_1 rfl (lv_at hl 1 rfl) ?_
  refine q_calli hC hS (fun _ h => h) (q_runV (rest := []) hC hW (xC_pr_has l G S i a hi) (xc_pr_25 (q_rm 0) hC.1.2.2.2.2 ⟨Nat.le_of_ble_eq_true rfl, Nat.le_of_ble_eq_true rfl⟩ rfl rfl) hi rfl rfl rfl hl.1 rfl (Nat.le_of_ble_eq_true rfl) xd_pr_opAt_2 ⟨Nat.zero_le _, Nat.zero_le _⟩) (fun H locs hW hS => ?_)
  refine lv_if_eq (tgt := 17) hx hb xd_pr_opAt_5 (by decide) (fun c_1 => ?_) (fun c_1 => ?_)
  · -- taken
    refine lv_bipush (v := 10) hx hb xd_pr_opAt_17 (by decide) ?_
    have hf : x_pr_opAt S i a = 10 := by unfold x_pr_opAt; rw [if_pos c_1]
    rw [hf]
    exact q_iret hC hr hlocks hW hS rfl rfl xd_pr_opAt_19
  · -- not taken
    refine lv_aload_n hx hb xd_pr_opAt_8 rfl (lv_at hl 0 rfl) ?_
    refine xg_pr_9 hC hW i hi xd_pr_opAt_9 ?_
    refine lv_iload_n hx hb xd_pr_opAt_12 rfl (lv_at hl 1 rfl) ?_
    have h_2 : vp_in a 14 := by obtain ⟨f_c_1_0, f_c_1_1⟩ := xF_pr_has c_1; have b1 : 0 ≤ (q_i (S 5 i 3)).toInt ∧ (q_i (S 5 i 3)).toInt ≤ 14 := hI 5 i 3; simp only [vp_in_iff, Int32.lt_iff_toInt_lt, Int32.le_iff_toInt_le, q_n0, q_n1, q_n2, q_n3, q_n4, q_n5, q_n6, q_n7, q_n10, q_n14, q_n15, q_n20, q_n60, q_n1288] at f_c_1_0 f_c_1_1 ⊢; omega
    refine xal_6 hC hW i hi h_2 (rfl) xd_pr_opAt_13 ?_
    refine lv_goto (tgt := 19) hx hb xd_pr_opAt_14 (by decide) ?_
    have hf : x_pr_opAt S i a = q_i (S 6 i a.toNatClampNeg) := by unfold x_pr_opAt; rw [if_neg c_1]
    rw [hf]
    exact q_iret hC hr hlocks hW hS rfl rfl xd_pr_opAt_19
def x_pr_firstAt (S : q_S) (i : Nat) (a : Int32) : Int32 :=
  if x_pr_has S i a = 0 then
    0
  else
    q_i (S 7 i a.toNatClampNeg)
set_option maxRecDepth 100000 in
set_option maxHeartbeats 4000000 in
theorem xC_pr_firstAt (l : Launch) (G : q_G) (S : q_S) (i : Nat) (a : Int32) (hi : i < 3) (hI : xI S) : q_Mi xX G l xy_pr_firstAt (q_ws (q_gw lw_tbl) xy_pr_firstAt xb_pr_firstAt 2 (some .int)) (q_rm 1) [.ref (q_a xX G 5 i), .int a] S (x_pr_firstAt S i a) S := by
  refine q_met (cc := xb_pr_firstAt) (maxL := 2) (ret := (some .int)) xOk (by decide) rfl (Nat.le_of_ble_eq_true rfl) ?_
  intro p e s m below meth c ls hC hr hlocks hW hS hl
  have hx := hC.1.1
  have hb := hC.1.2.1
  have hl : lv_has ls 2 [(0, .ref (q_a xX G 5 i)), (1, .int a)] := hl
  refine lv_aload_n hx hb xd_pr_firstAt_0 rfl (lv_at hl 0 rfl) ?_
  refine lv_iload_n hx hb xd_pr_firstAt_1 rfl (lv_at hl 1 rfl) ?_
  refine q_calli hC hS (fun _ h => h) (q_runV (rest := []) hC hW (xC_pr_has l G S i a hi) (xc_pr_25 (q_rm 0) hC.1.2.2.2.2 ⟨Nat.le_of_ble_eq_true rfl, Nat.le_of_ble_eq_true rfl⟩ rfl rfl) hi rfl rfl rfl hl.1 rfl (Nat.le_of_ble_eq_true rfl) xd_pr_firstAt_2 ⟨Nat.zero_le _, Nat.zero_le _⟩) (fun H locs hW hS => ?_)
  refine lv_if_eq (tgt := 17) hx hb xd_pr_firstAt_5 (by decide) (fun c_1 => ?_) (fun c_1 => ?_)
  · -- taken
    refine lv_iconst (v := 0) hx hb xd_pr_firstAt_17 (by decide) ?_
    have hf : x_pr_firstAt S i a = 0 := by unfold x_pr_firstAt; rw [if_pos c_1]
    rw [hf]
    exact q_iret hC hr hlocks hW hS rfl rfl xd_pr_firstAt_18
  · -- not taken
    refine lv_aload_n hx hb xd_pr_firstAt_8 rfl (lv_at hl 0 rfl) ?_
    refine xg_pr_15 hC hW i hi xd_pr_firstAt_9 ?_
    refine lv_iload_n hx hb xd_pr_firstAt_12 rfl (lv_at hl 1 rfl) ?_
    have h_2 : vp_in a 14 := by obtain ⟨f_c_1_0, f_c_1_1⟩ := xF_pr_has c_1; have b1 : 0 ≤ (q_i (S 5 i 3)).toInt ∧ (q_i (S 5 i 3)).toInt ≤ 14 := hI 5 i 3; simp only [vp_in_iff, Int32.lt_iff_toInt_lt, Int32.le_iff_toInt_le, q_n0, q_n1, q_n2, q_n3, q_n4, q_n5, q_n6, q_n7, q_n10, q_n14, q_n15, q_n20, q_n60, q_n1288] at f_c_1_0 f_c_1_1 ⊢; omega
    refine xal_7 hC hW i hi h_2 (rfl) xd_pr_firstAt_13 ?_
    refine lv_goto (tgt := 18) hx hb xd_pr_firstAt_14 (by decide) ?_
    have hf : x_pr_firstAt S i a = q_i (S 7 i a.toNatClampNeg) := by unfold x_pr_firstAt; rw [if_neg c_1]
    rw [hf]
    exact q_iret hC hr hlocks hW hS rfl rfl xd_pr_firstAt_18
def x_pr_secondAt (S : q_S) (i : Nat) (a : Int32) : Int32 :=
  if x_pr_has S i a = 0 then
    0
  else
    q_i (S 8 i a.toNatClampNeg)
set_option maxRecDepth 100000 in
set_option maxHeartbeats 4000000 in
theorem xC_pr_secondAt (l : Launch) (G : q_G) (S : q_S) (i : Nat) (a : Int32) (hi : i < 3) (hI : xI S) : q_Mi xX G l xy_pr_secondAt (q_ws (q_gw lw_tbl) xy_pr_secondAt xb_pr_secondAt 2 (some .int)) (q_rm 1) [.ref (q_a xX G 5 i), .int a] S (x_pr_secondAt S i a) S := by
  refine q_met (cc := xb_pr_secondAt) (maxL := 2) (ret := (some .int)) xOk (by decide) rfl (Nat.le_of_ble_eq_true rfl) ?_
  intro p e s m below meth c ls hC hr hlocks hW hS hl
  have hx := hC.1.1
  have hb := hC.1.2.1
  have hl : lv_has ls 2 [(0, .ref (q_a xX G 5 i)), (1, .int a)] := hl
  refine lv_aload_n hx hb xd_pr_secondAt_0 rfl (lv_at hl 0 rfl) ?_
  refine lv_iload_n hx hb xd_pr_secondAt_1 rfl (lv_at hl 1 rfl) ?_
  refine q_calli hC hS (fun _ h => h) (q_runV (rest := []) hC hW (xC_pr_has l G S i a hi) (xc_pr_25 (q_rm 0) hC.1.2.2.2.2 ⟨Nat.le_of_ble_eq_true rfl, Nat.le_of_ble_eq_true rfl⟩ rfl rfl) hi rfl rfl rfl hl.1 rfl (Nat.le_of_ble_eq_true rfl) xd_pr_secondAt_2 ⟨Nat.zero_le _, Nat.zero_le _⟩) (fun H locs hW hS => ?_)
  refine lv_if_eq (tgt := 17) hx hb xd_pr_secondAt_5 (by decide) (fun c_1 => ?_) (fun c_1 => ?_)
  · -- taken
    refine lv_iconst (v := 0) hx hb xd_pr_secondAt_17 (by decide) ?_
    have hf : x_pr_secondAt S i a = 0 := by unfold x_pr_secondAt; rw [if_pos c_1]
    rw [hf]
    exact q_iret hC hr hlocks hW hS rfl rfl xd_pr_secondAt_18
  · -- not taken
    refine lv_aload_n hx hb xd_pr_secondAt_8 rfl (lv_at hl 0 rfl) ?_
    refine xg_pr_18 hC hW i hi xd_pr_secondAt_9 ?_
    refine lv_iload_n hx hb xd_pr_secondAt_12 rfl (lv_at hl 1 rfl) ?_
    have h_2 : vp_in a 14 := by obtain ⟨f_c_1_0, f_c_1_1⟩ := xF_pr_has c_1; have b1 : 0 ≤ (q_i (S 5 i 3)).toInt ∧ (q_i (S 5 i 3)).toInt ≤ 14 := hI 5 i 3; simp only [vp_in_iff, Int32.lt_iff_toInt_lt, Int32.le_iff_toInt_le, q_n0, q_n1, q_n2, q_n3, q_n4, q_n5, q_n6, q_n7, q_n10, q_n14, q_n15, q_n20, q_n60, q_n1288] at f_c_1_0 f_c_1_1 ⊢; omega
    refine xal_8 hC hW i hi h_2 (rfl) xd_pr_secondAt_13 ?_
    refine lv_goto (tgt := 18) hx hb xd_pr_secondAt_14 (by decide) ?_
    have hf : x_pr_secondAt S i a = q_i (S 8 i a.toNatClampNeg) := by unfold x_pr_secondAt; rw [if_neg c_1]
    rw [hf]
    exact q_iret hC hr hlocks hW hS rfl rfl xd_pr_secondAt_18
def x_ke_keep (S : q_S) (i : Nat) (a b : Int32) : q_S :=
  if x_ke_isFull S i = 0 then
    q_st (q_st (q_st S 16 i ((q_i (S 15 i 2)).toNatClampNeg) (.int a)) 17 i ((q_i (S 15 i 2)).toNatClampNeg) (.int b)) 15 i 2 (.int ((q_i (S 15 i 2)) + 1))
  else
    S
set_option maxRecDepth 100000 in
set_option maxHeartbeats 4000000 in
theorem xC_ke_keep (l : Launch) (G : q_G) (S : q_S) (i : Nat) (a b : Int32) (hi : i < 6) (hI : xI S) : q_Mv xX G l xy_ke_keep (q_ws (q_gw lw_tbl) xy_ke_keep xb_ke_keep 3 none) (q_rm 1) [.ref (q_a xX G 15 i), .int a, .int b] S (x_ke_keep S i a b) := by
  refine q_met (cc := xb_ke_keep) (maxL := 3) (ret := none) xOk (by decide) rfl (Nat.le_of_ble_eq_true rfl) ?_
  intro p e s m below meth c ls hC hr hlocks hW hS hl
  have hx := hC.1.1
  have hb := hC.1.2.1
  have hl : lv_has ls 3 [(0, .ref (q_a xX G 15 i)), (1, .int a), (2, .int b)] := hl
  refine lv_aload_n hx hb xd_ke_keep_0 rfl (lv_at hl 0 rfl) ?_
  refine q_calli hC hS (fun _ h => h) (q_runV (rest := []) hC hW (xC_ke_isFull l G S i hi) (xc_ke_22 (q_rm 0) hC.1.2.2.2.2 ⟨Nat.le_of_ble_eq_true rfl, Nat.le_of_ble_eq_true rfl⟩ rfl rfl) hi rfl rfl rfl hl.1 rfl (Nat.le_of_ble_eq_true rfl) xd_ke_keep_1 ⟨Nat.zero_le _, Nat.zero_le _⟩) (fun H locs hW hS => ?_)
  refine lv_if_ne (tgt := 37) hx hb xd_ke_keep_4 (by decide) (fun c_1 => ?_) (fun c_1 => ?_)
  · -- taken
    have hf : x_ke_keep S i a b = S := by unfold x_ke_keep; rw [if_neg c_1]
    rw [hf]
    exact q_vret hC hr hlocks hW hS rfl xd_ke_keep_37
  · -- not taken
    refine lv_aload_n hx hb xd_ke_keep_7 rfl (lv_at hl 0 rfl) ?_
    refine xg_ke_9 hC hW i hi xd_ke_keep_8 ?_
    refine lv_aload_n hx hb xd_ke_keep_11 rfl (lv_at hl 0 rfl) ?_
    refine xg_ke_18 hC hW i hi (rfl) xd_ke_keep_12 ?_
    refine lv_iload_n hx hb xd_ke_keep_15 rfl (lv_at hl 1 rfl) ?_
    have h_2 : vp_in (q_i (S 15 i 2)) 4 := by have f_c_1_0 := xF_ke_isFull c_1; have b1 : 0 ≤ (q_i (S 15 i 2)).toInt ∧ (q_i (S 15 i 2)).toInt ≤ 4 := hI 15 i 2; simp only [vp_in_iff, Int32.lt_iff_toInt_lt, Int32.le_iff_toInt_le, q_n0, q_n1, q_n2, q_n3, q_n4, q_n5, q_n6, q_n7, q_n10, q_n14, q_n15, q_n20, q_n60, q_n1288] at f_c_1_0 ⊢; omega
    refine xas_16 hC hW hS (fun _ h => h) i hi h_2 xd_ke_keep_16 (fun H locs hW hS => ?_)
    refine lv_aload_n hx hb xd_ke_keep_17 rfl (lv_at hl 0 rfl) ?_
    refine xg_ke_15 hC hW i hi xd_ke_keep_18 ?_
    refine lv_aload_n hx hb xd_ke_keep_21 rfl (lv_at hl 0 rfl) ?_
    refine xg_ke_18 hC hW i hi (q_sj (by decide) (rfl)) xd_ke_keep_22 ?_
    refine lv_iload_n hx hb xd_ke_keep_25 rfl (lv_at hl 2 rfl) ?_
    have h_3 : vp_in (q_i (S 15 i 2)) 4 := by have f_c_1_0 := xF_ke_isFull c_1; have b1 : 0 ≤ (q_i (S 15 i 2)).toInt ∧ (q_i (S 15 i 2)).toInt ≤ 4 := hI 15 i 2; simp only [vp_in_iff, Int32.lt_iff_toInt_lt, Int32.le_iff_toInt_le, q_n0, q_n1, q_n2, q_n3, q_n4, q_n5, q_n6, q_n7, q_n10, q_n14, q_n15, q_n20, q_n60, q_n1288] at f_c_1_0 ⊢; omega
    refine xas_17 hC hW hS (fun _ h => h) i hi h_3 xd_ke_keep_26 (fun H locs hW hS => ?_)
    refine lv_aload_n hx hb xd_ke_keep_27 rfl (lv_at hl 0 rfl) ?_
    refine lv_dup hx hb xd_ke_keep_28 rfl ?_
    refine W.eq (g2 := F0 m 29 ls [.ref (q_a xX G 15 i), .ref (q_a xX G 15 i)]) rfl ?_
    refine xg_ke_18 hC hW i hi (q_sj (by decide) (q_sj (by decide) (rfl))) xd_ke_keep_29 ?_
    refine lv_iconst (v := 1) hx hb xd_ke_keep_32 (by decide) ?_
    refine lv_iadd hx hb xd_ke_keep_33 ?_
    refine xg_ke_18p hC hW hS (fun _ h => h) i hi xd_ke_keep_34 (fun H locs hW hS => ?_)
    have hf : x_ke_keep S i a b = q_st (q_st (q_st S 16 i ((q_i (S 15 i 2)).toNatClampNeg) (.int a)) 17 i ((q_i (S 15 i 2)).toNatClampNeg) (.int b)) 15 i 2 (.int ((q_i (S 15 i 2)) + 1)) := by unfold x_ke_keep; rw [if_pos c_1]
    rw [hf]
    exact q_vret hC hr hlocks hW hS rfl xd_ke_keep_37
set_option maxRecDepth 100000 in
set_option maxHeartbeats 4000000 in
theorem xI_ke_keep (S : q_S) (i : Nat) (a b : Int32) (hi : i < 6) (hI : xI S) : xI (x_ke_keep S i a b) := by
  by_cases c_1 : x_ke_isFull S i = 0
  · -- yes
    have h_2 : vp_in (q_i (S 15 i 2)) 4 := by have f_c_1_0 := xF_ke_isFull c_1; have b1 : 0 ≤ (q_i (S 15 i 2)).toInt ∧ (q_i (S 15 i 2)).toInt ≤ 4 := hI 15 i 2; simp only [vp_in_iff, Int32.lt_iff_toInt_lt, Int32.le_iff_toInt_le, q_n0, q_n1, q_n2, q_n3, q_n4, q_n5, q_n6, q_n7, q_n10, q_n14, q_n15, q_n20, q_n60, q_n1288] at f_c_1_0 ⊢; omega
    have h_3 : vp_in (q_i (S 15 i 2)) 4 := by have f_c_1_0 := xF_ke_isFull c_1; have b1 : 0 ≤ (q_i (S 15 i 2)).toInt ∧ (q_i (S 15 i 2)).toInt ≤ 4 := hI 15 i 2; simp only [vp_in_iff, Int32.lt_iff_toInt_lt, Int32.le_iff_toInt_le, q_n0, q_n1, q_n2, q_n3, q_n4, q_n5, q_n6, q_n7, q_n10, q_n14, q_n15, q_n20, q_n60, q_n1288] at f_c_1_0 ⊢; omega
    have hf : x_ke_keep S i a b = q_st (q_st (q_st S 16 i ((q_i (S 15 i 2)).toNatClampNeg) (.int a)) 17 i ((q_i (S 15 i 2)).toNatClampNeg) (.int b)) 15 i 2 (.int ((q_i (S 15 i 2)) + 1)) := by unfold x_ke_keep; rw [if_pos c_1]
    rw [hf]
    exact (xI_st (q_Is (q_Is hI rfl) rfl) (by have f_c_1_0 := xF_ke_isFull c_1; have b1 : 0 ≤ (q_i (S 15 i 2)).toInt ∧ (q_i (S 15 i 2)).toInt ≤ 4 := hI 15 i 2; have d_1 := q_inc (x := (q_i (S 15 i 2))) (by omega); simp only [Int32.lt_iff_toInt_lt, Int32.le_iff_toInt_le, q_n0, q_n1, q_n2, q_n3, q_n4, q_n5, q_n6, q_n7, q_n10, q_n14, q_n15, q_n20, q_n60, q_n1288] at f_c_1_0; show 0 ≤ ((q_i (S 15 i 2)) + 1).toInt ∧ ((q_i (S 15 i 2)) + 1).toInt ≤ 4; rw [q_inc (by omega)]; omega))
  · -- no
    have hf : x_ke_keep S i a b = S := by unfold x_ke_keep; rw [if_neg c_1]
    rw [hf]
    exact hI
set_option maxRecDepth 100000 in
set_option maxHeartbeats 4000000 in
theorem xK_ke_keep (S : q_S) (i : Nat) (a b : Int32) (x y z : Nat) (h15 : x ≠ 15) (h16 : x ≠ 16) (h17 : x ≠ 17) : (x_ke_keep S i a b) x y z = S x y z := by
  by_cases c_1 : x_ke_isFull S i = 0
  · -- yes
    have hf : x_ke_keep S i a b = q_st (q_st (q_st S 16 i ((q_i (S 15 i 2)).toNatClampNeg) (.int a)) 17 i ((q_i (S 15 i 2)).toNatClampNeg) (.int b)) 15 i 2 (.int ((q_i (S 15 i 2)) + 1)) := by unfold x_ke_keep; rw [if_pos c_1]
    rw [hf]
    exact (q_kj h15).trans ((q_kj h17).trans ((q_kj h16)))
  · -- no
    have hf : x_ke_keep S i a b = S := by unfold x_ke_keep; rw [if_neg c_1]
    rw [hf]
def x_ta_renew (S : q_S) (i : Nat) (a : Int32) : q_S :=
  q_st (q_st (q_st (q_st (q_st S 21 i 0 (.int a)) 21 i 1 (.int 0)) 21 i 2 (.int 0)) 21 i 3 (.int 0)) 21 i 4 (.int 0)
set_option maxRecDepth 100000 in
set_option maxHeartbeats 4000000 in
theorem xC_ta_renew (l : Launch) (G : q_G) (S : q_S) (i : Nat) (a : Int32) (hi : i < 6) (hI : xI S) : q_Mv xX G l xy_ta_renew (q_ws (q_gw lw_tbl) xy_ta_renew xb_ta_renew 2 none) (q_rm 0) [.ref (q_a xX G 21 i), .int a] S (x_ta_renew S i a) := by
  refine q_met (cc := xb_ta_renew) (maxL := 2) (ret := none) xOk (by decide) rfl (Nat.le_of_ble_eq_true rfl) ?_
  intro p e s m below meth c ls hC hr hlocks hW hS hl
  have hx := hC.1.1
  have hb := hC.1.2.1
  have hl : lv_has ls 2 [(0, .ref (q_a xX G 21 i)), (1, .int a)] := hl
  refine lv_aload_n hx hb xd_ta_renew_0 rfl (lv_at hl 0 rfl) ?_
  refine lv_iload_n hx hb xd_ta_renew_1 rfl (lv_at hl 1 rfl) ?_
  refine xg_ta_9p hC hW hS (fun _ h => h) i hi xd_ta_renew_2 (fun H locs hW hS => ?_)
  refine lv_aload_n hx hb xd_ta_renew_5 rfl (lv_at hl 0 rfl) ?_
  refine lv_iconst (v := 0) hx hb xd_ta_renew_6 (by decide) ?_
  refine xg_ta_15p hC hW hS (fun _ h => h) i hi xd_ta_renew_7 (fun H locs hW hS => ?_)
  refine lv_aload_n hx hb xd_ta_renew_10 rfl (lv_at hl 0 rfl) ?_
  refine lv_iconst (v := 0) hx hb xd_ta_renew_11 (by decide) ?_
  refine xg_ta_18p hC hW hS (fun _ h => h) i hi rfl rfl xd_ta_renew_12 (fun H locs hW hS => ?_)
  refine lv_aload_n hx hb xd_ta_renew_15 rfl (lv_at hl 0 rfl) ?_
  refine lv_iconst (v := 0) hx hb xd_ta_renew_16 (by decide) ?_
  refine xg_ta_22p hC hW hS (fun _ h => h) i hi xd_ta_renew_17 (fun H locs hW hS => ?_)
  refine lv_aload_n hx hb xd_ta_renew_20 rfl (lv_at hl 0 rfl) ?_
  refine lv_iconst (v := 0) hx hb xd_ta_renew_21 (by decide) ?_
  refine W.eq (g2 := F0 m 22 ls [.int 0, .ref (q_a xX G 21 i)]) rfl ?_
  refine xg_ta_25p hC hW hS (fun _ h => h) i hi xd_ta_renew_22 (fun H locs hW hS => ?_)
  have hf : x_ta_renew S i a = q_st (q_st (q_st (q_st (q_st S 21 i 0 (.int a)) 21 i 1 (.int 0)) 21 i 2 (.int 0)) 21 i 3 (.int 0)) 21 i 4 (.int 0) := by unfold x_ta_renew; rfl
  rw [hf]
  exact q_vret hC hr hlocks hW hS rfl xd_ta_renew_25
set_option maxRecDepth 100000 in
set_option maxHeartbeats 4000000 in
theorem xI_ta_renew (S : q_S) (i : Nat) (a : Int32) (hi : i < 6) (hI : xI S) : xI (x_ta_renew S i a) := by
  have hf : x_ta_renew S i a = q_st (q_st (q_st (q_st (q_st S 21 i 0 (.int a)) 21 i 1 (.int 0)) 21 i 2 (.int 0)) 21 i 3 (.int 0)) 21 i 4 (.int 0) := by unfold x_ta_renew; rfl
  rw [hf]
  exact (q_Is (q_Is (q_Is (q_Is (q_Is hI rfl) rfl) rfl) rfl) rfl)
set_option maxRecDepth 100000 in
set_option maxHeartbeats 4000000 in
theorem xK_ta_renew (S : q_S) (i : Nat) (a : Int32) (x y z : Nat) (h21 : x ≠ 21) : (x_ta_renew S i a) x y z = S x y z := by
  have hf : x_ta_renew S i a = q_st (q_st (q_st (q_st (q_st S 21 i 0 (.int a)) 21 i 1 (.int 0)) 21 i 2 (.int 0)) 21 i 3 (.int 0)) 21 i 4 (.int 0) := by unfold x_ta_renew; rfl
  rw [hf]
  exact (q_kj h21).trans ((q_kj h21).trans ((q_kj h21).trans ((q_kj h21).trans ((q_kj h21)))))
def x_ta_goOut (S : q_S) (i : Nat) (a : Int32) : q_S :=
  q_st (q_st (q_st S 21 i 2 (.int 1)) 21 i 1 (.int ((q_i (S 21 i 1)) + 1))) 21 i 3 (.int a)
set_option maxRecDepth 100000 in
set_option maxHeartbeats 4000000 in
theorem xC_ta_goOut (l : Launch) (G : q_G) (S : q_S) (i : Nat) (a : Int32) (hi : i < 6) (hI : xI S) : q_Mv xX G l xy_ta_goOut (q_ws (q_gw lw_tbl) xy_ta_goOut xb_ta_goOut 2 none) (q_rm 0) [.ref (q_a xX G 21 i), .int a] S (x_ta_goOut S i a) := by
  refine q_met (cc := xb_ta_goOut) (maxL := 2) (ret := none) xOk (by decide) rfl (Nat.le_of_ble_eq_true rfl) ?_
  intro p e s m below meth c ls hC hr hlocks hW hS hl
  have hx := hC.1.1
  have hb := hC.1.2.1
  have hl : lv_has ls 2 [(0, .ref (q_a xX G 21 i)), (1, .int a)] := hl
  refine lv_aload_n hx hb xd_ta_goOut_0 rfl (lv_at hl 0 rfl) ?_
  refine lv_iconst (v := 1) hx hb xd_ta_goOut_1 (by decide) ?_
  refine xg_ta_18p hC hW hS (fun _ h => h) i hi rfl rfl xd_ta_goOut_2 (fun H locs hW hS => ?_)
  refine lv_aload_n hx hb xd_ta_goOut_5 rfl (lv_at hl 0 rfl) ?_
  refine lv_dup hx hb xd_ta_goOut_6 rfl ?_
  refine xg_ta_15 hC hW i hi (q_sk (by decide) (rfl)) xd_ta_goOut_7 ?_
  refine lv_iconst (v := 1) hx hb xd_ta_goOut_10 (by decide) ?_
  refine lv_iadd hx hb xd_ta_goOut_11 ?_
  refine xg_ta_15p hC hW hS (fun _ h => h) i hi xd_ta_goOut_12 (fun H locs hW hS => ?_)
  refine lv_aload_n hx hb xd_ta_goOut_15 rfl (lv_at hl 0 rfl) ?_
  refine lv_iload_n hx hb xd_ta_goOut_16 rfl (lv_at hl 1 rfl) ?_
  refine xg_ta_22p hC hW hS (fun _ h => h) i hi xd_ta_goOut_17 (fun H locs hW hS => ?_)
  have hf : x_ta_goOut S i a = q_st (q_st (q_st S 21 i 2 (.int 1)) 21 i 1 (.int ((q_i (S 21 i 1)) + 1))) 21 i 3 (.int a) := by unfold x_ta_goOut; rfl
  rw [hf]
  exact q_vret hC hr hlocks hW hS rfl xd_ta_goOut_20
set_option maxRecDepth 100000 in
set_option maxHeartbeats 4000000 in
theorem xI_ta_goOut (S : q_S) (i : Nat) (a : Int32) (hi : i < 6) (hI : xI S) : xI (x_ta_goOut S i a) := by
  have hf : x_ta_goOut S i a = q_st (q_st (q_st S 21 i 2 (.int 1)) 21 i 1 (.int ((q_i (S 21 i 1)) + 1))) 21 i 3 (.int a) := by unfold x_ta_goOut; rfl
  rw [hf]
  exact (q_Is (q_Is (q_Is hI rfl) rfl) rfl)
set_option maxRecDepth 100000 in
set_option maxHeartbeats 4000000 in
theorem xK_ta_goOut (S : q_S) (i : Nat) (a : Int32) (x y z : Nat) (h21 : x ≠ 21) : (x_ta_goOut S i a) x y z = S x y z := by
  have hf : x_ta_goOut S i a = q_st (q_st (q_st S 21 i 2 (.int 1)) 21 i 1 (.int ((q_i (S 21 i 1)) + 1))) 21 i 3 (.int a) := by unfold x_ta_goOut; rfl
  rw [hf]
  exact (q_kj h21).trans ((q_kj h21).trans ((q_kj h21)))
def x_ta_comeBack (S : q_S) (i : Nat) (a : Int32) : q_S :=
  q_st (q_st S 21 i 2 (.int 0)) 21 i 4 (.int (a + (1 <<< ((q_i (S 21 i 1)) &&& 31))))
set_option maxRecDepth 100000 in
set_option maxHeartbeats 4000000 in
theorem xC_ta_comeBack (l : Launch) (G : q_G) (S : q_S) (i : Nat) (a : Int32) (hi : i < 6) (hI : xI S) : q_Mv xX G l xy_ta_comeBack (q_ws (q_gw lw_tbl) xy_ta_comeBack xb_ta_comeBack 2 none) (q_rm 0) [.ref (q_a xX G 21 i), .int a] S (x_ta_comeBack S i a) := by
  refine q_met (cc := xb_ta_comeBack) (maxL := 2) (ret := none) xOk (by decide) rfl (Nat.le_of_ble_eq_true rfl) ?_
  intro p e s m below meth c ls hC hr hlocks hW hS hl
  have hx := hC.1.1
  have hb := hC.1.2.1
  have hl : lv_has ls 2 [(0, .ref (q_a xX G 21 i)), (1, .int a)] := hl
  refine lv_aload_n hx hb xd_ta_comeBack_0 rfl (lv_at hl 0 rfl) ?_
  refine lv_iconst (v := 0) hx hb xd_ta_comeBack_1 (by decide) ?_
  refine xg_ta_18p hC hW hS (fun _ h => h) i hi rfl rfl xd_ta_comeBack_2 (fun H locs hW hS => ?_)
  refine lv_aload_n hx hb xd_ta_comeBack_5 rfl (lv_at hl 0 rfl) ?_
  refine lv_iload_n hx hb xd_ta_comeBack_6 rfl (lv_at hl 1 rfl) ?_
  refine lv_iconst (v := 1) hx hb xd_ta_comeBack_7 (by decide) ?_
  refine lv_aload_n hx hb xd_ta_comeBack_8 rfl (lv_at hl 0 rfl) ?_
  refine xg_ta_15 hC hW i hi (q_sk (by decide) (rfl)) xd_ta_comeBack_9 ?_
  refine lv_ishl hx hb xd_ta_comeBack_12 ?_
  refine lv_iadd hx hb xd_ta_comeBack_13 ?_
  refine xg_ta_25p hC hW hS (fun _ h => h) i hi xd_ta_comeBack_14 (fun H locs hW hS => ?_)
  have hf : x_ta_comeBack S i a = q_st (q_st S 21 i 2 (.int 0)) 21 i 4 (.int (a + (1 <<< ((q_i (S 21 i 1)) &&& 31)))) := by unfold x_ta_comeBack; rfl
  rw [hf]
  exact q_vret hC hr hlocks hW hS rfl xd_ta_comeBack_17
set_option maxRecDepth 100000 in
set_option maxHeartbeats 4000000 in
theorem xI_ta_comeBack (S : q_S) (i : Nat) (a : Int32) (hi : i < 6) (hI : xI S) : xI (x_ta_comeBack S i a) := by
  have hf : x_ta_comeBack S i a = q_st (q_st S 21 i 2 (.int 0)) 21 i 4 (.int (a + (1 <<< ((q_i (S 21 i 1)) &&& 31)))) := by unfold x_ta_comeBack; rfl
  rw [hf]
  exact (q_Is (q_Is hI rfl) rfl)
set_option maxRecDepth 100000 in
set_option maxHeartbeats 4000000 in
theorem xK_ta_comeBack (S : q_S) (i : Nat) (a : Int32) (x y z : Nat) (h21 : x ≠ 21) : (x_ta_comeBack S i a) x y z = S x y z := by
  have hf : x_ta_comeBack S i a = q_st (q_st S 21 i 2 (.int 0)) 21 i 4 (.int (a + (1 <<< ((q_i (S 21 i 1)) &&& 31)))) := by unfold x_ta_comeBack; rfl
  rw [hf]
  exact (q_kj h21).trans ((q_kj h21))
def x_tl_append (S : q_S) (a : Int32) : q_S :=
  if 6 ≤ q_i (S 3 0 1) then
    S
  else
    q_st (q_st S 4 0 ((q_i (S 3 0 1)).toNatClampNeg) (.int a)) 3 0 1 (.int ((q_i (S 3 0 1)) + 1))
set_option maxRecDepth 100000 in
set_option maxHeartbeats 4000000 in
theorem xC_tl_append (l : Launch) (G : q_G) (S : q_S) (a : Int32) (hI : xI S) (ha : 0 ≤ a.toInt ∧ a.toInt ≤ 5) : q_Mv xX G l xy_tl_append (q_ws (q_gw lw_tbl) xy_tl_append xb_tl_append 2 none) (q_rm 0) [.ref (q_a xX G 3 0), .int a] S (x_tl_append S a) := by
  refine q_met (cc := xb_tl_append) (maxL := 2) (ret := none) xOk (by decide) rfl (Nat.le_of_ble_eq_true rfl) ?_
  intro p e s m below meth c ls hC hr hlocks hW hS hl
  have hx := hC.1.1
  have hb := hC.1.2.1
  have hl : lv_has ls 2 [(0, .ref (q_a xX G 3 0)), (1, .int a)] := hl
  refine lv_aload_n hx hb xd_tl_append_0 rfl (lv_at hl 0 rfl) ?_
  refine xg_tl_15 hC hW 0 Nat.one_pos (rfl) xd_tl_append_1 ?_
  refine lv_bipush (v := 6) hx hb xd_tl_append_4 (by decide) ?_
  refine lv_icmp_ge (tgt := 29) hx hb xd_tl_append_6 (by decide) (fun c_1 => ?_) (fun c_1 => ?_)
  · -- taken
    have hf : x_tl_append S a = S := by unfold x_tl_append; rw [if_pos c_1]
    rw [hf]
    exact q_vret hC hr hlocks hW hS rfl xd_tl_append_29
  · -- not taken
    refine lv_aload_n hx hb xd_tl_append_9 rfl (lv_at hl 0 rfl) ?_
    refine xg_tl_9 hC hW 0 Nat.one_pos xd_tl_append_10 ?_
    refine lv_aload_n hx hb xd_tl_append_13 rfl (lv_at hl 0 rfl) ?_
    refine xg_tl_15 hC hW 0 Nat.one_pos (rfl) xd_tl_append_14 ?_
    refine lv_iload_n hx hb xd_tl_append_17 rfl (lv_at hl 1 rfl) ?_
    have h_2 : vp_in (q_i (S 3 0 1)) 6 := by have b1 : 0 ≤ (q_i (S 3 0 1)).toInt ∧ (q_i (S 3 0 1)).toInt ≤ 6 := hI 3 0 1; simp only [vp_in_iff, Int32.lt_iff_toInt_lt, Int32.le_iff_toInt_le, q_n0, q_n1, q_n2, q_n3, q_n4, q_n5, q_n6, q_n7, q_n10, q_n14, q_n15, q_n20, q_n60, q_n1288] at c_1 ⊢; omega
    refine xas_4 hC hW hS (fun _ h => h) 0 Nat.one_pos h_2 xd_tl_append_18 (fun H locs hW hS => ?_)
    refine lv_aload_n hx hb xd_tl_append_19 rfl (lv_at hl 0 rfl) ?_
    refine lv_dup hx hb xd_tl_append_20 rfl ?_
    refine xg_tl_15 hC hW 0 Nat.one_pos (q_sj (by decide) (rfl)) xd_tl_append_21 ?_
    refine lv_iconst (v := 1) hx hb xd_tl_append_24 (by decide) ?_
    refine lv_iadd hx hb xd_tl_append_25 ?_
    refine xg_tl_15p hC hW hS (fun _ h => h) 0 Nat.one_pos xd_tl_append_26 (fun H locs hW hS => ?_)
    have hf : x_tl_append S a = q_st (q_st S 4 0 ((q_i (S 3 0 1)).toNatClampNeg) (.int a)) 3 0 1 (.int ((q_i (S 3 0 1)) + 1)) := by unfold x_tl_append; rw [if_neg c_1]
    rw [hf]
    exact q_vret hC hr hlocks hW hS rfl xd_tl_append_29
set_option maxRecDepth 100000 in
set_option maxHeartbeats 4000000 in
theorem xI_tl_append (S : q_S) (a : Int32) (hI : xI S) (ha : 0 ≤ a.toInt ∧ a.toInt ≤ 5) : xI (x_tl_append S a) := by
  by_cases c_1 : 6 ≤ q_i (S 3 0 1)
  · -- yes
    have hf : x_tl_append S a = S := by unfold x_tl_append; rw [if_pos c_1]
    rw [hf]
    exact hI
  · -- no
    have h_2 : vp_in (q_i (S 3 0 1)) 6 := by have b1 : 0 ≤ (q_i (S 3 0 1)).toInt ∧ (q_i (S 3 0 1)).toInt ≤ 6 := hI 3 0 1; simp only [vp_in_iff, Int32.lt_iff_toInt_lt, Int32.le_iff_toInt_le, q_n0, q_n1, q_n2, q_n3, q_n4, q_n5, q_n6, q_n7, q_n10, q_n14, q_n15, q_n20, q_n60, q_n1288] at c_1 ⊢; omega
    have hf : x_tl_append S a = q_st (q_st S 4 0 ((q_i (S 3 0 1)).toNatClampNeg) (.int a)) 3 0 1 (.int ((q_i (S 3 0 1)) + 1)) := by unfold x_tl_append; rw [if_neg c_1]
    rw [hf]
    exact (xI_st (xI_st hI (by exact ha)) (by have b1 : 0 ≤ (q_i (S 3 0 1)).toInt ∧ (q_i (S 3 0 1)).toInt ≤ 6 := hI 3 0 1; have d_1 := q_inc (x := (q_i (S 3 0 1))) (by omega); simp only [Int32.lt_iff_toInt_lt, Int32.le_iff_toInt_le, q_n0, q_n1, q_n2, q_n3, q_n4, q_n5, q_n6, q_n7, q_n10, q_n14, q_n15, q_n20, q_n60, q_n1288] at c_1; show 0 ≤ ((q_i (S 3 0 1)) + 1).toInt ∧ ((q_i (S 3 0 1)) + 1).toInt ≤ 6; rw [q_inc (by omega)]; omega))
set_option maxRecDepth 100000 in
set_option maxHeartbeats 4000000 in
theorem xK_tl_append (S : q_S) (a : Int32) (x y z : Nat) (h3 : x ≠ 3) (h4 : x ≠ 4) : (x_tl_append S a) x y z = S x y z := by
  by_cases c_1 : 6 ≤ q_i (S 3 0 1)
  · -- yes
    have hf : x_tl_append S a = S := by unfold x_tl_append; rw [if_pos c_1]
    rw [hf]
  · -- no
    have hf : x_tl_append S a = q_st (q_st S 4 0 ((q_i (S 3 0 1)).toNatClampNeg) (.int a)) 3 0 1 (.int ((q_i (S 3 0 1)) + 1)) := by unfold x_tl_append; rw [if_neg c_1]
    rw [hf]
    exact (q_kj h3).trans ((q_kj h4))
