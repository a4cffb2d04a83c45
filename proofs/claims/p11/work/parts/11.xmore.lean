theorem xgs_fe_213 {p : Program} {l : Launch} {e : Env} {R : Room} {s : State} {m : MethodId} {args : Array Value} {below : List Frame} {meth : Method} {c : Code} {H : Heap} {locs : List Loc} {cells slots : Nat} {Q : State → Prop} {cc : ByteArray} {pc : Nat} {ls : Array Slot} {rest : List Value} {G : q_G} {S : q_S} {nL : Nat} {w0 : Cond} (hC : q_C xX G p m c cc nL s args (w0 :: q_gw lw_tbl) xR_fe) (hW : q_w xX G s S H) (hdg : decode cc pc = .ok (.getstatic 213, 3)) (kk : ∀ t : Nat, va_T .int t 11 (fun j => .int (xL1 j)) (xAA G) s H → W p l e R s m args below meth c H locs cells slots Q (F0 m (pc + 3) ls (.ref t :: rest))) : W p l e R s m args below meth c H locs cells slots Q (F0 m pc ls rest) := by
  obtain ⟨t, ⟨cf, kf, fi, f, a, cell, h1, h2, h3, h4, h5, h6, h7, h8⟩, hT⟩ := hW.2.1
  exact W.gets hC.1.1 hC.1.2.1 hC.1.2.2.2.1 (hC.1.2.2.2.2 _ (List.mem_cons_of_mem _ (q_mf (w := Cond.fieldLink "FlowEngine" 213 "FlowEngine" "FIRST_LIMITS" "[I") 311 rfl rfl))) h1 h2 h3 h4 h5 (fun e => by rw [e] at h6; cases h6) h7 rfl hdg (kk t hT)
theorem xgs_fe_219 {p : Program} {l : Launch} {e : Env} {R : Room} {s : State} {m : MethodId} {args : Array Value} {below : List Frame} {meth : Method} {c : Code} {H : Heap} {locs : List Loc} {cells slots : Nat} {Q : State → Prop} {cc : ByteArray} {pc : Nat} {ls : Array Slot} {rest : List Value} {G : q_G} {S : q_S} {nL : Nat} {w0 : Cond} (hC : q_C xX G p m c cc nL s args (w0 :: q_gw lw_tbl) xR_fe) (hW : q_w xX G s S H) (hdg : decode cc pc = .ok (.getstatic 219, 3)) (kk : ∀ t : Nat, va_T .int t 11 (fun j => .int (xL2 j)) (xAA G) s H → W p l e R s m args below meth c H locs cells slots Q (F0 m (pc + 3) ls (.ref t :: rest))) : W p l e R s m args below meth c H locs cells slots Q (F0 m pc ls rest) := by
  obtain ⟨t, ⟨cf, kf, fi, f, a, cell, h1, h2, h3, h4, h5, h6, h7, h8⟩, hT⟩ := hW.2.2
  exact W.gets hC.1.1 hC.1.2.1 hC.1.2.2.2.1 (hC.1.2.2.2.2 _ (List.mem_cons_of_mem _ (q_mf (w := Cond.fieldLink "FlowEngine" 219 "FlowEngine" "SECOND_LIMITS" "[I") 316 rfl rfl))) h1 h2 h3 h4 h5 (fun e => by rw [e] at h6; cases h6) h7 rfl hdg (kk t hT)
theorem xsl {p : Program} {l : Launch} {e : Env} {R : Room} {s : State} {m : MethodId} {args : Array Value} {below : List Frame} {meth : Method} {c : Code} {H : Heap} {locs : List Loc} {cells slots : Nat} {Q : State → Prop} {cc : ByteArray} {pc : Nat} {ls : Array Slot} {rest : List Value} {G : q_G} {nL : Nat} {Ts : List Cond} {own : String} {t : Nat} {f : Nat → Int32} (hC : q_C xX G p m c cc nL s args Ts own) (hT : va_T .int t 11 (fun j => .int (f j)) (xAA G) s H) {i : Int32} (hin : vp_in i 11) (hdg : decode cc pc = .ok (.iaload, 1)) (kk : W p l e R s m args below meth c H locs cells slots Q (F0 m (pc + 1) ls (.int (f i.toNatClampNeg) :: rest))) : W p l e R s m args below meth c H locs cells slots Q (F0 m pc ls (.int i :: .ref t :: rest)) := by
  obtain ⟨cell, h1, h2, h3, h4, h5, h6, h7⟩ := hT
  exact W.iald (v := .int (f i.toNatClampNeg)) hC.1.1 hC.1.2.1 h1 h2 h3 (fun q => hin (q.imp id (fun z => Nat.le_trans h4 z))) (h6 _ (q_lt hin)) rfl rfl hdg kk
def x_fe_isProgram (S : q_S) (a : Int32) : Int32 :=
  if a < 0 then
    0
  else
    if 3 ≤ a then
      0
    else
      1
set_option maxRecDepth 100000 in
set_option maxHeartbeats 4000000 in
theorem xC_fe_isProgram (l : Launch) (G : q_G) (S : q_S) (a : Int32)  : q_Mi xX G l xy_fe_isProgram (q_ws (q_gw lw_tbl) xy_fe_isProgram xb_fe_isProgram 1 (some .boolean)) (q_rm 0) [.int a] S (x_fe_isProgram S a) S := by
  refine q_met (cc := xb_fe_isProgram) (maxL := 1) (ret := (some .boolean)) xOk (by decide) rfl (Nat.le_of_ble_eq_true rfl) ?_
  intro p e s m below meth c ls hC hr hlocks hW hS hl
  have hx := hC.1.1
  have hb := hC.1.2.1
  have hl : lv_has ls 1 [(0, .int a)] := hl
  refine lv_iload_n hx hb xd_fe_isProgram_0 rfl (lv_at hl 0 rfl) ?_
  refine lv_if_lt (tgt := 13) hx hb xd_fe_isProgram_1 (by decide) (fun c_1 => ?_) (fun c_1 => ?_)
  · -- taken
    refine lv_iconst (v := 0) hx hb xd_fe_isProgram_13 (by decide) ?_
    have hf : x_fe_isProgram S a = 0 := by unfold x_fe_isProgram; rw [if_pos c_1]
    rw [hf]
    exact q_zret hC hr hlocks hW hS (by decide) rfl rfl xd_fe_isProgram_14
  · -- not taken
    refine lv_iload_n hx hb xd_fe_isProgram_4 rfl (lv_at hl 0 rfl) ?_
    refine lv_iconst (v := 3) hx hb xd_fe_isProgram_5 (by decide) ?_
    refine lv_icmp_ge (tgt := 13) hx hb xd_fe_isProgram_6 (by decide) (fun c_2 => ?_) (fun c_2 => ?_)
    · -- taken
      refine lv_iconst (v := 0) hx hb xd_fe_isProgram_13 (by decide) ?_
      have hf : x_fe_isProgram S a = 0 := by unfold x_fe_isProgram; rw [if_neg c_1, if_pos c_2]
      rw [hf]
      exact q_zret hC hr hlocks hW hS (by decide) rfl rfl xd_fe_isProgram_14
    · -- not taken
      refine lv_iconst (v := 1) hx hb xd_fe_isProgram_9 (by decide) ?_
      refine lv_goto (tgt := 14) hx hb xd_fe_isProgram_10 (by decide) ?_
      have hf : x_fe_isProgram S a = 1 := by unfold x_fe_isProgram; rw [if_neg c_1, if_neg c_2]
      rw [hf]
      exact q_zret hC hr hlocks hW hS (by decide) rfl rfl xd_fe_isProgram_14
def x_fe_isWithin (S : q_S) (a b : Int32) : Int32 :=
  if b = 0 then
    1
  else
    if a < 0 then
      0
    else
      if b ≤ a then
        0
      else
        1
set_option maxRecDepth 100000 in
set_option maxHeartbeats 4000000 in
theorem xC_fe_isWithin (l : Launch) (G : q_G) (S : q_S) (a b : Int32)  : q_Mi xX G l xy_fe_isWithin (q_ws (q_gw lw_tbl) xy_fe_isWithin xb_fe_isWithin 2 (some .boolean)) (q_rm 0) [.int a, .int b] S (x_fe_isWithin S a b) S := by
  refine q_met (cc := xb_fe_isWithin) (maxL := 2) (ret := (some .boolean)) xOk (by decide) rfl (Nat.le_of_ble_eq_true rfl) ?_
  intro p e s m below meth c ls hC hr hlocks hW hS hl
  have hx := hC.1.1
  have hb := hC.1.2.1
  have hl : lv_has ls 2 [(0, .int a), (1, .int b)] := hl
  refine lv_iload_n hx hb xd_fe_isWithin_0 rfl (lv_at hl 1 rfl) ?_
  refine lv_if_eq (tgt := 13) hx hb xd_fe_isWithin_1 (by decide) (fun c_1 => ?_) (fun c_1 => ?_)
  · -- taken
    refine lv_iconst (v := 1) hx hb xd_fe_isWithin_13 (by decide) ?_
    refine lv_goto (tgt := 18) hx hb xd_fe_isWithin_14 (by decide) ?_
    have hf : x_fe_isWithin S a b = 1 := by unfold x_fe_isWithin; rw [if_pos c_1]
    rw [hf]
    exact q_zret hC hr hlocks hW hS (by decide) rfl rfl xd_fe_isWithin_18
  · -- not taken
    refine lv_iload_n hx hb xd_fe_isWithin_4 rfl (lv_at hl 0 rfl) ?_
    refine lv_if_lt (tgt := 17) hx hb xd_fe_isWithin_5 (by decide) (fun c_2 => ?_) (fun c_2 => ?_)
    · -- taken
      refine lv_iconst (v := 0) hx hb xd_fe_isWithin_17 (by decide) ?_
      have hf : x_fe_isWithin S a b = 0 := by unfold x_fe_isWithin; rw [if_neg c_1, if_pos c_2]
      rw [hf]
      exact q_zret hC hr hlocks hW hS (by decide) rfl rfl xd_fe_isWithin_18
    · -- not taken
      refine lv_iload_n hx hb xd_fe_isWithin_8 rfl (lv_at hl 0 rfl) ?_
      refine lv_iload_n hx hb xd_fe_isWithin_9 rfl (lv_at hl 1 rfl) ?_
      refine lv_icmp_ge (tgt := 17) hx hb xd_fe_isWithin_10 (by decide) (fun c_3 => ?_) (fun c_3 => ?_)
      · -- taken
        refine lv_iconst (v := 0) hx hb xd_fe_isWithin_17 (by decide) ?_
        have hf : x_fe_isWithin S a b = 0 := by unfold x_fe_isWithin; rw [if_neg c_1, if_neg c_2, if_pos c_3]
        rw [hf]
        exact q_zret hC hr hlocks hW hS (by decide) rfl rfl xd_fe_isWithin_18
      · -- not taken
        refine lv_iconst (v := 1) hx hb xd_fe_isWithin_13 (by decide) ?_
        refine lv_goto (tgt := 18) hx hb xd_fe_isWithin_14 (by decide) ?_
        have hf : x_fe_isWithin S a b = 1 := by unfold x_fe_isWithin; rw [if_neg c_1, if_neg c_2, if_neg c_3]
        rw [hf]
        exact q_zret hC hr hlocks hW hS (by decide) rfl rfl xd_fe_isWithin_18
def x_fe_isInstruction (S : q_S) (a b d : Int32) : Int32 :=
  if a < 0 then
    0
  else
    if 10 < a then
      0
    else
      if x_fe_isWithin S b (xL1 a.toNatClampNeg) = 0 then
        0
      else
        if x_fe_isWithin S d (xL2 a.toNatClampNeg) = 0 then
          0
        else
          1
set_option maxRecDepth 100000 in
set_option maxHeartbeats 4000000 in
theorem xC_fe_isInstruction (l : Launch) (G : q_G) (S : q_S) (a b d : Int32)  : q_Mi xX G l xy_fe_isInstruction (q_ws (q_gw lw_tbl) xy_fe_isInstruction xb_fe_isInstruction 3 (some .boolean)) (q_rm 1) [.int a, .int b, .int d] S (x_fe_isInstruction S a b d) S := by
  refine q_met (cc := xb_fe_isInstruction) (maxL := 3) (ret := (some .boolean)) xOk (by decide) rfl (Nat.le_of_ble_eq_true rfl) ?_
  intro p e s m below meth c ls hC hr hlocks hW hS hl
  have hx := hC.1.1
  have hb := hC.1.2.1
  have hl : lv_has ls 3 [(0, .int a), (1, .int b), (2, .int d)] := hl
  refine lv_iload_n hx hb xd_fe_isInstruction_0 rfl (lv_at hl 0 rfl) ?_
  refine lv_if_lt (tgt := 38) hx hb xd_fe_isInstruction_1 (by decide) (fun c_1 => ?_) (fun c_1 => ?_)
  · -- taken
    refine lv_iconst (v := 0) hx hb xd_fe_isInstruction_38 (by decide) ?_
    have hf : x_fe_isInstruction S a b d = 0 := by unfold x_fe_isInstruction; rw [if_pos c_1]
    rw [hf]
    exact q_zret hC hr hlocks hW hS (by decide) rfl rfl xd_fe_isInstruction_39
  · -- not taken
    refine lv_iload_n hx hb xd_fe_isInstruction_4 rfl (lv_at hl 0 rfl) ?_
    refine lv_bipush (v := 10) hx hb xd_fe_isInstruction_5 (by decide) ?_
    refine lv_icmp_gt (tgt := 38) hx hb xd_fe_isInstruction_7 (by decide) (fun c_2 => ?_) (fun c_2 => ?_)
    · -- taken
      refine lv_iconst (v := 0) hx hb xd_fe_isInstruction_38 (by decide) ?_
      have hf : x_fe_isInstruction S a b d = 0 := by unfold x_fe_isInstruction; rw [if_neg c_1, if_pos c_2]
      rw [hf]
      exact q_zret hC hr hlocks hW hS (by decide) rfl rfl xd_fe_isInstruction_39
    · -- not taken
      refine lv_iload_n hx hb xd_fe_isInstruction_10 rfl (lv_at hl 1 rfl) ?_
      refine xgs_fe_213 hC hW xd_fe_isInstruction_11 (fun t_3 hTt_3 => ?_)
      refine lv_iload_n hx hb xd_fe_isInstruction_14 rfl (lv_at hl 0 rfl) ?_
      have h_4 : vp_in a 11 := by simp only [vp_in_iff, Int32.lt_iff_toInt_lt, Int32.le_iff_toInt_le, q_n0, q_n1, q_n2, q_n3, q_n4, q_n5, q_n6, q_n7, q_n10, q_n14, q_n15, q_n20, q_n60, q_n1288] at c_1 c_2 ⊢; omega
      refine xsl hC hTt_3 h_4 xd_fe_isInstruction_15 ?_
      refine q_calli hC hS (fun _ h => h) (q_runS (rest := []) hC hW (xC_fe_isWithin l G S b (xL1 a.toNatClampNeg)) (xc_fe_216 (q_rm 0) hC.1.2.2.2.2 ⟨Nat.le_of_ble_eq_true rfl, Nat.le_of_ble_eq_true rfl⟩ rfl rfl) rfl hl.1 rfl (Nat.le_of_ble_eq_true rfl) xd_fe_isInstruction_16 ⟨Nat.zero_le _, Nat.zero_le _⟩) (fun H locs hW hS => ?_)
      refine lv_if_eq (tgt := 38) hx hb xd_fe_isInstruction_19 (by decide) (fun c_5 => ?_) (fun c_5 => ?_)
      · -- taken
        refine lv_iconst (v := 0) hx hb xd_fe_isInstruction_38 (by decide) ?_
        have hf : x_fe_isInstruction S a b d = 0 := by unfold x_fe_isInstruction; rw [if_neg c_1, if_neg c_2, if_pos c_5]
        rw [hf]
        exact q_zret hC hr hlocks hW hS (by decide) rfl rfl xd_fe_isInstruction_39
      · -- not taken
        refine lv_iload_n hx hb xd_fe_isInstruction_22 rfl (lv_at hl 2 rfl) ?_
        refine xgs_fe_219 hC hW xd_fe_isInstruction_23 (fun t_6 hTt_6 => ?_)
        refine lv_iload_n hx hb xd_fe_isInstruction_26 rfl (lv_at hl 0 rfl) ?_
        have h_7 : vp_in a 11 := by simp only [vp_in_iff, Int32.lt_iff_toInt_lt, Int32.le_iff_toInt_le, q_n0, q_n1, q_n2, q_n3, q_n4, q_n5, q_n6, q_n7, q_n10, q_n14, q_n15, q_n20, q_n60, q_n1288] at c_1 c_2 ⊢; omega
        refine xsl hC hTt_6 h_7 xd_fe_isInstruction_27 ?_
        refine q_calli hC hS (fun _ h => h) (q_runS (rest := []) hC hW (xC_fe_isWithin l G S d (xL2 a.toNatClampNeg)) (xc_fe_216 (q_rm 0) hC.1.2.2.2.2 ⟨Nat.le_of_ble_eq_true rfl, Nat.le_of_ble_eq_true rfl⟩ rfl rfl) rfl hl.1 rfl (Nat.le_of_ble_eq_true rfl) xd_fe_isInstruction_28 ⟨Nat.zero_le _, Nat.zero_le _⟩) (fun H locs hW hS => ?_)
        refine lv_if_eq (tgt := 38) hx hb xd_fe_isInstruction_31 (by decide) (fun c_8 => ?_) (fun c_8 => ?_)
        · -- taken
          refine lv_iconst (v := 0) hx hb xd_fe_isInstruction_38 (by decide) ?_
          have hf : x_fe_isInstruction S a b d = 0 := by unfold x_fe_isInstruction; rw [if_neg c_1, if_neg c_2, if_neg c_5, if_pos c_8]
          rw [hf]
          exact q_zret hC hr hlocks hW hS (by decide) rfl rfl xd_fe_isInstruction_39
        · -- not taken
          refine lv_iconst (v := 1) hx hb xd_fe_isInstruction_34 (by decide) ?_
          refine lv_goto (tgt := 39) hx hb xd_fe_isInstruction_35 (by decide) ?_
          have hf : x_fe_isInstruction S a b d = 1 := by unfold x_fe_isInstruction; rw [if_neg c_1, if_neg c_2, if_neg c_5, if_neg c_8]
          rw [hf]
          exact q_zret hC hr hlocks hW hS (by decide) rfl rfl xd_fe_isInstruction_39
def x_wf_rewind (S : q_S) (i : Nat) : q_S :=
  q_st (q_st (q_st (q_st (q_st (q_st (q_st (q_st (q_st (q_st (q_st S 9 i 7 (.int 0)) 9 i 8 (.int 0)) 9 i 10 (.int 0)) 9 i 11 (.int 0)) 9 i 12 (.int 0)) 18 i 2 (.int 0)) 11 i 4 (.int 1)) 10 i ((0 : Int32).toNatClampNeg) (.int (q_i (S 14 i ((0 : Int32).toNatClampNeg))))) 10 i ((1 : Int32).toNatClampNeg) (.int 0)) 10 i ((2 : Int32).toNatClampNeg) (.int 0)) 10 i ((3 : Int32).toNatClampNeg) (.int 0)
set_option maxRecDepth 100000 in
set_option maxHeartbeats 4000000 in
theorem xC_wf_rewind (l : Launch) (G : q_G) (S : q_S) (i : Nat) (hi : i < 6) (hI : xI S) : q_Mv xX G l xy_wf_rewind (q_ws (q_gw lw_tbl) xy_wf_rewind xb_wf_rewind 2 none) (q_rm 0) [.ref (q_a xX G 9 i)] S (x_wf_rewind S i) := by
  refine q_met (cc := xb_wf_rewind) (maxL := 2) (ret := none) xOk (by decide) rfl (Nat.le_of_ble_eq_true rfl) ?_
  intro p e s m below meth c ls hC hr hlocks hW hS hl
  have hx := hC.1.1
  have hb := hC.1.2.1
  have hl : lv_has ls 2 [(0, .ref (q_a xX G 9 i))] := hl
  refine lv_aload_n hx hb xd_wf_rewind_0 rfl (lv_at hl 0 rfl) ?_
  refine lv_iconst (v := 0) hx hb xd_wf_rewind_1 (by decide) ?_
  refine xg_wf_68p hC hW hS (fun _ h => h) i hi rfl rfl xd_wf_rewind_2 (fun H locs hW hS => ?_)
  refine lv_aload_n hx hb xd_wf_rewind_5 rfl (lv_at hl 0 rfl) ?_
  refine lv_iconst (v := 0) hx hb xd_wf_rewind_6 (by decide) ?_
  refine xg_wf_71p hC hW hS (fun _ h => h) i hi rfl rfl xd_wf_rewind_7 (fun H locs hW hS => ?_)
  refine lv_aload_n hx hb xd_wf_rewind_10 rfl (lv_at hl 0 rfl) ?_
  refine lv_iconst (v := 0) hx hb xd_wf_rewind_11 (by decide) ?_
  refine xg_wf_74p hC hW hS (fun _ h => h) i hi xd_wf_rewind_12 (fun H locs hW hS => ?_)
  refine lv_aload_n hx hb xd_wf_rewind_15 rfl (lv_at hl 0 rfl) ?_
  refine lv_iconst (v := 0) hx hb xd_wf_rewind_16 (by decide) ?_
  refine xg_wf_77p hC hW hS (fun _ h => h) i hi xd_wf_rewind_17 (fun H locs hW hS => ?_)
  refine lv_aload_n hx hb xd_wf_rewind_20 rfl (lv_at hl 0 rfl) ?_
  refine lv_iconst (v := 0) hx hb xd_wf_rewind_21 (by decide) ?_
  refine W.eq (g2 := F0 m 22 ls [.int 0, .ref (q_a xX G 9 i)]) rfl ?_
  refine xg_wf_80p hC hW hS (fun _ h => h) i hi xd_wf_rewind_22 (fun H locs hW hS => ?_)
  refine lv_aload_n hx hb xd_wf_rewind_25 rfl (lv_at hl 0 rfl) ?_
  refine xg_wf_32 hC hW i hi xd_wf_rewind_26 ?_
  refine lv_iconst (v := 0) hx hb xd_wf_rewind_29 (by decide) ?_
  refine xg_wf_83p hC hW hS (fun _ h => h) i hi xd_wf_rewind_30 (fun H locs hW hS => ?_)
  refine lv_aload_n hx hb xd_wf_rewind_33 rfl (lv_at hl 0 rfl) ?_
  refine xg_wf_18 hC hW i hi xd_wf_rewind_34 ?_
  refine lv_iconst (v := 1) hx hb xd_wf_rewind_37 (by decide) ?_
  refine xg_wf_58p hC hW hS (fun _ h => h) i hi xd_wf_rewind_38 (fun H locs hW hS => ?_)
  refine lv_aload_n hx hb xd_wf_rewind_41 rfl (lv_at hl 0 rfl) ?_
  refine xg_wf_9 hC hW i hi xd_wf_rewind_42 ?_
  refine lv_iconst (v := 0) hx hb xd_wf_rewind_45 (by decide) ?_
  refine lv_aload_n hx hb xd_wf_rewind_46 rfl (lv_at hl 0 rfl) ?_
  refine xg_wf_18 hC hW i hi xd_wf_rewind_47 ?_
  refine W.eq (g2 := F0 m 50 ls [.ref (q_a xX G 11 i), .int 0, .ref (q_a xX G 10 i)]) rfl ?_
  refine xg_wf_84 hC hW i hi xd_wf_rewind_50 ?_
  refine lv_iconst (v := 0) hx hb xd_wf_rewind_53 (by decide) ?_
  have h_1 : vp_in 0 20 := by unfold vp_in; decide +kernel
  refine xal_14 hC hW i hi h_1 (q_sj (by decide) (q_sj (by decide) (q_sj (by decide) (q_sj (by decide) (q_sj (by decide) (q_sj (by decide) (q_sj (by decide) (rfl)))))))) xd_wf_rewind_54 ?_
  have h_2 : vp_in 0 4 := by unfold vp_in; decide +kernel
  refine xas_10 hC hW hS (fun _ h => h) i hi h_2 xd_wf_rewind_55 (fun H locs hW hS => ?_)
  refine lv_iconst (v := 1) hx hb xd_wf_rewind_56 (by decide) ?_
  refine lv_istore_n (lv' := [(1, .int 1), (0, .ref (q_a xX G 9 i))]) hx hb xd_wf_rewind_57 rfl hl (by decide) rfl (fun ls hl => ?_)
  refine lv_iload_n hx hb xd_wf_rewind_58 rfl (lv_at hl 0 rfl) ?_
  refine lv_iconst (v := 4) hx hb xd_wf_rewind_59 (by decide) ?_
  refine lv_icmp_ge (tgt := 76) hx hb xd_wf_rewind_60 (by decide) (fun c_3 => absurd c_3 (by decide)) (fun _ => ?_)
  refine lv_aload_n hx hb xd_wf_rewind_63 rfl (lv_at hl 1 rfl) ?_
  refine xg_wf_9 hC hW i hi xd_wf_rewind_64 ?_
  refine lv_iload_n hx hb xd_wf_rewind_67 rfl (lv_at hl 0 rfl) ?_
  refine lv_iconst (v := 0) hx hb xd_wf_rewind_68 (by decide) ?_
  have h_4 : vp_in 1 4 := by unfold vp_in; decide +kernel
  refine xas_10 hC hW hS (fun _ h => h) i hi h_4 xd_wf_rewind_69 (fun H locs hW hS => ?_)
  refine lv_iinc (v := 2) (lv' := [(1, .int 2), (0, .ref (q_a xX G 9 i))]) hx hb xd_wf_rewind_70 hl (k := 0) rfl rfl (by decide) rfl (fun ls hl => ?_)
  refine W.eq (g2 := F0 m 73 ls []) rfl ?_
  refine lv_goto (tgt := 58) hx hb xd_wf_rewind_73 (by decide) ?_
  refine lv_iload_n hx hb xd_wf_rewind_58 rfl (lv_at hl 0 rfl) ?_
  refine lv_iconst (v := 4) hx hb xd_wf_rewind_59 (by decide) ?_
  refine lv_icmp_ge (tgt := 76) hx hb xd_wf_rewind_60 (by decide) (fun c_5 => absurd c_5 (by decide)) (fun _ => ?_)
  refine lv_aload_n hx hb xd_wf_rewind_63 rfl (lv_at hl 1 rfl) ?_
  refine xg_wf_9 hC hW i hi xd_wf_rewind_64 ?_
  refine lv_iload_n hx hb xd_wf_rewind_67 rfl (lv_at hl 0 rfl) ?_
  refine lv_iconst (v := 0) hx hb xd_wf_rewind_68 (by decide) ?_
  have h_6 : vp_in 2 4 := by unfold vp_in; decide +kernel
  refine xas_10 hC hW hS (fun _ h => h) i hi h_6 xd_wf_rewind_69 (fun H locs hW hS => ?_)
  refine lv_iinc (v := 3) (lv' := [(1, .int 3), (0, .ref (q_a xX G 9 i))]) hx hb xd_wf_rewind_70 hl (k := 0) rfl rfl (by decide) rfl (fun ls hl => ?_)
  refine lv_goto (tgt := 58) hx hb xd_wf_rewind_73 (by decide) ?_
  refine lv_iload_n hx hb xd_wf_rewind_58 rfl (lv_at hl 0 rfl) ?_
  refine lv_iconst (v := 4) hx hb xd_wf_rewind_59 (by decide) ?_
  refine lv_icmp_ge (tgt := 76) hx hb xd_wf_rewind_60 (by decide) (fun c_7 => absurd c_7 (by decide)) (fun _ => ?_)
  refine lv_aload_n hx hb xd_wf_rewind_63 rfl (lv_at hl 1 rfl) ?_
  refine xg_wf_9 hC hW i hi xd_wf_rewind_64 ?_
  refine lv_iload_n hx hb xd_wf_rewind_67 rfl (lv_at hl 0 rfl) ?_
  refine lv_iconst (v := 0) hx hb xd_wf_rewind_68 (by decide) ?_
  refine W.eq (g2 := F0 m 69 ls [.int 0, .int 3, .ref (q_a xX G 10 i)]) rfl ?_
  have h_8 : vp_in 3 4 := by unfold vp_in; decide +kernel
  refine xas_10 hC hW hS (fun _ h => h) i hi h_8 xd_wf_rewind_69 (fun H locs hW hS => ?_)
  refine lv_iinc (v := 4) (lv' := [(1, .int 4), (0, .ref (q_a xX G 9 i))]) hx hb xd_wf_rewind_70 hl (k := 0) rfl rfl (by decide) rfl (fun ls hl => ?_)
  refine lv_goto (tgt := 58) hx hb xd_wf_rewind_73 (by decide) ?_
  refine lv_iload_n hx hb xd_wf_rewind_58 rfl (lv_at hl 0 rfl) ?_
  refine lv_iconst (v := 4) hx hb xd_wf_rewind_59 (by decide) ?_
  refine lv_icmp_ge (tgt := 76) hx hb xd_wf_rewind_60 (by decide) (fun _ => ?_) (fun c_9 => absurd c_9 (by decide))
  have hf : x_wf_rewind S i = q_st (q_st (q_st (q_st (q_st (q_st (q_st (q_st (q_st (q_st (q_st S 9 i 7 (.int 0)) 9 i 8 (.int 0)) 9 i 10 (.int 0)) 9 i 11 (.int 0)) 9 i 12 (.int 0)) 18 i 2 (.int 0)) 11 i 4 (.int 1)) 10 i ((0 : Int32).toNatClampNeg) (.int (q_i (S 14 i ((0 : Int32).toNatClampNeg))))) 10 i ((1 : Int32).toNatClampNeg) (.int 0)) 10 i ((2 : Int32).toNatClampNeg) (.int 0)) 10 i ((3 : Int32).toNatClampNeg) (.int 0) := by unfold x_wf_rewind; rfl
  rw [hf]
  exact q_vret hC hr hlocks hW hS rfl xd_wf_rewind_76
set_option maxRecDepth 100000 in
set_option maxHeartbeats 4000000 in
theorem xI_wf_rewind (S : q_S) (i : Nat) (hi : i < 6) (hI : xI S) : xI (x_wf_rewind S i) := by
  have h_1 : vp_in 0 20 := by unfold vp_in; decide +kernel
  have h_2 : vp_in 0 4 := by unfold vp_in; decide +kernel
  have h_4 : vp_in 1 4 := by unfold vp_in; decide +kernel
  have h_6 : vp_in 2 4 := by unfold vp_in; decide +kernel
  have h_8 : vp_in 3 4 := by unfold vp_in; decide +kernel
  have hf : x_wf_rewind S i = q_st (q_st (q_st (q_st (q_st (q_st (q_st (q_st (q_st (q_st (q_st S 9 i 7 (.int 0)) 9 i 8 (.int 0)) 9 i 10 (.int 0)) 9 i 11 (.int 0)) 9 i 12 (.int 0)) 18 i 2 (.int 0)) 11 i 4 (.int 1)) 10 i ((0 : Int32).toNatClampNeg) (.int (q_i (S 14 i ((0 : Int32).toNatClampNeg))))) 10 i ((1 : Int32).toNatClampNeg) (.int 0)) 10 i ((2 : Int32).toNatClampNeg) (.int 0)) 10 i ((3 : Int32).toNatClampNeg) (.int 0) := by unfold x_wf_rewind; rfl
  rw [hf]
  exact (q_Is (q_Is (q_Is (q_Is (xI_st (xI_st (xI_st (q_Is (q_Is (q_Is (q_Is hI rfl) rfl) rfl) rfl) (by decide)) (by decide)) (by decide)) rfl) rfl) rfl) rfl)
set_option maxRecDepth 100000 in
set_option maxHeartbeats 4000000 in
theorem xK_wf_rewind (S : q_S) (i : Nat) (x y z : Nat) (h9 : x ≠ 9) (h10 : x ≠ 10) (h11 : x ≠ 11) (h18 : x ≠ 18) : (x_wf_rewind S i) x y z = S x y z := by
  have hf : x_wf_rewind S i = q_st (q_st (q_st (q_st (q_st (q_st (q_st (q_st (q_st (q_st (q_st S 9 i 7 (.int 0)) 9 i 8 (.int 0)) 9 i 10 (.int 0)) 9 i 11 (.int 0)) 9 i 12 (.int 0)) 18 i 2 (.int 0)) 11 i 4 (.int 1)) 10 i ((0 : Int32).toNatClampNeg) (.int (q_i (S 14 i ((0 : Int32).toNatClampNeg))))) 10 i ((1 : Int32).toNatClampNeg) (.int 0)) 10 i ((2 : Int32).toNatClampNeg) (.int 0)) 10 i ((3 : Int32).toNatClampNeg) (.int 0) := by unfold x_wf_rewind; rfl
  rw [hf]
  exact (q_kj h10).trans ((q_kj h10).trans ((q_kj h10).trans ((q_kj h10).trans ((q_kj h11).trans ((q_kj h18).trans ((q_kj h9).trans ((q_kj h9).trans ((q_kj h9).trans ((q_kj h9).trans ((q_kj h9)))))))))))
def x_wf_begin (S : q_S) (i : Nat) (a b : Int32) : q_S :=
  x_wf_rewind ((x_hi_pass (q_st (q_st (q_st (q_st (q_st S 9 i 6 (.int 1)) 9 i 9 (.int a)) 15 i 2 (.int 0)) 11 i 3 (.int 0)) 11 i 4 (.int 0)) i 1 a b).2) i
set_option maxRecDepth 100000 in
set_option maxHeartbeats 4000000 in
theorem xC_wf_begin (l : Launch) (G : q_G) (S : q_S) (i : Nat) (a b : Int32) (hi : i < 6) (hI : xI S) (ha : 0 ≤ a.toInt ∧ a.toInt ≤ 2) : q_Mv xX G l xy_wf_begin (q_ws (q_gw lw_tbl) xy_wf_begin xb_wf_begin 3 none) (q_rm 1) [.ref (q_a xX G 9 i), .int a, .int b] S (x_wf_begin S i a b) := by
  refine q_met (cc := xb_wf_begin) (maxL := 3) (ret := none) xOk (by decide) rfl (Nat.le_of_ble_eq_true rfl) ?_
  intro p e s m below meth c ls hC hr hlocks hW hS hl
  have hx := hC.1.1
  have hb := hC.1.2.1
  have hl : lv_has ls 3 [(0, .ref (q_a xX G 9 i)), (1, .int a), (2, .int b)] := hl
  refine lv_aload_n hx hb xd_wf_begin_0 rfl (lv_at hl 0 rfl) ?_
  refine lv_iconst (v := 1) hx hb xd_wf_begin_1 (by decide) ?_
  refine xg_wf_47p hC hW hS (fun _ h => h) i hi rfl rfl xd_wf_begin_2 (fun H locs hW hS => ?_)
  refine lv_aload_n hx hb xd_wf_begin_5 rfl (lv_at hl 0 rfl) ?_
  refine lv_iload_n hx hb xd_wf_begin_6 rfl (lv_at hl 1 rfl) ?_
  refine xg_wf_51p hC hW hS (fun _ h => h) i hi xd_wf_begin_7 (fun H locs hW hS => ?_)
  refine lv_aload_n hx hb xd_wf_begin_10 rfl (lv_at hl 0 rfl) ?_
  refine xg_wf_25 hC hW i hi xd_wf_begin_11 ?_
  refine lv_iconst (v := 0) hx hb xd_wf_begin_14 (by decide) ?_
  refine xg_wf_54p hC hW hS (fun _ h => h) i hi xd_wf_begin_15 (fun H locs hW hS => ?_)
  refine lv_aload_n hx hb xd_wf_begin_18 rfl (lv_at hl 0 rfl) ?_
  refine xg_wf_18 hC hW i hi xd_wf_begin_19 ?_
  refine lv_iconst (v := 0) hx hb xd_wf_begin_22 (by decide) ?_
  refine xg_wf_57p hC hW hS (fun _ h => h) i hi xd_wf_begin_23 (fun H locs hW hS => ?_)
  refine W.eq (g2 := F0 m 26 ls []) rfl ?_
  refine lv_aload_n hx hb xd_wf_begin_26 rfl (lv_at hl 0 rfl) ?_
  refine xg_wf_18 hC hW i hi xd_wf_begin_27 ?_
  refine lv_iconst (v := 0) hx hb xd_wf_begin_30 (by decide) ?_
  refine xg_wf_58p hC hW hS (fun _ h => h) i hi xd_wf_begin_31 (fun H locs hW hS => ?_)
  refine lv_aload_n hx hb xd_wf_begin_34 rfl (lv_at hl 0 rfl) ?_
  refine xg_wf_18 hC hW i hi xd_wf_begin_35 ?_
  refine lv_iconst (v := 1) hx hb xd_wf_begin_38 (by decide) ?_
  refine lv_iload_n hx hb xd_wf_begin_39 rfl (lv_at hl 1 rfl) ?_
  refine lv_iload_n hx hb xd_wf_begin_40 rfl (lv_at hl 2 rfl) ?_
  have hI_1 : xI (q_st (q_st (q_st (q_st (q_st S 9 i 6 (.int 1)) 9 i 9 (.int a)) 15 i 2 (.int 0)) 11 i 3 (.int 0)) 11 i 4 (.int 0)) := (xI_st (xI_st (xI_st (xI_st (q_Is hI rfl) (by exact ha)) (by decide)) (by decide)) (by decide))
  refine q_calli hC hS (fun _ h => h) (q_runV (rest := []) hC hW (xC_hi_pass l G (q_st (q_st (q_st (q_st (q_st S 9 i 6 (.int 1)) 9 i 9 (.int a)) 15 i 2 (.int 0)) 11 i 3 (.int 0)) 11 i 4 (.int 0)) i 1 a b hi hI_1) (xc_wf_61 (q_rm 0) hC.1.2.2.2.2 ⟨Nat.le_of_ble_eq_true rfl, Nat.le_of_ble_eq_true rfl⟩ rfl rfl) hi rfl rfl rfl hl.1 rfl (Nat.le_of_ble_eq_true rfl) xd_wf_begin_41 ⟨Nat.zero_le _, Nat.zero_le _⟩) (fun H locs hW hS => ?_)
  refine lv_pop hx hb xd_wf_begin_44 rfl ?_
  refine lv_aload_n hx hb xd_wf_begin_45 rfl (lv_at hl 0 rfl) ?_
  have hI_2 : xI ((x_hi_pass (q_st (q_st (q_st (q_st (q_st S 9 i 6 (.int 1)) 9 i 9 (.int a)) 15 i 2 (.int 0)) 11 i 3 (.int 0)) 11 i 4 (.int 0)) i 1 a b).2) := (xI_hi_pass (q_st (q_st (q_st (q_st (q_st S 9 i 6 (.int 1)) 9 i 9 (.int a)) 15 i 2 (.int 0)) 11 i 3 (.int 0)) 11 i 4 (.int 0)) i 1 a b hi hI_1)
  refine q_callv hC hS (fun _ h => h) (q_runV (rest := []) hC hW (xC_wf_rewind l G ((x_hi_pass (q_st (q_st (q_st (q_st (q_st S 9 i 6 (.int 1)) 9 i 9 (.int a)) 15 i 2 (.int 0)) 11 i 3 (.int 0)) 11 i 4 (.int 0)) i 1 a b).2) i hi hI_2) (xc_wf_65 (q_rm 0) hC.1.2.2.2.2 ⟨Nat.le_of_ble_eq_true rfl, Nat.le_of_ble_eq_true rfl⟩ rfl rfl) hi rfl rfl rfl hl.1 rfl (Nat.le_of_ble_eq_true rfl) xd_wf_begin_46 ⟨Nat.zero_le _, Nat.zero_le _⟩) (fun H locs hW hS => ?_)
  have hf : x_wf_begin S i a b = x_wf_rewind ((x_hi_pass (q_st (q_st (q_st (q_st (q_st S 9 i 6 (.int 1)) 9 i 9 (.int a)) 15 i 2 (.int 0)) 11 i 3 (.int 0)) 11 i 4 (.int 0)) i 1 a b).2) i := by unfold x_wf_begin; rfl
  rw [hf]
  exact q_vret hC hr hlocks hW hS rfl xd_wf_begin_49
set_option maxRecDepth 100000 in
set_option maxHeartbeats 4000000 in
theorem xI_wf_begin (S : q_S) (i : Nat) (a b : Int32) (hi : i < 6) (hI : xI S) (ha : 0 ≤ a.toInt ∧ a.toInt ≤ 2) : xI (x_wf_begin S i a b) := by
  have hI_1 : xI (q_st (q_st (q_st (q_st (q_st S 9 i 6 (.int 1)) 9 i 9 (.int a)) 15 i 2 (.int 0)) 11 i 3 (.int 0)) 11 i 4 (.int 0)) := (xI_st (xI_st (xI_st (xI_st (q_Is hI rfl) (by exact ha)) (by decide)) (by decide)) (by decide))
  have hI_2 : xI ((x_hi_pass (q_st (q_st (q_st (q_st (q_st S 9 i 6 (.int 1)) 9 i 9 (.int a)) 15 i 2 (.int 0)) 11 i 3 (.int 0)) 11 i 4 (.int 0)) i 1 a b).2) := (xI_hi_pass (q_st (q_st (q_st (q_st (q_st S 9 i 6 (.int 1)) 9 i 9 (.int a)) 15 i 2 (.int 0)) 11 i 3 (.int 0)) 11 i 4 (.int 0)) i 1 a b hi hI_1)
  have hf : x_wf_begin S i a b = x_wf_rewind ((x_hi_pass (q_st (q_st (q_st (q_st (q_st S 9 i 6 (.int 1)) 9 i 9 (.int a)) 15 i 2 (.int 0)) 11 i 3 (.int 0)) 11 i 4 (.int 0)) i 1 a b).2) i := by unfold x_wf_begin; rfl
  rw [hf]
  exact (xI_wf_rewind ((x_hi_pass (q_st (q_st (q_st (q_st (q_st S 9 i 6 (.int 1)) 9 i 9 (.int a)) 15 i 2 (.int 0)) 11 i 3 (.int 0)) 11 i 4 (.int 0)) i 1 a b).2) i hi hI_2)
set_option maxRecDepth 100000 in
set_option maxHeartbeats 4000000 in
theorem xK_wf_begin (S : q_S) (i : Nat) (a b : Int32) (x y z : Nat) (h9 : x ≠ 9) (h10 : x ≠ 10) (h11 : x ≠ 11) (h12 : x ≠ 12) (h13 : x ≠ 13) (h14 : x ≠ 14) (h15 : x ≠ 15) (h18 : x ≠ 18) : (x_wf_begin S i a b) x y z = S x y z := by
  have hf : x_wf_begin S i a b = x_wf_rewind ((x_hi_pass (q_st (q_st (q_st (q_st (q_st S 9 i 6 (.int 1)) 9 i 9 (.int a)) 15 i 2 (.int 0)) 11 i 3 (.int 0)) 11 i 4 (.int 0)) i 1 a b).2) i := by unfold x_wf_begin; rfl
  rw [hf]
  exact ((xK_wf_rewind ((x_hi_pass (q_st (q_st (q_st (q_st (q_st S 9 i 6 (.int 1)) 9 i 9 (.int a)) 15 i 2 (.int 0)) 11 i 3 (.int 0)) 11 i 4 (.int 0)) i 1 a b).2) i x y z h9 h10 h11 h18)).trans (((xK_hi_pass (q_st (q_st (q_st (q_st (q_st S 9 i 6 (.int 1)) 9 i 9 (.int a)) 15 i 2 (.int 0)) 11 i 3 (.int 0)) 11 i 4 (.int 0)) i 1 a b x y z h11 h12 h13 h14)).trans ((q_kj h11).trans ((q_kj h11).trans ((q_kj h15).trans ((q_kj h9).trans ((q_kj h9)))))))
def x_wf_resume (S : q_S) (i : Nat) (a b : Int32) : q_S :=
  if a = 4 then
    q_st (q_st S 9 i 8 (.int 1)) 9 i 10 (.int 0)
  else
    if q_i (S 9 i 8) = 0 then
      if q_i (S 9 i 10) = 2 then
        q_st (q_st S 9 i 11 (.int ((q_i (S 9 i 11)) + 1))) 9 i 10 (.int 0)
      else
        q_st (q_st (q_st S 10 i ((q_i (S 9 i 14)).toNatClampNeg) (.int b)) 9 i 11 (.int ((q_i (S 9 i 11)) + 1))) 9 i 10 (.int 0)
    else
      q_st S 9 i 10 (.int 0)
set_option maxRecDepth 100000 in
set_option maxHeartbeats 4000000 in
theorem xC_wf_resume (l : Launch) (G : q_G) (S : q_S) (i : Nat) (a b : Int32) (hi : i < 6) (hI : xI S) : q_Mv xX G l xy_wf_resume (q_ws (q_gw lw_tbl) xy_wf_resume xb_wf_resume 3 none) (q_rm 0) [.ref (q_a xX G 9 i), .int a, .int b] S (x_wf_resume S i a b) := by
  refine q_met (cc := xb_wf_resume) (maxL := 3) (ret := none) xOk (by decide) rfl (Nat.le_of_ble_eq_true rfl) ?_
  intro p e s m below meth c ls hC hr hlocks hW hS hl
  have hx := hC.1.1
  have hb := hC.1.2.1
  have hl : lv_has ls 3 [(0, .ref (q_a xX G 9 i)), (1, .int a), (2, .int b)] := hl
  refine lv_iload_n hx hb xd_wf_resume_0 rfl (lv_at hl 1 rfl) ?_
  refine lv_iconst (v := 4) hx hb xd_wf_resume_1 (by decide) ?_
  refine lv_icmp_ne (tgt := 10) hx hb xd_wf_resume_2 (by decide) (fun c_1 => ?_) (fun c_1 => ?_)
  · -- taken
    refine lv_aload_n hx hb xd_wf_resume_10 rfl (lv_at hl 0 rfl) ?_
    refine xg_wf_71 hC hW i hi (rfl) xd_wf_resume_11 ?_
    refine lv_if_ne (tgt := 45) hx hb xd_wf_resume_14 (by decide) (fun c_2 => ?_) (fun c_2 => ?_)
    · -- taken
      refine lv_aload_n hx hb xd_wf_resume_45 rfl (lv_at hl 0 rfl) ?_
      refine lv_iconst (v := 0) hx hb xd_wf_resume_46 (by decide) ?_
      refine xg_wf_74p hC hW hS (fun _ h => h) i hi xd_wf_resume_47 (fun H locs hW hS => ?_)
      have hf : x_wf_resume S i a b = q_st S 9 i 10 (.int 0) := by unfold x_wf_resume; rw [if_neg c_1, if_neg c_2]
      rw [hf]
      exact q_vret hC hr hlocks hW hS rfl xd_wf_resume_50
    · -- not taken
      refine lv_aload_n hx hb xd_wf_resume_17 rfl (lv_at hl 0 rfl) ?_
      refine xg_wf_74 hC hW i hi (rfl) xd_wf_resume_18 ?_
      refine lv_iconst (v := 2) hx hb xd_wf_resume_21 (by decide) ?_
      refine lv_icmp_eq (tgt := 35) hx hb xd_wf_resume_22 (by decide) (fun c_3 => ?_) (fun c_3 => ?_)
      · -- taken
        refine lv_aload_n hx hb xd_wf_resume_35 rfl (lv_at hl 0 rfl) ?_
        refine lv_dup hx hb xd_wf_resume_36 rfl ?_
        refine xg_wf_77 hC hW i hi (rfl) xd_wf_resume_37 ?_
        refine lv_iconst (v := 1) hx hb xd_wf_resume_40 (by decide) ?_
        refine lv_iadd hx hb xd_wf_resume_41 ?_
        refine xg_wf_77p hC hW hS (fun _ h => h) i hi xd_wf_resume_42 (fun H locs hW hS => ?_)
        refine lv_aload_n hx hb xd_wf_resume_45 rfl (lv_at hl 0 rfl) ?_
        refine lv_iconst (v := 0) hx hb xd_wf_resume_46 (by decide) ?_
        refine xg_wf_74p hC hW hS (fun _ h => h) i hi xd_wf_resume_47 (fun H locs hW hS => ?_)
        have hf : x_wf_resume S i a b = q_st (q_st S 9 i 11 (.int ((q_i (S 9 i 11)) + 1))) 9 i 10 (.int 0) := by unfold x_wf_resume; rw [if_neg c_1, if_pos c_2, if_pos c_3]
        rw [hf]
        exact q_vret hC hr hlocks hW hS rfl xd_wf_resume_50
      · -- not taken
        refine lv_aload_n hx hb xd_wf_resume_25 rfl (lv_at hl 0 rfl) ?_
        refine xg_wf_9 hC hW i hi xd_wf_resume_26 ?_
        refine lv_aload_n hx hb xd_wf_resume_29 rfl (lv_at hl 0 rfl) ?_
        refine xg_wf_112 hC hW i hi (rfl) xd_wf_resume_30 ?_
        refine lv_iload_n hx hb xd_wf_resume_33 rfl (lv_at hl 2 rfl) ?_
        have h_4 : vp_in (q_i (S 9 i 14)) 4 := by have b1 : 0 ≤ (q_i (S 9 i 14)).toInt ∧ (q_i (S 9 i 14)).toInt ≤ 3 := hI 9 i 14; simp only [vp_in_iff, Int32.lt_iff_toInt_lt, Int32.le_iff_toInt_le, q_n0, q_n1, q_n2, q_n3, q_n4, q_n5, q_n6, q_n7, q_n10, q_n14, q_n15, q_n20, q_n60, q_n1288] at ⊢; omega
        refine xas_10 hC hW hS (fun _ h => h) i hi h_4 xd_wf_resume_34 (fun H locs hW hS => ?_)
        refine lv_aload_n hx hb xd_wf_resume_35 rfl (lv_at hl 0 rfl) ?_
        refine lv_dup hx hb xd_wf_resume_36 rfl ?_
        refine xg_wf_77 hC hW i hi (q_sj (by decide) (rfl)) xd_wf_resume_37 ?_
        refine lv_iconst (v := 1) hx hb xd_wf_resume_40 (by decide) ?_
        refine lv_iadd hx hb xd_wf_resume_41 ?_
        refine xg_wf_77p hC hW hS (fun _ h => h) i hi xd_wf_resume_42 (fun H locs hW hS => ?_)
        refine lv_aload_n hx hb xd_wf_resume_45 rfl (lv_at hl 0 rfl) ?_
        refine lv_iconst (v := 0) hx hb xd_wf_resume_46 (by decide) ?_
        refine W.eq (g2 := F0 m 47 ls [.int 0, .ref (q_a xX G 9 i)]) rfl ?_
        refine xg_wf_74p hC hW hS (fun _ h => h) i hi xd_wf_resume_47 (fun H locs hW hS => ?_)
        have hf : x_wf_resume S i a b = q_st (q_st (q_st S 10 i ((q_i (S 9 i 14)).toNatClampNeg) (.int b)) 9 i 11 (.int ((q_i (S 9 i 11)) + 1))) 9 i 10 (.int 0) := by unfold x_wf_resume; rw [if_neg c_1, if_pos c_2, if_neg c_3]
        rw [hf]
        exact q_vret hC hr hlocks hW hS rfl xd_wf_resume_50
  · -- not taken
    refine lv_aload_n hx hb xd_wf_resume_5 rfl (lv_at hl 0 rfl) ?_
    refine lv_iconst (v := 1) hx hb xd_wf_resume_6 (by decide) ?_
    refine xg_wf_71p hC hW hS (fun _ h => h) i hi rfl rfl xd_wf_resume_7 (fun H locs hW hS => ?_)
    refine lv_aload_n hx hb xd_wf_resume_10 rfl (lv_at hl 0 rfl) ?_
    refine xg_wf_71 hC hW i hi (q_ss) xd_wf_resume_11 ?_
    refine lv_if_ne (tgt := 45) hx hb xd_wf_resume_14 (by decide) (fun _ => ?_) (fun c_5 => absurd c_5 (by decide))
    refine lv_aload_n hx hb xd_wf_resume_45 rfl (lv_at hl 0 rfl) ?_
    refine lv_iconst (v := 0) hx hb xd_wf_resume_46 (by decide) ?_
    refine xg_wf_74p hC hW hS (fun _ h => h) i hi xd_wf_resume_47 (fun H locs hW hS => ?_)
    have hf : x_wf_resume S i a b = q_st (q_st S 9 i 8 (.int 1)) 9 i 10 (.int 0) := by unfold x_wf_resume; rw [if_pos c_1]
    rw [hf]
    exact q_vret hC hr hlocks hW hS rfl xd_wf_resume_50
set_option maxRecDepth 100000 in
set_option maxHeartbeats 4000000 in
theorem xI_wf_resume (S : q_S) (i : Nat) (a b : Int32) (hi : i < 6) (hI : xI S) : xI (x_wf_resume S i a b) := by
  by_cases c_1 : a = 4
  · -- yes
    have hf : x_wf_resume S i a b = q_st (q_st S 9 i 8 (.int 1)) 9 i 10 (.int 0) := by unfold x_wf_resume; rw [if_pos c_1]
    rw [hf]
    exact (q_Is (q_Is hI rfl) rfl)
  · -- no
    by_cases c_2 : q_i (S 9 i 8) = 0
    · -- yes
      by_cases c_3 : q_i (S 9 i 10) = 2
      · -- yes
        have hf : x_wf_resume S i a b = q_st (q_st S 9 i 11 (.int ((q_i (S 9 i 11)) + 1))) 9 i 10 (.int 0) := by unfold x_wf_resume; rw [if_neg c_1, if_pos c_2, if_pos c_3]
        rw [hf]
        exact (q_Is (q_Is hI rfl) rfl)
      · -- no
        have h_4 : vp_in (q_i (S 9 i 14)) 4 := by have b1 : 0 ≤ (q_i (S 9 i 14)).toInt ∧ (q_i (S 9 i 14)).toInt ≤ 3 := hI 9 i 14; simp only [vp_in_iff, Int32.lt_iff_toInt_lt, Int32.le_iff_toInt_le, q_n0, q_n1, q_n2, q_n3, q_n4, q_n5, q_n6, q_n7, q_n10, q_n14, q_n15, q_n20, q_n60, q_n1288] at ⊢; omega
        have hf : x_wf_resume S i a b = q_st (q_st (q_st S 10 i ((q_i (S 9 i 14)).toNatClampNeg) (.int b)) 9 i 11 (.int ((q_i (S 9 i 11)) + 1))) 9 i 10 (.int 0) := by unfold x_wf_resume; rw [if_neg c_1, if_pos c_2, if_neg c_3]
        rw [hf]
        exact (q_Is (q_Is (q_Is hI rfl) rfl) rfl)
    · -- no
      have hf : x_wf_resume S i a b = q_st S 9 i 10 (.int 0) := by unfold x_wf_resume; rw [if_neg c_1, if_neg c_2]
      rw [hf]
      exact (q_Is hI rfl)
set_option maxRecDepth 100000 in
set_option maxHeartbeats 4000000 in
theorem xK_wf_resume (S : q_S) (i : Nat) (a b : Int32) (x y z : Nat) (h9 : x ≠ 9) (h10 : x ≠ 10) : (x_wf_resume S i a b) x y z = S x y z := by
  by_cases c_1 : a = 4
  · -- yes
    have hf : x_wf_resume S i a b = q_st (q_st S 9 i 8 (.int 1)) 9 i 10 (.int 0) := by unfold x_wf_resume; rw [if_pos c_1]
    rw [hf]
    exact (q_kj h9).trans ((q_kj h9))
  · -- no
    by_cases c_2 : q_i (S 9 i 8) = 0
    · -- yes
      by_cases c_3 : q_i (S 9 i 10) = 2
      · -- yes
        have hf : x_wf_resume S i a b = q_st (q_st S 9 i 11 (.int ((q_i (S 9 i 11)) + 1))) 9 i 10 (.int 0) := by unfold x_wf_resume; rw [if_neg c_1, if_pos c_2, if_pos c_3]
        rw [hf]
        exact (q_kj h9).trans ((q_kj h9))
      · -- no
        have hf : x_wf_resume S i a b = q_st (q_st (q_st S 10 i ((q_i (S 9 i 14)).toNatClampNeg) (.int b)) 9 i 11 (.int ((q_i (S 9 i 11)) + 1))) 9 i 10 (.int 0) := by unfold x_wf_resume; rw [if_neg c_1, if_pos c_2, if_neg c_3]
        rw [hf]
        exact (q_kj h9).trans ((q_kj h9).trans ((q_kj h10)))
    · -- no
      have hf : x_wf_resume S i a b = q_st S 9 i 10 (.int 0) := by unfold x_wf_resume; rw [if_neg c_1, if_neg c_2]
      rw [hf]
      exact (q_kj h9)
def x_wf_note (S : q_S) (i : Nat) (a b : Int32) : q_S :=
  if q_i (S 18 i 2) < 6 then
    q_st (q_st (q_st (q_st S 19 i ((q_i (S 18 i 2)).toNatClampNeg) (.int a)) 20 i ((q_i (S 18 i 2)).toNatClampNeg) (.int b)) 18 i 2 (.int ((q_i (S 18 i 2)) + 1))) 9 i 11 (.int ((q_i (S 9 i 11)) + 1))
  else
    q_st S 9 i 10 (.int 7)
set_option maxRecDepth 100000 in
set_option maxHeartbeats 4000000 in
theorem xC_wf_note (l : Launch) (G : q_G) (S : q_S) (i : Nat) (a b : Int32) (hi : i < 6) (hI : xI S) : q_Mv xX G l xy_wf_note (q_ws (q_gw lw_tbl) xy_wf_note xb_wf_note 3 none) (q_rm 0) [.ref (q_a xX G 9 i), .int a, .int b] S (x_wf_note S i a b) := by
  refine q_met (cc := xb_wf_note) (maxL := 3) (ret := none) xOk (by decide) rfl (Nat.le_of_ble_eq_true rfl) ?_
  intro p e s m below meth c ls hC hr hlocks hW hS hl
  have hx := hC.1.1
  have hb := hC.1.2.1
  have hl : lv_has ls 3 [(0, .ref (q_a xX G 9 i)), (1, .int a), (2, .int b)] := hl
  refine lv_aload_n hx hb xd_wf_note_0 rfl (lv_at hl 0 rfl) ?_
  refine xg_wf_32 hC hW i hi xd_wf_note_1 ?_
  refine xg_wf_83 hC hW i hi (rfl) xd_wf_note_4 ?_
  refine lv_bipush (v := 6) hx hb xd_wf_note_7 (by decide) ?_
  refine lv_icmp_lt (tgt := 19) hx hb xd_wf_note_9 (by decide) (fun c_1 => ?_) (fun c_1 => ?_)
  · -- taken
    refine lv_aload_n hx hb xd_wf_note_19 rfl (lv_at hl 0 rfl) ?_
    refine xg_wf_32 hC hW i hi xd_wf_note_20 ?_
    refine xg_wf_115 hC hW i hi xd_wf_note_23 ?_
    refine lv_aload_n hx hb xd_wf_note_26 rfl (lv_at hl 0 rfl) ?_
    refine xg_wf_32 hC hW i hi xd_wf_note_27 ?_
    refine xg_wf_83 hC hW i hi (rfl) xd_wf_note_30 ?_
    refine lv_iload_n hx hb xd_wf_note_33 rfl (lv_at hl 1 rfl) ?_
    have h_2 : vp_in (q_i (S 18 i 2)) 6 := by have b1 : 0 ≤ (q_i (S 18 i 2)).toInt ∧ (q_i (S 18 i 2)).toInt ≤ 6 := hI 18 i 2; simp only [vp_in_iff, Int32.lt_iff_toInt_lt, Int32.le_iff_toInt_le, q_n0, q_n1, q_n2, q_n3, q_n4, q_n5, q_n6, q_n7, q_n10, q_n14, q_n15, q_n20, q_n60, q_n1288] at c_1 ⊢; omega
    refine xas_19 hC hW hS (fun _ h => h) i hi h_2 xd_wf_note_34 (fun H locs hW hS => ?_)
    refine lv_aload_n hx hb xd_wf_note_35 rfl (lv_at hl 0 rfl) ?_
    refine xg_wf_32 hC hW i hi xd_wf_note_36 ?_
    refine xg_wf_118 hC hW i hi xd_wf_note_39 ?_
    refine lv_aload_n hx hb xd_wf_note_42 rfl (lv_at hl 0 rfl) ?_
    refine xg_wf_32 hC hW i hi xd_wf_note_43 ?_
    refine xg_wf_83 hC hW i hi (q_sj (by decide) (rfl)) xd_wf_note_46 ?_
    refine W.eq (g2 := F0 m 49 ls [.int (q_i (S 18 i 2)), .ref (q_a xX G 20 i)]) rfl ?_
    refine lv_iload_n hx hb xd_wf_note_49 rfl (lv_at hl 2 rfl) ?_
    have h_3 : vp_in (q_i (S 18 i 2)) 6 := by have b1 : 0 ≤ (q_i (S 18 i 2)).toInt ∧ (q_i (S 18 i 2)).toInt ≤ 6 := hI 18 i 2; simp only [vp_in_iff, Int32.lt_iff_toInt_lt, Int32.le_iff_toInt_le, q_n0, q_n1, q_n2, q_n3, q_n4, q_n5, q_n6, q_n7, q_n10, q_n14, q_n15, q_n20, q_n60, q_n1288] at c_1 ⊢; omega
    refine xas_20 hC hW hS (fun _ h => h) i hi h_3 xd_wf_note_50 (fun H locs hW hS => ?_)
    refine lv_aload_n hx hb xd_wf_note_51 rfl (lv_at hl 0 rfl) ?_
    refine xg_wf_32 hC hW i hi xd_wf_note_52 ?_
    refine lv_dup hx hb xd_wf_note_55 rfl ?_
    refine xg_wf_83 hC hW i hi (q_sj (by decide) (q_sj (by decide) (rfl))) xd_wf_note_56 ?_
    refine lv_iconst (v := 1) hx hb xd_wf_note_59 (by decide) ?_
    refine lv_iadd hx hb xd_wf_note_60 ?_
    refine xg_wf_83p hC hW hS (fun _ h => h) i hi xd_wf_note_61 (fun H locs hW hS => ?_)
    refine lv_aload_n hx hb xd_wf_note_64 rfl (lv_at hl 0 rfl) ?_
    refine lv_dup hx hb xd_wf_note_65 rfl ?_
    refine xg_wf_77 hC hW i hi (q_sj (by decide) (q_sj (by decide) (q_sj (by decide) (rfl)))) xd_wf_note_66 ?_
    refine lv_iconst (v := 1) hx hb xd_wf_note_69 (by decide) ?_
    refine lv_iadd hx hb xd_wf_note_70 ?_
    refine W.eq (g2 := F0 m 71 ls [.int ((q_i (S 9 i 11)) + 1), .ref (q_a xX G 9 i)]) rfl ?_
    refine xg_wf_77p hC hW hS (fun _ h => h) i hi xd_wf_note_71 (fun H locs hW hS => ?_)
    have hf : x_wf_note S i a b = q_st (q_st (q_st (q_st S 19 i ((q_i (S 18 i 2)).toNatClampNeg) (.int a)) 20 i ((q_i (S 18 i 2)).toNatClampNeg) (.int b)) 18 i 2 (.int ((q_i (S 18 i 2)) + 1))) 9 i 11 (.int ((q_i (S 9 i 11)) + 1)) := by unfold x_wf_note; rw [if_pos c_1]
    rw [hf]
    exact q_vret hC hr hlocks hW hS rfl xd_wf_note_74
  · -- not taken
    refine lv_aload_n hx hb xd_wf_note_12 rfl (lv_at hl 0 rfl) ?_
    refine lv_bipush (v := 7) hx hb xd_wf_note_13 (by decide) ?_
    refine xg_wf_74p hC hW hS (fun _ h => h) i hi xd_wf_note_15 (fun H locs hW hS => ?_)
    have hf : x_wf_note S i a b = q_st S 9 i 10 (.int 7) := by unfold x_wf_note; rw [if_neg c_1]
    rw [hf]
    exact q_vret hC hr hlocks hW hS rfl xd_wf_note_18
set_option maxRecDepth 100000 in
set_option maxHeartbeats 4000000 in
theorem xI_wf_note (S : q_S) (i : Nat) (a b : Int32) (hi : i < 6) (hI : xI S) : xI (x_wf_note S i a b) := by
  by_cases c_1 : q_i (S 18 i 2) < 6
  · -- yes
    have h_2 : vp_in (q_i (S 18 i 2)) 6 := by have b1 : 0 ≤ (q_i (S 18 i 2)).toInt ∧ (q_i (S 18 i 2)).toInt ≤ 6 := hI 18 i 2; simp only [vp_in_iff, Int32.lt_iff_toInt_lt, Int32.le_iff_toInt_le, q_n0, q_n1, q_n2, q_n3, q_n4, q_n5, q_n6, q_n7, q_n10, q_n14, q_n15, q_n20, q_n60, q_n1288] at c_1 ⊢; omega
    have h_3 : vp_in (q_i (S 18 i 2)) 6 := by have b1 : 0 ≤ (q_i (S 18 i 2)).toInt ∧ (q_i (S 18 i 2)).toInt ≤ 6 := hI 18 i 2; simp only [vp_in_iff, Int32.lt_iff_toInt_lt, Int32.le_iff_toInt_le, q_n0, q_n1, q_n2, q_n3, q_n4, q_n5, q_n6, q_n7, q_n10, q_n14, q_n15, q_n20, q_n60, q_n1288] at c_1 ⊢; omega
    have hf : x_wf_note S i a b = q_st (q_st (q_st (q_st S 19 i ((q_i (S 18 i 2)).toNatClampNeg) (.int a)) 20 i ((q_i (S 18 i 2)).toNatClampNeg) (.int b)) 18 i 2 (.int ((q_i (S 18 i 2)) + 1))) 9 i 11 (.int ((q_i (S 9 i 11)) + 1)) := by unfold x_wf_note; rw [if_pos c_1]
    rw [hf]
    exact (q_Is (xI_st (q_Is (q_Is hI rfl) rfl) (by have b1 : 0 ≤ (q_i (S 18 i 2)).toInt ∧ (q_i (S 18 i 2)).toInt ≤ 6 := hI 18 i 2; have d_1 := q_inc (x := (q_i (S 18 i 2))) (by omega); simp only [Int32.lt_iff_toInt_lt, Int32.le_iff_toInt_le, q_n0, q_n1, q_n2, q_n3, q_n4, q_n5, q_n6, q_n7, q_n10, q_n14, q_n15, q_n20, q_n60, q_n1288] at c_1; show 0 ≤ ((q_i (S 18 i 2)) + 1).toInt ∧ ((q_i (S 18 i 2)) + 1).toInt ≤ 6; rw [q_inc (by omega)]; omega)) rfl)
  · -- no
    have hf : x_wf_note S i a b = q_st S 9 i 10 (.int 7) := by unfold x_wf_note; rw [if_neg c_1]
    rw [hf]
    exact (q_Is hI rfl)
set_option maxRecDepth 100000 in
set_option maxHeartbeats 4000000 in
theorem xK_wf_note (S : q_S) (i : Nat) (a b : Int32) (x y z : Nat) (h9 : x ≠ 9) (h18 : x ≠ 18) (h19 : x ≠ 19) (h20 : x ≠ 20) : (x_wf_note S i a b) x y z = S x y z := by
  by_cases c_1 : q_i (S 18 i 2) < 6
  · -- yes
    have hf : x_wf_note S i a b = q_st (q_st (q_st (q_st S 19 i ((q_i (S 18 i 2)).toNatClampNeg) (.int a)) 20 i ((q_i (S 18 i 2)).toNatClampNeg) (.int b)) 18 i 2 (.int ((q_i (S 18 i 2)) + 1))) 9 i 11 (.int ((q_i (S 9 i 11)) + 1)) := by unfold x_wf_note; rw [if_pos c_1]
    rw [hf]
    exact (q_kj h9).trans ((q_kj h18).trans ((q_kj h20).trans ((q_kj h19))))
  · -- no
    have hf : x_wf_note S i a b = q_st S 9 i 10 (.int 7) := by unfold x_wf_note; rw [if_neg c_1]
    rw [hf]
    exact (q_kj h9)
def x_wf_meetNext (S : q_S) (i : Nat) : q_S :=
  if q_i (S 9 i 10) = 0 then
    S
  else
    if x_wf_hasEnded S i = 0 then
      if q_i (S 11 i 4) < q_i (S 11 i 3) then
        if x_wf_waitsFor S i (q_i (S 12 i ((q_i (S 11 i 4)).toNatClampNeg))) (q_i (S 13 i ((q_i (S 11 i 4)).toNatClampNeg))) = 0 then
          q_st S 9 i 10 (.int 7)
        else
          x_wf_resume (q_st (q_st S 11 i 4 (.int ((q_i (S 11 i 4)) + 1))) 9 i 12 (.int 0)) i (q_i (S 12 i ((q_i (S 11 i 4)).toNatClampNeg))) (q_i (S 14 i ((q_i (S 11 i 4)).toNatClampNeg)))
      else
        S
    else
      S
set_option maxRecDepth 100000 in
set_option maxHeartbeats 4000000 in
theorem xC_wf_meetNext (l : Launch) (G : q_G) (S : q_S) (i : Nat) (hi : i < 6) (hI : xI S) : q_Mv xX G l xy_wf_meetNext (q_ws (q_gw lw_tbl) xy_wf_meetNext xb_wf_meetNext 2 none) (q_rm 1) [.ref (q_a xX G 9 i)] S (x_wf_meetNext S i) := by
  refine q_met (cc := xb_wf_meetNext) (maxL := 2) (ret := none) xOk (by decide) rfl (Nat.le_of_ble_eq_true rfl) ?_
  intro p e s m below meth c ls hC hr hlocks hW hS hl
  have hx := hC.1.1
  have hb := hC.1.2.1
  have hl : lv_has ls 2 [(0, .ref (q_a xX G 9 i))] := hl
  refine lv_aload_n hx hb xd_wf_meetNext_0 rfl (lv_at hl 0 rfl) ?_
  refine xg_wf_18 hC hW i hi xd_wf_meetNext_1 ?_
  refine xg_wf_58 hC hW i hi (rfl) xd_wf_meetNext_4 ?_
  refine lv_istore_n (lv' := [(1, .int (q_i (S 11 i 4))), (0, .ref (q_a xX G 9 i))]) hx hb xd_wf_meetNext_7 rfl hl (by decide) rfl (fun ls hl => ?_)
  refine lv_aload_n hx hb xd_wf_meetNext_8 rfl (lv_at hl 1 rfl) ?_
  refine xg_wf_74 hC hW i hi (rfl) xd_wf_meetNext_9 ?_
  refine lv_if_eq (tgt := 33) hx hb xd_wf_meetNext_12 (by decide) (fun c_1 => ?_) (fun c_1 => ?_)
  · -- taken
    have hf : x_wf_meetNext S i = S := by unfold x_wf_meetNext; rw [if_pos c_1]
    rw [hf]
    exact q_vret hC hr hlocks hW hS rfl xd_wf_meetNext_33
  · -- not taken
    refine lv_aload_n hx hb xd_wf_meetNext_15 rfl (lv_at hl 1 rfl) ?_
    refine q_calli hC hS (fun _ h => h) (q_runV (rest := []) hC hW (xC_wf_hasEnded l G S i hi) (xc_wf_87 (q_rm 0) hC.1.2.2.2.2 ⟨Nat.le_of_ble_eq_true rfl, Nat.le_of_ble_eq_true rfl⟩ rfl rfl) hi rfl rfl rfl hl.1 rfl (Nat.le_of_ble_eq_true rfl) xd_wf_meetNext_16 ⟨Nat.zero_le _, Nat.zero_le _⟩) (fun H locs hW hS => ?_)
    refine lv_if_ne (tgt := 33) hx hb xd_wf_meetNext_19 (by decide) (fun c_2 => ?_) (fun c_2 => ?_)
    · -- taken
      have hf : x_wf_meetNext S i = S := by unfold x_wf_meetNext; rw [if_neg c_1, if_neg c_2]
      rw [hf]
      exact q_vret hC hr hlocks hW hS rfl xd_wf_meetNext_33
    · -- not taken
      refine lv_iload_n hx hb xd_wf_meetNext_22 rfl (lv_at hl 0 rfl) ?_
      refine lv_aload_n hx hb xd_wf_meetNext_23 rfl (lv_at hl 1 rfl) ?_
      refine xg_wf_18 hC hW i hi xd_wf_meetNext_24 ?_
      refine xg_wf_57 hC hW i hi (rfl) xd_wf_meetNext_27 ?_
      refine lv_icmp_lt (tgt := 34) hx hb xd_wf_meetNext_30 (by decide) (fun c_3 => ?_) (fun c_3 => ?_)
      · -- taken
        refine lv_aload_n hx hb xd_wf_meetNext_34 rfl (lv_at hl 1 rfl) ?_
        refine lv_aload_n hx hb xd_wf_meetNext_35 rfl (lv_at hl 1 rfl) ?_
        refine xg_wf_18 hC hW i hi xd_wf_meetNext_36 ?_
        refine xg_wf_98 hC hW i hi xd_wf_meetNext_39 ?_
        refine lv_iload_n hx hb xd_wf_meetNext_42 rfl (lv_at hl 0 rfl) ?_
        have h_4 : vp_in (q_i (S 11 i 4)) 20 := by have b1 : 0 ≤ (q_i (S 11 i 4)).toInt ∧ (q_i (S 11 i 4)).toInt ≤ 20 := hI 11 i 4; have b2 : 0 ≤ (q_i (S 11 i 3)).toInt ∧ (q_i (S 11 i 3)).toInt ≤ 20 := hI 11 i 3; simp only [vp_in_iff, Int32.lt_iff_toInt_lt, Int32.le_iff_toInt_le, q_n0, q_n1, q_n2, q_n3, q_n4, q_n5, q_n6, q_n7, q_n10, q_n14, q_n15, q_n20, q_n60, q_n1288] at c_3 ⊢; omega
        refine xal_12 hC hW i hi h_4 (rfl) xd_wf_meetNext_43 ?_
        refine lv_aload_n hx hb xd_wf_meetNext_44 rfl (lv_at hl 1 rfl) ?_
        refine xg_wf_18 hC hW i hi xd_wf_meetNext_45 ?_
        refine xg_wf_101 hC hW i hi xd_wf_meetNext_48 ?_
        refine lv_iload_n hx hb xd_wf_meetNext_51 rfl (lv_at hl 0 rfl) ?_
        have h_5 : vp_in (q_i (S 11 i 4)) 20 := by have b1 : 0 ≤ (q_i (S 11 i 4)).toInt ∧ (q_i (S 11 i 4)).toInt ≤ 20 := hI 11 i 4; have b2 : 0 ≤ (q_i (S 11 i 3)).toInt ∧ (q_i (S 11 i 3)).toInt ≤ 20 := hI 11 i 3; simp only [vp_in_iff, Int32.lt_iff_toInt_lt, Int32.le_iff_toInt_le, q_n0, q_n1, q_n2, q_n3, q_n4, q_n5, q_n6, q_n7, q_n10, q_n14, q_n15, q_n20, q_n60, q_n1288] at c_3 ⊢; omega
        refine xal_13 hC hW i hi h_5 (rfl) xd_wf_meetNext_52 ?_
        refine q_calli hC hS (fun _ h => h) (q_runV (rest := []) hC hW (xC_wf_waitsFor l G S i (q_i (S 12 i ((q_i (S 11 i 4)).toNatClampNeg))) (q_i (S 13 i ((q_i (S 11 i 4)).toNatClampNeg))) hi) (xc_wf_104 (q_rm 0) hC.1.2.2.2.2 ⟨Nat.le_of_ble_eq_true rfl, Nat.le_of_ble_eq_true rfl⟩ rfl rfl) hi rfl rfl rfl hl.1 rfl (Nat.le_of_ble_eq_true rfl) xd_wf_meetNext_53 ⟨Nat.zero_le _, Nat.zero_le _⟩) (fun H locs hW hS => ?_)
        refine lv_if_ne (tgt := 66) hx hb xd_wf_meetNext_56 (by decide) (fun c_6 => ?_) (fun c_6 => ?_)
        · -- taken
          refine lv_aload_n hx hb xd_wf_meetNext_66 rfl (lv_at hl 1 rfl) ?_
          refine xg_wf_18 hC hW i hi xd_wf_meetNext_67 ?_
          refine lv_dup hx hb xd_wf_meetNext_70 rfl ?_
          refine xg_wf_58 hC hW i hi (rfl) xd_wf_meetNext_71 ?_
          refine lv_iconst (v := 1) hx hb xd_wf_meetNext_74 (by decide) ?_
          refine lv_iadd hx hb xd_wf_meetNext_75 ?_
          refine xg_wf_58p hC hW hS (fun _ h => h) i hi xd_wf_meetNext_76 (fun H locs hW hS => ?_)
          refine lv_aload_n hx hb xd_wf_meetNext_79 rfl (lv_at hl 1 rfl) ?_
          refine lv_iconst (v := 0) hx hb xd_wf_meetNext_80 (by decide) ?_
          refine xg_wf_80p hC hW hS (fun _ h => h) i hi xd_wf_meetNext_81 (fun H locs hW hS => ?_)
          refine lv_aload_n hx hb xd_wf_meetNext_84 rfl (lv_at hl 1 rfl) ?_
          refine lv_aload_n hx hb xd_wf_meetNext_85 rfl (lv_at hl 1 rfl) ?_
          refine xg_wf_18 hC hW i hi xd_wf_meetNext_86 ?_
          refine xg_wf_98 hC hW i hi xd_wf_meetNext_89 ?_
          refine W.eq (g2 := F0 m 92 ls [.ref (q_a xX G 12 i), .ref (q_a xX G 9 i)]) rfl ?_
          refine lv_iload_n hx hb xd_wf_meetNext_92 rfl (lv_at hl 0 rfl) ?_
          have h_7 : vp_in (q_i (S 11 i 4)) 20 := by have b1 : 0 ≤ (q_i (S 11 i 4)).toInt ∧ (q_i (S 11 i 4)).toInt ≤ 20 := hI 11 i 4; have b2 : 0 ≤ (q_i (S 11 i 3)).toInt ∧ (q_i (S 11 i 3)).toInt ≤ 20 := hI 11 i 3; simp only [vp_in_iff, Int32.lt_iff_toInt_lt, Int32.le_iff_toInt_le, q_n0, q_n1, q_n2, q_n3, q_n4, q_n5, q_n6, q_n7, q_n10, q_n14, q_n15, q_n20, q_n60, q_n1288] at c_3 ⊢; omega
          refine xal_12 hC hW i hi h_7 (q_sj (by decide) (q_sj (by decide) (rfl))) xd_wf_meetNext_93 ?_
          refine lv_aload_n hx hb xd_wf_meetNext_94 rfl (lv_at hl 1 rfl) ?_
          refine xg_wf_18 hC hW i hi xd_wf_meetNext_95 ?_
          refine xg_wf_84 hC hW i hi xd_wf_meetNext_98 ?_
          refine lv_iload_n hx hb xd_wf_meetNext_101 rfl (lv_at hl 0 rfl) ?_
          have h_8 : vp_in (q_i (S 11 i 4)) 20 := by have b1 : 0 ≤ (q_i (S 11 i 4)).toInt ∧ (q_i (S 11 i 4)).toInt ≤ 20 := hI 11 i 4; have b2 : 0 ≤ (q_i (S 11 i 3)).toInt ∧ (q_i (S 11 i 3)).toInt ≤ 20 := hI 11 i 3; simp only [vp_in_iff, Int32.lt_iff_toInt_lt, Int32.le_iff_toInt_le, q_n0, q_n1, q_n2, q_n3, q_n4, q_n5, q_n6, q_n7, q_n10, q_n14, q_n15, q_n20, q_n60, q_n1288] at c_3 ⊢; omega
          refine xal_14 hC hW i hi h_8 (q_sj (by decide) (q_sj (by decide) (rfl))) xd_wf_meetNext_102 ?_
          have hI_9 : xI (q_st (q_st S 11 i 4 (.int ((q_i (S 11 i 4)) + 1))) 9 i 12 (.int 0)) := (xI_st (xI_st hI (by have b1 : 0 ≤ (q_i (S 11 i 4)).toInt ∧ (q_i (S 11 i 4)).toInt ≤ 20 := hI 11 i 4; have b2 : 0 ≤ (q_i (S 11 i 3)).toInt ∧ (q_i (S 11 i 3)).toInt ≤ 20 := hI 11 i 3; have d_1 := q_inc (x := (q_i (S 11 i 4))) (by omega); simp only [Int32.lt_iff_toInt_lt, Int32.le_iff_toInt_le, q_n0, q_n1, q_n2, q_n3, q_n4, q_n5, q_n6, q_n7, q_n10, q_n14, q_n15, q_n20, q_n60, q_n1288] at c_3; show 0 ≤ ((q_i (S 11 i 4)) + 1).toInt ∧ ((q_i (S 11 i 4)) + 1).toInt ≤ 20; rw [q_inc (by omega)]; omega)) (by decide))
          refine q_callv hC hS (fun _ h => h) (q_runV (rest := []) hC hW (xC_wf_resume l G (q_st (q_st S 11 i 4 (.int ((q_i (S 11 i 4)) + 1))) 9 i 12 (.int 0)) i (q_i (S 12 i ((q_i (S 11 i 4)).toNatClampNeg))) (q_i (S 14 i ((q_i (S 11 i 4)).toNatClampNeg))) hi hI_9) (xc_wf_108 (q_rm 0) hC.1.2.2.2.2 ⟨Nat.le_of_ble_eq_true rfl, Nat.le_of_ble_eq_true rfl⟩ rfl rfl) hi rfl rfl rfl hl.1 rfl (Nat.le_of_ble_eq_true rfl) xd_wf_meetNext_103 ⟨Nat.zero_le _, Nat.zero_le _⟩) (fun H locs hW hS => ?_)
          have hf : x_wf_meetNext S i = x_wf_resume (q_st (q_st S 11 i 4 (.int ((q_i (S 11 i 4)) + 1))) 9 i 12 (.int 0)) i (q_i (S 12 i ((q_i (S 11 i 4)).toNatClampNeg))) (q_i (S 14 i ((q_i (S 11 i 4)).toNatClampNeg))) := by unfold x_wf_meetNext; rw [if_neg c_1, if_pos c_2, if_pos c_3, if_neg c_6]
          rw [hf]
          exact q_vret hC hr hlocks hW hS rfl xd_wf_meetNext_106
        · -- not taken
          refine lv_aload_n hx hb xd_wf_meetNext_59 rfl (lv_at hl 1 rfl) ?_
          refine lv_bipush (v := 7) hx hb xd_wf_meetNext_60 (by decide) ?_
          refine xg_wf_74p hC hW hS (fun _ h => h) i hi xd_wf_meetNext_62 (fun H locs hW hS => ?_)
          have hf : x_wf_meetNext S i = q_st S 9 i 10 (.int 7) := by unfold x_wf_meetNext; rw [if_neg c_1, if_pos c_2, if_pos c_3, if_pos c_6]
          rw [hf]
          exact q_vret hC hr hlocks hW hS rfl xd_wf_meetNext_65
      · -- not taken
        have hf : x_wf_meetNext S i = S := by unfold x_wf_meetNext; rw [if_neg c_1, if_pos c_2, if_neg c_3]
        rw [hf]
        exact q_vret hC hr hlocks hW hS rfl xd_wf_meetNext_33
set_option maxRecDepth 100000 in
set_option maxHeartbeats 4000000 in
theorem xI_wf_meetNext (S : q_S) (i : Nat) (hi : i < 6) (hI : xI S) : xI (x_wf_meetNext S i) := by
  by_cases c_1 : q_i (S 9 i 10) = 0
  · -- yes
    have hf : x_wf_meetNext S i = S := by unfold x_wf_meetNext; rw [if_pos c_1]
    rw [hf]
    exact hI
  · -- no
    by_cases c_2 : x_wf_hasEnded S i = 0
    · -- yes
      by_cases c_3 : q_i (S 11 i 4) < q_i (S 11 i 3)
      · -- yes
        by_cases c_6 : x_wf_waitsFor S i (q_i (S 12 i ((q_i (S 11 i 4)).toNatClampNeg))) (q_i (S 13 i ((q_i (S 11 i 4)).toNatClampNeg))) = 0
        · -- yes
          have h_4 : vp_in (q_i (S 11 i 4)) 20 := by have b1 : 0 ≤ (q_i (S 11 i 4)).toInt ∧ (q_i (S 11 i 4)).toInt ≤ 20 := hI 11 i 4; have b2 : 0 ≤ (q_i (S 11 i 3)).toInt ∧ (q_i (S 11 i 3)).toInt ≤ 20 := hI 11 i 3; simp only [vp_in_iff, Int32.lt_iff_toInt_lt, Int32.le_iff_toInt_le, q_n0, q_n1, q_n2, q_n3, q_n4, q_n5, q_n6, q_n7, q_n10, q_n14, q_n15, q_n20, q_n60, q_n1288] at c_3 ⊢; omega
          have h_5 : vp_in (q_i (S 11 i 4)) 20 := by have b1 : 0 ≤ (q_i (S 11 i 4)).toInt ∧ (q_i (S 11 i 4)).toInt ≤ 20 := hI 11 i 4; have b2 : 0 ≤ (q_i (S 11 i 3)).toInt ∧ (q_i (S 11 i 3)).toInt ≤ 20 := hI 11 i 3; simp only [vp_in_iff, Int32.lt_iff_toInt_lt, Int32.le_iff_toInt_le, q_n0, q_n1, q_n2, q_n3, q_n4, q_n5, q_n6, q_n7, q_n10, q_n14, q_n15, q_n20, q_n60, q_n1288] at c_3 ⊢; omega
          have hf : x_wf_meetNext S i = q_st S 9 i 10 (.int 7) := by unfold x_wf_meetNext; rw [if_neg c_1, if_pos c_2, if_pos c_3, if_pos c_6]
          rw [hf]
          exact (q_Is hI rfl)
        · -- no
          have h_4 : vp_in (q_i (S 11 i 4)) 20 := by have b1 : 0 ≤ (q_i (S 11 i 4)).toInt ∧ (q_i (S 11 i 4)).toInt ≤ 20 := hI 11 i 4; have b2 : 0 ≤ (q_i (S 11 i 3)).toInt ∧ (q_i (S 11 i 3)).toInt ≤ 20 := hI 11 i 3; simp only [vp_in_iff, Int32.lt_iff_toInt_lt, Int32.le_iff_toInt_le, q_n0, q_n1, q_n2, q_n3, q_n4, q_n5, q_n6, q_n7, q_n10, q_n14, q_n15, q_n20, q_n60, q_n1288] at c_3 ⊢; omega
          have h_5 : vp_in (q_i (S 11 i 4)) 20 := by have b1 : 0 ≤ (q_i (S 11 i 4)).toInt ∧ (q_i (S 11 i 4)).toInt ≤ 20 := hI 11 i 4; have b2 : 0 ≤ (q_i (S 11 i 3)).toInt ∧ (q_i (S 11 i 3)).toInt ≤ 20 := hI 11 i 3; simp only [vp_in_iff, Int32.lt_iff_toInt_lt, Int32.le_iff_toInt_le, q_n0, q_n1, q_n2, q_n3, q_n4, q_n5, q_n6, q_n7, q_n10, q_n14, q_n15, q_n20, q_n60, q_n1288] at c_3 ⊢; omega
          have h_7 : vp_in (q_i (S 11 i 4)) 20 := by have b1 : 0 ≤ (q_i (S 11 i 4)).toInt ∧ (q_i (S 11 i 4)).toInt ≤ 20 := hI 11 i 4; have b2 : 0 ≤ (q_i (S 11 i 3)).toInt ∧ (q_i (S 11 i 3)).toInt ≤ 20 := hI 11 i 3; simp only [vp_in_iff, Int32.lt_iff_toInt_lt, Int32.le_iff_toInt_le, q_n0, q_n1, q_n2, q_n3, q_n4, q_n5, q_n6, q_n7, q_n10, q_n14, q_n15, q_n20, q_n60, q_n1288] at c_3 ⊢; omega
          have h_8 : vp_in (q_i (S 11 i 4)) 20 := by have b1 : 0 ≤ (q_i (S 11 i 4)).toInt ∧ (q_i (S 11 i 4)).toInt ≤ 20 := hI 11 i 4; have b2 : 0 ≤ (q_i (S 11 i 3)).toInt ∧ (q_i (S 11 i 3)).toInt ≤ 20 := hI 11 i 3; simp only [vp_in_iff, Int32.lt_iff_toInt_lt, Int32.le_iff_toInt_le, q_n0, q_n1, q_n2, q_n3, q_n4, q_n5, q_n6, q_n7, q_n10, q_n14, q_n15, q_n20, q_n60, q_n1288] at c_3 ⊢; omega
          have hI_9 : xI (q_st (q_st S 11 i 4 (.int ((q_i (S 11 i 4)) + 1))) 9 i 12 (.int 0)) := (xI_st (xI_st hI (by have b1 : 0 ≤ (q_i (S 11 i 4)).toInt ∧ (q_i (S 11 i 4)).toInt ≤ 20 := hI 11 i 4; have b2 : 0 ≤ (q_i (S 11 i 3)).toInt ∧ (q_i (S 11 i 3)).toInt ≤ 20 := hI 11 i 3; have d_1 := q_inc (x := (q_i (S 11 i 4))) (by omega); simp only [Int32.lt_iff_toInt_lt, Int32.le_iff_toInt_le, q_n0, q_n1, q_n2, q_n3, q_n4, q_n5, q_n6, q_n7, q_n10, q_n14, q_n15, q_n20, q_n60, q_n1288] at c_3; show 0 ≤ ((q_i (S 11 i 4)) + 1).toInt ∧ ((q_i (S 11 i 4)) + 1).toInt ≤ 20; rw [q_inc (by omega)]; omega)) (by decide))
          have hf : x_wf_meetNext S i = x_wf_resume (q_st (q_st S 11 i 4 (.int ((q_i (S 11 i 4)) + 1))) 9 i 12 (.int 0)) i (q_i (S 12 i ((q_i (S 11 i 4)).toNatClampNeg))) (q_i (S 14 i ((q_i (S 11 i 4)).toNatClampNeg))) := by unfold x_wf_meetNext; rw [if_neg c_1, if_pos c_2, if_pos c_3, if_neg c_6]
          rw [hf]
          exact (xI_wf_resume (q_st (q_st S 11 i 4 (.int ((q_i (S 11 i 4)) + 1))) 9 i 12 (.int 0)) i (q_i (S 12 i ((q_i (S 11 i 4)).toNatClampNeg))) (q_i (S 14 i ((q_i (S 11 i 4)).toNatClampNeg))) hi hI_9)
      · -- no
        have hf : x_wf_meetNext S i = S := by unfold x_wf_meetNext; rw [if_neg c_1, if_pos c_2, if_neg c_3]
        rw [hf]
        exact hI
    · -- no
      have hf : x_wf_meetNext S i = S := by unfold x_wf_meetNext; rw [if_neg c_1, if_neg c_2]
      rw [hf]
      exact hI
set_option maxRecDepth 100000 in
set_option maxHeartbeats 4000000 in
theorem xK_wf_meetNext (S : q_S) (i : Nat) (x y z : Nat) (h9 : x ≠ 9) (h10 : x ≠ 10) (h11 : x ≠ 11) : (x_wf_meetNext S i) x y z = S x y z := by
  by_cases c_1 : q_i (S 9 i 10) = 0
  · -- yes
    have hf : x_wf_meetNext S i = S := by unfold x_wf_meetNext; rw [if_pos c_1]
    rw [hf]
  · -- no
    by_cases c_2 : x_wf_hasEnded S i = 0
    · -- yes
      by_cases c_3 : q_i (S 11 i 4) < q_i (S 11 i 3)
      · -- yes
        by_cases c_6 : x_wf_waitsFor S i (q_i (S 12 i ((q_i (S 11 i 4)).toNatClampNeg))) (q_i (S 13 i ((q_i (S 11 i 4)).toNatClampNeg))) = 0
        · -- yes
          have hf : x_wf_meetNext S i = q_st S 9 i 10 (.int 7) := by unfold x_wf_meetNext; rw [if_neg c_1, if_pos c_2, if_pos c_3, if_pos c_6]
          rw [hf]
          exact (q_kj h9)
        · -- no
          have hf : x_wf_meetNext S i = x_wf_resume (q_st (q_st S 11 i 4 (.int ((q_i (S 11 i 4)) + 1))) 9 i 12 (.int 0)) i (q_i (S 12 i ((q_i (S 11 i 4)).toNatClampNeg))) (q_i (S 14 i ((q_i (S 11 i 4)).toNatClampNeg))) := by unfold x_wf_meetNext; rw [if_neg c_1, if_pos c_2, if_pos c_3, if_neg c_6]
          rw [hf]
          exact ((xK_wf_resume (q_st (q_st S 11 i 4 (.int ((q_i (S 11 i 4)) + 1))) 9 i 12 (.int 0)) i (q_i (S 12 i ((q_i (S 11 i 4)).toNatClampNeg))) (q_i (S 14 i ((q_i (S 11 i 4)).toNatClampNeg))) x y z h9 h10)).trans ((q_kj h9).trans ((q_kj h11)))
      · -- no
        have hf : x_wf_meetNext S i = S := by unfold x_wf_meetNext; rw [if_neg c_1, if_pos c_2, if_neg c_3]
        rw [hf]
    · -- no
      have hf : x_wf_meetNext S i = S := by unfold x_wf_meetNext; rw [if_neg c_1, if_neg c_2]
      rw [hf]
def x_wf_compute (S : q_S) (i : Nat) (a b d : Int32) : q_S :=
  if a = 0 then
    q_st (q_st S 10 i b.toNatClampNeg (.int d)) 9 i 11 (.int ((q_i (S 9 i 11)) + 1))
  else
    if a = 1 then
      q_st (q_st S 10 i b.toNatClampNeg (.int ((q_i (S 10 i b.toNatClampNeg)) + (q_i (S 10 i d.toNatClampNeg))))) 9 i 11 (.int ((q_i (S 9 i 11)) + 1))
    else
      if a = 2 then
        if q_i (S 10 i d.toNatClampNeg) ≤ q_i (S 10 i b.toNatClampNeg) then
          q_st (q_st S 10 i b.toNatClampNeg (.int 0)) 9 i 11 (.int ((q_i (S 9 i 11)) + 1))
        else
          q_st (q_st S 10 i b.toNatClampNeg (.int 1)) 9 i 11 (.int ((q_i (S 9 i 11)) + 1))
      else
        if a = 3 then
          q_st S 9 i 11 (.int b)
        else
          if a = 4 then
            if q_i (S 10 i b.toNatClampNeg) = 0 then
              q_st S 9 i 11 (.int d)
            else
              q_st S 9 i 11 (.int ((q_i (S 9 i 11)) + 1))
          else
            q_st S 9 i 11 (.int ((q_i (S 9 i 11)) + 1))
set_option maxRecDepth 100000 in
set_option maxHeartbeats 4000000 in
theorem xC_wf_compute (l : Launch) (G : q_G) (S : q_S) (i : Nat) (a b d : Int32) (hi : i < 6) (hI : xI S) (hv1 : (a = 0 ∨ a = 1 ∨ a = 2 ∨ a = 4) → vp_in b 4) (hv2 : (a = 1 ∨ a = 2) → vp_in d 4) : q_Mv xX G l xy_wf_compute (q_ws (q_gw lw_tbl) xy_wf_compute xb_wf_compute 5 none) (q_rm 0) [.ref (q_a xX G 9 i), .int a, .int b, .int d] S (x_wf_compute S i a b d) := by
  refine q_met (cc := xb_wf_compute) (maxL := 5) (ret := none) xOk (by decide) rfl (Nat.le_of_ble_eq_true rfl) ?_
  intro p e s m below meth c ls hC hr hlocks hW hS hl
  have hx := hC.1.1
  have hb := hC.1.2.1
  have hl : lv_has ls 5 [(0, .ref (q_a xX G 9 i)), (1, .int a), (2, .int b), (3, .int d)] := hl
  refine lv_aload_n hx hb xd_wf_compute_0 rfl (lv_at hl 0 rfl) ?_
  refine xg_wf_77 hC hW i hi (rfl) xd_wf_compute_1 ?_
  refine lv_iconst (v := 1) hx hb xd_wf_compute_4 (by decide) ?_
  refine lv_iadd hx hb xd_wf_compute_5 ?_
  refine lv_istore (lv' := [(4, .int ((q_i (S 9 i 11)) + 1)), (0, .ref (q_a xX G 9 i)), (1, .int a), (2, .int b), (3, .int d)]) hx hb xd_wf_compute_6 hl (by decide) rfl (fun ls hl => ?_)
  refine lv_iload_n hx hb xd_wf_compute_8 rfl (lv_at hl 2 rfl) ?_
  by_cases c_1 : a = 0
  · -- case 0
    refine lv_tableIn (off := 35) (tgt := 44) hx hb xd_wf_compute_9 (by rw [c_1]; decide) (by rw [c_1]; decide) (by rw [c_1]; decide) (by decide) ?_
    refine lv_aload_n hx hb xd_wf_compute_44 rfl (lv_at hl 1 rfl) ?_
    refine xg_wf_9 hC hW i hi xd_wf_compute_45 ?_
    refine lv_iload_n hx hb xd_wf_compute_48 rfl (lv_at hl 3 rfl) ?_
    refine lv_iload_n hx hb xd_wf_compute_49 rfl (lv_at hl 4 rfl) ?_
    have h_2 : vp_in b 4 := hv1 (by rw [c_1]; decide)
    refine xas_10 hC hW hS (fun _ h => h) i hi h_2 xd_wf_compute_50 (fun H locs hW hS => ?_)
    refine lv_goto (tgt := 127) hx hb xd_wf_compute_51 (by decide) ?_
    refine lv_aload_n hx hb xd_wf_compute_127 rfl (lv_at hl 1 rfl) ?_
    refine lv_iload hx hb xd_wf_compute_128 (lv_at hl 0 rfl) ?_
    refine xg_wf_77p hC hW hS (fun _ h => h) i hi xd_wf_compute_130 (fun H locs hW hS => ?_)
    have hf : x_wf_compute S i a b d = q_st (q_st S 10 i b.toNatClampNeg (.int d)) 9 i 11 (.int ((q_i (S 9 i 11)) + 1)) := by unfold x_wf_compute; rw [if_pos c_1]
    rw [hf]
    exact q_vret hC hr hlocks hW hS rfl xd_wf_compute_133
  · -- others
    by_cases c_3 : a = 1
    · -- case 1
      refine lv_tableIn (off := 45) (tgt := 54) hx hb xd_wf_compute_9 (by rw [c_3]; decide) (by rw [c_3]; decide) (by rw [c_3]; decide) (by decide) ?_
      refine lv_aload_n hx hb xd_wf_compute_54 rfl (lv_at hl 1 rfl) ?_
      refine xg_wf_9 hC hW i hi xd_wf_compute_55 ?_
      refine lv_iload_n hx hb xd_wf_compute_58 rfl (lv_at hl 3 rfl) ?_
      refine lv_dup2_11 hx hb xd_wf_compute_59 rfl rfl ?_
      have h_4 : vp_in b 4 := hv1 (by rw [c_3]; decide)
      refine xal_10 hC hW i hi h_4 (rfl) xd_wf_compute_60 ?_
      refine lv_aload_n hx hb xd_wf_compute_61 rfl (lv_at hl 1 rfl) ?_
      refine xg_wf_9 hC hW i hi xd_wf_compute_62 ?_
      refine lv_iload_n hx hb xd_wf_compute_65 rfl (lv_at hl 4 rfl) ?_
      have h_5 : vp_in d 4 := hv2 (by rw [c_3]; decide)
      refine xal_10 hC hW i hi h_5 (rfl) xd_wf_compute_66 ?_
      refine lv_iadd hx hb xd_wf_compute_67 ?_
      have h_6 : vp_in b 4 := hv1 (by rw [c_3]; decide)
      refine xas_10 hC hW hS (fun _ h => h) i hi h_6 xd_wf_compute_68 (fun H locs hW hS => ?_)
      refine lv_goto (tgt := 127) hx hb xd_wf_compute_69 (by decide) ?_
      refine lv_aload_n hx hb xd_wf_compute_127 rfl (lv_at hl 1 rfl) ?_
      refine lv_iload hx hb xd_wf_compute_128 (lv_at hl 0 rfl) ?_
      refine xg_wf_77p hC hW hS (fun _ h => h) i hi xd_wf_compute_130 (fun H locs hW hS => ?_)
      refine W.eq (g2 := F0 m 133 ls []) rfl ?_
      have hf : x_wf_compute S i a b d = q_st (q_st S 10 i b.toNatClampNeg (.int ((q_i (S 10 i b.toNatClampNeg)) + (q_i (S 10 i d.toNatClampNeg))))) 9 i 11 (.int ((q_i (S 9 i 11)) + 1)) := by unfold x_wf_compute; rw [if_neg c_1, if_pos c_3]
      rw [hf]
      exact q_vret hC hr hlocks hW hS rfl xd_wf_compute_133
    · -- others
      by_cases c_7 : a = 2
      · -- case 2
        refine lv_tableIn (off := 63) (tgt := 72) hx hb xd_wf_compute_9 (by rw [c_7]; decide) (by rw [c_7]; decide) (by rw [c_7]; decide) (by decide) ?_
        refine lv_aload_n hx hb xd_wf_compute_72 rfl (lv_at hl 1 rfl) ?_
        refine xg_wf_9 hC hW i hi xd_wf_compute_73 ?_
        refine lv_iload_n hx hb xd_wf_compute_76 rfl (lv_at hl 3 rfl) ?_
        refine lv_aload_n hx hb xd_wf_compute_77 rfl (lv_at hl 1 rfl) ?_
        refine xg_wf_9 hC hW i hi xd_wf_compute_78 ?_
        refine lv_iload_n hx hb xd_wf_compute_81 rfl (lv_at hl 3 rfl) ?_
        have h_8 : vp_in b 4 := hv1 (by rw [c_7]; decide)
        refine xal_10 hC hW i hi h_8 (rfl) xd_wf_compute_82 ?_
        refine lv_aload_n hx hb xd_wf_compute_83 rfl (lv_at hl 1 rfl) ?_
        refine xg_wf_9 hC hW i hi xd_wf_compute_84 ?_
        refine lv_iload_n hx hb xd_wf_compute_87 rfl (lv_at hl 4 rfl) ?_
        have h_9 : vp_in d 4 := hv2 (by rw [c_7]; decide)
        refine xal_10 hC hW i hi h_9 (rfl) xd_wf_compute_88 ?_
        refine lv_icmp_ge (tgt := 96) hx hb xd_wf_compute_89 (by decide) (fun c_10 => ?_) (fun c_10 => ?_)
        · -- taken
          refine lv_iconst (v := 0) hx hb xd_wf_compute_96 (by decide) ?_
          have h_11 : vp_in b 4 := hv1 (by rw [c_7]; decide)
          refine xas_10 hC hW hS (fun _ h => h) i hi h_11 xd_wf_compute_97 (fun H locs hW hS => ?_)
          refine lv_goto (tgt := 127) hx hb xd_wf_compute_98 (by decide) ?_
          refine lv_aload_n hx hb xd_wf_compute_127 rfl (lv_at hl 1 rfl) ?_
          refine lv_iload hx hb xd_wf_compute_128 (lv_at hl 0 rfl) ?_
          refine xg_wf_77p hC hW hS (fun _ h => h) i hi xd_wf_compute_130 (fun H locs hW hS => ?_)
          have hf : x_wf_compute S i a b d = q_st (q_st S 10 i b.toNatClampNeg (.int 0)) 9 i 11 (.int ((q_i (S 9 i 11)) + 1)) := by unfold x_wf_compute; rw [if_neg c_1, if_neg c_3, if_pos c_7, if_pos c_10]
          rw [hf]
          exact q_vret hC hr hlocks hW hS rfl xd_wf_compute_133
        · -- not taken
          refine lv_iconst (v := 1) hx hb xd_wf_compute_92 (by decide) ?_
          refine lv_goto (tgt := 97) hx hb xd_wf_compute_93 (by decide) ?_
          have h_12 : vp_in b 4 := hv1 (by rw [c_7]; decide)
          refine xas_10 hC hW hS (fun _ h => h) i hi h_12 xd_wf_compute_97 (fun H locs hW hS => ?_)
          refine lv_goto (tgt := 127) hx hb xd_wf_compute_98 (by decide) ?_
          refine lv_aload_n hx hb xd_wf_compute_127 rfl (lv_at hl 1 rfl) ?_
          refine lv_iload hx hb xd_wf_compute_128 (lv_at hl 0 rfl) ?_
          refine xg_wf_77p hC hW hS (fun _ h => h) i hi xd_wf_compute_130 (fun H locs hW hS => ?_)
          have hf : x_wf_compute S i a b d = q_st (q_st S 10 i b.toNatClampNeg (.int 1)) 9 i 11 (.int ((q_i (S 9 i 11)) + 1)) := by unfold x_wf_compute; rw [if_neg c_1, if_neg c_3, if_pos c_7, if_neg c_10]
          rw [hf]
          exact q_vret hC hr hlocks hW hS rfl xd_wf_compute_133
      · -- others
        by_cases c_13 : a = 3
        · -- case 3
          refine lv_tableIn (off := 92) (tgt := 101) hx hb xd_wf_compute_9 (by rw [c_13]; decide) (by rw [c_13]; decide) (by rw [c_13]; decide) (by decide) ?_
          refine lv_iload_n hx hb xd_wf_compute_101 rfl (lv_at hl 3 rfl) ?_
          refine lv_istore (lv' := [(4, .int b), (0, .ref (q_a xX G 9 i)), (1, .int a), (2, .int b), (3, .int d)]) hx hb xd_wf_compute_102 hl (by decide) rfl (fun ls hl => ?_)
          refine lv_goto (tgt := 127) hx hb xd_wf_compute_104 (by decide) ?_
          refine lv_aload_n hx hb xd_wf_compute_127 rfl (lv_at hl 1 rfl) ?_
          refine lv_iload hx hb xd_wf_compute_128 (lv_at hl 0 rfl) ?_
          refine xg_wf_77p hC hW hS (fun _ h => h) i hi xd_wf_compute_130 (fun H locs hW hS => ?_)
          have hf : x_wf_compute S i a b d = q_st S 9 i 11 (.int b) := by unfold x_wf_compute; rw [if_neg c_1, if_neg c_3, if_neg c_7, if_pos c_13]
          rw [hf]
          exact q_vret hC hr hlocks hW hS rfl xd_wf_compute_133
        · -- others
          by_cases c_14 : a = 4
          · -- case 4
            refine lv_tableIn (off := 98) (tgt := 107) hx hb xd_wf_compute_9 (by rw [c_14]; decide) (by rw [c_14]; decide) (by rw [c_14]; decide) (by decide) ?_
            refine lv_aload_n hx hb xd_wf_compute_107 rfl (lv_at hl 1 rfl) ?_
            refine xg_wf_9 hC hW i hi xd_wf_compute_108 ?_
            refine lv_iload_n hx hb xd_wf_compute_111 rfl (lv_at hl 3 rfl) ?_
            have h_15 : vp_in b 4 := hv1 (by rw [c_14]; decide)
            refine xal_10 hC hW i hi h_15 (rfl) xd_wf_compute_112 ?_
            refine lv_if_ne (tgt := 120) hx hb xd_wf_compute_113 (by decide) (fun c_16 => ?_) (fun c_16 => ?_)
            · -- taken
              refine lv_iload hx hb xd_wf_compute_120 (lv_at hl 0 rfl) ?_
              refine lv_istore (lv' := [(4, .int ((q_i (S 9 i 11)) + 1)), (0, .ref (q_a xX G 9 i)), (1, .int a), (2, .int b), (3, .int d)]) hx hb xd_wf_compute_122 hl (by decide) rfl (fun ls hl => ?_)
              refine lv_goto (tgt := 127) hx hb xd_wf_compute_124 (by decide) ?_
              refine lv_aload_n hx hb xd_wf_compute_127 rfl (lv_at hl 1 rfl) ?_
              refine lv_iload hx hb xd_wf_compute_128 (lv_at hl 0 rfl) ?_
              refine xg_wf_77p hC hW hS (fun _ h => h) i hi xd_wf_compute_130 (fun H locs hW hS => ?_)
              have hf : x_wf_compute S i a b d = q_st S 9 i 11 (.int ((q_i (S 9 i 11)) + 1)) := by unfold x_wf_compute; rw [if_neg c_1, if_neg c_3, if_neg c_7, if_neg c_13, if_pos c_14, if_neg c_16]
              rw [hf]
              exact q_vret hC hr hlocks hW hS rfl xd_wf_compute_133
            · -- not taken
              refine lv_iload_n hx hb xd_wf_compute_116 rfl (lv_at hl 4 rfl) ?_
              refine lv_goto (tgt := 122) hx hb xd_wf_compute_117 (by decide) ?_
              refine lv_istore (lv' := [(4, .int d), (0, .ref (q_a xX G 9 i)), (1, .int a), (2, .int b), (3, .int d)]) hx hb xd_wf_compute_122 hl (by decide) rfl (fun ls hl => ?_)
              refine lv_goto (tgt := 127) hx hb xd_wf_compute_124 (by decide) ?_
              refine lv_aload_n hx hb xd_wf_compute_127 rfl (lv_at hl 1 rfl) ?_
              refine lv_iload hx hb xd_wf_compute_128 (lv_at hl 0 rfl) ?_
              refine xg_wf_77p hC hW hS (fun _ h => h) i hi xd_wf_compute_130 (fun H locs hW hS => ?_)
              have hf : x_wf_compute S i a b d = q_st S 9 i 11 (.int d) := by unfold x_wf_compute; rw [if_neg c_1, if_neg c_3, if_neg c_7, if_neg c_13, if_pos c_14, if_pos c_16]
              rw [hf]
              exact q_vret hC hr hlocks hW hS rfl xd_wf_compute_133
          · -- others
            refine lv_tableOut (tgt := 127) hx hb xd_wf_compute_9 (by have n0 := lv_neT c_1 (a := 0) (by decide); have n1 := lv_neT c_3 (a := 1) (by decide); have n2 := lv_neT c_7 (a := 2) (by decide); have n3 := lv_neT c_13 (a := 3) (by decide); have n4 := lv_neT c_14 (a := 4) (by decide); omega) (by decide) ?_
            refine lv_aload_n hx hb xd_wf_compute_127 rfl (lv_at hl 1 rfl) ?_
            refine lv_iload hx hb xd_wf_compute_128 (lv_at hl 0 rfl) ?_
            refine xg_wf_77p hC hW hS (fun _ h => h) i hi xd_wf_compute_130 (fun H locs hW hS => ?_)
            have hf : x_wf_compute S i a b d = q_st S 9 i 11 (.int ((q_i (S 9 i 11)) + 1)) := by unfold x_wf_compute; rw [if_neg c_1, if_neg c_3, if_neg c_7, if_neg c_13, if_neg c_14]
            rw [hf]
            exact q_vret hC hr hlocks hW hS rfl xd_wf_compute_133
set_option maxRecDepth 100000 in
set_option maxHeartbeats 4000000 in
theorem xI_wf_compute (S : q_S) (i : Nat) (a b d : Int32) (hi : i < 6) (hI : xI S) (hv1 : (a = 0 ∨ a = 1 ∨ a = 2 ∨ a = 4) → vp_in b 4) (hv2 : (a = 1 ∨ a = 2) → vp_in d 4) : xI (x_wf_compute S i a b d) := by
  by_cases c_1 : a = 0
  · -- yes
    have h_2 : vp_in b 4 := hv1 (by rw [c_1]; decide)
    have hf : x_wf_compute S i a b d = q_st (q_st S 10 i b.toNatClampNeg (.int d)) 9 i 11 (.int ((q_i (S 9 i 11)) + 1)) := by unfold x_wf_compute; rw [if_pos c_1]
    rw [hf]
    exact (q_Is (q_Is hI rfl) rfl)
  · -- no
    by_cases c_3 : a = 1
    · -- yes
      have h_4 : vp_in b 4 := hv1 (by rw [c_3]; decide)
      have h_5 : vp_in d 4 := hv2 (by rw [c_3]; decide)
      have h_6 : vp_in b 4 := hv1 (by rw [c_3]; decide)
      have hf : x_wf_compute S i a b d = q_st (q_st S 10 i b.toNatClampNeg (.int ((q_i (S 10 i b.toNatClampNeg)) + (q_i (S 10 i d.toNatClampNeg))))) 9 i 11 (.int ((q_i (S 9 i 11)) + 1)) := by unfold x_wf_compute; rw [if_neg c_1, if_pos c_3]
      rw [hf]
      exact (q_Is (q_Is hI rfl) rfl)
    · -- no
      by_cases c_7 : a = 2
      · -- yes
        by_cases c_10 : q_i (S 10 i d.toNatClampNeg) ≤ q_i (S 10 i b.toNatClampNeg)
        · -- yes
          have h_8 : vp_in b 4 := hv1 (by rw [c_7]; decide)
          have h_9 : vp_in d 4 := hv2 (by rw [c_7]; decide)
          have h_11 : vp_in b 4 := hv1 (by rw [c_7]; decide)
          have hf : x_wf_compute S i a b d = q_st (q_st S 10 i b.toNatClampNeg (.int 0)) 9 i 11 (.int ((q_i (S 9 i 11)) + 1)) := by unfold x_wf_compute; rw [if_neg c_1, if_neg c_3, if_pos c_7, if_pos c_10]
          rw [hf]
          exact (q_Is (q_Is hI rfl) rfl)
        · -- no
          have h_8 : vp_in b 4 := hv1 (by rw [c_7]; decide)
          have h_9 : vp_in d 4 := hv2 (by rw [c_7]; decide)
          have h_12 : vp_in b 4 := hv1 (by rw [c_7]; decide)
          have hf : x_wf_compute S i a b d = q_st (q_st S 10 i b.toNatClampNeg (.int 1)) 9 i 11 (.int ((q_i (S 9 i 11)) + 1)) := by unfold x_wf_compute; rw [if_neg c_1, if_neg c_3, if_pos c_7, if_neg c_10]
          rw [hf]
          exact (q_Is (q_Is hI rfl) rfl)
      · -- no
        by_cases c_13 : a = 3
        · -- yes
          have hf : x_wf_compute S i a b d = q_st S 9 i 11 (.int b) := by unfold x_wf_compute; rw [if_neg c_1, if_neg c_3, if_neg c_7, if_pos c_13]
          rw [hf]
          exact (q_Is hI rfl)
        · -- no
          by_cases c_14 : a = 4
          · -- yes
            by_cases c_16 : q_i (S 10 i b.toNatClampNeg) = 0
            · -- yes
              have h_15 : vp_in b 4 := hv1 (by rw [c_14]; decide)
              have hf : x_wf_compute S i a b d = q_st S 9 i 11 (.int d) := by unfold x_wf_compute; rw [if_neg c_1, if_neg c_3, if_neg c_7, if_neg c_13, if_pos c_14, if_pos c_16]
              rw [hf]
              exact (q_Is hI rfl)
            · -- no
              have h_15 : vp_in b 4 := hv1 (by rw [c_14]; decide)
              have hf : x_wf_compute S i a b d = q_st S 9 i 11 (.int ((q_i (S 9 i 11)) + 1)) := by unfold x_wf_compute; rw [if_neg c_1, if_neg c_3, if_neg c_7, if_neg c_13, if_pos c_14, if_neg c_16]
              rw [hf]
              exact (q_Is hI rfl)
          · -- no
            have hf : x_wf_compute S i a b d = q_st S 9 i 11 (.int ((q_i (S 9 i 11)) + 1)) := by unfold x_wf_compute; rw [if_neg c_1, if_neg c_3, if_neg c_7, if_neg c_13, if_neg c_14]
            rw [hf]
            exact (q_Is hI rfl)
set_option maxRecDepth 100000 in
set_option maxHeartbeats 4000000 in
theorem xK_wf_compute (S : q_S) (i : Nat) (a b d : Int32) (x y z : Nat) (h9 : x ≠ 9) (h10 : x ≠ 10) : (x_wf_compute S i a b d) x y z = S x y z := by
  by_cases c_1 : a = 0
  · -- yes
    have hf : x_wf_compute S i a b d = q_st (q_st S 10 i b.toNatClampNeg (.int d)) 9 i 11 (.int ((q_i (S 9 i 11)) + 1)) := by unfold x_wf_compute; rw [if_pos c_1]
    rw [hf]
    exact (q_kj h9).trans ((q_kj h10))
  · -- no
    by_cases c_3 : a = 1
    · -- yes
      have hf : x_wf_compute S i a b d = q_st (q_st S 10 i b.toNatClampNeg (.int ((q_i (S 10 i b.toNatClampNeg)) + (q_i (S 10 i d.toNatClampNeg))))) 9 i 11 (.int ((q_i (S 9 i 11)) + 1)) := by unfold x_wf_compute; rw [if_neg c_1, if_pos c_3]
      rw [hf]
      exact (q_kj h9).trans ((q_kj h10))
    · -- no
      by_cases c_7 : a = 2
      · -- yes
        by_cases c_10 : q_i (S 10 i d.toNatClampNeg) ≤ q_i (S 10 i b.toNatClampNeg)
        · -- yes
          have hf : x_wf_compute S i a b d = q_st (q_st S 10 i b.toNatClampNeg (.int 0)) 9 i 11 (.int ((q_i (S 9 i 11)) + 1)) := by unfold x_wf_compute; rw [if_neg c_1, if_neg c_3, if_pos c_7, if_pos c_10]
          rw [hf]
          exact (q_kj h9).trans ((q_kj h10))
        · -- no
          have hf : x_wf_compute S i a b d = q_st (q_st S 10 i b.toNatClampNeg (.int 1)) 9 i 11 (.int ((q_i (S 9 i 11)) + 1)) := by unfold x_wf_compute; rw [if_neg c_1, if_neg c_3, if_pos c_7, if_neg c_10]
          rw [hf]
          exact (q_kj h9).trans ((q_kj h10))
      · -- no
        by_cases c_13 : a = 3
        · -- yes
          have hf : x_wf_compute S i a b d = q_st S 9 i 11 (.int b) := by unfold x_wf_compute; rw [if_neg c_1, if_neg c_3, if_neg c_7, if_pos c_13]
          rw [hf]
          exact (q_kj h9)
        · -- no
          by_cases c_14 : a = 4
          · -- yes
            by_cases c_16 : q_i (S 10 i b.toNatClampNeg) = 0
            · -- yes
              have hf : x_wf_compute S i a b d = q_st S 9 i 11 (.int d) := by unfold x_wf_compute; rw [if_neg c_1, if_neg c_3, if_neg c_7, if_neg c_13, if_pos c_14, if_pos c_16]
              rw [hf]
              exact (q_kj h9)
            · -- no
              have hf : x_wf_compute S i a b d = q_st S 9 i 11 (.int ((q_i (S 9 i 11)) + 1)) := by unfold x_wf_compute; rw [if_neg c_1, if_neg c_3, if_neg c_7, if_neg c_13, if_pos c_14, if_neg c_16]
              rw [hf]
              exact (q_kj h9)
          · -- no
            have hf : x_wf_compute S i a b d = q_st S 9 i 11 (.int ((q_i (S 9 i 11)) + 1)) := by unfold x_wf_compute; rw [if_neg c_1, if_neg c_3, if_neg c_7, if_neg c_13, if_neg c_14]
            rw [hf]
            exact (q_kj h9)
