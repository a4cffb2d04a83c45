def xXt (U : State) : Prop := va_Nw (.methodLinkNest "FlowEngine" 23 xy_tl_init "FlowEngine") U ∧ va_Nw (.methodLinkNest "FlowEngine" 28 xy_pr_init "FlowEngine") U ∧ va_Nw (.methodLinkNest "FlowEngine$Workflow" 17 xy_hi_init "FlowEngine") U ∧ va_Nw (.methodLinkNest "FlowEngine$Workflow" 24 xy_ke_init "FlowEngine") U ∧ va_Nw (.methodLinkNest "FlowEngine$Workflow" 31 xy_ul_init "FlowEngine") U ∧ va_Nw (.methodLinkNest "FlowEngine$Workflow" 38 xy_ta_init "FlowEngine") U ∧ va_AO "FlowEngine$Program" U ∧ va_AO "FlowEngine$Workflow" U
theorem xXs : ∀ u U : State, u.vm = U.vm → xXt u → xXt U := by
  intro u U h q
  obtain ⟨h0, h1, h2, h3, h4, h5, h6, h7⟩ := q
  exact ⟨va_Nw.same rfl h h0, va_Nw.same rfl h h1, va_Nw.same rfl h h2, va_Nw.same rfl h h3, va_Nw.same rfl h h4, va_Nw.same rfl h h5, va_AO.moved (by rw [h]; exact Vm.Alike.refl _) h6, va_AO.moved (by rw [h]; exact Vm.Alike.refl _) h7⟩
theorem xXw : ∀ u U : State, u.WarmedH U.vm → xXt u → xXt U := by
  intro u U h q
  obtain ⟨h0, h1, h2, h3, h4, h5, h6, h7⟩ := q
  exact ⟨va_Nw.warmM h h0, va_Nw.warmM h h1, va_Nw.warmM h h2, va_Nw.warmM h h3, va_Nw.warmM h h4, va_Nw.warmM h h5, va_AO.moved h.alike h6, va_AO.moved h.alike h7⟩
abbrev xk_ta (G : q_G) (b : Nat) : List va_E := [.inr (4, [.int 0, .int 0, .int 0, .int 0, .int 0])]
set_option maxRecDepth 100000 in
set_option maxHeartbeats 4000000 in
theorem xN_ta (l : Launch) (G : q_G) (b : Nat) : q_Mc G.1 xCl (q_ty xX G) xXt l xy_ta_init (q_ws (q_gw lw_tbl) xy_ta_init xb_ta_init 1 none) (q_rmc 1 0 0) b [] (.inr (4, [.int 0, .int 0, .int 0, .int 0, .int 0])) (xk_ta G b) 0 0 := by
  refine q_cmet (cc := xb_ta_init) (maxL := 1) (by decide) rfl rfl (Nat.le_of_ble_eq_true rfl) ?_
  intro p e s m below meth c ls hF hr hlocks hin hK hX hN hS hl
  have hs : s.heap.size = b + 1 := hN.1
  have hx := hF.1
  have hb := hF.2.1
  have hl : lv_has ls 1 [(0, .ref b)] := hl
  refine lv_aload_n hx hb xd_ta_init_0 rfl (lv_at hl 0 rfl) ?_
  refine W.objInit hx hb hF.2.2.2.1 (hF.2.2.2.2 _ (List.mem_cons_of_mem _ (q_mf 178 rfl rfl))) (hF.2.2.2.2 _ (List.mem_cons_of_mem _ (q_mf 56 rfl rfl))) (hF.2.2.2.2 _ (List.mem_cons_of_mem _ (q_mf 57 rfl rfl))) rfl (by rw [hF.2.2.1]; exact hl.1) rfl xd_ta_init_1 (Nat.le_of_ble_eq_true rfl) (Nat.le_of_ble_eq_true rfl) ?_
  refine W.eq (g2 := F0 m 4 ls []) rfl ?_
  exact q_cret (b0 := 1) hF hr hlocks hN hS hs xd_ta_init_4
abbrev xk_hi (G : q_G) (b : Nat) : List va_E := [.inr (1, [.ref (b + 1), .ref (b + 2), .ref (b + 3), .int 0, .int 0]), .inl (G.2.1 0, 20, .inl (fun _ => 0)), .inl (G.2.1 0, 20, .inl (fun _ => 0)), .inl (G.2.1 0, 20, .inl (fun _ => 0))]
set_option maxRecDepth 100000 in
set_option maxHeartbeats 4000000 in
theorem xN_hi (l : Launch) (G : q_G) (b : Nat) : q_Mc G.1 xCl (q_ty xX G) xXt l xy_hi_init (q_ws (q_gw lw_tbl) xy_hi_init xb_hi_init 1 none) (q_rmc 1 3 60) b [] (.inr (1, [.null, .null, .null, .int 0, .int 0])) (xk_hi G b) 3 60 := by
  refine q_cmet (cc := xb_hi_init) (maxL := 1) (by decide) rfl rfl (Nat.le_of_ble_eq_true rfl) ?_
  intro p e s m below meth c ls hF hr hlocks hin hK hX hN hS hl
  have hs : s.heap.size = b + 1 := hN.1
  have hx := hF.1
  have hb := hF.2.1
  have hl : lv_has ls 1 [(0, .ref b)] := hl
  refine lv_aload_n hx hb xd_hi_init_0 rfl (lv_at hl 0 rfl) ?_
  refine W.objInit hx hb hF.2.2.2.1 (hF.2.2.2.2 _ (List.mem_cons_of_mem _ (q_mf 107 rfl rfl))) (hF.2.2.2.2 _ (List.mem_cons_of_mem _ (q_mf 56 rfl rfl))) (hF.2.2.2.2 _ (List.mem_cons_of_mem _ (q_mf 57 rfl rfl))) rfl (by rw [hF.2.2.1]; exact hl.1) rfl xd_hi_init_1 (Nat.le_of_ble_eq_true rfl) (Nat.le_of_ble_eq_true rfl) ?_
  refine W.eq (g2 := F0 m 4 ls []) rfl ?_
  refine lv_aload_n hx hb xd_hi_init_4 rfl (lv_at hl 0 rfl) ?_
  refine lv_bipush (v := 20) hx hb xd_hi_init_5 (by decide) ?_
  refine q_cna (a := b + 1) (N := 20) hF hK (List.mem_cons_of_mem _ (q_mf 77 rfl rfl)) 0 rfl hN hS (by decide) (by decide) (by decide) (Nat.le_of_ble_eq_true rfl) (Nat.le_of_ble_eq_true rfl) rfl xd_hi_init_7 (fun H hN hS => ?_)
  have hN : q_L G.1 xCl b [.inr (1, [.null, .null, .null, .int 0, .int 0]), .inl (G.2.1 0, 20, .inl (fun _ => 0))] H := hN
  refine q_cpf (C := xR_hi) (T := xT_hi) (N := 5) (ty := .array .int) (a := b) hF hK (fun w h => List.mem_cons_of_mem _ (xin_hi w h)) xt_hi xto_hi xn_hi hN hS 0 rfl rfl 0 (by decide) (List.mem_cons_of_mem _ (q_mf 108 rfl rfl)) rfl hin rfl (xto_hi 0 (by decide)) rfl rfl (Nat.le_of_ble_eq_true rfl) rfl xd_hi_init_9 (fun H locs hN hS => ?_)
  have hN : q_L G.1 xCl b [.inr (1, [.ref (b + 1), .null, .null, .int 0, .int 0]), .inl (G.2.1 0, 20, .inl (fun _ => 0))] H := hN
  refine lv_aload_n hx hb xd_hi_init_12 rfl (lv_at hl 0 rfl) ?_
  refine lv_bipush (v := 20) hx hb xd_hi_init_13 (by decide) ?_
  refine q_cna (a := b + 2) (N := 20) hF hK (List.mem_cons_of_mem _ (q_mf 77 rfl rfl)) 0 rfl hN hS (by decide) (by decide) (by decide) (Nat.le_of_ble_eq_true rfl) (Nat.le_of_ble_eq_true rfl) rfl xd_hi_init_15 (fun H hN hS => ?_)
  have hN : q_L G.1 xCl b [.inr (1, [.ref (b + 1), .null, .null, .int 0, .int 0]), .inl (G.2.1 0, 20, .inl (fun _ => 0)), .inl (G.2.1 0, 20, .inl (fun _ => 0))] H := hN
  refine q_cpf (C := xR_hi) (T := xT_hi) (N := 5) (ty := .array .int) (a := b) hF hK (fun w h => List.mem_cons_of_mem _ (xin_hi w h)) xt_hi xto_hi xn_hi hN hS 0 rfl rfl 1 (by decide) (List.mem_cons_of_mem _ (q_mf 111 rfl rfl)) rfl hin rfl (xto_hi 1 (by decide)) rfl rfl (Nat.le_of_ble_eq_true rfl) rfl xd_hi_init_17 (fun H locs hN hS => ?_)
  have hN : q_L G.1 xCl b [.inr (1, [.ref (b + 1), .ref (b + 2), .null, .int 0, .int 0]), .inl (G.2.1 0, 20, .inl (fun _ => 0)), .inl (G.2.1 0, 20, .inl (fun _ => 0))] H := hN
  refine lv_aload_n hx hb xd_hi_init_20 rfl (lv_at hl 0 rfl) ?_
  refine lv_bipush (v := 20) hx hb xd_hi_init_21 (by decide) ?_
  refine q_cna (a := b + 3) (N := 20) hF hK (List.mem_cons_of_mem _ (q_mf 77 rfl rfl)) 0 rfl hN hS (by decide) (by decide) (by decide) (Nat.le_of_ble_eq_true rfl) (Nat.le_of_ble_eq_true rfl) rfl xd_hi_init_23 (fun H hN hS => ?_)
  have hN : q_L G.1 xCl b [.inr (1, [.ref (b + 1), .ref (b + 2), .null, .int 0, .int 0]), .inl (G.2.1 0, 20, .inl (fun _ => 0)), .inl (G.2.1 0, 20, .inl (fun _ => 0)), .inl (G.2.1 0, 20, .inl (fun _ => 0))] H := hN
  refine q_cpf (C := xR_hi) (T := xT_hi) (N := 5) (ty := .array .int) (a := b) hF hK (fun w h => List.mem_cons_of_mem _ (xin_hi w h)) xt_hi xto_hi xn_hi hN hS 0 rfl rfl 2 (by decide) (List.mem_cons_of_mem _ (q_mf 114 rfl rfl)) rfl hin rfl (xto_hi 2 (by decide)) rfl rfl (Nat.le_of_ble_eq_true rfl) rfl xd_hi_init_25 (fun H locs hN hS => ?_)
  have hN : q_L G.1 xCl b [.inr (1, [.ref (b + 1), .ref (b + 2), .ref (b + 3), .int 0, .int 0]), .inl (G.2.1 0, 20, .inl (fun _ => 0)), .inl (G.2.1 0, 20, .inl (fun _ => 0)), .inl (G.2.1 0, 20, .inl (fun _ => 0))] H := hN
  exact q_cret (b0 := 1) hF hr hlocks hN hS hs xd_hi_init_28
abbrev xk_ke (G : q_G) (b : Nat) : List va_E := [.inr (2, [.ref (b + 1), .ref (b + 2), .int 0]), .inl (G.2.1 0, 4, .inl (fun _ => 0)), .inl (G.2.1 0, 4, .inl (fun _ => 0))]
set_option maxRecDepth 100000 in
set_option maxHeartbeats 4000000 in
theorem xN_ke (l : Launch) (G : q_G) (b : Nat) : q_Mc G.1 xCl (q_ty xX G) xXt l xy_ke_init (q_ws (q_gw lw_tbl) xy_ke_init xb_ke_init 1 none) (q_rmc 1 2 8) b [] (.inr (2, [.null, .null, .int 0])) (xk_ke G b) 2 8 := by
  refine q_cmet (cc := xb_ke_init) (maxL := 1) (by decide) rfl rfl (Nat.le_of_ble_eq_true rfl) ?_
  intro p e s m below meth c ls hF hr hlocks hin hK hX hN hS hl
  have hs : s.heap.size = b + 1 := hN.1
  have hx := hF.1
  have hb := hF.2.1
  have hl : lv_has ls 1 [(0, .ref b)] := hl
  refine lv_aload_n hx hb xd_ke_init_0 rfl (lv_at hl 0 rfl) ?_
  refine W.objInit hx hb hF.2.2.2.1 (hF.2.2.2.2 _ (List.mem_cons_of_mem _ (q_mf 138 rfl rfl))) (hF.2.2.2.2 _ (List.mem_cons_of_mem _ (q_mf 56 rfl rfl))) (hF.2.2.2.2 _ (List.mem_cons_of_mem _ (q_mf 57 rfl rfl))) rfl (by rw [hF.2.2.1]; exact hl.1) rfl xd_ke_init_1 (Nat.le_of_ble_eq_true rfl) (Nat.le_of_ble_eq_true rfl) ?_
  refine W.eq (g2 := F0 m 4 ls []) rfl ?_
  refine lv_aload_n hx hb xd_ke_init_4 rfl (lv_at hl 0 rfl) ?_
  refine lv_iconst (v := 4) hx hb xd_ke_init_5 (by decide) ?_
  refine q_cna (a := b + 1) (N := 4) hF hK (List.mem_cons_of_mem _ (q_mf 77 rfl rfl)) 0 rfl hN hS (by decide) (by decide) (by decide) (Nat.le_of_ble_eq_true rfl) (Nat.le_of_ble_eq_true rfl) rfl xd_ke_init_6 (fun H hN hS => ?_)
  have hN : q_L G.1 xCl b [.inr (2, [.null, .null, .int 0]), .inl (G.2.1 0, 4, .inl (fun _ => 0))] H := hN
  refine q_cpf (C := xR_ke) (T := xT_ke) (N := 3) (ty := .array .int) (a := b) hF hK (fun w h => List.mem_cons_of_mem _ (xin_ke w h)) xt_ke xto_ke xn_ke hN hS 0 rfl rfl 0 (by decide) (List.mem_cons_of_mem _ (q_mf 139 rfl rfl)) rfl hin rfl (xto_ke 0 (by decide)) rfl rfl (Nat.le_of_ble_eq_true rfl) rfl xd_ke_init_8 (fun H locs hN hS => ?_)
  have hN : q_L G.1 xCl b [.inr (2, [.ref (b + 1), .null, .int 0]), .inl (G.2.1 0, 4, .inl (fun _ => 0))] H := hN
  refine lv_aload_n hx hb xd_ke_init_11 rfl (lv_at hl 0 rfl) ?_
  refine lv_iconst (v := 4) hx hb xd_ke_init_12 (by decide) ?_
  refine q_cna (a := b + 2) (N := 4) hF hK (List.mem_cons_of_mem _ (q_mf 77 rfl rfl)) 0 rfl hN hS (by decide) (by decide) (by decide) (Nat.le_of_ble_eq_true rfl) (Nat.le_of_ble_eq_true rfl) rfl xd_ke_init_13 (fun H hN hS => ?_)
  have hN : q_L G.1 xCl b [.inr (2, [.ref (b + 1), .null, .int 0]), .inl (G.2.1 0, 4, .inl (fun _ => 0)), .inl (G.2.1 0, 4, .inl (fun _ => 0))] H := hN
  refine q_cpf (C := xR_ke) (T := xT_ke) (N := 3) (ty := .array .int) (a := b) hF hK (fun w h => List.mem_cons_of_mem _ (xin_ke w h)) xt_ke xto_ke xn_ke hN hS 0 rfl rfl 1 (by decide) (List.mem_cons_of_mem _ (q_mf 140 rfl rfl)) rfl hin rfl (xto_ke 1 (by decide)) rfl rfl (Nat.le_of_ble_eq_true rfl) rfl xd_ke_init_15 (fun H locs hN hS => ?_)
  have hN : q_L G.1 xCl b [.inr (2, [.ref (b + 1), .ref (b + 2), .int 0]), .inl (G.2.1 0, 4, .inl (fun _ => 0)), .inl (G.2.1 0, 4, .inl (fun _ => 0))] H := hN
  exact q_cret (b0 := 1) hF hr hlocks hN hS hs xd_ke_init_18
abbrev xk_ul (G : q_G) (b : Nat) : List va_E := [.inr (6, [.ref (b + 1), .ref (b + 2), .int 0]), .inl (G.2.1 0, 6, .inl (fun _ => 0)), .inl (G.2.1 0, 6, .inl (fun _ => 0))]
set_option maxRecDepth 100000 in
set_option maxHeartbeats 4000000 in
theorem xN_ul (l : Launch) (G : q_G) (b : Nat) : q_Mc G.1 xCl (q_ty xX G) xXt l xy_ul_init (q_ws (q_gw lw_tbl) xy_ul_init xb_ul_init 1 none) (q_rmc 1 2 12) b [] (.inr (6, [.null, .null, .int 0])) (xk_ul G b) 2 12 := by
  refine q_cmet (cc := xb_ul_init) (maxL := 1) (by decide) rfl rfl (Nat.le_of_ble_eq_true rfl) ?_
  intro p e s m below meth c ls hF hr hlocks hin hK hX hN hS hl
  have hs : s.heap.size = b + 1 := hN.1
  have hx := hF.1
  have hb := hF.2.1
  have hl : lv_has ls 1 [(0, .ref b)] := hl
  refine lv_aload_n hx hb xd_ul_init_0 rfl (lv_at hl 0 rfl) ?_
  refine W.objInit hx hb hF.2.2.2.1 (hF.2.2.2.2 _ (List.mem_cons_of_mem _ (q_mf 157 rfl rfl))) (hF.2.2.2.2 _ (List.mem_cons_of_mem _ (q_mf 56 rfl rfl))) (hF.2.2.2.2 _ (List.mem_cons_of_mem _ (q_mf 57 rfl rfl))) rfl (by rw [hF.2.2.1]; exact hl.1) rfl xd_ul_init_1 (Nat.le_of_ble_eq_true rfl) (Nat.le_of_ble_eq_true rfl) ?_
  refine W.eq (g2 := F0 m 4 ls []) rfl ?_
  refine lv_aload_n hx hb xd_ul_init_4 rfl (lv_at hl 0 rfl) ?_
  refine lv_bipush (v := 6) hx hb xd_ul_init_5 (by decide) ?_
  refine q_cna (a := b + 1) (N := 6) hF hK (List.mem_cons_of_mem _ (q_mf 77 rfl rfl)) 0 rfl hN hS (by decide) (by decide) (by decide) (Nat.le_of_ble_eq_true rfl) (Nat.le_of_ble_eq_true rfl) rfl xd_ul_init_7 (fun H hN hS => ?_)
  have hN : q_L G.1 xCl b [.inr (6, [.null, .null, .int 0]), .inl (G.2.1 0, 6, .inl (fun _ => 0))] H := hN
  refine q_cpf (C := xR_ul) (T := xT_ul) (N := 3) (ty := .array .int) (a := b) hF hK (fun w h => List.mem_cons_of_mem _ (xin_ul w h)) xt_ul xto_ul xn_ul hN hS 0 rfl rfl 0 (by decide) (List.mem_cons_of_mem _ (q_mf 158 rfl rfl)) rfl hin rfl (xto_ul 0 (by decide)) rfl rfl (Nat.le_of_ble_eq_true rfl) rfl xd_ul_init_9 (fun H locs hN hS => ?_)
  have hN : q_L G.1 xCl b [.inr (6, [.ref (b + 1), .null, .int 0]), .inl (G.2.1 0, 6, .inl (fun _ => 0))] H := hN
  refine lv_aload_n hx hb xd_ul_init_12 rfl (lv_at hl 0 rfl) ?_
  refine lv_bipush (v := 6) hx hb xd_ul_init_13 (by decide) ?_
  refine q_cna (a := b + 2) (N := 6) hF hK (List.mem_cons_of_mem _ (q_mf 77 rfl rfl)) 0 rfl hN hS (by decide) (by decide) (by decide) (Nat.le_of_ble_eq_true rfl) (Nat.le_of_ble_eq_true rfl) rfl xd_ul_init_15 (fun H hN hS => ?_)
  have hN : q_L G.1 xCl b [.inr (6, [.ref (b + 1), .null, .int 0]), .inl (G.2.1 0, 6, .inl (fun _ => 0)), .inl (G.2.1 0, 6, .inl (fun _ => 0))] H := hN
  refine q_cpf (C := xR_ul) (T := xT_ul) (N := 3) (ty := .array .int) (a := b) hF hK (fun w h => List.mem_cons_of_mem _ (xin_ul w h)) xt_ul xto_ul xn_ul hN hS 0 rfl rfl 1 (by decide) (List.mem_cons_of_mem _ (q_mf 161 rfl rfl)) rfl hin rfl (xto_ul 1 (by decide)) rfl rfl (Nat.le_of_ble_eq_true rfl) rfl xd_ul_init_17 (fun H locs hN hS => ?_)
  have hN : q_L G.1 xCl b [.inr (6, [.ref (b + 1), .ref (b + 2), .int 0]), .inl (G.2.1 0, 6, .inl (fun _ => 0)), .inl (G.2.1 0, 6, .inl (fun _ => 0))] H := hN
  exact q_cret (b0 := 1) hF hr hlocks hN hS hs xd_ul_init_20
abbrev xk_pr (G : q_G) (b : Nat) : List va_E := [.inr (3, [.ref (b + 1), .ref (b + 2), .ref (b + 3), .int 0]), .inl (G.2.1 0, 14, .inl (fun _ => 0)), .inl (G.2.1 0, 14, .inl (fun _ => 0)), .inl (G.2.1 0, 14, .inl (fun _ => 0))]
set_option maxRecDepth 100000 in
set_option maxHeartbeats 4000000 in
theorem xN_pr (l : Launch) (G : q_G) (b : Nat) : q_Mc G.1 xCl (q_ty xX G) xXt l xy_pr_init (q_ws (q_gw lw_tbl) xy_pr_init xb_pr_init 1 none) (q_rmc 1 3 42) b [] (.inr (3, [.null, .null, .null, .int 0])) (xk_pr G b) 3 42 := by
  refine q_cmet (cc := xb_pr_init) (maxL := 1) (by decide) rfl rfl (Nat.le_of_ble_eq_true rfl) ?_
  intro p e s m below meth c ls hF hr hlocks hin hK hX hN hS hl
  have hs : s.heap.size = b + 1 := hN.1
  have hx := hF.1
  have hb := hF.2.1
  have hl : lv_has ls 1 [(0, .ref b)] := hl
  refine lv_aload_n hx hb xd_pr_init_0 rfl (lv_at hl 0 rfl) ?_
  refine W.objInit hx hb hF.2.2.2.1 (hF.2.2.2.2 _ (List.mem_cons_of_mem _ (q_mf 82 rfl rfl))) (hF.2.2.2.2 _ (List.mem_cons_of_mem _ (q_mf 56 rfl rfl))) (hF.2.2.2.2 _ (List.mem_cons_of_mem _ (q_mf 57 rfl rfl))) rfl (by rw [hF.2.2.1]; exact hl.1) rfl xd_pr_init_1 (Nat.le_of_ble_eq_true rfl) (Nat.le_of_ble_eq_true rfl) ?_
  refine W.eq (g2 := F0 m 4 ls []) rfl ?_
  refine lv_aload_n hx hb xd_pr_init_4 rfl (lv_at hl 0 rfl) ?_
  refine lv_bipush (v := 14) hx hb xd_pr_init_5 (by decide) ?_
  refine q_cna (a := b + 1) (N := 14) hF hK (List.mem_cons_of_mem _ (q_mf 77 rfl rfl)) 0 rfl hN hS (by decide) (by decide) (by decide) (Nat.le_of_ble_eq_true rfl) (Nat.le_of_ble_eq_true rfl) rfl xd_pr_init_7 (fun H hN hS => ?_)
  have hN : q_L G.1 xCl b [.inr (3, [.null, .null, .null, .int 0]), .inl (G.2.1 0, 14, .inl (fun _ => 0))] H := hN
  refine q_cpf (C := xR_pr) (T := xT_pr) (N := 4) (ty := .array .int) (a := b) hF hK (fun w h => List.mem_cons_of_mem _ (xin_pr w h)) xt_pr xto_pr xn_pr hN hS 0 rfl rfl 0 (by decide) (List.mem_cons_of_mem _ (q_mf 83 rfl rfl)) rfl hin rfl (xto_pr 0 (by decide)) rfl rfl (Nat.le_of_ble_eq_true rfl) rfl xd_pr_init_9 (fun H locs hN hS => ?_)
  have hN : q_L G.1 xCl b [.inr (3, [.ref (b + 1), .null, .null, .int 0]), .inl (G.2.1 0, 14, .inl (fun _ => 0))] H := hN
  refine lv_aload_n hx hb xd_pr_init_12 rfl (lv_at hl 0 rfl) ?_
  refine lv_bipush (v := 14) hx hb xd_pr_init_13 (by decide) ?_
  refine q_cna (a := b + 2) (N := 14) hF hK (List.mem_cons_of_mem _ (q_mf 77 rfl rfl)) 0 rfl hN hS (by decide) (by decide) (by decide) (Nat.le_of_ble_eq_true rfl) (Nat.le_of_ble_eq_true rfl) rfl xd_pr_init_15 (fun H hN hS => ?_)
  have hN : q_L G.1 xCl b [.inr (3, [.ref (b + 1), .null, .null, .int 0]), .inl (G.2.1 0, 14, .inl (fun _ => 0)), .inl (G.2.1 0, 14, .inl (fun _ => 0))] H := hN
  refine q_cpf (C := xR_pr) (T := xT_pr) (N := 4) (ty := .array .int) (a := b) hF hK (fun w h => List.mem_cons_of_mem _ (xin_pr w h)) xt_pr xto_pr xn_pr hN hS 0 rfl rfl 1 (by decide) (List.mem_cons_of_mem _ (q_mf 84 rfl rfl)) rfl hin rfl (xto_pr 1 (by decide)) rfl rfl (Nat.le_of_ble_eq_true rfl) rfl xd_pr_init_17 (fun H locs hN hS => ?_)
  have hN : q_L G.1 xCl b [.inr (3, [.ref (b + 1), .ref (b + 2), .null, .int 0]), .inl (G.2.1 0, 14, .inl (fun _ => 0)), .inl (G.2.1 0, 14, .inl (fun _ => 0))] H := hN
  refine lv_aload_n hx hb xd_pr_init_20 rfl (lv_at hl 0 rfl) ?_
  refine lv_bipush (v := 14) hx hb xd_pr_init_21 (by decide) ?_
  refine q_cna (a := b + 3) (N := 14) hF hK (List.mem_cons_of_mem _ (q_mf 77 rfl rfl)) 0 rfl hN hS (by decide) (by decide) (by decide) (Nat.le_of_ble_eq_true rfl) (Nat.le_of_ble_eq_true rfl) rfl xd_pr_init_23 (fun H hN hS => ?_)
  have hN : q_L G.1 xCl b [.inr (3, [.ref (b + 1), .ref (b + 2), .null, .int 0]), .inl (G.2.1 0, 14, .inl (fun _ => 0)), .inl (G.2.1 0, 14, .inl (fun _ => 0)), .inl (G.2.1 0, 14, .inl (fun _ => 0))] H := hN
  refine q_cpf (C := xR_pr) (T := xT_pr) (N := 4) (ty := .array .int) (a := b) hF hK (fun w h => List.mem_cons_of_mem _ (xin_pr w h)) xt_pr xto_pr xn_pr hN hS 0 rfl rfl 2 (by decide) (List.mem_cons_of_mem _ (q_mf 85 rfl rfl)) rfl hin rfl (xto_pr 2 (by decide)) rfl rfl (Nat.le_of_ble_eq_true rfl) rfl xd_pr_init_25 (fun H locs hN hS => ?_)
  have hN : q_L G.1 xCl b [.inr (3, [.ref (b + 1), .ref (b + 2), .ref (b + 3), .int 0]), .inl (G.2.1 0, 14, .inl (fun _ => 0)), .inl (G.2.1 0, 14, .inl (fun _ => 0)), .inl (G.2.1 0, 14, .inl (fun _ => 0))] H := hN
  exact q_cret (b0 := 1) hF hr hlocks hN hS hs xd_pr_init_28
abbrev xk_tl (G : q_G) (b : Nat) : List va_E := [.inr (5, [.ref (b + 1), .int 0]), .inl (G.2.1 0, 6, .inl (fun _ => 0))]
set_option maxRecDepth 100000 in
set_option maxHeartbeats 4000000 in
theorem xN_tl (l : Launch) (G : q_G) (b : Nat) : q_Mc G.1 xCl (q_ty xX G) xXt l xy_tl_init (q_ws (q_gw lw_tbl) xy_tl_init xb_tl_init 1 none) (q_rmc 1 1 6) b [] (.inr (5, [.null, .int 0])) (xk_tl G b) 1 6 := by
  refine q_cmet (cc := xb_tl_init) (maxL := 1) (by decide) rfl rfl (Nat.le_of_ble_eq_true rfl) ?_
  intro p e s m below meth c ls hF hr hlocks hin hK hX hN hS hl
  have hs : s.heap.size = b + 1 := hN.1
  have hx := hF.1
  have hb := hF.2.1
  have hl : lv_has ls 1 [(0, .ref b)] := hl
  refine lv_aload_n hx hb xd_tl_init_0 rfl (lv_at hl 0 rfl) ?_
  refine W.objInit hx hb hF.2.2.2.1 (hF.2.2.2.2 _ (List.mem_cons_of_mem _ (q_mf 67 rfl rfl))) (hF.2.2.2.2 _ (List.mem_cons_of_mem _ (q_mf 56 rfl rfl))) (hF.2.2.2.2 _ (List.mem_cons_of_mem _ (q_mf 57 rfl rfl))) rfl (by rw [hF.2.2.1]; exact hl.1) rfl xd_tl_init_1 (Nat.le_of_ble_eq_true rfl) (Nat.le_of_ble_eq_true rfl) ?_
  refine W.eq (g2 := F0 m 4 ls []) rfl ?_
  refine lv_aload_n hx hb xd_tl_init_4 rfl (lv_at hl 0 rfl) ?_
  refine lv_bipush (v := 6) hx hb xd_tl_init_5 (by decide) ?_
  refine q_cna (a := b + 1) (N := 6) hF hK (List.mem_cons_of_mem _ (q_mf 77 rfl rfl)) 0 rfl hN hS (by decide) (by decide) (by decide) (Nat.le_of_ble_eq_true rfl) (Nat.le_of_ble_eq_true rfl) rfl xd_tl_init_7 (fun H hN hS => ?_)
  have hN : q_L G.1 xCl b [.inr (5, [.null, .int 0]), .inl (G.2.1 0, 6, .inl (fun _ => 0))] H := hN
  refine q_cpf (C := xR_tl) (T := xT_tl) (N := 2) (ty := .array .int) (a := b) hF hK (fun w h => List.mem_cons_of_mem _ (xin_tl w h)) xt_tl xto_tl xn_tl hN hS 0 rfl rfl 0 (by decide) (List.mem_cons_of_mem _ (q_mf 68 rfl rfl)) rfl hin rfl (xto_tl 0 (by decide)) rfl rfl (Nat.le_of_ble_eq_true rfl) rfl xd_tl_init_9 (fun H locs hN hS => ?_)
  have hN : q_L G.1 xCl b [.inr (5, [.ref (b + 1), .int 0]), .inl (G.2.1 0, 6, .inl (fun _ => 0))] H := hN
  exact q_cret (b0 := 1) hF hr hlocks hN hS hs xd_tl_init_12
abbrev xk_wf (G : q_G) (b : Nat) (a : Int32) : List va_E := [.inr (7, [.int a, .ref (b + 1), .ref (b + 2), .ref (b + 6), .ref (b + 9), .ref (b + 12), .int 0, .int 0, .int 0, .int 0, .int 0, .int 0, .int 0, .int 0, .int 0, .int 0, .long 0]), .inl (G.2.1 0, 4, .inl (fun _ => 0)), .inr (1, [.ref (b + 3), .ref (b + 4), .ref (b + 5), .int 0, .int 0]), .inl (G.2.1 0, 20, .inl (fun _ => 0)), .inl (G.2.1 0, 20, .inl (fun _ => 0)), .inl (G.2.1 0, 20, .inl (fun _ => 0)), .inr (2, [.ref (b + 7), .ref (b + 8), .int 0]), .inl (G.2.1 0, 4, .inl (fun _ => 0)), .inl (G.2.1 0, 4, .inl (fun _ => 0)), .inr (6, [.ref (b + 10), .ref (b + 11), .int 0]), .inl (G.2.1 0, 6, .inl (fun _ => 0)), .inl (G.2.1 0, 6, .inl (fun _ => 0)), .inr (4, [.int 0, .int 0, .int 0, .int 0, .int 0])]
set_option maxRecDepth 100000 in
set_option maxHeartbeats 4000000 in
theorem xN_wf (l : Launch) (G : q_G) (b : Nat) (a : Int32) : q_Mc G.1 xCl (q_ty xX G) xXt l xy_wf_init (q_ws (q_gw lw_tbl) xy_wf_init xb_wf_init 2 none) (q_rmc 2 12 100) b [.int a] (.inr (7, [.int 0, .null, .null, .null, .null, .null, .int 0, .int 0, .int 0, .int 0, .int 0, .int 0, .int 0, .int 0, .int 0, .int 0, .long 0])) (xk_wf G b a) 12 100 := by
  refine q_cmet (cc := xb_wf_init) (maxL := 2) (by decide) rfl rfl (Nat.le_of_ble_eq_true rfl) ?_
  intro p e s m below meth c ls hF hr hlocks hin hK hX hN hS hl
  have hs : s.heap.size = b + 1 := hN.1
  have hx := hF.1
  have hb := hF.2.1
  have hl : lv_has ls 2 [(0, .ref b), (1, .int a)] := hl
  refine lv_aload_n hx hb xd_wf_init_0 rfl (lv_at hl 0 rfl) ?_
  refine W.objInit hx hb hF.2.2.2.1 (hF.2.2.2.2 _ (List.mem_cons_of_mem _ (q_mf 101 rfl rfl))) (hF.2.2.2.2 _ (List.mem_cons_of_mem _ (q_mf 56 rfl rfl))) (hF.2.2.2.2 _ (List.mem_cons_of_mem _ (q_mf 57 rfl rfl))) rfl (by rw [hF.2.2.1]; exact hl.1) rfl xd_wf_init_1 (Nat.le_of_ble_eq_true rfl) (Nat.le_of_ble_eq_true rfl) ?_
  refine W.eq (g2 := F0 m 4 ls []) rfl ?_
  refine lv_aload_n hx hb xd_wf_init_4 rfl (lv_at hl 0 rfl) ?_
  refine lv_iconst (v := 4) hx hb xd_wf_init_5 (by decide) ?_
  refine q_cna (a := b + 1) (N := 4) hF hK (List.mem_cons_of_mem _ (q_mf 77 rfl rfl)) 0 rfl hN hS (by decide) (by decide) (by decide) (Nat.le_of_ble_eq_true rfl) (Nat.le_of_ble_eq_true rfl) rfl xd_wf_init_6 (fun H hN hS => ?_)
  have hN : q_L G.1 xCl b [.inr (7, [.int 0, .null, .null, .null, .null, .null, .int 0, .int 0, .int 0, .int 0, .int 0, .int 0, .int 0, .int 0, .int 0, .int 0, .long 0]), .inl (G.2.1 0, 4, .inl (fun _ => 0))] H := hN
  refine q_cpf (C := xR_wf) (T := xT_wf) (N := 17) (ty := .array .int) (a := b) hF hK (fun w h => List.mem_cons_of_mem _ (xin_wf w h)) xt_wf xto_wf xn_wf hN hS 0 rfl rfl 1 (by decide) (List.mem_cons_of_mem _ (q_mf 201 rfl rfl)) rfl hin rfl (xto_wf 1 (by decide)) rfl rfl (Nat.le_of_ble_eq_true rfl) rfl xd_wf_init_8 (fun H locs hN hS => ?_)
  have hN : q_L G.1 xCl b [.inr (7, [.int 0, .ref (b + 1), .null, .null, .null, .null, .int 0, .int 0, .int 0, .int 0, .int 0, .int 0, .int 0, .int 0, .int 0, .int 0, .long 0]), .inl (G.2.1 0, 4, .inl (fun _ => 0))] H := hN
  refine lv_aload_n hx hb xd_wf_init_11 rfl (lv_at hl 0 rfl) ?_
  refine q_cno (ci := 1) (a := b + 2) (fs := [.null, .null, .null, .int 0, .int 0]) (C := xR_hi) (T := xT_hi) (N := 5) hF hK (fun w h => List.mem_cons_of_mem _ (xin_hi w h)) xt_hi xto_hi (List.mem_cons_of_mem _ (q_mf 102 rfl rfl)) (List.mem_cons_of_mem _ (q_mf 103 rfl rfl)) (List.mem_cons_of_mem _ (q_mf 45 rfl rfl)) rfl (fun j hj => by match j, hj with | 0, _ => rfl | 1, _ => rfl | 2, _ => rfl | 3, _ => rfl | 4, _ => rfl | n + 5, h => exact absurd h (by omega)) hN hS (Nat.le_of_ble_eq_true rfl) (Nat.le_of_ble_eq_true rfl) rfl xd_wf_init_12 (fun H hN hS => ?_)
  refine lv_dup hx hb xd_wf_init_15 rfl ?_
  refine q_cback (cs := [.inr (7, [.int 0, .ref (b + 1), .null, .null, .null, .null, .int 0, .int 0, .int 0, .int 0, .int 0, .int 0, .int 0, .int 0, .int 0, .int 0, .long 0]), .inl (G.2.1 0, 4, .inl (fun _ => 0))]) (b1 := b + 2) (by rw [hs]; exact Nat.add_le_add_left (Nat.le_of_ble_eq_true rfl) b) rfl hN hS (q_crunIN (rest := [.ref (b + 2), .ref b]) (cs := [.inr (7, [.int 0, .ref (b + 1), .null, .null, .null, .null, .int 0, .int 0, .int 0, .int 0, .int 0, .int 0, .int 0, .int 0, .int 0, .int 0, .long 0]), .inl (G.2.1 0, 4, .inl (fun _ => 0))]) hF hK hX xXs xXw (xN_hi l G (b + 2)) ⟨va_cnB 0 hF.2.2.2.2 (q_good (q_gw_all _) (q_mf 106 rfl rfl)) rfl rfl rfl hX.2.2.1 (hF.2.2.2.2 _ (List.mem_cons_of_mem _ (q_mf 45 rfl rfl))) (by decide +kernel) ⟨Nat.le_of_ble_eq_true rfl, Nat.le_of_ble_eq_true rfl⟩, rfl, (hF.2.2.2.2 _ (List.mem_cons_of_mem _ (q_mf 105 rfl rfl)))⟩ rfl hN rfl hl.1 rfl (Nat.le_of_ble_eq_true rfl) xd_wf_init_16 ⟨Nat.le_of_ble_eq_true rfl, Nat.le_of_ble_eq_true rfl⟩) (fun H locs hN hS => ?_)
  have hN : q_L G.1 xCl b [.inr (7, [.int 0, .ref (b + 1), .null, .null, .null, .null, .int 0, .int 0, .int 0, .int 0, .int 0, .int 0, .int 0, .int 0, .int 0, .int 0, .long 0]), .inl (G.2.1 0, 4, .inl (fun _ => 0)), .inr (1, [.ref (b + 3), .ref (b + 4), .ref (b + 5), .int 0, .int 0]), .inl (G.2.1 0, 20, .inl (fun _ => 0)), .inl (G.2.1 0, 20, .inl (fun _ => 0)), .inl (G.2.1 0, 20, .inl (fun _ => 0))] H := hN
  refine W.eq (g2 := F0 m 19 ls [.ref (b + 2), .ref b]) rfl ?_
  refine q_cpf (C := xR_wf) (T := xT_wf) (N := 17) (ty := .object "FlowEngine$History") (a := b) hF hK (fun w h => List.mem_cons_of_mem _ (xin_wf w h)) xt_wf xto_wf xn_wf hN hS 0 rfl rfl 2 (by decide) (List.mem_cons_of_mem _ (q_mf 203 rfl rfl)) rfl hin rfl (xto_wf 2 (by decide)) rfl rfl (Nat.le_of_ble_eq_true rfl) rfl xd_wf_init_19 (fun H locs hN hS => ?_)
  have hN : q_L G.1 xCl b [.inr (7, [.int 0, .ref (b + 1), .ref (b + 2), .null, .null, .null, .int 0, .int 0, .int 0, .int 0, .int 0, .int 0, .int 0, .int 0, .int 0, .int 0, .long 0]), .inl (G.2.1 0, 4, .inl (fun _ => 0)), .inr (1, [.ref (b + 3), .ref (b + 4), .ref (b + 5), .int 0, .int 0]), .inl (G.2.1 0, 20, .inl (fun _ => 0)), .inl (G.2.1 0, 20, .inl (fun _ => 0)), .inl (G.2.1 0, 20, .inl (fun _ => 0))] H := hN
  refine lv_aload_n hx hb xd_wf_init_22 rfl (lv_at hl 0 rfl) ?_
  refine q_cno (ci := 2) (a := b + 6) (fs := [.null, .null, .int 0]) (C := xR_ke) (T := xT_ke) (N := 3) hF hK (fun w h => List.mem_cons_of_mem _ (xin_ke w h)) xt_ke xto_ke (List.mem_cons_of_mem _ (q_mf 133 rfl rfl)) (List.mem_cons_of_mem _ (q_mf 134 rfl rfl)) (List.mem_cons_of_mem _ (q_mf 46 rfl rfl)) rfl (fun j hj => by match j, hj with | 0, _ => rfl | 1, _ => rfl | 2, _ => rfl | n + 3, h => exact absurd h (by omega)) hN hS (Nat.le_of_ble_eq_true rfl) (Nat.le_of_ble_eq_true rfl) rfl xd_wf_init_23 (fun H hN hS => ?_)
  refine lv_dup hx hb xd_wf_init_26 rfl ?_
  refine q_cback (cs := [.inr (7, [.int 0, .ref (b + 1), .ref (b + 2), .null, .null, .null, .int 0, .int 0, .int 0, .int 0, .int 0, .int 0, .int 0, .int 0, .int 0, .int 0, .long 0]), .inl (G.2.1 0, 4, .inl (fun _ => 0)), .inr (1, [.ref (b + 3), .ref (b + 4), .ref (b + 5), .int 0, .int 0]), .inl (G.2.1 0, 20, .inl (fun _ => 0)), .inl (G.2.1 0, 20, .inl (fun _ => 0)), .inl (G.2.1 0, 20, .inl (fun _ => 0))]) (b1 := b + 6) (by rw [hs]; exact Nat.add_le_add_left (Nat.le_of_ble_eq_true rfl) b) rfl hN hS (q_crunIN (rest := [.ref (b + 6), .ref b]) (cs := [.inr (7, [.int 0, .ref (b + 1), .ref (b + 2), .null, .null, .null, .int 0, .int 0, .int 0, .int 0, .int 0, .int 0, .int 0, .int 0, .int 0, .int 0, .long 0]), .inl (G.2.1 0, 4, .inl (fun _ => 0)), .inr (1, [.ref (b + 3), .ref (b + 4), .ref (b + 5), .int 0, .int 0]), .inl (G.2.1 0, 20, .inl (fun _ => 0)), .inl (G.2.1 0, 20, .inl (fun _ => 0)), .inl (G.2.1 0, 20, .inl (fun _ => 0))]) hF hK hX xXs xXw (xN_ke l G (b + 6)) ⟨va_cnB 0 hF.2.2.2.2 (q_good (q_gw_all _) (q_mf 137 rfl rfl)) rfl rfl rfl hX.2.2.2.1 (hF.2.2.2.2 _ (List.mem_cons_of_mem _ (q_mf 46 rfl rfl))) (by decide +kernel) ⟨Nat.le_of_ble_eq_true rfl, Nat.le_of_ble_eq_true rfl⟩, rfl, (hF.2.2.2.2 _ (List.mem_cons_of_mem _ (q_mf 136 rfl rfl)))⟩ rfl hN rfl hl.1 rfl (Nat.le_of_ble_eq_true rfl) xd_wf_init_27 ⟨Nat.le_of_ble_eq_true rfl, Nat.le_of_ble_eq_true rfl⟩) (fun H locs hN hS => ?_)
  have hN : q_L G.1 xCl b [.inr (7, [.int 0, .ref (b + 1), .ref (b + 2), .null, .null, .null, .int 0, .int 0, .int 0, .int 0, .int 0, .int 0, .int 0, .int 0, .int 0, .int 0, .long 0]), .inl (G.2.1 0, 4, .inl (fun _ => 0)), .inr (1, [.ref (b + 3), .ref (b + 4), .ref (b + 5), .int 0, .int 0]), .inl (G.2.1 0, 20, .inl (fun _ => 0)), .inl (G.2.1 0, 20, .inl (fun _ => 0)), .inl (G.2.1 0, 20, .inl (fun _ => 0)), .inr (2, [.ref (b + 7), .ref (b + 8), .int 0]), .inl (G.2.1 0, 4, .inl (fun _ => 0)), .inl (G.2.1 0, 4, .inl (fun _ => 0))] H := hN
  refine W.eq (g2 := F0 m 30 ls [.ref (b + 6), .ref b]) rfl ?_
  refine q_cpf (C := xR_wf) (T := xT_wf) (N := 17) (ty := .object "FlowEngine$KeptSignals") (a := b) hF hK (fun w h => List.mem_cons_of_mem _ (xin_wf w h)) xt_wf xto_wf xn_wf hN hS 0 rfl rfl 3 (by decide) (List.mem_cons_of_mem _ (q_mf 205 rfl rfl)) rfl hin rfl (xto_wf 3 (by decide)) rfl rfl (Nat.le_of_ble_eq_true rfl) rfl xd_wf_init_30 (fun H locs hN hS => ?_)
  have hN : q_L G.1 xCl b [.inr (7, [.int 0, .ref (b + 1), .ref (b + 2), .ref (b + 6), .null, .null, .int 0, .int 0, .int 0, .int 0, .int 0, .int 0, .int 0, .int 0, .int 0, .int 0, .long 0]), .inl (G.2.1 0, 4, .inl (fun _ => 0)), .inr (1, [.ref (b + 3), .ref (b + 4), .ref (b + 5), .int 0, .int 0]), .inl (G.2.1 0, 20, .inl (fun _ => 0)), .inl (G.2.1 0, 20, .inl (fun _ => 0)), .inl (G.2.1 0, 20, .inl (fun _ => 0)), .inr (2, [.ref (b + 7), .ref (b + 8), .int 0]), .inl (G.2.1 0, 4, .inl (fun _ => 0)), .inl (G.2.1 0, 4, .inl (fun _ => 0))] H := hN
  refine lv_aload_n hx hb xd_wf_init_33 rfl (lv_at hl 0 rfl) ?_
  refine q_cno (ci := 6) (a := b + 9) (fs := [.null, .null, .int 0]) (C := xR_ul) (T := xT_ul) (N := 3) hF hK (fun w h => List.mem_cons_of_mem _ (xin_ul w h)) xt_ul xto_ul (List.mem_cons_of_mem _ (q_mf 152 rfl rfl)) (List.mem_cons_of_mem _ (q_mf 153 rfl rfl)) (List.mem_cons_of_mem _ (q_mf 47 rfl rfl)) rfl (fun j hj => by match j, hj with | 0, _ => rfl | 1, _ => rfl | 2, _ => rfl | n + 3, h => exact absurd h (by omega)) hN hS (Nat.le_of_ble_eq_true rfl) (Nat.le_of_ble_eq_true rfl) rfl xd_wf_init_34 (fun H hN hS => ?_)
  refine lv_dup hx hb xd_wf_init_37 rfl ?_
  refine q_cback (cs := [.inr (7, [.int 0, .ref (b + 1), .ref (b + 2), .ref (b + 6), .null, .null, .int 0, .int 0, .int 0, .int 0, .int 0, .int 0, .int 0, .int 0, .int 0, .int 0, .long 0]), .inl (G.2.1 0, 4, .inl (fun _ => 0)), .inr (1, [.ref (b + 3), .ref (b + 4), .ref (b + 5), .int 0, .int 0]), .inl (G.2.1 0, 20, .inl (fun _ => 0)), .inl (G.2.1 0, 20, .inl (fun _ => 0)), .inl (G.2.1 0, 20, .inl (fun _ => 0)), .inr (2, [.ref (b + 7), .ref (b + 8), .int 0]), .inl (G.2.1 0, 4, .inl (fun _ => 0)), .inl (G.2.1 0, 4, .inl (fun _ => 0))]) (b1 := b + 9) (by rw [hs]; exact Nat.add_le_add_left (Nat.le_of_ble_eq_true rfl) b) rfl hN hS (q_crunIN (rest := [.ref (b + 9), .ref b]) (cs := [.inr (7, [.int 0, .ref (b + 1), .ref (b + 2), .ref (b + 6), .null, .null, .int 0, .int 0, .int 0, .int 0, .int 0, .int 0, .int 0, .int 0, .int 0, .int 0, .long 0]), .inl (G.2.1 0, 4, .inl (fun _ => 0)), .inr (1, [.ref (b + 3), .ref (b + 4), .ref (b + 5), .int 0, .int 0]), .inl (G.2.1 0, 20, .inl (fun _ => 0)), .inl (G.2.1 0, 20, .inl (fun _ => 0)), .inl (G.2.1 0, 20, .inl (fun _ => 0)), .inr (2, [.ref (b + 7), .ref (b + 8), .int 0]), .inl (G.2.1 0, 4, .inl (fun _ => 0)), .inl (G.2.1 0, 4, .inl (fun _ => 0))]) hF hK hX xXs xXw (xN_ul l G (b + 9)) ⟨va_cnB 0 hF.2.2.2.2 (q_good (q_gw_all _) (q_mf 156 rfl rfl)) rfl rfl rfl hX.2.2.2.2.1 (hF.2.2.2.2 _ (List.mem_cons_of_mem _ (q_mf 47 rfl rfl))) (by decide +kernel) ⟨Nat.le_of_ble_eq_true rfl, Nat.le_of_ble_eq_true rfl⟩, rfl, (hF.2.2.2.2 _ (List.mem_cons_of_mem _ (q_mf 155 rfl rfl)))⟩ rfl hN rfl hl.1 rfl (Nat.le_of_ble_eq_true rfl) xd_wf_init_38 ⟨Nat.le_of_ble_eq_true rfl, Nat.le_of_ble_eq_true rfl⟩) (fun H locs hN hS => ?_)
  have hN : q_L G.1 xCl b [.inr (7, [.int 0, .ref (b + 1), .ref (b + 2), .ref (b + 6), .null, .null, .int 0, .int 0, .int 0, .int 0, .int 0, .int 0, .int 0, .int 0, .int 0, .int 0, .long 0]), .inl (G.2.1 0, 4, .inl (fun _ => 0)), .inr (1, [.ref (b + 3), .ref (b + 4), .ref (b + 5), .int 0, .int 0]), .inl (G.2.1 0, 20, .inl (fun _ => 0)), .inl (G.2.1 0, 20, .inl (fun _ => 0)), .inl (G.2.1 0, 20, .inl (fun _ => 0)), .inr (2, [.ref (b + 7), .ref (b + 8), .int 0]), .inl (G.2.1 0, 4, .inl (fun _ => 0)), .inl (G.2.1 0, 4, .inl (fun _ => 0)), .inr (6, [.ref (b + 10), .ref (b + 11), .int 0]), .inl (G.2.1 0, 6, .inl (fun _ => 0)), .inl (G.2.1 0, 6, .inl (fun _ => 0))] H := hN
  refine W.eq (g2 := F0 m 41 ls [.ref (b + 9), .ref b]) rfl ?_
  refine q_cpf (C := xR_wf) (T := xT_wf) (N := 17) (ty := .object "FlowEngine$UndoList") (a := b) hF hK (fun w h => List.mem_cons_of_mem _ (xin_wf w h)) xt_wf xto_wf xn_wf hN hS 0 rfl rfl 4 (by decide) (List.mem_cons_of_mem _ (q_mf 207 rfl rfl)) rfl hin rfl (xto_wf 4 (by decide)) rfl rfl (Nat.le_of_ble_eq_true rfl) rfl xd_wf_init_41 (fun H locs hN hS => ?_)
  have hN : q_L G.1 xCl b [.inr (7, [.int 0, .ref (b + 1), .ref (b + 2), .ref (b + 6), .ref (b + 9), .null, .int 0, .int 0, .int 0, .int 0, .int 0, .int 0, .int 0, .int 0, .int 0, .int 0, .long 0]), .inl (G.2.1 0, 4, .inl (fun _ => 0)), .inr (1, [.ref (b + 3), .ref (b + 4), .ref (b + 5), .int 0, .int 0]), .inl (G.2.1 0, 20, .inl (fun _ => 0)), .inl (G.2.1 0, 20, .inl (fun _ => 0)), .inl (G.2.1 0, 20, .inl (fun _ => 0)), .inr (2, [.ref (b + 7), .ref (b + 8), .int 0]), .inl (G.2.1 0, 4, .inl (fun _ => 0)), .inl (G.2.1 0, 4, .inl (fun _ => 0)), .inr (6, [.ref (b + 10), .ref (b + 11), .int 0]), .inl (G.2.1 0, 6, .inl (fun _ => 0)), .inl (G.2.1 0, 6, .inl (fun _ => 0))] H := hN
  refine lv_aload_n hx hb xd_wf_init_44 rfl (lv_at hl 0 rfl) ?_
  refine q_cno (ci := 4) (a := b + 12) (fs := [.int 0, .int 0, .int 0, .int 0, .int 0]) (C := xR_ta) (T := xT_ta) (N := 5) hF hK (fun w h => List.mem_cons_of_mem _ (xin_ta w h)) xt_ta xto_ta (List.mem_cons_of_mem _ (q_mf 173 rfl rfl)) (List.mem_cons_of_mem _ (q_mf 174 rfl rfl)) (List.mem_cons_of_mem _ (q_mf 48 rfl rfl)) rfl (fun j hj => by match j, hj with | 0, _ => rfl | 1, _ => rfl | 2, _ => rfl | 3, _ => rfl | 4, _ => rfl | n + 5, h => exact absurd h (by omega)) hN hS (Nat.le_of_ble_eq_true rfl) (Nat.le_of_ble_eq_true rfl) rfl xd_wf_init_45 (fun H hN hS => ?_)
  refine lv_dup hx hb xd_wf_init_48 rfl ?_
  refine q_cback (cs := [.inr (7, [.int 0, .ref (b + 1), .ref (b + 2), .ref (b + 6), .ref (b + 9), .null, .int 0, .int 0, .int 0, .int 0, .int 0, .int 0, .int 0, .int 0, .int 0, .int 0, .long 0]), .inl (G.2.1 0, 4, .inl (fun _ => 0)), .inr (1, [.ref (b + 3), .ref (b + 4), .ref (b + 5), .int 0, .int 0]), .inl (G.2.1 0, 20, .inl (fun _ => 0)), .inl (G.2.1 0, 20, .inl (fun _ => 0)), .inl (G.2.1 0, 20, .inl (fun _ => 0)), .inr (2, [.ref (b + 7), .ref (b + 8), .int 0]), .inl (G.2.1 0, 4, .inl (fun _ => 0)), .inl (G.2.1 0, 4, .inl (fun _ => 0)), .inr (6, [.ref (b + 10), .ref (b + 11), .int 0]), .inl (G.2.1 0, 6, .inl (fun _ => 0)), .inl (G.2.1 0, 6, .inl (fun _ => 0))]) (b1 := b + 12) (by rw [hs]; exact Nat.add_le_add_left (Nat.le_of_ble_eq_true rfl) b) rfl hN hS (q_crunIN (rest := [.ref (b + 12), .ref b]) (cs := [.inr (7, [.int 0, .ref (b + 1), .ref (b + 2), .ref (b + 6), .ref (b + 9), .null, .int 0, .int 0, .int 0, .int 0, .int 0, .int 0, .int 0, .int 0, .int 0, .int 0, .long 0]), .inl (G.2.1 0, 4, .inl (fun _ => 0)), .inr (1, [.ref (b + 3), .ref (b + 4), .ref (b + 5), .int 0, .int 0]), .inl (G.2.1 0, 20, .inl (fun _ => 0)), .inl (G.2.1 0, 20, .inl (fun _ => 0)), .inl (G.2.1 0, 20, .inl (fun _ => 0)), .inr (2, [.ref (b + 7), .ref (b + 8), .int 0]), .inl (G.2.1 0, 4, .inl (fun _ => 0)), .inl (G.2.1 0, 4, .inl (fun _ => 0)), .inr (6, [.ref (b + 10), .ref (b + 11), .int 0]), .inl (G.2.1 0, 6, .inl (fun _ => 0)), .inl (G.2.1 0, 6, .inl (fun _ => 0))]) hF hK hX xXs xXw (xN_ta l G (b + 12)) ⟨va_cnB 0 hF.2.2.2.2 (q_good (q_gw_all _) (q_mf 177 rfl rfl)) rfl rfl rfl hX.2.2.2.2.2.1 (hF.2.2.2.2 _ (List.mem_cons_of_mem _ (q_mf 48 rfl rfl))) (by decide +kernel) ⟨Nat.le_of_ble_eq_true rfl, Nat.le_of_ble_eq_true rfl⟩, rfl, (hF.2.2.2.2 _ (List.mem_cons_of_mem _ (q_mf 176 rfl rfl)))⟩ rfl hN rfl hl.1 rfl (Nat.le_of_ble_eq_true rfl) xd_wf_init_49 ⟨Nat.le_of_ble_eq_true rfl, Nat.le_of_ble_eq_true rfl⟩) (fun H locs hN hS => ?_)
  have hN : q_L G.1 xCl b [.inr (7, [.int 0, .ref (b + 1), .ref (b + 2), .ref (b + 6), .ref (b + 9), .null, .int 0, .int 0, .int 0, .int 0, .int 0, .int 0, .int 0, .int 0, .int 0, .int 0, .long 0]), .inl (G.2.1 0, 4, .inl (fun _ => 0)), .inr (1, [.ref (b + 3), .ref (b + 4), .ref (b + 5), .int 0, .int 0]), .inl (G.2.1 0, 20, .inl (fun _ => 0)), .inl (G.2.1 0, 20, .inl (fun _ => 0)), .inl (G.2.1 0, 20, .inl (fun _ => 0)), .inr (2, [.ref (b + 7), .ref (b + 8), .int 0]), .inl (G.2.1 0, 4, .inl (fun _ => 0)), .inl (G.2.1 0, 4, .inl (fun _ => 0)), .inr (6, [.ref (b + 10), .ref (b + 11), .int 0]), .inl (G.2.1 0, 6, .inl (fun _ => 0)), .inl (G.2.1 0, 6, .inl (fun _ => 0)), .inr (4, [.int 0, .int 0, .int 0, .int 0, .int 0])] H := hN
  refine W.eq (g2 := F0 m 52 ls [.ref (b + 12), .ref b]) rfl ?_
  refine q_cpf (C := xR_wf) (T := xT_wf) (N := 17) (ty := .object "FlowEngine$Task") (a := b) hF hK (fun w h => List.mem_cons_of_mem _ (xin_wf w h)) xt_wf xto_wf xn_wf hN hS 0 rfl rfl 5 (by decide) (List.mem_cons_of_mem _ (q_mf 209 rfl rfl)) rfl hin rfl (xto_wf 5 (by decide)) rfl rfl (Nat.le_of_ble_eq_true rfl) rfl xd_wf_init_52 (fun H locs hN hS => ?_)
  have hN : q_L G.1 xCl b [.inr (7, [.int 0, .ref (b + 1), .ref (b + 2), .ref (b + 6), .ref (b + 9), .ref (b + 12), .int 0, .int 0, .int 0, .int 0, .int 0, .int 0, .int 0, .int 0, .int 0, .int 0, .long 0]), .inl (G.2.1 0, 4, .inl (fun _ => 0)), .inr (1, [.ref (b + 3), .ref (b + 4), .ref (b + 5), .int 0, .int 0]), .inl (G.2.1 0, 20, .inl (fun _ => 0)), .inl (G.2.1 0, 20, .inl (fun _ => 0)), .inl (G.2.1 0, 20, .inl (fun _ => 0)), .inr (2, [.ref (b + 7), .ref (b + 8), .int 0]), .inl (G.2.1 0, 4, .inl (fun _ => 0)), .inl (G.2.1 0, 4, .inl (fun _ => 0)), .inr (6, [.ref (b + 10), .ref (b + 11), .int 0]), .inl (G.2.1 0, 6, .inl (fun _ => 0)), .inl (G.2.1 0, 6, .inl (fun _ => 0)), .inr (4, [.int 0, .int 0, .int 0, .int 0, .int 0])] H := hN
  refine lv_aload_n hx hb xd_wf_init_55 rfl (lv_at hl 0 rfl) ?_
  refine lv_iload_n hx hb xd_wf_init_56 rfl (lv_at hl 1 rfl) ?_
  refine q_cpf (C := xR_wf) (T := xT_wf) (N := 17) (ty := .int) (a := b) hF hK (fun w h => List.mem_cons_of_mem _ (xin_wf w h)) xt_wf xto_wf xn_wf hN hS 0 rfl rfl 0 (by decide) (List.mem_cons_of_mem _ (q_mf 199 rfl rfl)) rfl hin rfl (xto_wf 0 (by decide)) rfl rfl (Nat.le_of_ble_eq_true rfl) rfl xd_wf_init_57 (fun H locs hN hS => ?_)
  have hN : q_L G.1 xCl b [.inr (7, [.int a, .ref (b + 1), .ref (b + 2), .ref (b + 6), .ref (b + 9), .ref (b + 12), .int 0, .int 0, .int 0, .int 0, .int 0, .int 0, .int 0, .int 0, .int 0, .int 0, .long 0]), .inl (G.2.1 0, 4, .inl (fun _ => 0)), .inr (1, [.ref (b + 3), .ref (b + 4), .ref (b + 5), .int 0, .int 0]), .inl (G.2.1 0, 20, .inl (fun _ => 0)), .inl (G.2.1 0, 20, .inl (fun _ => 0)), .inl (G.2.1 0, 20, .inl (fun _ => 0)), .inr (2, [.ref (b + 7), .ref (b + 8), .int 0]), .inl (G.2.1 0, 4, .inl (fun _ => 0)), .inl (G.2.1 0, 4, .inl (fun _ => 0)), .inr (6, [.ref (b + 10), .ref (b + 11), .int 0]), .inl (G.2.1 0, 6, .inl (fun _ => 0)), .inl (G.2.1 0, 6, .inl (fun _ => 0)), .inr (4, [.int 0, .int 0, .int 0, .int 0, .int 0])] H := hN
  exact q_cret (b0 := 1) hF hr hlocks hN hS hs xd_wf_init_60
