def xk5 (G : q_G) (b u v : Nat) : List va_E := [.inr (0, [.ref (b + 1), .ref (b + 2), .ref (b + 3), .int 0, .int 0, .int 0, .int 0, .int 0, .int 0, .int 0, .int 0]), .inl (G.2.1 1, 3, .inr (.inr (.inr (.inr (fun k => if k < u then some (b + (5 + 4 * k)) else none))))), .inl (G.2.1 2, 6, .inr (.inr (.inr (.inr (fun k => if k < v then some (b + (17 + 13 * k)) else none))))), .inr (5, [.ref (b + 4), .int 0]), .inl (G.2.1 0, 6, .inl (fun _ => 0))]
def xps (G : q_G) (b : Nat) : Nat → List va_E
  | 0 => []
  | t + 1 => xps G b t ++ xk_pr G (b + (5 + 4 * t))
def xws (G : q_G) (b : Nat) : Nat → List va_E
  | 0 => []
  | t + 1 => xws G b t ++ xk_wf G (b + (17 + 13 * t)) (nI t)
theorem xps_len (G : q_G) (b : Nat) : ∀ t, (xps G b t).length = 4 * t
  | 0 => rfl
  | t + 1 => by rw [xps, List.length_append, xps_len G b t]; rfl
theorem xws_len (G : q_G) (b : Nat) : ∀ t, (xws G b t).length = 13 * t
  | 0 => rfl
  | t + 1 => by rw [xws, List.length_append, xws_len G b t]; rfl
theorem xup (b o d t : Nat) : va_up (fun k => if k < t then some (b + (o + d * k)) else none) t (some (b + (o + d * t))) = fun k => if k < t + 1 then some (b + (o + d * k)) else none := by
  funext k
  unfold va_up
  by_cases h : k = t
  · subst h
    rw [if_pos rfl, if_pos (by omega)]
  · rw [if_neg h]
    dsimp only
    by_cases h2 : k < t
    · rw [if_pos h2, if_pos (by omega)]
    · rw [if_neg h2, if_neg (by omega)]
theorem xlen1 (G : q_G) (b t : Nat) : (xk5 G b t 0 ++ xps G b t).length = 5 + 4 * t := by rw [List.length_append, xps_len]; rfl
theorem xlen2 (G : q_G) (b t : Nat) : ((xk5 G b 3 t ++ xps G b 3) ++ xws G b t).length = 17 + 13 * t := by rw [List.length_append, List.length_append, xps_len, xws_len]; show 5 + 4 * 3 + 13 * t = _; omega
theorem xset1 (G : q_G) (b t : Nat) : ((xk5 G b t 0 ++ xps G b t) ++ xk_pr G (b + (5 + 4 * t))).set 1 (.inl (G.2.1 1, 3, .inr (.inr (.inr (.inr (va_up (fun k => if k < t then some (b + (5 + 4 * k)) else none) t (some (b + (5 + 4 * t))))))))) = xk5 G b (t + 1) 0 ++ xps G b (t + 1) := by
  rw [xup, xps, ← List.append_assoc]
  rfl
theorem xset2 (G : q_G) (b t : Nat) : (((xk5 G b 3 t ++ xps G b 3) ++ xws G b t) ++ xk_wf G (b + (17 + 13 * t)) (nI t)).set 2 (.inl (G.2.1 2, 6, .inr (.inr (.inr (.inr (va_up (fun k => if k < t then some (b + (17 + 13 * k)) else none) t (some (b + (17 + 13 * t))))))))) = (xk5 G b 3 (t + 1) ++ xps G b 3) ++ xws G b (t + 1) := by
  rw [xup, xws, ← List.append_assoc]
  rfl
set_option maxRecDepth 100000 in
set_option maxHeartbeats 4000000 in
theorem xL_fe_init_L0 (l : Launch) (G : q_G) (b : Nat) {p : Program} {e : Env} {s : State} {m : MethodId} {below : List Frame} {meth : Method} {c : Code} {Q : State → Prop} (hF : CallFix p m c xb_fe_init 2 s (Value.ref b :: ([] : List Value)).toArray (q_ws (q_gw lw_tbl) xy_fe_init xb_fe_init 2 none) xR_fe) (hK : va_K G.1 xCl (q_ty xX G) s) (hX : xXt s) (hs : s.heap.size = b + 1) : ∀ (n t : Nat) (H : Heap) (locs : List Loc) (ls : Array Slot), t + n = 4 → t ≤ 3 → q_L G.1 xCl b (xk5 G b t 0 ++ xps G b t) H → va_S (fun q => b ≤ q) s.heap H locs → lv_has ls 2 [(0, .ref b), (1, .int (nI t))] → (∀ (H1 : Heap) (locs1 : List Loc) (ls1 : Array Slot), q_L G.1 xCl b (xk5 G b 3 0 ++ xps G b 3) H1 → va_S (fun q => b ≤ q) s.heap H1 locs1 → lv_has ls1 2 [(0, .ref b)] → W p l e (headSpec (q_ws (q_gw lw_tbl) xy_fe_init xb_fe_init 2 none) (q_rmc 3 94 857)).room s m (Value.ref b :: ([] : List Value)).toArray below meth c H1 locs1 (4 + 4 * 3) (17 + 46 * 3) Q (F0 m 58 ls1 [])) → W p l e (headSpec (q_ws (q_gw lw_tbl) xy_fe_init xb_fe_init 2 none) (q_rmc 3 94 857)).room s m (Value.ref b :: ([] : List Value)).toArray below meth c H locs (4 + 4 * t) (17 + 46 * t) Q (F0 m 34 ls []) := by
  have hx := hF.1
  have hb := hF.2.1
  intro n
  induction n with
  | zero => intro t H locs ls ht hu; omega
  | succ n ih =>
    intro t H locs ls ht hu hN hS hl kk
    have n_t := nI_toInt (n := t) (by omega)
    refine lv_iload_n hx hb xd_fe_init_34 rfl (lv_at hl 1 rfl) ?_
    refine lv_iconst (v := 3) hx hb xd_fe_init_35 (by decide) ?_
    refine lv_icmp_ge (tgt := 58) hx hb xd_fe_init_36 (by decide) (fun c_1 => ?_) (fun c_1 => ?_)
    · have et : t = 3 := by rw [Int32.le_iff_toInt_le, n_t] at c_1; have c_1 : (3 : Int) ≤ t := c_1; omega
      subst et
      exact kk H locs ls hN hS (lv_sub hl [0] rfl)
    · have hlt : t < 3 := by rw [Int32.le_iff_toInt_le, n_t] at c_1; have c_1 : ¬ (3 : Int) ≤ t := c_1; omega
      have hin : vp_in (nI t) 3 := vp_in_nI hlt (by decide)
      have hcl : (nI t).toNatClampNeg = t := nI_clamp (by omega)
      refine lv_aload_n hx hb xd_fe_init_39 rfl (lv_at hl 0 rfl) ?_
      refine q_cgr (C := xR_fe) (T := xT_fe) (N := 11) (v := .ref (b + 1)) (a := b) hF hK (fun w h => List.mem_cons_of_mem _ (xin_fe w h)) hN 0 rfl rfl 0 (by decide) (List.mem_cons_of_mem _ (q_mf 267 rfl rfl)) rfl rfl xd_fe_init_40 ?_
      refine lv_iload_n hx hb xd_fe_init_43 rfl (lv_at hl 1 rfl) ?_
      refine q_cno (ci := 3) (a := b + (5 + 4 * t)) (fs := [.null, .null, .null, .int 0]) (C := xR_pr) (T := xT_pr) (N := 4) hF hK (fun w h => List.mem_cons_of_mem _ (xin_pr w h)) xt_pr xto_pr (List.mem_cons_of_mem _ (q_mf 58 rfl rfl)) (List.mem_cons_of_mem _ (q_mf 78 rfl rfl)) (List.mem_cons_of_mem _ (q_mf 43 rfl rfl)) rfl (fun j hj => by match j, hj with | 0, _ => rfl | 1, _ => rfl | 2, _ => rfl | 3, _ => rfl | n + 4, h => exact absurd h (by omega)) hN hS (by show _ ≤ 94; omega) (by show _ ≤ 857; omega) (by rw [xlen1]) xd_fe_init_44 (fun H hN hS => ?_)
      refine lv_dup hx hb xd_fe_init_47 rfl ?_
      refine q_cback (cs := xk5 G b t 0 ++ xps G b t) (b1 := b + (5 + 4 * t)) (by rw [hs, xlen1]; omega) (by rw [xlen1]) hN hS (q_crunIN (rest := [.ref (b + (5 + 4 * t)), .int (nI t), .ref (b + 1)]) (cs := xk5 G b t 0 ++ xps G b t) hF hK hX xXs xXw (xN_pr l G (b + (5 + 4 * t))) ⟨va_cnB 0 hF.2.2.2.2 (q_good (q_gw_all _) (q_mf 81 rfl rfl)) rfl rfl rfl hX.2.1 (hF.2.2.2.2 _ (List.mem_cons_of_mem _ (q_mf 43 rfl rfl))) (by decide +kernel) ⟨Nat.le_of_ble_eq_true rfl, Nat.le_of_ble_eq_true rfl⟩, rfl, (hF.2.2.2.2 _ (List.mem_cons_of_mem _ (q_mf 80 rfl rfl)))⟩ (by rw [xlen1]) hN rfl hl.1 rfl (Nat.le_of_ble_eq_true rfl) xd_fe_init_48 ⟨by show _ ≤ 94; omega, by show _ ≤ 857; omega⟩) (fun H locs hN hS => ?_)
      refine q_cas (r := (xR_pr, xT_pr, 4)) (ci := 3) hF hK hN hS 1 (5 + 4 * t) 1 rfl rfl (by rw [List.getElem?_append_right (by rw [xlen1]; omega), xlen1, Nat.sub_self]; rfl) rfl hin rfl rfl xd_fe_init_51 (fun H locs hN hS => ?_)
      rw [hcl, xset1] at hN
      refine lv_iinc (v := nI t + 1) (lv' := [(1, .int (nI t + 1)), (0, .ref b)]) hx hb xd_fe_init_52 hl (k := 1) rfl rfl (by decide) rfl (fun ls hl => ?_)
      refine lv_goto (tgt := 34) hx hb xd_fe_init_55 (by decide) ?_
      have hl2 : lv_has ls 2 [(0, .ref b), (1, .int (nI (t + 1)))] := by rw [← nI_1]; exact lv_sub hl [1, 0] rfl
      refine W.widen (k := 4 + 4 * (t + 1)) (n := 17 + 46 * (t + 1)) (by omega) (by omega) ?_
      exact ih (t + 1) H locs ls (by omega) (by omega) hN hS hl2 kk
set_option maxRecDepth 100000 in
set_option maxHeartbeats 4000000 in
theorem xL_fe_init_L1 (l : Launch) (G : q_G) (b : Nat) {p : Program} {e : Env} {s : State} {m : MethodId} {below : List Frame} {meth : Method} {c : Code} {Q : State → Prop} (hF : CallFix p m c xb_fe_init 2 s (Value.ref b :: ([] : List Value)).toArray (q_ws (q_gw lw_tbl) xy_fe_init xb_fe_init 2 none) xR_fe) (hK : va_K G.1 xCl (q_ty xX G) s) (hX : xXt s) (hs : s.heap.size = b + 1) : ∀ (n t : Nat) (H : Heap) (locs : List Loc) (ls : Array Slot), t + n = 7 → t ≤ 6 → q_L G.1 xCl b ((xk5 G b 3 t ++ xps G b 3) ++ xws G b t) H → va_S (fun q => b ≤ q) s.heap H locs → lv_has ls 2 [(0, .ref b), (1, .int (nI t))] → (∀ (H1 : Heap) (locs1 : List Loc) (ls1 : Array Slot), q_L G.1 xCl b ((xk5 G b 3 6 ++ xps G b 3) ++ xws G b 6) H1 → va_S (fun q => b ≤ q) s.heap H1 locs1 → lv_has ls1 2 [(0, .ref b)] → W p l e (headSpec (q_ws (q_gw lw_tbl) xy_fe_init xb_fe_init 2 none) (q_rmc 3 94 857)).room s m (Value.ref b :: ([] : List Value)).toArray below meth c H1 locs1 (16 + 13 * 6) (155 + 117 * 6) Q (F0 m 86 ls1 [])) → W p l e (headSpec (q_ws (q_gw lw_tbl) xy_fe_init xb_fe_init 2 none) (q_rmc 3 94 857)).room s m (Value.ref b :: ([] : List Value)).toArray below meth c H locs (16 + 13 * t) (155 + 117 * t) Q (F0 m 60 ls []) := by
  have hx := hF.1
  have hb := hF.2.1
  intro n
  induction n with
  | zero => intro t H locs ls ht hu; omega
  | succ n ih =>
    intro t H locs ls ht hu hN hS hl kk
    have n_t := nI_toInt (n := t) (by omega)
    refine lv_iload_n hx hb xd_fe_init_60 rfl (lv_at hl 1 rfl) ?_
    refine lv_bipush (v := 6) hx hb xd_fe_init_61 (by decide) ?_
    refine lv_icmp_ge (tgt := 86) hx hb xd_fe_init_63 (by decide) (fun c_1 => ?_) (fun c_1 => ?_)
    · have et : t = 6 := by rw [Int32.le_iff_toInt_le, n_t] at c_1; have c_1 : (6 : Int) ≤ t := c_1; omega
      subst et
      exact kk H locs ls hN hS (lv_sub hl [0] rfl)
    · have hlt : t < 6 := by rw [Int32.le_iff_toInt_le, n_t] at c_1; have c_1 : ¬ (6 : Int) ≤ t := c_1; omega
      have hin : vp_in (nI t) 6 := vp_in_nI hlt (by decide)
      have hcl : (nI t).toNatClampNeg = t := nI_clamp (by omega)
      refine lv_aload_n hx hb xd_fe_init_66 rfl (lv_at hl 0 rfl) ?_
      refine q_cgr (C := xR_fe) (T := xT_fe) (N := 11) (v := .ref (b + 2)) (a := b) hF hK (fun w h => List.mem_cons_of_mem _ (xin_fe w h)) hN 0 rfl rfl 1 (by decide) (List.mem_cons_of_mem _ (q_mf 268 rfl rfl)) rfl rfl xd_fe_init_67 ?_
      refine lv_iload_n hx hb xd_fe_init_70 rfl (lv_at hl 1 rfl) ?_
      refine q_cno (ci := 7) (a := b + (17 + 13 * t)) (fs := [.int 0, .null, .null, .null, .null, .null, .int 0, .int 0, .int 0, .int 0, .int 0, .int 0, .int 0, .int 0, .int 0, .int 0, .long 0]) (C := xR_wf) (T := xT_wf) (N := 17) hF hK (fun w h => List.mem_cons_of_mem _ (xin_wf w h)) xt_wf xto_wf (List.mem_cons_of_mem _ (q_mf 60 rfl rfl)) (List.mem_cons_of_mem _ (q_mf 97 rfl rfl)) (List.mem_cons_of_mem _ (q_mf 44 rfl rfl)) rfl (fun j hj => by match j, hj with | 0, _ => rfl | 1, _ => rfl | 2, _ => rfl | 3, _ => rfl | 4, _ => rfl | 5, _ => rfl | 6, _ => rfl | 7, _ => rfl | 8, _ => rfl | 9, _ => rfl | 10, _ => rfl | 11, _ => rfl | 12, _ => rfl | 13, _ => rfl | 14, _ => rfl | 15, _ => rfl | 16, _ => rfl | n + 17, h => exact absurd h (by omega)) hN hS (by show _ ≤ 94; omega) (by show _ ≤ 857; omega) (by rw [xlen2]) xd_fe_init_71 (fun H hN hS => ?_)
      refine lv_dup hx hb xd_fe_init_74 rfl ?_
      refine lv_iload_n hx hb xd_fe_init_75 rfl (lv_at hl 1 rfl) ?_
      refine q_cback (cs := (xk5 G b 3 t ++ xps G b 3) ++ xws G b t) (b1 := b + (17 + 13 * t)) (by rw [hs, xlen2]; omega) (by rw [xlen2]) hN hS (q_crunI (rest := [.ref (b + (17 + 13 * t)), .int (nI t), .ref (b + 2)]) (cs := (xk5 G b 3 t ++ xps G b 3) ++ xws G b t) hF hK hX xXs xXw (xN_wf l G (b + (17 + 13 * t)) (nI t)) (cwI 1 hF.2.2.2.2 (q_good (q_gw_all _) (q_mf 100 rfl rfl)) rfl rfl rfl (hF.2.2.2.2 _ (List.mem_cons_of_mem _ (q_mf 44 rfl rfl))) (hF.2.2.2.2 _ (List.mem_cons_of_mem _ (q_mf 98 rfl rfl))) (hF.2.2.2.2 _ (List.mem_cons_of_mem _ (q_mf 99 rfl rfl))) rfl (by decide +kernel) ⟨Nat.le_of_ble_eq_true rfl, Nat.le_of_ble_eq_true rfl⟩) (by rw [xlen2]) hN rfl hl.1 rfl (Nat.le_of_ble_eq_true rfl) xd_fe_init_76 ⟨by show _ ≤ 94; omega, by show _ ≤ 857; omega⟩) (fun H locs hN hS => ?_)
      refine q_cas (r := (xR_wf, xT_wf, 17)) (ci := 7) hF hK hN hS 2 (17 + 13 * t) 2 rfl rfl (by rw [List.getElem?_append_right (by rw [xlen2]; omega), xlen2, Nat.sub_self]; rfl) rfl hin rfl rfl xd_fe_init_79 (fun H locs hN hS => ?_)
      rw [hcl, xset2] at hN
      refine lv_iinc (v := nI t + 1) (lv' := [(1, .int (nI t + 1)), (0, .ref b)]) hx hb xd_fe_init_80 hl (k := 1) rfl rfl (by decide) rfl (fun ls hl => ?_)
      refine lv_goto (tgt := 60) hx hb xd_fe_init_83 (by decide) ?_
      have hl2 : lv_has ls 2 [(0, .ref b), (1, .int (nI (t + 1)))] := by rw [← nI_1]; exact lv_sub hl [1, 0] rfl
      refine W.widen (k := 16 + 13 * (t + 1)) (n := 155 + 117 * (t + 1)) (by omega) (by omega) ?_
      exact ih (t + 1) H locs ls (by omega) (by omega) hN hS hl2 kk
def xk_fe (G : q_G) (b : Nat) : List va_E := (xk5 G b 3 6 ++ xps G b 3) ++ xws G b 6
set_option maxRecDepth 100000 in
set_option maxHeartbeats 4000000 in
theorem xN_fe (l : Launch) (G : q_G) (b : Nat) : q_Mc G.1 xCl (q_ty xX G) xXt l xy_fe_init (q_ws (q_gw lw_tbl) xy_fe_init xb_fe_init 2 none) (q_rmc 3 94 857) b [] (.inr (0, [.null, .null, .null, .int 0, .int 0, .int 0, .int 0, .int 0, .int 0, .int 0, .int 0])) (xk_fe G b) 94 857 := by
  refine q_cmet (cc := xb_fe_init) (maxL := 2) (by decide) rfl rfl (Nat.le_of_ble_eq_true rfl) ?_
  intro p e s m below meth c ls hF hr hlocks hin hK hX hN hS hl
  have hs : s.heap.size = b + 1 := hN.1
  have hx := hF.1
  have hb := hF.2.1
  have hl : lv_has ls 2 [(0, .ref b)] := hl
  refine lv_aload_n hx hb xd_fe_init_0 rfl (lv_at hl 0 rfl) ?_
  refine W.objInit hx hb hF.2.2.2.1 (hF.2.2.2.2 _ (List.mem_cons_of_mem _ (q_mf 55 rfl rfl))) (hF.2.2.2.2 _ (List.mem_cons_of_mem _ (q_mf 56 rfl rfl))) (hF.2.2.2.2 _ (List.mem_cons_of_mem _ (q_mf 57 rfl rfl))) rfl (by rw [hF.2.2.1]; exact hl.1) rfl xd_fe_init_1 (Nat.le_of_ble_eq_true rfl) (Nat.le_of_ble_eq_true rfl) ?_
  refine W.eq (g2 := F0 m 4 ls []) rfl ?_
  refine lv_aload_n hx hb xd_fe_init_4 rfl (lv_at hl 0 rfl) ?_
  refine lv_iconst (v := 3) hx hb xd_fe_init_5 (by decide) ?_
  refine q_cnr (a := b + 1) (N := 3) hF hK (List.mem_cons_of_mem _ (q_mf 58 rfl rfl)) hX.2.2.2.2.2.2.1 1 rfl hN hS (by decide) (by decide) (by decide) (Nat.le_of_ble_eq_true rfl) (Nat.le_of_ble_eq_true rfl) rfl xd_fe_init_6 (fun H hN hS => ?_)
  have hN : q_L G.1 xCl b [.inr (0, [.null, .null, .null, .int 0, .int 0, .int 0, .int 0, .int 0, .int 0, .int 0, .int 0]), .inl (G.2.1 1, 3, .inr (.inr (.inr (.inr (fun _ => none)))))] H := hN
  refine q_cpf (C := xR_fe) (T := xT_fe) (N := 11) (ty := .array (.object "FlowEngine$Program")) (a := b) hF hK (fun w h => List.mem_cons_of_mem _ (xin_fe w h)) xt_fe xto_fe xn_fe hN hS 0 rfl rfl 0 (by decide) (List.mem_cons_of_mem _ (q_mf 267 rfl rfl)) rfl hin rfl (xto_fe 0 (by decide)) rfl rfl (Nat.le_of_ble_eq_true rfl) rfl xd_fe_init_9 (fun H locs hN hS => ?_)
  have hN : q_L G.1 xCl b [.inr (0, [.ref (b + 1), .null, .null, .int 0, .int 0, .int 0, .int 0, .int 0, .int 0, .int 0, .int 0]), .inl (G.2.1 1, 3, .inr (.inr (.inr (.inr (fun _ => none)))))] H := hN
  refine lv_aload_n hx hb xd_fe_init_12 rfl (lv_at hl 0 rfl) ?_
  refine lv_bipush (v := 6) hx hb xd_fe_init_13 (by decide) ?_
  refine q_cnr (a := b + 2) (N := 6) hF hK (List.mem_cons_of_mem _ (q_mf 60 rfl rfl)) hX.2.2.2.2.2.2.2 2 rfl hN hS (by decide) (by decide) (by decide) (Nat.le_of_ble_eq_true rfl) (Nat.le_of_ble_eq_true rfl) rfl xd_fe_init_15 (fun H hN hS => ?_)
  have hN : q_L G.1 xCl b [.inr (0, [.ref (b + 1), .null, .null, .int 0, .int 0, .int 0, .int 0, .int 0, .int 0, .int 0, .int 0]), .inl (G.2.1 1, 3, .inr (.inr (.inr (.inr (fun _ => none))))), .inl (G.2.1 2, 6, .inr (.inr (.inr (.inr (fun _ => none)))))] H := hN
  refine q_cpf (C := xR_fe) (T := xT_fe) (N := 11) (ty := .array (.object "FlowEngine$Workflow")) (a := b) hF hK (fun w h => List.mem_cons_of_mem _ (xin_fe w h)) xt_fe xto_fe xn_fe hN hS 0 rfl rfl 1 (by decide) (List.mem_cons_of_mem _ (q_mf 268 rfl rfl)) rfl hin rfl (xto_fe 1 (by decide)) rfl rfl (Nat.le_of_ble_eq_true rfl) rfl xd_fe_init_18 (fun H locs hN hS => ?_)
  have hN : q_L G.1 xCl b [.inr (0, [.ref (b + 1), .ref (b + 2), .null, .int 0, .int 0, .int 0, .int 0, .int 0, .int 0, .int 0, .int 0]), .inl (G.2.1 1, 3, .inr (.inr (.inr (.inr (fun _ => none))))), .inl (G.2.1 2, 6, .inr (.inr (.inr (.inr (fun _ => none)))))] H := hN
  refine lv_aload_n hx hb xd_fe_init_21 rfl (lv_at hl 0 rfl) ?_
  refine q_cno (ci := 5) (a := b + 3) (fs := [.null, .int 0]) (C := xR_tl) (T := xT_tl) (N := 2) hF hK (fun w h => List.mem_cons_of_mem _ (xin_tl w h)) xt_tl xto_tl (List.mem_cons_of_mem _ (q_mf 62 rfl rfl)) (List.mem_cons_of_mem _ (q_mf 63 rfl rfl)) (List.mem_cons_of_mem _ (q_mf 42 rfl rfl)) rfl (fun j hj => by match j, hj with | 0, _ => rfl | 1, _ => rfl | n + 2, h => exact absurd h (by omega)) hN hS (Nat.le_of_ble_eq_true rfl) (Nat.le_of_ble_eq_true rfl) rfl xd_fe_init_22 (fun H hN hS => ?_)
  refine lv_dup hx hb xd_fe_init_25 rfl ?_
  refine q_cback (cs := [.inr (0, [.ref (b + 1), .ref (b + 2), .null, .int 0, .int 0, .int 0, .int 0, .int 0, .int 0, .int 0, .int 0]), .inl (G.2.1 1, 3, .inr (.inr (.inr (.inr (fun _ => none))))), .inl (G.2.1 2, 6, .inr (.inr (.inr (.inr (fun _ => none)))))]) (b1 := b + 3) (by rw [hs]; exact Nat.add_le_add_left (Nat.le_of_ble_eq_true rfl) b) rfl hN hS (q_crunIN (rest := [.ref (b + 3), .ref b]) (cs := [.inr (0, [.ref (b + 1), .ref (b + 2), .null, .int 0, .int 0, .int 0, .int 0, .int 0, .int 0, .int 0, .int 0]), .inl (G.2.1 1, 3, .inr (.inr (.inr (.inr (fun _ => none))))), .inl (G.2.1 2, 6, .inr (.inr (.inr (.inr (fun _ => none)))))]) hF hK hX xXs xXw (xN_tl l G (b + 3)) ⟨va_cnB 0 hF.2.2.2.2 (q_good (q_gw_all _) (q_mf 66 rfl rfl)) rfl rfl rfl hX.1 (hF.2.2.2.2 _ (List.mem_cons_of_mem _ (q_mf 42 rfl rfl))) (by decide +kernel) ⟨Nat.le_of_ble_eq_true rfl, Nat.le_of_ble_eq_true rfl⟩, rfl, (hF.2.2.2.2 _ (List.mem_cons_of_mem _ (q_mf 65 rfl rfl)))⟩ rfl hN rfl hl.1 rfl (Nat.le_of_ble_eq_true rfl) xd_fe_init_26 ⟨Nat.le_of_ble_eq_true rfl, Nat.le_of_ble_eq_true rfl⟩) (fun H locs hN hS => ?_)
  have hN : q_L G.1 xCl b [.inr (0, [.ref (b + 1), .ref (b + 2), .null, .int 0, .int 0, .int 0, .int 0, .int 0, .int 0, .int 0, .int 0]), .inl (G.2.1 1, 3, .inr (.inr (.inr (.inr (fun _ => none))))), .inl (G.2.1 2, 6, .inr (.inr (.inr (.inr (fun _ => none))))), .inr (5, [.ref (b + 4), .int 0]), .inl (G.2.1 0, 6, .inl (fun _ => 0))] H := hN
  refine W.eq (g2 := F0 m 29 ls [.ref (b + 3), .ref b]) rfl ?_
  refine q_cpf (C := xR_fe) (T := xT_fe) (N := 11) (ty := .object "FlowEngine$TaskLine") (a := b) hF hK (fun w h => List.mem_cons_of_mem _ (xin_fe w h)) xt_fe xto_fe xn_fe hN hS 0 rfl rfl 2 (by decide) (List.mem_cons_of_mem _ (q_mf 269 rfl rfl)) rfl hin rfl (xto_fe 2 (by decide)) rfl rfl (Nat.le_of_ble_eq_true rfl) rfl xd_fe_init_29 (fun H locs hN hS => ?_)
  have hN : q_L G.1 xCl b [.inr (0, [.ref (b + 1), .ref (b + 2), .ref (b + 3), .int 0, .int 0, .int 0, .int 0, .int 0, .int 0, .int 0, .int 0]), .inl (G.2.1 1, 3, .inr (.inr (.inr (.inr (fun _ => none))))), .inl (G.2.1 2, 6, .inr (.inr (.inr (.inr (fun _ => none))))), .inr (5, [.ref (b + 4), .int 0]), .inl (G.2.1 0, 6, .inl (fun _ => 0))] H := hN
  refine lv_iconst (v := 0) hx hb xd_fe_init_32 (by decide) ?_
  refine lv_istore_n (lv' := [(1, .int 0), (0, .ref b)]) hx hb xd_fe_init_33 rfl hl (by decide) rfl (fun ls hl => ?_)
  have e0 : xk5 G b 0 0 ++ xps G b 0 = [.inr (0, [.ref (b + 1), .ref (b + 2), .ref (b + 3), .int 0, .int 0, .int 0, .int 0, .int 0, .int 0, .int 0, .int 0]), .inl (G.2.1 1, 3, .inr (.inr (.inr (.inr (fun _ => none))))), .inl (G.2.1 2, 6, .inr (.inr (.inr (.inr (fun _ => none))))), .inr (5, [.ref (b + 4), .int 0]), .inl (G.2.1 0, 6, .inl (fun _ => 0))] := by simp [xk5, xps]
  rw [← e0] at hN
  have hl2 : lv_has ls 2 [(0, .ref b), (1, .int (nI 0))] := by rw [nI_0]; exact lv_sub hl [1, 0] rfl
  refine xL_fe_init_L0 l G b hF hK hX hs 4 0 H locs ls rfl (by decide) hN hS hl2 (fun H locs ls hN hS hl => ?_)
  refine lv_iconst (v := 0) hx hb xd_fe_init_58 (by decide) ?_
  refine lv_istore_n (lv' := [(1, .int 0), (0, .ref b)]) hx hb xd_fe_init_59 rfl hl (by decide) rfl (fun ls hl => ?_)
  have e1 : (xk5 G b 3 0 ++ xps G b 3) ++ xws G b 0 = xk5 G b 3 0 ++ xps G b 3 := by simp [xws]
  rw [← e1] at hN
  have hl2 : lv_has ls 2 [(0, .ref b), (1, .int (nI 0))] := by rw [nI_0]; exact lv_sub hl [1, 0] rfl
  refine xL_fe_init_L1 l G b hF hK hX hs 7 0 H locs ls rfl (by decide) hN hS hl2 (fun H locs ls hN hS hl => ?_)
  exact q_cret (b0 := 1) hF hr hlocks hN hS hs xd_fe_init_86
