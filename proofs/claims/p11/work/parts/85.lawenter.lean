set_option maxRecDepth 100000 in
set_option maxHeartbeats 4000000 in
theorem lw_enter {p : Program} {e : Env} {s : State} {m : MethodId} {below : List Frame} {meth : Method} {c : Code} (l : Launch) {Q : State → Prop} {Y : q_X} {G G2 : q_G} {w0 : Cond} {b L : Nat} {xs : Nat → Int32} {C2 : String} {T2 : u_T} {N2 ci2 mc2 ms2 maxL2 : Nat} {ds2 : List (Nat × Nat)} {P : Nat → q_S → q_S → Prop} {T0 : q_S} {Xt2 : State → Prop} {y2 : MethodName} {bytes2 : ByteArray} {ws2 : List Cond} {rm2 : Room} {cs2 : List va_E} {fs2 : List Value} {ls : Array Slot}
    (hF : CallFix p m c code 4 s #[.ref b] (w0 :: q_gw lw_tbl) xR_law) (hX : va_X b L xs s s.heap) (hbl : b < s.heap.size) (hL : L ≤ 3072) (hl : lv_has ls 4 [(0, .ref b)])
    (hG : G.2.2 = s.heap.size) (hK : va_K G.1 xCl (q_ty xX G) s) (hXt : xXt s) (hZ : lw_Zok xX G s)
    (hG2 : G2.2.2 = s.heap.size + 95) (hY : q_Ok Y) (hK2 : va_K G2.1 Y.2.1 (q_ty Y G2) s) (hXt2 : Xt2 s) (hXs2 : ∀ u U : State, u.vm = U.vm → Xt2 u → Xt2 U) (hXw2 : ∀ u U : State, u.WarmedH U.vm → Xt2 u → Xt2 U) (hZ2 : lw_Zok Y G2 s)
    (hin2 : ∀ w ∈ u_ws C2 T2 N2, w ∈ (w0 :: q_gw lw_tbl)) (ty2 : Nat → FieldType) (hty2 : ∀ k, k < N2 → parseFieldDescriptor (T2 k).2.2.1 = some (ty2 k)) (hcl2 : Cond.classLink xR_law 10 C2 ∈ (w0 :: q_gw lw_tbl)) (hinst2 : Cond.instantiable C2 N2 ∈ (w0 :: q_gw lw_tbl)) (hini2 : Cond.initialized C2 ∈ (w0 :: q_gw lw_tbl)) (hc2 : Y.2.1[ci2]? = some (C2, T2, N2)) (hfs2 : ∀ j, j < N2 → defaultValue (ty2 j) = vp_V fs2 j)
    (hM2 : q_Mc G2.1 Y.2.1 (q_ty Y G2) Xt2 l y2 ws2 rm2 (s.heap.size + 95) [] (.inr (ci2, fs2)) cs2 mc2 ms2) (cw2 : CallB room_1 s #[.ref b] xR_law 12 y2 bytes2 maxL2 none ws2 rm2 mc2 ms2 0 ∧ y2.name = "<init>" ∧ (Cond.instanceMethod y2).before #[.ref b] s = true)
    (hr1 : 0 + 1 + 94 + 1 + mc2 ≤ 600000) (hr2 : 0 + 11 + 857 + N2 + ms2 ≤ 7302250) (hW2 : ∀ H : Heap, q_L G2.1 Y.2.1 G2.2.2 cs2 H → q_W Y G2 T0 H) (h02 : 0 < (Y.1 0).1.1) (hj2 : (Y.1 0).2 = .inl (ci2, ds2)) (ha2 : q_a Y G2 0 0 = G2.2.2)
    (hO : lw_Oks Y G2 l s b C2 P) (hP0 : P 0 xS0 T0) (hEnd : ∀ (H : Heap) (locs : List Loc) (ls : Array Slot), va_S (lw_A s) s.heap H locs → W p l e room_1 s m #[.ref b] below meth c H locs 600000 7302250 Q (F0 m 561 ls [])) :
    W p l e room_1 s m #[.ref b] below meth c s.heap [] 0 0 Q (F0 m 0 ls []) := by
  have hx := hF.1
  have hb := hF.2.1
  have hrc : 600000 ≤ room_1.cells := Nat.le_of_ble_eq_true rfl
  have hrs : 7302250 ≤ room_1.slots := Nat.le_of_ble_eq_true rfl
  refine lw_mk (fs := [.null, .null, .null, .int 0, .int 0, .int 0, .int 0, .int 0, .int 0, .int 0, .int 0]) (cs := xk_fe G s.heap.size) (ci := 0) (C := xR_fe) (TT := xT_fe) (N := 11) (b1 := s.heap.size) hF hK hXt xXs xXw (fun w h => List.mem_cons_of_mem _ (xin_fe w h)) xt_fe xto_fe (List.mem_cons_of_mem _ (q_mf 50 rfl rfl)) (List.mem_cons_of_mem _ (q_mf 51 rfl rfl)) (List.mem_cons_of_mem _ (q_mf 41 rfl rfl)) rfl (fun j hj => by match j, hj with | 0, _ => rfl | 1, _ => rfl | 2, _ => rfl | 3, _ => rfl | 4, _ => rfl | 5, _ => rfl | 6, _ => rfl | 7, _ => rfl | 8, _ => rfl | 9, _ => rfl | 10, _ => rfl | n + 11, h => exact absurd h (by omega)) (xN_fe l G s.heap.size) (cwI 0 hF.2.2.2.2 (q_good (q_gw_all _) (q_mf 54 rfl rfl)) rfl rfl rfl (hF.2.2.2.2 _ (List.mem_cons_of_mem _ (q_mf 41 rfl rfl))) (hF.2.2.2.2 _ (List.mem_cons_of_mem _ (q_mf 52 rfl rfl))) (hF.2.2.2.2 _ (List.mem_cons_of_mem _ (q_mf 53 rfl rfl))) rfl (by decide +kernel) ⟨Nat.le_of_ble_eq_true rfl, Nat.le_of_ble_eq_true rfl⟩) hl.1 rfl va_S.rf (Nat.le_of_ble_eq_true rfl) (by omega) (by omega) d_law_0 d_law_3 d_law_4 (fun H hL1 hk1 hS => ?_)
  refine lv_astore_n (lv' := [(1, .ref s.heap.size), (0, .ref b)]) hx hb d_law_7 rfl hl (by decide) rfl (fun ls hl => ?_)
  have hz1 : H.size = s.heap.size + 95 := hL1.1
  refine lw_mk (fs := fs2) (cs := cs2) (b1 := s.heap.size + 95) hF hK2 hXt2 hXs2 hXw2 hin2 ty2 hty2 hcl2 hinst2 hini2 hc2 hfs2 hM2 cw2 hl.1 hz1 hS (Nat.le_of_ble_eq_true rfl) (by omega) (by omega) d_law_8 d_law_11 d_law_12 (fun H2 hL2 hk2 hS => ?_)
  refine lv_astore_n (lv' := [(2, .ref (s.heap.size + 95)), (1, .ref s.heap.size), (0, .ref b)]) hx hb d_law_15 rfl hl (by decide) rfl (fun ls hl => ?_)
  refine lv_iconst (v := 0) hx hb d_law_16 (by decide) ?_
  refine lv_istore_n (lv' := [(3, .int 0), (2, .ref (s.heap.size + 95)), (1, .ref s.heap.size), (0, .ref b)]) hx hb d_law_17 rfl hl (by decide) rfl (fun ls hl => ?_)
  have ax : q_a xX G 0 0 = s.heap.size := hG
  have ay : q_a Y G2 0 0 = s.heap.size + 95 := ha2.trans hG2
  have gA : ∀ a, q_A xX G a → s.heap.size ≤ a ∧ a < s.heap.size + 95 := fun a h => ⟨by have := h.1; omega, by have h2 : a < G.2.2 + 95 := h.2; omega⟩
  have gB : ∀ a, q_A Y G2 a → s.heap.size + 95 ≤ a := fun a h => by have := h.1; omega
  have hag : ∀ a : Nat, a < s.heap.size → H2[a]? = s.heap[a]? := fun a ha => hS.2.1 a ha (Nat.not_le.mpr ha)
  have hWx : q_w xX G s xS0 H2 := by
    refine ⟨fun j i hi => ?_, hZ H2 hag⟩
    have h1 := xW0 G (H := H) (by rw [hG]; exact hL1) j i hi
    exact h1.kept (hk2 _ (gA _ (xOk.in hi)).2)
  have hWy : q_w Y G2 s T0 H2 := ⟨hW2 H2 (by rw [hG2]; exact hL2), hZ2 H2 hag⟩
  refine W.widen (k := 600000) (n := 7302250) (by omega) (by omega) ?_
  have hJ0 : lw_J Y G G2 p m c s b L xs w0 C2 T2 N2 ci2 ds2 := ⟨⟨hF, xOk, hK⟩, ⟨hF, hY, hK2⟩, hX, hbl, hL, ⟨fun a h1 h2 => by have := gA a h2; have := gB a h1; omega, fun a h2 h1 => by have := gA a h2; have := gB a h1; omega, fun a h => (gA a h).1, fun a h => Nat.le_trans (Nat.le_add_right _ _) (gB a h), hZ, hZ2⟩, h02, hj2, hc2⟩
  refine lw_loop hJ0 hO hEnd (L + 1) 0 0 xS0 T0 H2 [] ls rfl (by omega) (Nat.zero_le _) hP0 ?_ hWx hWy hS
  rw [ax, ay, nI_0]
  exact lv_sub hl [3, 2, 1, 0] rfl
