/-- what holds all along the law's walk: the two objects lie apart, behind what was there; the statics; the script -/
def lw_J (Y : q_X) (G G2 : q_G) (p : Program) (m : MethodId) (c : Code) (s : State) (b L : Nat) (xs : Nat → Int32) (w0 : Cond) (C2 : String) (T2 : u_T) (N2 ci2 : Nat) (ds2 : List (Nat × Nat)) : Prop :=
  q_C xX G p m c code 4 s #[.ref b] (w0 :: q_gw lw_tbl) xR_law ∧ q_C Y G2 p m c code 4 s #[.ref b] (w0 :: q_gw lw_tbl) xR_law ∧ va_X b L xs s s.heap ∧ b < s.heap.size ∧ L ≤ 3072 ∧
  ((∀ a, q_A Y G2 a → ¬ q_A xX G a) ∧ (∀ a, q_A xX G a → ¬ q_A Y G2 a) ∧ (∀ a, q_A xX G a → lw_A s a) ∧ (∀ a, q_A Y G2 a → lw_A s a) ∧ lw_Zok xX G s ∧ lw_Zok Y G2 s) ∧
  0 < (Y.1 0).1.1 ∧ (Y.1 0).2 = .inl (ci2, ds2) ∧ Y.2.1[ci2]? = some (C2, T2, N2)
/-- a call on the object Y: what it answers, the table behind it -/
def lw_M (Y : q_X) (G2 : q_G) (l : Launch) (s : State) (b : Nat) (C2 : String) (idx n : Nat) (As : List Value) (T : q_S) (r : Int32) (T' : q_S) : Prop :=
  ∃ (y : MethodName) (bytes : ByteArray) (maxL : Nat) (ret : Option FieldType) (ws : List Cond) (rm : Room), CallW room_1 s #[.ref b] xR_law C2 idx y bytes maxL ret ws rm 0 0 n ∧ q_Mi Y G2 l y ws rm (.ref (q_a Y G2 0 0) :: As) T r T'
set_option maxRecDepth 100000 in
set_option maxHeartbeats 4000000 in
theorem lw_case0 {p : Program} {l : Launch} {e : Env} {s : State} {m : MethodId} {below : List Frame} {meth : Method} {c : Code} {Q : State → Prop} {Y : q_X} {G G2 : q_G} {w0 : Cond} {b L : Nat} {xs : Nat → Int32} {C2 : String} {T2 : u_T} {N2 ci2 : Nat} {ds2 : List (Nat × Nat)} {H : Heap} {locs : List Loc} {ls : Array Slot} {S T T' : q_S} {r : Int32} {i : Nat} (hJ0 : lw_J Y G G2 p m c s b L xs w0 C2 T2 N2 ci2 ds2) (hi : i + 5 < L) (hl : lv_has ls 4 [(0, .ref b), (1, .ref (q_a xX G 0 0)), (2, .ref (q_a Y G2 0 0)), (3, .int (nI i))]) (hI : xI S) (hJ : xJ S) (hW : q_w xX G s S H) (hV : q_w Y G2 s T H) (hS : va_S (lw_A s) s.heap H locs) (hM : lw_M Y G2 l s b C2 17 4 [.int (xs (i + 1)), .int (xs (i + 2)), .int (xs (i + 3)), .int (xs (i + 4))] T r T') 
    (kk : ∀ (H1 : Heap) (locs1 : List Loc), q_w xX G s (x_fe_add S (xs (i + 1)) (xs (i + 2)) (xs (i + 3)) (xs (i + 4))).2 H1 → q_w Y G2 s T' H1 → va_S (lw_A s) s.heap H1 locs1 → W p l e room_1 s m #[.ref b] below meth c H1 locs1 600000 7302250 Q (F0 m 555 ls [])) : W p l e room_1 s m #[.ref b] below meth c H locs 600000 7302250 Q (F0 m 100 ls []) := by
  obtain ⟨hC, hD, hX, hbl, hL, ⟨g1, g2, g3, g4, g5, g6⟩, j1, j2, j3⟩ := hJ0
  obtain ⟨y, bytes, maxL, ret, ws, rm, cw, hM⟩ := hM
  have hx := hC.1.1
  have hb := hC.1.2.1
  refine lv_aload_n hx hb d_law_100 rfl (lv_at hl 1 rfl) ?_
  refine lw_ld hx hb hX hbl hS hl 1 (by decide) (by omega) (Nat.le_trans hL (by decide)) d_law_101 d_law_102 d_law_103 d_law_104 d_law_105 ?_
  refine lw_ld hx hb hX hbl hS hl 2 (by decide) (by omega) (Nat.le_trans hL (by decide)) d_law_106 d_law_107 d_law_108 d_law_109 d_law_110 ?_
  refine lw_ld hx hb hX hbl hS hl 3 (by decide) (by omega) (Nat.le_trans hL (by decide)) d_law_111 d_law_112 d_law_113 d_law_114 d_law_115 ?_
  refine lw_ld hx hb hX hbl hS hl 4 (by decide) (by omega) (Nat.le_trans hL (by decide)) d_law_116 d_law_117 d_law_118 d_law_119 d_law_120 ?_
  refine lw_call (r := (x_fe_add S (xs (i + 1)) (xs (i + 2)) (xs (i + 3)) (xs (i + 4))).1) (S' := (x_fe_add S (xs (i + 1)) (xs (i + 2)) (xs (i + 3)) (xs (i + 4))).2) hC hD.2.1 g1 g3 g6 hV hS (q_runV (j := 0) (i := 0) (As := [.int (xs (i + 1)), .int (xs (i + 2)), .int (xs (i + 3)), .int (xs (i + 4))]) (rest := []) hC hW (xC_fe_add l G S (xs (i + 1)) (xs (i + 2)) (xs (i + 3)) (xs (i + 4)) hI) (xc_law_13 (q_rm 2) hC.1.2.2.2.2 ⟨Nat.le_of_ble_eq_true rfl, Nat.le_of_ble_eq_true rfl⟩ rfl rfl) Nat.one_pos rfl rfl rfl hl.1 rfl (Nat.le_of_ble_eq_true rfl) d_law_121 ⟨Nat.le_of_ble_eq_true rfl, Nat.le_of_ble_eq_true rfl⟩) (fun H locs hW hV hS => ?_)
  refine lv_pop hx hb d_law_124 rfl ?_
  refine lv_aload_n hx hb d_law_125 rfl (lv_at hl 2 rfl) ?_
  refine lw_ld hx hb hX hbl hS hl 1 (by decide) (by omega) (Nat.le_trans hL (by decide)) d_law_126 d_law_127 d_law_128 d_law_129 d_law_130 ?_
  refine lw_ld hx hb hX hbl hS hl 2 (by decide) (by omega) (Nat.le_trans hL (by decide)) d_law_131 d_law_132 d_law_133 d_law_134 d_law_135 ?_
  refine lw_ld hx hb hX hbl hS hl 3 (by decide) (by omega) (Nat.le_trans hL (by decide)) d_law_136 d_law_137 d_law_138 d_law_139 d_law_140 ?_
  refine lw_ld hx hb hX hbl hS hl 4 (by decide) (by omega) (Nat.le_trans hL (by decide)) d_law_141 d_law_142 d_law_143 d_law_144 d_law_145 ?_
  refine lw_call (r := r) (S' := T') hD hC.2.1 g2 g4 g5 hW hS (q_runV (j := 0) (i := 0) (As := [.int (xs (i + 1)), .int (xs (i + 2)), .int (xs (i + 3)), .int (xs (i + 4))]) (rest := []) hD hV hM cw j1 j2 j3 rfl hl.1 rfl (Nat.le_of_ble_eq_true rfl) d_law_146 ⟨Nat.le_of_ble_eq_true rfl, Nat.le_of_ble_eq_true rfl⟩) (fun H locs hV hW hS => ?_)
  refine lv_pop hx hb d_law_149 rfl ?_
  refine lv_goto (tgt := 555) hx hb d_law_150 (by decide) ?_
  exact kk H locs hW hV hS
set_option maxRecDepth 100000 in
set_option maxHeartbeats 4000000 in
theorem lw_case1 {p : Program} {l : Launch} {e : Env} {s : State} {m : MethodId} {below : List Frame} {meth : Method} {c : Code} {Q : State → Prop} {Y : q_X} {G G2 : q_G} {w0 : Cond} {b L : Nat} {xs : Nat → Int32} {C2 : String} {T2 : u_T} {N2 ci2 : Nat} {ds2 : List (Nat × Nat)} {H : Heap} {locs : List Loc} {ls : Array Slot} {S T T' : q_S} {r : Int32} {i : Nat} (hJ0 : lw_J Y G G2 p m c s b L xs w0 C2 T2 N2 ci2 ds2) (hi : i + 5 < L) (hl : lv_has ls 4 [(0, .ref b), (1, .ref (q_a xX G 0 0)), (2, .ref (q_a Y G2 0 0)), (3, .int (nI i))]) (hI : xI S) (hJ : xJ S) (hW : q_w xX G s S H) (hV : q_w Y G2 s T H) (hS : va_S (lw_A s) s.heap H locs) (hM : lw_M Y G2 l s b C2 22 5 [.int (xs (i + 1)), .int (xs (i + 2)), .int (xs (i + 3)), .int (xs (i + 4)), .int (xs (i + 5))] T r T') 
    (kk : ∀ (H1 : Heap) (locs1 : List Loc), q_w xX G s (x_fe_change S (xs (i + 1)) (xs (i + 2)) (xs (i + 3)) (xs (i + 4)) (xs (i + 5))).2 H1 → q_w Y G2 s T' H1 → va_S (lw_A s) s.heap H1 locs1 → W p l e room_1 s m #[.ref b] below meth c H1 locs1 600000 7302250 Q (F0 m 555 ls [])) : W p l e room_1 s m #[.ref b] below meth c H locs 600000 7302250 Q (F0 m 153 ls []) := by
  obtain ⟨hC, hD, hX, hbl, hL, ⟨g1, g2, g3, g4, g5, g6⟩, j1, j2, j3⟩ := hJ0
  obtain ⟨y, bytes, maxL, ret, ws, rm, cw, hM⟩ := hM
  have hx := hC.1.1
  have hb := hC.1.2.1
  refine lv_aload_n hx hb d_law_153 rfl (lv_at hl 1 rfl) ?_
  refine lw_ld hx hb hX hbl hS hl 1 (by decide) (by omega) (Nat.le_trans hL (by decide)) d_law_154 d_law_155 d_law_156 d_law_157 d_law_158 ?_
  refine lw_ld hx hb hX hbl hS hl 2 (by decide) (by omega) (Nat.le_trans hL (by decide)) d_law_159 d_law_160 d_law_161 d_law_162 d_law_163 ?_
  refine lw_ld hx hb hX hbl hS hl 3 (by decide) (by omega) (Nat.le_trans hL (by decide)) d_law_164 d_law_165 d_law_166 d_law_167 d_law_168 ?_
  refine lw_ld hx hb hX hbl hS hl 4 (by decide) (by omega) (Nat.le_trans hL (by decide)) d_law_169 d_law_170 d_law_171 d_law_172 d_law_173 ?_
  refine lw_ld hx hb hX hbl hS hl 5 (by decide) (by omega) (Nat.le_trans hL (by decide)) d_law_174 d_law_175 d_law_176 d_law_177 d_law_178 ?_
  refine lw_call (r := (x_fe_change S (xs (i + 1)) (xs (i + 2)) (xs (i + 3)) (xs (i + 4)) (xs (i + 5))).1) (S' := (x_fe_change S (xs (i + 1)) (xs (i + 2)) (xs (i + 3)) (xs (i + 4)) (xs (i + 5))).2) hC hD.2.1 g1 g3 g6 hV hS (q_runV (j := 0) (i := 0) (As := [.int (xs (i + 1)), .int (xs (i + 2)), .int (xs (i + 3)), .int (xs (i + 4)), .int (xs (i + 5))]) (rest := []) hC hW (xC_fe_change l G S (xs (i + 1)) (xs (i + 2)) (xs (i + 3)) (xs (i + 4)) (xs (i + 5)) hI) (xc_law_18 (q_rm 2) hC.1.2.2.2.2 ⟨Nat.le_of_ble_eq_true rfl, Nat.le_of_ble_eq_true rfl⟩ rfl rfl) Nat.one_pos rfl rfl rfl hl.1 rfl (Nat.le_of_ble_eq_true rfl) d_law_179 ⟨Nat.le_of_ble_eq_true rfl, Nat.le_of_ble_eq_true rfl⟩) (fun H locs hW hV hS => ?_)
  refine lv_pop hx hb d_law_182 rfl ?_
  refine lv_aload_n hx hb d_law_183 rfl (lv_at hl 2 rfl) ?_
  refine lw_ld hx hb hX hbl hS hl 1 (by decide) (by omega) (Nat.le_trans hL (by decide)) d_law_184 d_law_185 d_law_186 d_law_187 d_law_188 ?_
  refine lw_ld hx hb hX hbl hS hl 2 (by decide) (by omega) (Nat.le_trans hL (by decide)) d_law_189 d_law_190 d_law_191 d_law_192 d_law_193 ?_
  refine lw_ld hx hb hX hbl hS hl 3 (by decide) (by omega) (Nat.le_trans hL (by decide)) d_law_194 d_law_195 d_law_196 d_law_197 d_law_198 ?_
  refine lw_ld hx hb hX hbl hS hl 4 (by decide) (by omega) (Nat.le_trans hL (by decide)) d_law_199 d_law_200 d_law_201 d_law_202 d_law_203 ?_
  refine lw_ld hx hb hX hbl hS hl 5 (by decide) (by omega) (Nat.le_trans hL (by decide)) d_law_204 d_law_205 d_law_206 d_law_207 d_law_208 ?_
  refine lw_call (r := r) (S' := T') hD hC.2.1 g2 g4 g5 hW hS (q_runV (j := 0) (i := 0) (As := [.int (xs (i + 1)), .int (xs (i + 2)), .int (xs (i + 3)), .int (xs (i + 4)), .int (xs (i + 5))]) (rest := []) hD hV hM cw j1 j2 j3 rfl hl.1 rfl (Nat.le_of_ble_eq_true rfl) d_law_209 ⟨Nat.le_of_ble_eq_true rfl, Nat.le_of_ble_eq_true rfl⟩) (fun H locs hV hW hS => ?_)
  refine lv_pop hx hb d_law_212 rfl ?_
  refine lv_goto (tgt := 555) hx hb d_law_213 (by decide) ?_
  exact kk H locs hW hV hS
set_option maxRecDepth 100000 in
set_option maxHeartbeats 4000000 in
theorem lw_case2 {p : Program} {l : Launch} {e : Env} {s : State} {m : MethodId} {below : List Frame} {meth : Method} {c : Code} {Q : State → Prop} {Y : q_X} {G G2 : q_G} {w0 : Cond} {b L : Nat} {xs : Nat → Int32} {C2 : String} {T2 : u_T} {N2 ci2 : Nat} {ds2 : List (Nat × Nat)} {H : Heap} {locs : List Loc} {ls : Array Slot} {S T T' : q_S} {r : Int32} {i : Nat} (hJ0 : lw_J Y G G2 p m c s b L xs w0 C2 T2 N2 ci2 ds2) (hi : i + 5 < L) (hl : lv_has ls 4 [(0, .ref b), (1, .ref (q_a xX G 0 0)), (2, .ref (q_a Y G2 0 0)), (3, .int (nI i))]) (hI : xI S) (hJ : xJ S) (hW : q_w xX G s S H) (hV : q_w Y G2 s T H) (hS : va_S (lw_A s) s.heap H locs) (hM : lw_M Y G2 l s b C2 27 2 [.int (xs (i + 1)), .int (xs (i + 2))] T r T') 
    (kk : ∀ (H1 : Heap) (locs1 : List Loc), q_w xX G s (x_fe_start S (xs (i + 1)) (xs (i + 2))).2 H1 → q_w Y G2 s T' H1 → va_S (lw_A s) s.heap H1 locs1 → W p l e room_1 s m #[.ref b] below meth c H1 locs1 600000 7302250 Q (F0 m 555 ls [])) : W p l e room_1 s m #[.ref b] below meth c H locs 600000 7302250 Q (F0 m 216 ls []) := by
  obtain ⟨hC, hD, hX, hbl, hL, ⟨g1, g2, g3, g4, g5, g6⟩, j1, j2, j3⟩ := hJ0
  obtain ⟨y, bytes, maxL, ret, ws, rm, cw, hM⟩ := hM
  have hx := hC.1.1
  have hb := hC.1.2.1
  refine lv_aload_n hx hb d_law_216 rfl (lv_at hl 1 rfl) ?_
  refine lw_ld hx hb hX hbl hS hl 1 (by decide) (by omega) (Nat.le_trans hL (by decide)) d_law_217 d_law_218 d_law_219 d_law_220 d_law_221 ?_
  refine lw_ld hx hb hX hbl hS hl 2 (by decide) (by omega) (Nat.le_trans hL (by decide)) d_law_222 d_law_223 d_law_224 d_law_225 d_law_226 ?_
  refine lw_call (r := (x_fe_start S (xs (i + 1)) (xs (i + 2))).1) (S' := (x_fe_start S (xs (i + 1)) (xs (i + 2))).2) hC hD.2.1 g1 g3 g6 hV hS (q_runV (j := 0) (i := 0) (As := [.int (xs (i + 1)), .int (xs (i + 2))]) (rest := []) hC hW (xC_fe_start l G S (xs (i + 1)) (xs (i + 2)) hI hJ) (xc_law_23 (q_rm 4) hC.1.2.2.2.2 ⟨Nat.le_of_ble_eq_true rfl, Nat.le_of_ble_eq_true rfl⟩ rfl rfl) Nat.one_pos rfl rfl rfl hl.1 rfl (Nat.le_of_ble_eq_true rfl) d_law_227 ⟨Nat.le_of_ble_eq_true rfl, Nat.le_of_ble_eq_true rfl⟩) (fun H locs hW hV hS => ?_)
  refine lv_pop hx hb d_law_230 rfl ?_
  refine lv_aload_n hx hb d_law_231 rfl (lv_at hl 2 rfl) ?_
  refine lw_ld hx hb hX hbl hS hl 1 (by decide) (by omega) (Nat.le_trans hL (by decide)) d_law_232 d_law_233 d_law_234 d_law_235 d_law_236 ?_
  refine lw_ld hx hb hX hbl hS hl 2 (by decide) (by omega) (Nat.le_trans hL (by decide)) d_law_237 d_law_238 d_law_239 d_law_240 d_law_241 ?_
  refine lw_call (r := r) (S' := T') hD hC.2.1 g2 g4 g5 hW hS (q_runV (j := 0) (i := 0) (As := [.int (xs (i + 1)), .int (xs (i + 2))]) (rest := []) hD hV hM cw j1 j2 j3 rfl hl.1 rfl (Nat.le_of_ble_eq_true rfl) d_law_242 ⟨Nat.le_of_ble_eq_true rfl, Nat.le_of_ble_eq_true rfl⟩) (fun H locs hV hW hS => ?_)
  refine lv_pop hx hb d_law_245 rfl ?_
  refine lv_goto (tgt := 555) hx hb d_law_246 (by decide) ?_
  exact kk H locs hW hV hS
set_option maxRecDepth 100000 in
set_option maxHeartbeats 4000000 in
theorem lw_case3 {p : Program} {l : Launch} {e : Env} {s : State} {m : MethodId} {below : List Frame} {meth : Method} {c : Code} {Q : State → Prop} {Y : q_X} {G G2 : q_G} {w0 : Cond} {b L : Nat} {xs : Nat → Int32} {C2 : String} {T2 : u_T} {N2 ci2 : Nat} {ds2 : List (Nat × Nat)} {H : Heap} {locs : List Loc} {ls : Array Slot} {S T T' : q_S} {r : Int32} {i : Nat} (hJ0 : lw_J Y G G2 p m c s b L xs w0 C2 T2 N2 ci2 ds2) (hi : i + 5 < L) (hl : lv_has ls 4 [(0, .ref b), (1, .ref (q_a xX G 0 0)), (2, .ref (q_a Y G2 0 0)), (3, .int (nI i))]) (hI : xI S) (hJ : xJ S) (hW : q_w xX G s S H) (hV : q_w Y G2 s T H) (hS : va_S (lw_A s) s.heap H locs) (hM : lw_M Y G2 l s b C2 32 1 [.int (xs (i + 1))] T r T') 
    (kk : ∀ (H1 : Heap) (locs1 : List Loc), q_w xX G s (x_fe_remove S (xs (i + 1))).2 H1 → q_w Y G2 s T' H1 → va_S (lw_A s) s.heap H1 locs1 → W p l e room_1 s m #[.ref b] below meth c H1 locs1 600000 7302250 Q (F0 m 555 ls [])) : W p l e room_1 s m #[.ref b] below meth c H locs 600000 7302250 Q (F0 m 249 ls []) := by
  obtain ⟨hC, hD, hX, hbl, hL, ⟨g1, g2, g3, g4, g5, g6⟩, j1, j2, j3⟩ := hJ0
  obtain ⟨y, bytes, maxL, ret, ws, rm, cw, hM⟩ := hM
  have hx := hC.1.1
  have hb := hC.1.2.1
  refine lv_aload_n hx hb d_law_249 rfl (lv_at hl 1 rfl) ?_
  refine lw_ld hx hb hX hbl hS hl 1 (by decide) (by omega) (Nat.le_trans hL (by decide)) d_law_250 d_law_251 d_law_252 d_law_253 d_law_254 ?_
  refine lw_call (r := (x_fe_remove S (xs (i + 1))).1) (S' := (x_fe_remove S (xs (i + 1))).2) hC hD.2.1 g1 g3 g6 hV hS (q_runV (j := 0) (i := 0) (As := [.int (xs (i + 1))]) (rest := []) hC hW (xC_fe_remove l G S (xs (i + 1)) hI) (xc_law_28 (q_rm 2) hC.1.2.2.2.2 ⟨Nat.le_of_ble_eq_true rfl, Nat.le_of_ble_eq_true rfl⟩ rfl rfl) Nat.one_pos rfl rfl rfl hl.1 rfl (Nat.le_of_ble_eq_true rfl) d_law_255 ⟨Nat.le_of_ble_eq_true rfl, Nat.le_of_ble_eq_true rfl⟩) (fun H locs hW hV hS => ?_)
  refine lv_pop hx hb d_law_258 rfl ?_
  refine lv_aload_n hx hb d_law_259 rfl (lv_at hl 2 rfl) ?_
  refine lw_ld hx hb hX hbl hS hl 1 (by decide) (by omega) (Nat.le_trans hL (by decide)) d_law_260 d_law_261 d_law_262 d_law_263 d_law_264 ?_
  refine lw_call (r := r) (S' := T') hD hC.2.1 g2 g4 g5 hW hS (q_runV (j := 0) (i := 0) (As := [.int (xs (i + 1))]) (rest := []) hD hV hM cw j1 j2 j3 rfl hl.1 rfl (Nat.le_of_ble_eq_true rfl) d_law_265 ⟨Nat.le_of_ble_eq_true rfl, Nat.le_of_ble_eq_true rfl⟩) (fun H locs hV hW hS => ?_)
  refine lv_pop hx hb d_law_268 rfl ?_
  refine lv_goto (tgt := 555) hx hb d_law_269 (by decide) ?_
  exact kk H locs hW hV hS
set_option maxRecDepth 100000 in
set_option maxHeartbeats 4000000 in
theorem lw_case4 {p : Program} {l : Launch} {e : Env} {s : State} {m : MethodId} {below : List Frame} {meth : Method} {c : Code} {Q : State → Prop} {Y : q_X} {G G2 : q_G} {w0 : Cond} {b L : Nat} {xs : Nat → Int32} {C2 : String} {T2 : u_T} {N2 ci2 : Nat} {ds2 : List (Nat × Nat)} {H : Heap} {locs : List Loc} {ls : Array Slot} {S T T' : q_S} {r : Int32} {i : Nat} (hJ0 : lw_J Y G G2 p m c s b L xs w0 C2 T2 N2 ci2 ds2) (hi : i + 5 < L) (hl : lv_has ls 4 [(0, .ref b), (1, .ref (q_a xX G 0 0)), (2, .ref (q_a Y G2 0 0)), (3, .int (nI i))]) (hI : xI S) (hJ : xJ S) (hW : q_w xX G s S H) (hV : q_w Y G2 s T H) (hS : va_S (lw_A s) s.heap H locs) (hM : lw_M Y G2 l s b C2 37 3 [.int (xs (i + 1)), .int (xs (i + 2)), .int (xs (i + 3))] T r T') 
    (kk : ∀ (H1 : Heap) (locs1 : List Loc), q_w xX G s (x_fe_signal S (xs (i + 1)) (xs (i + 2)) (xs (i + 3))).2 H1 → q_w Y G2 s T' H1 → va_S (lw_A s) s.heap H1 locs1 → W p l e room_1 s m #[.ref b] below meth c H1 locs1 600000 7302250 Q (F0 m 555 ls [])) : W p l e room_1 s m #[.ref b] below meth c H locs 600000 7302250 Q (F0 m 272 ls []) := by
  obtain ⟨hC, hD, hX, hbl, hL, ⟨g1, g2, g3, g4, g5, g6⟩, j1, j2, j3⟩ := hJ0
  obtain ⟨y, bytes, maxL, ret, ws, rm, cw, hM⟩ := hM
  have hx := hC.1.1
  have hb := hC.1.2.1
  refine lv_aload_n hx hb d_law_272 rfl (lv_at hl 1 rfl) ?_
  refine lw_ld hx hb hX hbl hS hl 1 (by decide) (by omega) (Nat.le_trans hL (by decide)) d_law_273 d_law_274 d_law_275 d_law_276 d_law_277 ?_
  refine lw_ld hx hb hX hbl hS hl 2 (by decide) (by omega) (Nat.le_trans hL (by decide)) d_law_278 d_law_279 d_law_280 d_law_281 d_law_282 ?_
  refine lw_ld hx hb hX hbl hS hl 3 (by decide) (by omega) (Nat.le_trans hL (by decide)) d_law_283 d_law_284 d_law_285 d_law_286 d_law_287 ?_
  refine lw_call (r := (x_fe_signal S (xs (i + 1)) (xs (i + 2)) (xs (i + 3))).1) (S' := (x_fe_signal S (xs (i + 1)) (xs (i + 2)) (xs (i + 3))).2) hC hD.2.1 g1 g3 g6 hV hS (q_runV (j := 0) (i := 0) (As := [.int (xs (i + 1)), .int (xs (i + 2)), .int (xs (i + 3))]) (rest := []) hC hW (xC_fe_signal l G S (xs (i + 1)) (xs (i + 2)) (xs (i + 3)) hI hJ) (xc_law_33 (q_rm 5) hC.1.2.2.2.2 ⟨Nat.le_of_ble_eq_true rfl, Nat.le_of_ble_eq_true rfl⟩ rfl rfl) Nat.one_pos rfl rfl rfl hl.1 rfl (Nat.le_of_ble_eq_true rfl) d_law_288 ⟨Nat.le_of_ble_eq_true rfl, Nat.le_of_ble_eq_true rfl⟩) (fun H locs hW hV hS => ?_)
  refine lv_pop hx hb d_law_291 rfl ?_
  refine lv_aload_n hx hb d_law_292 rfl (lv_at hl 2 rfl) ?_
  refine lw_ld hx hb hX hbl hS hl 1 (by decide) (by omega) (Nat.le_trans hL (by decide)) d_law_293 d_law_294 d_law_295 d_law_296 d_law_297 ?_
  refine lw_ld hx hb hX hbl hS hl 2 (by decide) (by omega) (Nat.le_trans hL (by decide)) d_law_298 d_law_299 d_law_300 d_law_301 d_law_302 ?_
  refine lw_ld hx hb hX hbl hS hl 3 (by decide) (by omega) (Nat.le_trans hL (by decide)) d_law_303 d_law_304 d_law_305 d_law_306 d_law_307 ?_
  refine lw_call (r := r) (S' := T') hD hC.2.1 g2 g4 g5 hW hS (q_runV (j := 0) (i := 0) (As := [.int (xs (i + 1)), .int (xs (i + 2)), .int (xs (i + 3))]) (rest := []) hD hV hM cw j1 j2 j3 rfl hl.1 rfl (Nat.le_of_ble_eq_true rfl) d_law_308 ⟨Nat.le_of_ble_eq_true rfl, Nat.le_of_ble_eq_true rfl⟩) (fun H locs hV hW hS => ?_)
  refine lv_pop hx hb d_law_311 rfl ?_
  refine lv_goto (tgt := 555) hx hb d_law_312 (by decide) ?_
  exact kk H locs hW hV hS
set_option maxRecDepth 100000 in
set_option maxHeartbeats 4000000 in
theorem lw_case5 {p : Program} {l : Launch} {e : Env} {s : State} {m : MethodId} {below : List Frame} {meth : Method} {c : Code} {Q : State → Prop} {Y : q_X} {G G2 : q_G} {w0 : Cond} {b L : Nat} {xs : Nat → Int32} {C2 : String} {T2 : u_T} {N2 ci2 : Nat} {ds2 : List (Nat × Nat)} {H : Heap} {locs : List Loc} {ls : Array Slot} {S T T' : q_S} {r : Int32} {i : Nat} (hJ0 : lw_J Y G G2 p m c s b L xs w0 C2 T2 N2 ci2 ds2) (hi : i + 5 < L) (hl : lv_has ls 4 [(0, .ref b), (1, .ref (q_a xX G 0 0)), (2, .ref (q_a Y G2 0 0)), (3, .int (nI i))]) (hI : xI S) (hJ : xJ S) (hW : q_w xX G s S H) (hV : q_w Y G2 s T H) (hS : va_S (lw_A s) s.heap H locs) (hM : lw_M Y G2 l s b C2 42 0 [] T r T') 
    (kk : ∀ (H1 : Heap) (locs1 : List Loc), q_w xX G s (x_fe_take S).2 H1 → q_w Y G2 s T' H1 → va_S (lw_A s) s.heap H1 locs1 → W p l e room_1 s m #[.ref b] below meth c H1 locs1 600000 7302250 Q (F0 m 555 ls [])) : W p l e room_1 s m #[.ref b] below meth c H locs 600000 7302250 Q (F0 m 315 ls []) := by
  obtain ⟨hC, hD, hX, hbl, hL, ⟨g1, g2, g3, g4, g5, g6⟩, j1, j2, j3⟩ := hJ0
  obtain ⟨y, bytes, maxL, ret, ws, rm, cw, hM⟩ := hM
  have hx := hC.1.1
  have hb := hC.1.2.1
  refine lv_aload_n hx hb d_law_315 rfl (lv_at hl 1 rfl) ?_
  refine lw_call (r := (x_fe_take S).1) (S' := (x_fe_take S).2) hC hD.2.1 g1 g3 g6 hV hS (q_runV (j := 0) (i := 0) (As := []) (rest := []) hC hW (xC_fe_take l G S  hI) (xc_law_38 (q_rm 1) hC.1.2.2.2.2 ⟨Nat.le_of_ble_eq_true rfl, Nat.le_of_ble_eq_true rfl⟩ rfl rfl) Nat.one_pos rfl rfl rfl hl.1 rfl (Nat.le_of_ble_eq_true rfl) d_law_316 ⟨Nat.le_of_ble_eq_true rfl, Nat.le_of_ble_eq_true rfl⟩) (fun H locs hW hV hS => ?_)
  refine lv_pop hx hb d_law_319 rfl ?_
  refine lv_aload_n hx hb d_law_320 rfl (lv_at hl 2 rfl) ?_
  refine lw_call (r := r) (S' := T') hD hC.2.1 g2 g4 g5 hW hS (q_runV (j := 0) (i := 0) (As := []) (rest := []) hD hV hM cw j1 j2 j3 rfl hl.1 rfl (Nat.le_of_ble_eq_true rfl) d_law_321 ⟨Nat.le_of_ble_eq_true rfl, Nat.le_of_ble_eq_true rfl⟩) (fun H locs hV hW hS => ?_)
  refine lv_pop hx hb d_law_324 rfl ?_
  refine lv_goto (tgt := 555) hx hb d_law_325 (by decide) ?_
  exact kk H locs hW hV hS
set_option maxRecDepth 100000 in
set_option maxHeartbeats 4000000 in
theorem lw_case6 {p : Program} {l : Launch} {e : Env} {s : State} {m : MethodId} {below : List Frame} {meth : Method} {c : Code} {Q : State → Prop} {Y : q_X} {G G2 : q_G} {w0 : Cond} {b L : Nat} {xs : Nat → Int32} {C2 : String} {T2 : u_T} {N2 ci2 : Nat} {ds2 : List (Nat × Nat)} {H : Heap} {locs : List Loc} {ls : Array Slot} {S T T' : q_S} {r : Int32} {i : Nat} (hJ0 : lw_J Y G G2 p m c s b L xs w0 C2 T2 N2 ci2 ds2) (hi : i + 5 < L) (hl : lv_has ls 4 [(0, .ref b), (1, .ref (q_a xX G 0 0)), (2, .ref (q_a Y G2 0 0)), (3, .int (nI i))]) (hI : xI S) (hJ : xJ S) (hW : q_w xX G s S H) (hV : q_w Y G2 s T H) (hS : va_S (lw_A s) s.heap H locs) (hM : lw_M Y G2 l s b C2 47 3 [.int (xs (i + 1)), .int (if xs (i + 2) = 0 then 0 else 1), .int (xs (i + 3))] T r T') 
    (kk : ∀ (H1 : Heap) (locs1 : List Loc), q_w xX G s (x_fe_answer S (xs (i + 1)) (if xs (i + 2) = 0 then 0 else 1) (xs (i + 3))).2 H1 → q_w Y G2 s T' H1 → va_S (lw_A s) s.heap H1 locs1 → W p l e room_1 s m #[.ref b] below meth c H1 locs1 600000 7302250 Q (F0 m 555 ls [])) : W p l e room_1 s m #[.ref b] below meth c H locs 600000 7302250 Q (F0 m 328 ls []) := by
  obtain ⟨hC, hD, hX, hbl, hL, ⟨g1, g2, g3, g4, g5, g6⟩, j1, j2, j3⟩ := hJ0
  obtain ⟨y, bytes, maxL, ret, ws, rm, cw, hM⟩ := hM
  have hx := hC.1.1
  have hb := hC.1.2.1
  refine lv_aload_n hx hb d_law_328 rfl (lv_at hl 1 rfl) ?_
  refine lw_ld hx hb hX hbl hS hl 1 (by decide) (by omega) (Nat.le_trans hL (by decide)) d_law_329 d_law_330 d_law_331 d_law_332 d_law_333 ?_
  refine lw_ld hx hb hX hbl hS hl 2 (by decide) (by omega) (Nat.le_trans hL (by decide)) d_law_334 d_law_335 d_law_336 d_law_337 d_law_338 ?_
  refine lw_ne hx hb d_law_339 d_law_342 d_law_343 d_law_346 ?_
  refine lw_ld hx hb hX hbl hS hl 3 (by decide) (by omega) (Nat.le_trans hL (by decide)) d_law_347 d_law_348 d_law_349 d_law_350 d_law_351 ?_
  refine lw_call (r := (x_fe_answer S (xs (i + 1)) (if xs (i + 2) = 0 then 0 else 1) (xs (i + 3))).1) (S' := (x_fe_answer S (xs (i + 1)) (if xs (i + 2) = 0 then 0 else 1) (xs (i + 3))).2) hC hD.2.1 g1 g3 g6 hV hS (q_runV (j := 0) (i := 0) (As := [.int (xs (i + 1)), .int (if xs (i + 2) = 0 then 0 else 1), .int (xs (i + 3))]) (rest := []) hC hW (xC_fe_answer l G S (xs (i + 1)) (if xs (i + 2) = 0 then 0 else 1) (xs (i + 3)) hI hJ) (xc_law_43 (q_rm 6) hC.1.2.2.2.2 ⟨Nat.le_of_ble_eq_true rfl, Nat.le_of_ble_eq_true rfl⟩ rfl rfl) Nat.one_pos rfl rfl rfl hl.1 rfl (Nat.le_of_ble_eq_true rfl) d_law_352 ⟨Nat.le_of_ble_eq_true rfl, Nat.le_of_ble_eq_true rfl⟩) (fun H locs hW hV hS => ?_)
  refine lv_pop hx hb d_law_355 rfl ?_
  refine lv_aload_n hx hb d_law_356 rfl (lv_at hl 2 rfl) ?_
  refine lw_ld hx hb hX hbl hS hl 1 (by decide) (by omega) (Nat.le_trans hL (by decide)) d_law_357 d_law_358 d_law_359 d_law_360 d_law_361 ?_
  refine lw_ld hx hb hX hbl hS hl 2 (by decide) (by omega) (Nat.le_trans hL (by decide)) d_law_362 d_law_363 d_law_364 d_law_365 d_law_366 ?_
  refine lw_ne hx hb d_law_367 d_law_370 d_law_371 d_law_374 ?_
  refine lw_ld hx hb hX hbl hS hl 3 (by decide) (by omega) (Nat.le_trans hL (by decide)) d_law_375 d_law_376 d_law_377 d_law_378 d_law_379 ?_
  refine lw_call (r := r) (S' := T') hD hC.2.1 g2 g4 g5 hW hS (q_runV (j := 0) (i := 0) (As := [.int (xs (i + 1)), .int (if xs (i + 2) = 0 then 0 else 1), .int (xs (i + 3))]) (rest := []) hD hV hM cw j1 j2 j3 rfl hl.1 rfl (Nat.le_of_ble_eq_true rfl) d_law_380 ⟨Nat.le_of_ble_eq_true rfl, Nat.le_of_ble_eq_true rfl⟩) (fun H locs hV hW hS => ?_)
  refine lv_pop hx hb d_law_383 rfl ?_
  refine lv_goto (tgt := 555) hx hb d_law_384 (by decide) ?_
  exact kk H locs hW hV hS
set_option maxRecDepth 100000 in
set_option maxHeartbeats 4000000 in
theorem lw_case7 {p : Program} {l : Launch} {e : Env} {s : State} {m : MethodId} {below : List Frame} {meth : Method} {c : Code} {Q : State → Prop} {Y : q_X} {G G2 : q_G} {w0 : Cond} {b L : Nat} {xs : Nat → Int32} {C2 : String} {T2 : u_T} {N2 ci2 : Nat} {ds2 : List (Nat × Nat)} {H : Heap} {locs : List Loc} {ls : Array Slot} {S T T' : q_S} {r : Int32} {i : Nat} (hJ0 : lw_J Y G G2 p m c s b L xs w0 C2 T2 N2 ci2 ds2) (hi : i + 5 < L) (hl : lv_has ls 4 [(0, .ref b), (1, .ref (q_a xX G 0 0)), (2, .ref (q_a Y G2 0 0)), (3, .int (nI i))]) (hI : xI S) (hJ : xJ S) (hW : q_w xX G s S H) (hV : q_w Y G2 s T H) (hS : va_S (lw_A s) s.heap H locs) (hM : lw_M Y G2 l s b C2 52 1 [.int (xs (i + 1))] T r T') 
    (kk : ∀ (H1 : Heap) (locs1 : List Loc), q_w xX G s (x_fe_tick S (xs (i + 1))).2 H1 → q_w Y G2 s T' H1 → va_S (lw_A s) s.heap H1 locs1 → W p l e room_1 s m #[.ref b] below meth c H1 locs1 600000 7302250 Q (F0 m 555 ls [])) : W p l e room_1 s m #[.ref b] below meth c H locs 600000 7302250 Q (F0 m 387 ls []) := by
  obtain ⟨hC, hD, hX, hbl, hL, ⟨g1, g2, g3, g4, g5, g6⟩, j1, j2, j3⟩ := hJ0
  obtain ⟨y, bytes, maxL, ret, ws, rm, cw, hM⟩ := hM
  have hx := hC.1.1
  have hb := hC.1.2.1
  refine lv_aload_n hx hb d_law_387 rfl (lv_at hl 1 rfl) ?_
  refine lw_ld hx hb hX hbl hS hl 1 (by decide) (by omega) (Nat.le_trans hL (by decide)) d_law_388 d_law_389 d_law_390 d_law_391 d_law_392 ?_
  refine lw_call (r := (x_fe_tick S (xs (i + 1))).1) (S' := (x_fe_tick S (xs (i + 1))).2) hC hD.2.1 g1 g3 g6 hV hS (q_runV (j := 0) (i := 0) (As := [.int (xs (i + 1))]) (rest := []) hC hW (xC_fe_tick l G S (xs (i + 1)) hI hJ) (xc_law_48 (q_rm 6) hC.1.2.2.2.2 ⟨Nat.le_of_ble_eq_true rfl, Nat.le_of_ble_eq_true rfl⟩ rfl rfl) Nat.one_pos rfl rfl rfl hl.1 rfl (Nat.le_of_ble_eq_true rfl) d_law_393 ⟨Nat.le_of_ble_eq_true rfl, Nat.le_of_ble_eq_true rfl⟩) (fun H locs hW hV hS => ?_)
  refine lv_pop hx hb d_law_396 rfl ?_
  refine lv_aload_n hx hb d_law_397 rfl (lv_at hl 2 rfl) ?_
  refine lw_ld hx hb hX hbl hS hl 1 (by decide) (by omega) (Nat.le_trans hL (by decide)) d_law_398 d_law_399 d_law_400 d_law_401 d_law_402 ?_
  refine lw_call (r := r) (S' := T') hD hC.2.1 g2 g4 g5 hW hS (q_runV (j := 0) (i := 0) (As := [.int (xs (i + 1))]) (rest := []) hD hV hM cw j1 j2 j3 rfl hl.1 rfl (Nat.le_of_ble_eq_true rfl) d_law_403 ⟨Nat.le_of_ble_eq_true rfl, Nat.le_of_ble_eq_true rfl⟩) (fun H locs hV hW hS => ?_)
  refine lv_pop hx hb d_law_406 rfl ?_
  refine lv_goto (tgt := 555) hx hb d_law_407 (by decide) ?_
  exact kk H locs hW hV hS
set_option maxRecDepth 100000 in
set_option maxHeartbeats 4000000 in
theorem lw_case8 {p : Program} {l : Launch} {e : Env} {s : State} {m : MethodId} {below : List Frame} {meth : Method} {c : Code} {Q : State → Prop} {Y : q_X} {G G2 : q_G} {w0 : Cond} {b L : Nat} {xs : Nat → Int32} {C2 : String} {T2 : u_T} {N2 ci2 : Nat} {ds2 : List (Nat × Nat)} {H : Heap} {locs : List Loc} {ls : Array Slot} {S T T' : q_S} {r : Int32} {i : Nat} (hJ0 : lw_J Y G G2 p m c s b L xs w0 C2 T2 N2 ci2 ds2) (hi : i + 5 < L) (hl : lv_has ls 4 [(0, .ref b), (1, .ref (q_a xX G 0 0)), (2, .ref (q_a Y G2 0 0)), (3, .int (nI i))]) (hI : xI S) (hJ : xJ S) (hW : q_w xX G s S H) (hV : q_w Y G2 s T H) (hS : va_S (lw_A s) s.heap H locs) (hM : lw_M Y G2 l s b C2 56 1 [.int (xs (i + 1))] T r T') 
    (kk : ∀ (H1 : Heap) (locs1 : List Loc), q_w xX G s (x_fe_forget S (xs (i + 1))).2 H1 → q_w Y G2 s T' H1 → va_S (lw_A s) s.heap H1 locs1 → W p l e room_1 s m #[.ref b] below meth c H1 locs1 600000 7302250 Q (F0 m 555 ls [])) : W p l e room_1 s m #[.ref b] below meth c H locs 600000 7302250 Q (F0 m 410 ls []) := by
  obtain ⟨hC, hD, hX, hbl, hL, ⟨g1, g2, g3, g4, g5, g6⟩, j1, j2, j3⟩ := hJ0
  obtain ⟨y, bytes, maxL, ret, ws, rm, cw, hM⟩ := hM
  have hx := hC.1.1
  have hb := hC.1.2.1
  refine lv_aload_n hx hb d_law_410 rfl (lv_at hl 1 rfl) ?_
  refine lw_ld hx hb hX hbl hS hl 1 (by decide) (by omega) (Nat.le_trans hL (by decide)) d_law_411 d_law_412 d_law_413 d_law_414 d_law_415 ?_
  refine lw_call (r := (x_fe_forget S (xs (i + 1))).1) (S' := (x_fe_forget S (xs (i + 1))).2) hC hD.2.1 g1 g3 g6 hV hS (q_runV (j := 0) (i := 0) (As := [.int (xs (i + 1))]) (rest := []) hC hW (xC_fe_forget l G S (xs (i + 1)) hI) (xc_law_53 (q_rm 1) hC.1.2.2.2.2 ⟨Nat.le_of_ble_eq_true rfl, Nat.le_of_ble_eq_true rfl⟩ rfl rfl) Nat.one_pos rfl rfl rfl hl.1 rfl (Nat.le_of_ble_eq_true rfl) d_law_416 ⟨Nat.le_of_ble_eq_true rfl, Nat.le_of_ble_eq_true rfl⟩) (fun H locs hW hV hS => ?_)
  refine lv_pop hx hb d_law_419 rfl ?_
  refine lv_aload_n hx hb d_law_420 rfl (lv_at hl 2 rfl) ?_
  refine lw_ld hx hb hX hbl hS hl 1 (by decide) (by omega) (Nat.le_trans hL (by decide)) d_law_421 d_law_422 d_law_423 d_law_424 d_law_425 ?_
  refine lw_call (r := r) (S' := T') hD hC.2.1 g2 g4 g5 hW hS (q_runV (j := 0) (i := 0) (As := [.int (xs (i + 1))]) (rest := []) hD hV hM cw j1 j2 j3 rfl hl.1 rfl (Nat.le_of_ble_eq_true rfl) d_law_426 ⟨Nat.le_of_ble_eq_true rfl, Nat.le_of_ble_eq_true rfl⟩) (fun H locs hV hW hS => ?_)
  refine lv_pop hx hb d_law_429 rfl ?_
  refine lv_goto (tgt := 555) hx hb d_law_430 (by decide) ?_
  exact kk H locs hW hV hS
set_option maxRecDepth 100000 in
set_option maxHeartbeats 4000000 in
theorem lw_case9 {p : Program} {l : Launch} {e : Env} {s : State} {m : MethodId} {below : List Frame} {meth : Method} {c : Code} {Q : State → Prop} {Y : q_X} {G G2 : q_G} {w0 : Cond} {b L : Nat} {xs : Nat → Int32} {C2 : String} {T2 : u_T} {N2 ci2 : Nat} {ds2 : List (Nat × Nat)} {H : Heap} {locs : List Loc} {ls : Array Slot} {S T T' : q_S} {r : Int32} {i : Nat} (hJ0 : lw_J Y G G2 p m c s b L xs w0 C2 T2 N2 ci2 ds2) (hi : i + 5 < L) (hl : lv_has ls 4 [(0, .ref b), (1, .ref (q_a xX G 0 0)), (2, .ref (q_a Y G2 0 0)), (3, .int (nI i))]) (hI : xI S) (hJ : xJ S) (hW : q_w xX G s S H) (hV : q_w Y G2 s T H) (hS : va_S (lw_A s) s.heap H locs) (hM : lw_M Y G2 l s b C2 60 2 [.int (xs (i + 1)), .int (xs (i + 2))] T r T') (hE : (x_fe_flow S (xs (i + 1)) (xs (i + 2))) = r) 
    (kk : ∀ (H1 : Heap) (locs1 : List Loc), q_w xX G s S H1 → q_w Y G2 s T' H1 → va_S (lw_A s) s.heap H1 locs1 → W p l e room_1 s m #[.ref b] below meth c H1 locs1 600000 7302250 Q (F0 m 555 ls [])) : W p l e room_1 s m #[.ref b] below meth c H locs 600000 7302250 Q (F0 m 433 ls []) := by
  obtain ⟨hC, hD, hX, hbl, hL, ⟨g1, g2, g3, g4, g5, g6⟩, j1, j2, j3⟩ := hJ0
  obtain ⟨y, bytes, maxL, ret, ws, rm, cw, hM⟩ := hM
  have hx := hC.1.1
  have hb := hC.1.2.1
  refine lv_aload_n hx hb d_law_433 rfl (lv_at hl 1 rfl) ?_
  refine lw_ld hx hb hX hbl hS hl 1 (by decide) (by omega) (Nat.le_trans hL (by decide)) d_law_434 d_law_435 d_law_436 d_law_437 d_law_438 ?_
  refine lw_ld hx hb hX hbl hS hl 2 (by decide) (by omega) (Nat.le_trans hL (by decide)) d_law_439 d_law_440 d_law_441 d_law_442 d_law_443 ?_
  refine lw_call (r := (x_fe_flow S (xs (i + 1)) (xs (i + 2)))) (S' := S) hC hD.2.1 g1 g3 g6 hV hS (q_runV (j := 0) (i := 0) (As := [.int (xs (i + 1)), .int (xs (i + 2))]) (rest := []) hC hW (xC_fe_flow l G S (xs (i + 1)) (xs (i + 2)) hI) (xc_law_57 (q_rm 2) hC.1.2.2.2.2 ⟨Nat.le_of_ble_eq_true rfl, Nat.le_of_ble_eq_true rfl⟩ rfl rfl) Nat.one_pos rfl rfl rfl hl.1 rfl (Nat.le_of_ble_eq_true rfl) d_law_444 ⟨Nat.le_of_ble_eq_true rfl, Nat.le_of_ble_eq_true rfl⟩) (fun H locs hW hV hS => ?_)
  refine lv_aload_n hx hb d_law_447 rfl (lv_at hl 2 rfl) ?_
  refine lw_ld hx hb hX hbl hS hl 1 (by decide) (by omega) (Nat.le_trans hL (by decide)) d_law_448 d_law_449 d_law_450 d_law_451 d_law_452 ?_
  refine lw_ld hx hb hX hbl hS hl 2 (by decide) (by omega) (Nat.le_trans hL (by decide)) d_law_453 d_law_454 d_law_455 d_law_456 d_law_457 ?_
  refine lw_call (r := r) (S' := T') hD hC.2.1 g2 g4 g5 hW hS (q_runV (j := 0) (i := 0) (As := [.int (xs (i + 1)), .int (xs (i + 2))]) (rest := [.int (x_fe_flow S (xs (i + 1)) (xs (i + 2)))]) hD hV hM cw j1 j2 j3 rfl hl.1 rfl (Nat.le_of_ble_eq_true rfl) d_law_458 ⟨Nat.le_of_ble_eq_true rfl, Nat.le_of_ble_eq_true rfl⟩) (fun H locs hV hW hS => ?_)
  refine lv_icmp_eq (tgt := 555) hx hb d_law_461 (by decide) (fun _ => ?_) (fun h => absurd hE h)
  exact kk H locs hW hV hS
set_option maxRecDepth 100000 in
set_option maxHeartbeats 4000000 in
theorem lw_case10 {p : Program} {l : Launch} {e : Env} {s : State} {m : MethodId} {below : List Frame} {meth : Method} {c : Code} {Q : State → Prop} {Y : q_X} {G G2 : q_G} {w0 : Cond} {b L : Nat} {xs : Nat → Int32} {C2 : String} {T2 : u_T} {N2 ci2 : Nat} {ds2 : List (Nat × Nat)} {H : Heap} {locs : List Loc} {ls : Array Slot} {S T T' : q_S} {r : Int32} {i : Nat} (hJ0 : lw_J Y G G2 p m c s b L xs w0 C2 T2 N2 ci2 ds2) (hi : i + 5 < L) (hl : lv_has ls 4 [(0, .ref b), (1, .ref (q_a xX G 0 0)), (2, .ref (q_a Y G2 0 0)), (3, .int (nI i))]) (hI : xI S) (hJ : xJ S) (hW : q_w xX G s S H) (hV : q_w Y G2 s T H) (hS : va_S (lw_A s) s.heap H locs) (hM : lw_M Y G2 l s b C2 64 3 [.int (xs (i + 1)), .int (xs (i + 2)), .int (xs (i + 3))] T r T') 
    (kk : ∀ (H1 : Heap) (locs1 : List Loc), q_w xX G s S H1 → q_w Y G2 s T' H1 → va_S (lw_A s) s.heap H1 locs1 → W p l e room_1 s m #[.ref b] below meth c H1 locs1 600000 7302250 Q (F0 m 555 ls [])) : W p l e room_1 s m #[.ref b] below meth c H locs 600000 7302250 Q (F0 m 466 ls []) := by
  obtain ⟨hC, hD, hX, hbl, hL, ⟨g1, g2, g3, g4, g5, g6⟩, j1, j2, j3⟩ := hJ0
  obtain ⟨y, bytes, maxL, ret, ws, rm, cw, hM⟩ := hM
  have hx := hC.1.1
  have hb := hC.1.2.1
  refine lv_aload_n hx hb d_law_466 rfl (lv_at hl 1 rfl) ?_
  refine lw_ld hx hb hX hbl hS hl 1 (by decide) (by omega) (Nat.le_trans hL (by decide)) d_law_467 d_law_468 d_law_469 d_law_470 d_law_471 ?_
  refine lw_ld hx hb hX hbl hS hl 2 (by decide) (by omega) (Nat.le_trans hL (by decide)) d_law_472 d_law_473 d_law_474 d_law_475 d_law_476 ?_
  refine lw_ld hx hb hX hbl hS hl 3 (by decide) (by omega) (Nat.le_trans hL (by decide)) d_law_477 d_law_478 d_law_479 d_law_480 d_law_481 ?_
  refine lw_call (r := (x_fe_entry S (xs (i + 1)) (xs (i + 2)) (xs (i + 3)))) (S' := S) hC hD.2.1 g1 g3 g6 hV hS (q_runV (j := 0) (i := 0) (As := [.int (xs (i + 1)), .int (xs (i + 2)), .int (xs (i + 3))]) (rest := []) hC hW (xC_fe_entry l G S (xs (i + 1)) (xs (i + 2)) (xs (i + 3)) hI) (xc_law_61 (q_rm 0) hC.1.2.2.2.2 ⟨Nat.le_of_ble_eq_true rfl, Nat.le_of_ble_eq_true rfl⟩ rfl rfl) Nat.one_pos rfl rfl rfl hl.1 rfl (Nat.le_of_ble_eq_true rfl) d_law_482 ⟨Nat.le_of_ble_eq_true rfl, Nat.le_of_ble_eq_true rfl⟩) (fun H locs hW hV hS => ?_)
  refine lv_pop hx hb d_law_485 rfl ?_
  refine lv_aload_n hx hb d_law_486 rfl (lv_at hl 2 rfl) ?_
  refine lw_ld hx hb hX hbl hS hl 1 (by decide) (by omega) (Nat.le_trans hL (by decide)) d_law_487 d_law_488 d_law_489 d_law_490 d_law_491 ?_
  refine lw_ld hx hb hX hbl hS hl 2 (by decide) (by omega) (Nat.le_trans hL (by decide)) d_law_492 d_law_493 d_law_494 d_law_495 d_law_496 ?_
  refine lw_ld hx hb hX hbl hS hl 3 (by decide) (by omega) (Nat.le_trans hL (by decide)) d_law_497 d_law_498 d_law_499 d_law_500 d_law_501 ?_
  refine lw_call (r := r) (S' := T') hD hC.2.1 g2 g4 g5 hW hS (q_runV (j := 0) (i := 0) (As := [.int (xs (i + 1)), .int (xs (i + 2)), .int (xs (i + 3))]) (rest := []) hD hV hM cw j1 j2 j3 rfl hl.1 rfl (Nat.le_of_ble_eq_true rfl) d_law_502 ⟨Nat.le_of_ble_eq_true rfl, Nat.le_of_ble_eq_true rfl⟩) (fun H locs hV hW hS => ?_)
  refine lv_pop hx hb d_law_505 rfl ?_
  refine lv_goto (tgt := 555) hx hb d_law_506 (by decide) ?_
  exact kk H locs hW hV hS
set_option maxRecDepth 100000 in
set_option maxHeartbeats 4000000 in
theorem lw_case11 {p : Program} {l : Launch} {e : Env} {s : State} {m : MethodId} {below : List Frame} {meth : Method} {c : Code} {Q : State → Prop} {Y : q_X} {G G2 : q_G} {w0 : Cond} {b L : Nat} {xs : Nat → Int32} {C2 : String} {T2 : u_T} {N2 ci2 : Nat} {ds2 : List (Nat × Nat)} {H : Heap} {locs : List Loc} {ls : Array Slot} {S T T' : q_S} {r : Int32} {i : Nat} (hJ0 : lw_J Y G G2 p m c s b L xs w0 C2 T2 N2 ci2 ds2) (hi : i + 5 < L) (hl : lv_has ls 4 [(0, .ref b), (1, .ref (q_a xX G 0 0)), (2, .ref (q_a Y G2 0 0)), (3, .int (nI i))]) (hI : xI S) (hJ : xJ S) (hW : q_w xX G s S H) (hV : q_w Y G2 s T H) (hS : va_S (lw_A s) s.heap H locs) (hM : lw_M Y G2 l s b C2 68 1 [.int (xs (i + 1))] T r T') 
    (kk : ∀ (H1 : Heap) (locs1 : List Loc), q_w xX G s S H1 → q_w Y G2 s T' H1 → va_S (lw_A s) s.heap H1 locs1 → W p l e room_1 s m #[.ref b] below meth c H1 locs1 600000 7302250 Q (F0 m 555 ls [])) : W p l e room_1 s m #[.ref b] below meth c H locs 600000 7302250 Q (F0 m 509 ls []) := by
  obtain ⟨hC, hD, hX, hbl, hL, ⟨g1, g2, g3, g4, g5, g6⟩, j1, j2, j3⟩ := hJ0
  obtain ⟨y, bytes, maxL, ret, ws, rm, cw, hM⟩ := hM
  have hx := hC.1.1
  have hb := hC.1.2.1
  refine lv_aload_n hx hb d_law_509 rfl (lv_at hl 1 rfl) ?_
  refine lw_ld hx hb hX hbl hS hl 1 (by decide) (by omega) (Nat.le_trans hL (by decide)) d_law_510 d_law_511 d_law_512 d_law_513 d_law_514 ?_
  refine lw_call (r := (x_fe_line S (xs (i + 1)))) (S' := S) hC hD.2.1 g1 g3 g6 hV hS (q_runV (j := 0) (i := 0) (As := [.int (xs (i + 1))]) (rest := []) hC hW (xC_fe_line l G S (xs (i + 1)) hI) (xc_law_65 (q_rm 0) hC.1.2.2.2.2 ⟨Nat.le_of_ble_eq_true rfl, Nat.le_of_ble_eq_true rfl⟩ rfl rfl) Nat.one_pos rfl rfl rfl hl.1 rfl (Nat.le_of_ble_eq_true rfl) d_law_515 ⟨Nat.le_of_ble_eq_true rfl, Nat.le_of_ble_eq_true rfl⟩) (fun H locs hW hV hS => ?_)
  refine lv_pop hx hb d_law_518 rfl ?_
  refine lv_aload_n hx hb d_law_519 rfl (lv_at hl 2 rfl) ?_
  refine lw_ld hx hb hX hbl hS hl 1 (by decide) (by omega) (Nat.le_trans hL (by decide)) d_law_520 d_law_521 d_law_522 d_law_523 d_law_524 ?_
  refine lw_call (r := r) (S' := T') hD hC.2.1 g2 g4 g5 hW hS (q_runV (j := 0) (i := 0) (As := [.int (xs (i + 1))]) (rest := []) hD hV hM cw j1 j2 j3 rfl hl.1 rfl (Nat.le_of_ble_eq_true rfl) d_law_525 ⟨Nat.le_of_ble_eq_true rfl, Nat.le_of_ble_eq_true rfl⟩) (fun H locs hV hW hS => ?_)
  refine lv_pop hx hb d_law_528 rfl ?_
  refine lv_goto (tgt := 555) hx hb d_law_529 (by decide) ?_
  exact kk H locs hW hV hS
set_option maxRecDepth 100000 in
set_option maxHeartbeats 4000000 in
theorem lw_case12 {p : Program} {l : Launch} {e : Env} {s : State} {m : MethodId} {below : List Frame} {meth : Method} {c : Code} {Q : State → Prop} {Y : q_X} {G G2 : q_G} {w0 : Cond} {b L : Nat} {xs : Nat → Int32} {C2 : String} {T2 : u_T} {N2 ci2 : Nat} {ds2 : List (Nat × Nat)} {H : Heap} {locs : List Loc} {ls : Array Slot} {S T T' : q_S} {r : Int32} {i : Nat} (hJ0 : lw_J Y G G2 p m c s b L xs w0 C2 T2 N2 ci2 ds2) (hi : i + 5 < L) (hl : lv_has ls 4 [(0, .ref b), (1, .ref (q_a xX G 0 0)), (2, .ref (q_a Y G2 0 0)), (3, .int (nI i))]) (hI : xI S) (hJ : xJ S) (hW : q_w xX G s S H) (hV : q_w Y G2 s T H) (hS : va_S (lw_A s) s.heap H locs) (hM : lw_M Y G2 l s b C2 72 1 [.int (xs (i + 1))] T r T') 
    (kk : ∀ (H1 : Heap) (locs1 : List Loc), q_w xX G s S H1 → q_w Y G2 s T' H1 → va_S (lw_A s) s.heap H1 locs1 → W p l e room_1 s m #[.ref b] below meth c H1 locs1 600000 7302250 Q (F0 m 555 ls [])) : W p l e room_1 s m #[.ref b] below meth c H locs 600000 7302250 Q (F0 m 532 ls []) := by
  obtain ⟨hC, hD, hX, hbl, hL, ⟨g1, g2, g3, g4, g5, g6⟩, j1, j2, j3⟩ := hJ0
  obtain ⟨y, bytes, maxL, ret, ws, rm, cw, hM⟩ := hM
  have hx := hC.1.1
  have hb := hC.1.2.1
  refine lv_aload_n hx hb d_law_532 rfl (lv_at hl 1 rfl) ?_
  refine lw_ld hx hb hX hbl hS hl 1 (by decide) (by omega) (Nat.le_trans hL (by decide)) d_law_533 d_law_534 d_law_535 d_law_536 d_law_537 ?_
  refine lw_call (r := (x_fe_count S (xs (i + 1)))) (S' := S) hC hD.2.1 g1 g3 g6 hV hS (q_runV (j := 0) (i := 0) (As := [.int (xs (i + 1))]) (rest := []) hC hW (xC_fe_count l G S (xs (i + 1)) hI) (xc_law_69 (q_rm 2) hC.1.2.2.2.2 ⟨Nat.le_of_ble_eq_true rfl, Nat.le_of_ble_eq_true rfl⟩ rfl rfl) Nat.one_pos rfl rfl rfl hl.1 rfl (Nat.le_of_ble_eq_true rfl) d_law_538 ⟨Nat.le_of_ble_eq_true rfl, Nat.le_of_ble_eq_true rfl⟩) (fun H locs hW hV hS => ?_)
  refine lv_pop hx hb d_law_541 rfl ?_
  refine lv_aload_n hx hb d_law_542 rfl (lv_at hl 2 rfl) ?_
  refine lw_ld hx hb hX hbl hS hl 1 (by decide) (by omega) (Nat.le_trans hL (by decide)) d_law_543 d_law_544 d_law_545 d_law_546 d_law_547 ?_
  refine lw_call (r := r) (S' := T') hD hC.2.1 g2 g4 g5 hW hS (q_runV (j := 0) (i := 0) (As := [.int (xs (i + 1))]) (rest := []) hD hV hM cw j1 j2 j3 rfl hl.1 rfl (Nat.le_of_ble_eq_true rfl) d_law_548 ⟨Nat.le_of_ble_eq_true rfl, Nat.le_of_ble_eq_true rfl⟩) (fun H locs hV hW hS => ?_)
  refine lv_pop hx hb d_law_551 rfl ?_
  refine lv_goto (tgt := 555) hx hb d_law_552 (by decide) ?_
  exact kk H locs hW hV hS
