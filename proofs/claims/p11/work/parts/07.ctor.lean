/-! CONSTRUCTORS: the cells made so far, in their order behind a base -/
def q_L (D : va_G) (cl : List vw_C) (b : Nat) (cs : List va_E) (H : Heap) : Prop := H.size = b + cs.length ∧ ∀ (k : Nat) (e : va_E), cs[k]? = some e → va_at D cl (b + k, e) H
theorem q_L.push {D : va_G} {cl : List vw_C} {b : Nat} {cs : List va_E} {e : va_E} {H H1 : Heap} (h : q_L D cl b cs H) (z : H1.size = H.size + 1) (o : ∀ q : Nat, q < H.size → H1[q]? = H[q]?) (he : va_at D cl (H.size, e) H1) : q_L D cl b (cs ++ [e]) H1 := by
  have hs := h.1
  refine ⟨by rw [z, hs, List.length_append]; rfl, fun k x hk => ?_⟩
  by_cases hl : k < cs.length
  · rw [List.getElem?_append_left hl] at hk
    exact (h.2 k x hk).kept (o _ (by show b + k < H.size; omega))
  · rw [List.getElem?_append_right (by omega)] at hk
    have hz : k - cs.length < 1 := (List.getElem?_eq_some_iff.mp hk).1
    have hk0 : k = cs.length := by omega
    subst hk0
    rw [Nat.sub_self] at hk
    cases hk
    rw [hs] at he
    exact he
theorem q_L.set {D : va_G} {cl : List vw_C} {b k0 : Nat} {cs : List va_E} {e0 e : va_E} {H H1 : Heap} (h : q_L D cl b cs H) (hk : cs[k0]? = some e0) (z : H1.size = H.size) (oq : ∀ q : Nat, q ≠ b + k0 → H1[q]? = H[q]?) (he : va_at D cl (b + k0, e) H1) : q_L D cl b (cs.set k0 e) H1 := by
  have hl := (List.getElem?_eq_some_iff.mp hk).1
  refine ⟨by rw [z, h.1, List.length_set], fun k x hx => ?_⟩
  by_cases q : k = k0
  · subst q
    rw [List.getElem?_set_self hl] at hx
    cases hx
    exact he
  · rw [List.getElem?_set_ne (Ne.symm q)] at hx
    exact (h.2 k x hx).kept (oq _ (by show b + k ≠ b + k0; omega))
theorem q_L.call {D : va_G} {cl : List vw_C} {b : Nat} {cs cs' : List va_E} {c0 : va_E} {H H1 : Heap} (h : q_L D cl b (cs ++ [c0]) H) (h1 : q_L D cl (b + cs.length) cs' H1) (o : ∀ q : Nat, q < b + cs.length → H1[q]? = H[q]?) : q_L D cl b (cs ++ cs') H1 := by
  refine ⟨by rw [h1.1, List.length_append]; omega, fun k x hx => ?_⟩
  by_cases hl : k < cs.length
  · rw [List.getElem?_append_left hl] at hx
    exact (h.2 k x (by rw [List.getElem?_append_left hl]; exact hx)).kept (o _ (by show b + k < b + cs.length; omega))
  · rw [List.getElem?_append_right (by omega)] at hx
    have := h1.2 _ x hx
    rw [show b + cs.length + (k - cs.length) = b + k by omega] at this
    exact this
theorem q_L.last {D : va_G} {cl : List vw_C} {b : Nat} {cs : List va_E} {c0 : va_E} {H : Heap} (h : q_L D cl b (cs ++ [c0]) H) : q_L D cl (b + cs.length) [c0] H := by
  refine ⟨by rw [h.1, List.length_append]; rfl, fun k x hx => ?_⟩
  match k, hx with
  | 0, hx =>
    cases hx
    exact h.2 cs.length c0 (by rw [List.getElem?_append_right (Nat.le_refl _), Nat.sub_self]; rfl)
  | k + 1, hx => simp at hx
def q_Qc (D : va_G) (cl : List vw_C) (b : Nat) (cs : List va_E) : Array Value → State → Outcome → State → Prop := fun _ st oc t => oc = .returned none ∧ q_L D cl b cs t.heap ∧ ∀ q : Nat, q < b → t.heap[q]? = st.heap[q]?
def q_Pn (D : va_G) (cl : List vw_C) (tys : List (ClassId × FieldType)) (Xt : State → Prop) (b : Nat) (c0 : va_E) : State → Prop := fun U => va_K D cl tys U ∧ Xt U ∧ q_L D cl b [c0] U.heap
abbrev q_Mc (D : va_G) (cl : List vw_C) (tys : List (ClassId × FieldType)) (Xt : State → Prop) (l : Launch) (y : MethodName) (ws : List Cond) (rm : Room) (b : Nat) (As : List Value) (c0 : va_E) (cs : List va_E) (mc ms : Nat) : Prop :=
  Met l y ws rm (va_Pc (.ref b :: As) (q_Pn D cl tys Xt b c0)) (q_Qc D cl b cs) mc ms (fun q => b ≤ q)
def q_T : State → Prop := fun _ => True
section QC
variable {p : Program} {l : Launch} {e : Env} {R : Room} {s : State} {m : MethodId} {args : Array Value} {below : List Frame} {meth : Method} {c : Code} {H : Heap} {locs : List Loc} {cells slots : Nat} {Q : State → Prop}
variable {cc : ByteArray} {pc : Nat} {ls : Array Slot} {rest : List Value} {D : va_G} {cl : List vw_C} {tys : List (ClassId × FieldType)} {b : Nat} {cs : List va_E} {Ts : List Cond} {own : String} {nL : Nat}
theorem q_cS {H1 : Heap} (hS : va_S (fun q => b ≤ q) s.heap H locs) (z : H.size ≤ H1.size) (o : ∀ q : Nat, q < H.size → H1[q]? = H[q]?) : va_S (fun q => b ≤ q) s.heap H1 locs :=
  ⟨Nat.le_trans hS.1 z, fun q h1 h2 => (o q (Nat.lt_of_lt_of_le h1 hS.1)).trans (hS.2.1 q h1 h2), hS.2.2⟩
theorem q_cna (hF : CallFix p m c cc nL s args Ts own) (hK : va_K D cl tys s) (harr : Cond.arrayClass .int ∈ Ts) {cI : ClassId} (t0 : Nat) (ht : tys[t0]? = some (cI, .int)) (hN : q_L D cl b cs H) (hS : va_S (fun q => b ≤ q) s.heap H locs) {n : Int32} {N a : Nat} (hn : ¬ n < 0) (hNn : n.toNatClampNeg = N) (hbytes : N * 4 ≤ 536870912) (hcells : cells + 1 ≤ R.cells) (hslots : slots + N ≤ R.slots) (ha : b + cs.length = a) (hdg : decode cc pc = .ok (.newarray .int, 2))
    (kk : ∀ H1 : Heap, q_L D cl b (cs ++ [.inl (cI, N, .inl (fun _ => 0))]) H1 → va_S (fun q => b ≤ q) s.heap H1 locs → W p l e R s m args below meth c H1 locs (cells + 1) (slots + N) Q (F0 m (pc + 2) ls (.ref a :: rest))) : W p l e R s m args below meth c H locs cells slots Q (F0 m pc ls (.int n :: rest)) := by
  obtain ⟨hx, hb, hml, hown, hts⟩ := hF
  subst ha
  refine va_newaK (atype := .int) hx hb (hts _ harr) rfl hdg rfl hn hNn hbytes hcells hslots hN.1 fun H1 cA e1 z1 o1 hAr hNm => ?_
  have hc : cA = cI := Option.some.inj (hNm.symm.trans (hK.2 t0 _ ht).2)
  subst hc
  rw [← hN.1] at e1 z1 o1
  exact kk H1 (hN.push z1 o1 e1) (q_cS hS (by omega) o1)
theorem q_cnz (hF : CallFix p m c cc nL s args Ts own) (hK : va_K D cl tys s) (harr : Cond.arrayClass .boolean ∈ Ts) {cI : ClassId} (t0 : Nat) (ht : tys[t0]? = some (cI, .boolean)) (hN : q_L D cl b cs H) (hS : va_S (fun q => b ≤ q) s.heap H locs) {n : Int32} {N a : Nat} (hn : ¬ n < 0) (hNn : n.toNatClampNeg = N) (hbytes : N * 1 ≤ 536870912) (hcells : cells + 1 ≤ R.cells) (hslots : slots + N ≤ R.slots) (ha : b + cs.length = a) (hdg : decode cc pc = .ok (.newarray .boolean, 2))
    (kk : ∀ H1 : Heap, q_L D cl b (cs ++ [.inl (cI, N, .inl (fun _ => 0))]) H1 → va_S (fun q => b ≤ q) s.heap H1 locs → W p l e R s m args below meth c H1 locs (cells + 1) (slots + N) Q (F0 m (pc + 2) ls (.ref a :: rest))) : W p l e R s m args below meth c H locs cells slots Q (F0 m pc ls (.int n :: rest)) := by
  obtain ⟨hx, hb, hml, hown, hts⟩ := hF
  subst ha
  refine va_newaK (atype := .boolean) hx hb (hts _ harr) rfl hdg rfl hn hNn hbytes hcells hslots hN.1 fun H1 cA e1 z1 o1 hAr hNm => ?_
  have hc : cA = cI := Option.some.inj (hNm.symm.trans (hK.2 t0 _ ht).2)
  subst hc
  rw [← hN.1] at e1 z1 o1
  exact kk H1 (hN.push z1 o1 e1) (q_cS hS (by omega) o1)
theorem q_cnl (hF : CallFix p m c cc nL s args Ts own) (hK : va_K D cl tys s) (harr : Cond.arrayClass .long ∈ Ts) {cI : ClassId} (t0 : Nat) (ht : tys[t0]? = some (cI, .long)) (hN : q_L D cl b cs H) (hS : va_S (fun q => b ≤ q) s.heap H locs) {n : Int32} {N a : Nat} (hn : ¬ n < 0) (hNn : n.toNatClampNeg = N) (hbytes : N * 8 ≤ 536870912) (hcells : cells + 1 ≤ R.cells) (hslots : slots + N ≤ R.slots) (ha : b + cs.length = a) (hdg : decode cc pc = .ok (.newarray .long, 2))
    (kk : ∀ H1 : Heap, q_L D cl b (cs ++ [.inl (cI, N, .inr (.inl (fun _ => 0)))]) H1 → va_S (fun q => b ≤ q) s.heap H1 locs → W p l e R s m args below meth c H1 locs (cells + 1) (slots + N) Q (F0 m (pc + 2) ls (.ref a :: rest))) : W p l e R s m args below meth c H locs cells slots Q (F0 m pc ls (.int n :: rest)) := by
  obtain ⟨hx, hb, hml, hown, hts⟩ := hF
  subst ha
  refine va_newaK (atype := .long) hx hb (hts _ harr) rfl hdg rfl hn hNn hbytes hcells hslots hN.1 fun H1 cA e1 z1 o1 hAr hNm => ?_
  have hc : cA = cI := Option.some.inj (hNm.symm.trans (hK.2 t0 _ ht).2)
  subst hc
  rw [← hN.1] at e1 z1 o1
  exact kk H1 (hN.push z1 o1 e1) (q_cS hS (by omega) o1)
theorem q_cno (hF : CallFix p m c cc nL s args Ts own) (hK : va_K D cl tys s) {C : String} {T : u_T} {N ci index : Nat} (hin : ∀ w ∈ u_ws C T N, w ∈ Ts) (ty : Nat → FieldType) (hty : ∀ k, k < N → parseFieldDescriptor (T k).2.2.1 = some (ty k)) (hcl : Cond.classLink own index C ∈ Ts) (hinst : Cond.instantiable C N ∈ Ts) (hini : Cond.initialized C ∈ Ts) (hc : cl[ci]? = some (C, T, N)) {fs : List Value} (hfs : ∀ j, j < N → defaultValue (ty j) = vp_V fs j) (hN : q_L D cl b cs H) (hS : va_S (fun q => b ≤ q) s.heap H locs) {a : Nat} (hcells : cells + 1 ≤ R.cells) (hslots : slots + N ≤ R.slots) (ha : b + cs.length = a) (hdg : decode cc pc = .ok (.new index, 3))
    (kk : ∀ H1 : Heap, q_L D cl b (cs ++ [.inr (ci, fs)]) H1 → va_S (fun q => b ≤ q) s.heap H1 locs → W p l e R s m args below meth c H1 locs (cells + 1) (slots + N) Q (F0 m (pc + 3) ls (.ref a :: rest))) : W p l e R s m args below meth c H locs cells slots Q (F0 m pc ls rest) := by
  obtain ⟨hx, hb, hml, hown, hts⟩ := hF
  subst ha
  have hKn := hK.1 ci _ hc
  refine W.newcK hx hb hown (hts _ hcl) (hts _ hinst) (hts _ hini) rfl hdg hcells hslots hKn.2.1 hN.1 fun H1 kC hkC e1 z1 o1 => ?_
  rw [← hN.1] at e1 z1 o1
  refine kk H1 (hN.push z1 o1 ?_) (q_cS hS (by omega) o1)
  exact ⟨_, hc, (u_born ty hts hin hKn hkC e1 hty).to hfs⟩
theorem q_cpf (hF : CallFix p m c cc nL s args Ts own) (hK : va_K D cl tys s) {C : String} {T : u_T} {N ci index : Nat} (hin : ∀ w ∈ u_ws C T N, w ∈ Ts) (ty0 : Nat → FieldType) (hty : ∀ k, k < N → parseFieldDescriptor (T k).2.2.1 = some (ty0 k)) (hnm : ∀ a, a < N → ∀ b, b < N → a ≠ b → (T a).2.1 ≠ (T b).2.1) (hN : q_L D cl b cs H) (hS : va_S (fun q => b ≤ q) s.heap H locs) (k0 : Nat) {fs : List Value} (he : cs[k0]? = some (.inr (ci, fs))) (hc : cl[ci]? = some (C, T, N)) (k : Nat) (hk : k < N) (hlink : Cond.fieldLink own index (T k).1 (T k).2.1 (T k).2.2.1 ∈ Ts) (hfin : (T k).2.2.2 = true) (hin2 : meth.name = "<init>") (hdecl : (T k).1 = own) {ty : FieldType} {v : Value} (hd : parseFieldDescriptor (T k).2.2.1 = some ty) (hn : narrow ty v = v) (hfit : fits ty v = true) (hl : k < fs.length) {a : Nat} (ha : b + k0 = a) (hdg : decode cc pc = .ok (.putfield index, 3))
    (kk : ∀ (H1 : Heap) (locs1 : List Loc), q_L D cl b (cs.set k0 (.inr (ci, fs.set k v))) H1 → va_S (fun q => b ≤ q) s.heap H1 locs1 → W p l e R s m args below meth c H1 locs1 cells slots Q (F0 m (pc + 3) ls rest)) : W p l e R s m args below meth c H locs cells slots Q (F0 m pc ls (v :: .ref a :: rest)) := by
  obtain ⟨hx, hb, hml, hown, hts⟩ := hF
  subst ha
  have hap := va_apart (own := own) hts hin ty0 hty hnm hK hc
  obtain ⟨r, h1, cell, q1, q2, q3, q4⟩ := hN.2 k0 _ he
  have hr : r = (C, T, N) := Option.some.inj (h1.symm.trans hc)
  subst hr
  obtain ⟨hS2, hfc, kC, hkC, hkind⟩ := hK.1 ci _ hc
  obtain ⟨cf, kf, fi, f, hi, hsl⟩ := hS2 k hk
  have hlay := hts _ (hin _ (u_in_lay hk))
  unfold u_lay at hlay
  rw [if_pos hfin] at hlay
  have hst := (u_facts hfc hkC (u_lays hts hin hk) hi).1
  have hcf : m.cls = cf := by
    obtain ⟨_, _, c', _, _, _, -, -, hf', -, -, -, hown2, -⟩ := Cond.laysFinal_spec hlay
    have e1 : c' = cf := by have := hi.symm.trans hf'; simp at this; exact this.1.symm
    rw [hdecl] at hown2
    rw [← e1]; exact Option.some.inj (hown.symm.trans hown2)
  have h6 := u_fits hfc hkC hkind (Or.inr hlay) hi hd hn hfit
  refine W.putFinK hx hb hown (hts _ hlink) hi hst hcf hin2 (by rw [q2]; exact h6) q1 q3 (by rw [hsl]; exact k2_hasslot (q4 k hk)) rfl rfl hdg fun H' e1 e2 e3 => ?_
  rw [hsl] at e1 ⊢
  exact kk H' _ (hN.set he e2 e3 ⟨_, hc, t_OB.to (V := updV (vp_V fs) k v) ⟨_, e1, q2, q3, t_set q4 hap hk v⟩ (fun j _ => vp_updV_set hl v j)⟩) (hS.put e2 e3 (Nat.le_add_right _ _))
theorem q_cnr (hF : CallFix p m c cc nL s args Ts own) (hK : va_K D cl tys s) {C : String} {index : Nat} (hcl : Cond.classLink own index C ∈ Ts) (hover : va_AO C s) {cA : ClassId} (t0 : Nat) (ht : tys[t0]? = some (cA, .object C)) (hN : q_L D cl b cs H) (hS : va_S (fun q => b ≤ q) s.heap H locs) {n : Int32} {N a : Nat} (hn : ¬ n < 0) (hNn : n.toNatClampNeg = N) (hbytes : N * 4 ≤ 536870912) (hcells : cells + 1 ≤ R.cells) (hslots : slots + N ≤ R.slots) (ha : b + cs.length = a) (hdg : decode cc pc = .ok (.anewarray index, 3))
    (kk : ∀ H1 : Heap, q_L D cl b (cs ++ [.inl (cA, N, .inr (.inr (.inr (.inr (fun _ => none)))))]) H1 → va_S (fun q => b ≤ q) s.heap H1 locs → W p l e R s m args below meth c H1 locs (cells + 1) (slots + N) Q (F0 m (pc + 3) ls (.ref a :: rest))) : W p l e R s m args below meth c H locs cells slots Q (F0 m pc ls (.int n :: rest)) := by
  obtain ⟨hx, hb, hml, hown, hts⟩ := hF
  subst ha
  subst hNn
  refine W.anew hx hb hown (hts _ hcl) (va_AO.use hover) rfl hdg rfl hn hbytes hcells hslots fun cA' kA comp f1 f2 f3 f4 => ?_
  have hc : cA' = cA := by
    obtain ⟨_, _, _, _, _, g⟩ := (hK.2 t0 _ ht).2
    exact Option.some.inj (f1.symm.trans g)
  subst hc
  generalize hH1 : H.push ({ cls := cA', slots := Array.replicate n.toNatClampNeg .null, vm := .none } : Cell) = H1
  have z1 : H1.size = H.size + 1 := by rw [← hH1, Array.size_push]
  have e1 : H1[H.size]? = some (arrV cA' n.toNatClampNeg (fun _ => .null)) := by rw [← hH1, Array.getElem?_push_size, ← arrV_new]
  have o1 : ∀ q : Nat, q < H.size → H1[q]? = H[q]? := fun q hq => by rw [← hH1, Array.getElem?_push, if_neg (Nat.ne_of_lt hq)]
  have k2 := kk H1 (hN.push z1 o1 e1) (q_cS hS (by omega) o1)
  rw [← hN.1] at k2
  exact k2
theorem q_cgr (hF : CallFix p m c cc nL s args Ts own) (hK : va_K D cl tys s) {C : String} {T : u_T} {N ci index : Nat} (hin : ∀ w ∈ u_ws C T N, w ∈ Ts) (hN : q_L D cl b cs H) (k0 : Nat) {fs : List Value} (he : cs[k0]? = some (.inr (ci, fs))) (hc : cl[ci]? = some (C, T, N)) (k : Nat) (hk : k < N) (hlink : Cond.fieldLink own index (T k).1 (T k).2.1 (T k).2.2.1 ∈ Ts) {v : Value} (hv : fs[k]? = some v) {a : Nat} (ha : b + k0 = a) (hdg : decode cc pc = .ok (.getfield index, 3))
    (kk : W p l e R s m args below meth c H locs cells slots Q (F0 m (pc + 3) ls (v :: rest))) : W p l e R s m args below meth c H locs cells slots Q (F0 m pc ls (.ref a :: rest)) := by
  obtain ⟨hx, hb, hml, hown, hts⟩ := hF
  subst ha
  have hP : va_P D cl [(b + k0, .inr (ci, fs))] H := by
    intro k q hk
    match k, hk with
    | 0, hk => cases hk; exact hN.2 k0 _ he
    | k + 1, hk => simp at hk
  exact va_get (D := D) (v := v) hx hb hts hin hown hK hP 0 rfl hc k hk (hts _ hlink) (fun _ h => h) hv hdg kk
theorem q_cas (hF : CallFix p m c cc nL s args Ts own) (hK : va_K D cl tys s) {r : vw_C} {ci n : Nat} {cA : ClassId} (hN : q_L D cl b cs H) (hS : va_S (fun q => b ≤ q) s.heap H locs) (k0 k1 t0 : Nat) {f : Nat → Option Nat} {vs : List Value} (h0 : cs[k0]? = some (.inl (cA, n, .inr (.inr (.inr (.inr f)))))) (ht : tys[t0]? = some (cA, .object r.1)) (h1 : cs[k1]? = some (.inr (ci, vs))) (hc : cl[ci]? = some r) {i : Int32} (hin : vp_in i n) {a v : Nat} (ha : b + k0 = a) (hv : b + k1 = v) (hdg : decode cc pc = .ok (.aastore, 1))
    (kk : ∀ (H1 : Heap) (locs1 : List Loc), q_L D cl b (cs.set k0 (.inl (cA, n, .inr (.inr (.inr (.inr (va_up f i.toNatClampNeg (some v)))))))) H1 → va_S (fun q => b ≤ q) s.heap H1 locs1 → W p l e R s m args below meth c H1 locs1 cells slots Q (F0 m (pc + 1) ls rest)) : W p l e R s m args below meth c H locs cells slots Q (F0 m pc ls (.ref v :: .int i :: .ref a :: rest)) := by
  obtain ⟨hx, hb, hml, hown, hts⟩ := hF
  subst ha
  subst hv
  have hlt : i.toNatClampNeg < n := Nat.not_le.mp fun q => hin (Or.inr q)
  have h00 : ¬ i < 0 := fun q => hin (Or.inl q)
  obtain ⟨r', hr', cellV, g1, g2, g3, -⟩ := hN.2 k1 _ h1
  have hcls := (hK.1 ci r hc).2
  obtain ⟨kA, comp, k1', k2, k3, -⟩ := (hK.2 t0 _ ht).2
  have hcomp : comp = D.1 ci := Option.some.inj (k3.symm.trans hcls.1)
  subst hcomp
  obtain ⟨kC, hkC, -⟩ := hcls.2
  have hat : H[b + k0]? = some (vp_cell cA (n, .inr (.inr (.inr (.inr f))))) := hN.2 k0 _ h0
  refine W.aast hx hb hat (fun q h => by cases h) (fun h => by cases h) k1' k2 rfl hkC ⟨h00, by show _ < (arrV _ _ _).slots.size; rw [arrV_size]; exact hlt⟩ g1 (fun q h => by rw [g3] at h; cases h) (by rw [g2]; exact hkC) (by rw [g2]; exact va_assign hcls) rfl rfl hdg fun H1 e1 z oq => ?_
  refine kk H1 _ (hN.set h0 z oq ?_) (hS.put z oq (Nat.le_add_right _ _))
  show H1[b + k0]? = some (vp_cell _ _)
  rw [e1]
  rw [vp_cell_q, vp_cell_q, arrV_store]
  congr 2
  funext q
  by_cases hq : q = i.toNatClampNeg
  · subst hq
    simp [updV, va_up, va_rf]
  · simp [updV, va_up, hq]
theorem q_cback {st0 : List Value} {cs' : List va_E} {c0 : va_E} {mc ms b1 : Nat} {a : Array Value} (hs : s.heap.size ≤ b + cs.length) (hb1 : b + cs.length = b1) (hN : q_L D cl b (cs ++ [c0]) H) (hS : va_S (fun q => b ≤ q) s.heap H locs) (hr : va_Run p l e R s m args below meth c H locs cells slots mc ms (F0 m pc ls st0) rest (q_Qc D cl b1 cs' a) (fun q => b1 ≤ q))
    (kk : ∀ (H1 : Heap) (locs1 : List Loc), q_L D cl b (cs ++ cs') H1 → va_S (fun q => b ≤ q) s.heap H1 locs1 → W p l e R s m args below meth c H1 locs1 (cells + mc) (slots + ms) Q (F0 m (pc + 3) ls rest)) : W p l e R s m args below meth c H locs cells slots Q (F0 m pc ls st0) := by
  subst hb1
  intro T hT X
  obtain ⟨v, st₀, t, T', L, h0, X', hL, e1, e2, ⟨hv, hq, hk⟩, st⟩ := hr T hT X
  cases hv
  rw [h0] at hk
  rw [← e1] at hq hk
  obtain ⟨t2, a1, b2⟩ := kk T'.heap (locs ++ L) (hN.call hq hk) ⟨by rw [hq.1]; exact Nat.le_trans hs (Nat.le_add_right _ _), fun q h1 h2 => by
      have h2 : ¬ b ≤ q := h2
      rw [hk q (by omega)]
      exact hS.2.1 q h1 h2, fun q h => by
      rcases List.mem_append.mp h with h | h
      · exact hS.2.2 q h
      · exact Nat.le_trans (Nat.le_add_right _ _) (hL q h)⟩ T' rfl X'
  exact ⟨t2, st t2 a1, b2⟩
theorem q_cret {b0 : Nat} {cs' : List va_E} (hF : CallFix p m c cc nL s args Ts own) (hr : meth.sig.returnType = none) (hlocks : meth.locks = false) (hN : q_L D cl b cs' H) (hS : va_S (fun q => b ≤ q) s.heap H locs) (hs : s.heap.size = b + b0) (hdg : decode cc pc = .ok (.return_, 1)) :
    W p l e R s m args below meth c H locs cells slots (MQ below (q_Qc D cl b cs') args s cells slots (fun q => b ≤ q)) (F0 m pc ls []) :=
  W.vret hF.1 hF.2.1 hr (fun t ht _ => ⟨rfl, by rw [ht]; exact hN, fun q hq => by rw [ht]; exact hS.2.1 q (by omega) (by omega)⟩) hS.2.2 hdg hlocks
end QC
theorem q_cmet {D : va_G} {cl : List vw_C} {tys : List (ClassId × FieldType)} {Xt : State → Prop} {l : Launch} {y : MethodName} {ws ws' : List Cond} {rm : Room} {b mc ms : Nat} {As : List Value} {c0 : va_E} {cs : List va_E} {cc : ByteArray} {maxL : Nat} (hy : plainName y.cls = true) (hw : ws = Cond.code y cc maxL none :: ws') (hnm : y.name = "<init>") (hav : (lg_sl (.ref b :: As)).length ≤ maxL)
    (body : ∀ (p : Program) (e : Env) (s : State) (m : MethodId) (below : List Frame) (meth : Method) (c : Code) (ls : Array Slot), CallFix p m c cc maxL s (Value.ref b :: As).toArray ws y.cls → meth.sig.returnType = none → meth.locks = false → meth.name = "<init>" → va_K D cl tys s → Xt s → q_L D cl b [c0] s.heap → va_S (fun q => b ≤ q) s.heap s.heap [] → lv_has ls maxL (lv_args 0 (.ref b :: As)) →
      W p l e (headSpec ws rm).room s m (Value.ref b :: As).toArray below meth c s.heap [] 0 0 (MQ below (q_Qc D cl b cs) (Value.ref b :: As).toArray s mc ms (fun q => b ≤ q)) (F0 m 0 ls [])) : q_Mc D cl tys Xt l y ws rm b As c0 cs mc ms := by
  refine Met.ofW (cc := cc) (maxL := maxL) (ret := none) hy hw ?_
  intro p e s m args below meth c s₁ B hml hv
  obtain ⟨rfl, hK, hX, hN⟩ := hv
  have hts := atoms_spec (ws := ws) B.pre
  have hown : s.vm.findClass y.cls = some m.cls := findClass_of_methodNamed B.named
  have hin : meth.name = "<init>" := by rw [← hnm]; exact (name_of_methodNamed B.named B.method).1
  rw [lg_entry_eq]
  exact body p e s m below meth c _ ⟨B.exec, B.bytes, hml, hown, hts⟩ B.returns B.notSynchronized hin hK hX hN va_S.rf (lv_entry _ hav)
def q_rmc (d mc ms : Nat) : Room := { frames := d, cells := mc, slots := ms, locals := 40 * d }
theorem q_Pn.blind {D : va_G} {cl : List vw_C} {tys : List (ClassId × FieldType)} {Xt : State → Prop} {b : Nat} {c0 : va_E} {av : List Value} (hXs : ∀ u U : State, u.vm = U.vm → Xt u → Xt U) : FrameBlind (va_Pc av (q_Pn D cl tys Xt b c0)) := by
  intro a U g mk q
  obtain ⟨q0, qK, qX, qL⟩ := q
  exact ⟨q0, va_K.moved (u := U) (U := U.calling g mk a) (Vm.Alike.refl U.vm) qK, hXs U (U.calling g mk a) rfl qX, qL⟩
section QC2
variable {p : Program} {l : Launch} {e : Env} {R : Room} {s : State} {m : MethodId} {args : Array Value} {below : List Frame} {meth : Method} {c : Code} {H : Heap} {locs : List Loc} {cells slots : Nat}
variable {cc : ByteArray} {pc : Nat} {ls : Array Slot} {rest st0 : List Value} {D : va_G} {cl : List vw_C} {tys : List (ClassId × FieldType)} {b b1 : Nat} {cs cs' : List va_E} {c0 : va_E} {Ts ws : List Cond} {own host : String} {nL index maxL n mc ms : Nat} {y : MethodName} {bytes : ByteArray} {rm : Room} {As : List Value} {Xt : State → Prop}
theorem q_crunIN (hF : CallFix p m c cc nL s args Ts own) (hK : va_K D cl tys s) (hX : Xt s) (hXs : ∀ u U : State, u.vm = U.vm → Xt u → Xt U) (hXw : ∀ u U : State, u.WarmedH U.vm → Xt u → Xt U) (hM : q_Mc D cl tys Xt l y ws rm b1 As c0 cs' mc ms) (cw : va_CN R s args own index y host bytes maxL none ws rm mc ms n ∧ y.name = "<init>" ∧ (Cond.instanceMethod y).before args s = true) (hb1 : b + cs.length = b1) (hN : q_L D cl b (cs ++ [c0]) H) (hn : As.length = n) (hl : ls.size = nL) (hst : st0 = As.reverse ++ .ref b1 :: rest) (hrm : (rest.map fun v => v.category).sum ≤ 8) (hdg : decode cc pc = .ok (.invokespecial index, 3)) (hcs : cells + mc ≤ R.cells ∧ slots + ms ≤ R.slots) :
    va_Run p l e R s m args below meth c H locs cells slots mc ms (F0 m pc ls st0) rest (q_Qc D cl b1 cs' (Value.ref b1 :: As).toArray) (fun q => b1 ≤ q) := by
  subst hst
  subst hb1
  exact va_runIN (As := As) (rest := rest) hF hM cw ⟨q_Pn.blind hXs, fun U hU hWm => ⟨rfl, va_K.moved hWm.alike hK, hXw s U hWm hX, by rw [hU]; exact hN.last⟩⟩ rfl hn hl rfl (lv_room hrm) hdg hcs
theorem q_crunI (hF : CallFix p m c cc nL s args Ts own) (hK : va_K D cl tys s) (hX : Xt s) (hXs : ∀ u U : State, u.vm = U.vm → Xt u → Xt U) (hXw : ∀ u U : State, u.WarmedH U.vm → Xt u → Xt U) (hM : q_Mc D cl tys Xt l y ws rm b1 As c0 cs' mc ms) (cw : CallB R s args own index y bytes maxL none ws rm mc ms n ∧ y.name = "<init>" ∧ (Cond.instanceMethod y).before args s = true) (hb1 : b + cs.length = b1) (hN : q_L D cl b (cs ++ [c0]) H) (hn : As.length = n) (hl : ls.size = nL) (hst : st0 = As.reverse ++ .ref b1 :: rest) (hrm : (rest.map fun v => v.category).sum ≤ 8) (hdg : decode cc pc = .ok (.invokespecial index, 3)) (hcs : cells + mc ≤ R.cells ∧ slots + ms ≤ R.slots) :
    va_Run p l e R s m args below meth c H locs cells slots mc ms (F0 m pc ls st0) rest (q_Qc D cl b1 cs' (Value.ref b1 :: As).toArray) (fun q => b1 ≤ q) := by
  subst hst
  subst hb1
  exact va_runI (As := As) (rest := rest) hF hM cw ⟨q_Pn.blind hXs, fun U hU hWm => ⟨rfl, va_K.moved hWm.alike hK, hXw s U hWm hX, by rw [hU]; exact hN.last⟩⟩ rfl hn hl rfl (lv_room hrm) hdg hcs
end QC2
