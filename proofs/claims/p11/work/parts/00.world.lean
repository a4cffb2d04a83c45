/-! THE WORLD: all cells of one object and what hangs on it, at fixed places behind a base; what changes is a table of values -/
abbrev q_S : Type := Nat → Nat → Nat → Value
def q_i (v : Value) : Int32 := match v with
  | .int x => x
  | _ => 0
def q_l (v : Value) : Int64 := match v with
  | .long x => x
  | _ => 0
def q_st (S : q_S) (j i k : Nat) (v : Value) : q_S := fun a b d => if a = j ∧ b = i ∧ d = k then v else S a b d
theorem q_st_s (S : q_S) (j i k : Nat) (v : Value) : q_st S j i k v j i k = v := by simp [q_st]
theorem q_st_n (S : q_S) {j i k a b d : Nat} (v : Value) (h : ¬ (a = j ∧ b = i ∧ d = k)) : q_st S j i k v a b d = S a b d := by
  simp only [q_st, if_neg h]
theorem q_st_off (S : q_S) {j i k a b : Nat} (v : Value) (h : ¬ (a = j ∧ b = i)) : q_st S j i k v a b = S a b := by
  funext d
  exact q_st_n S v (fun q => h ⟨q.1, q.2.1⟩)
theorem q_st_at (S : q_S) (j i k : Nat) (v : Value) : q_st S j i k v j i = fun d => if d = k then v else S j i d := by
  funext d
  simp [q_st]
/-- a kind of cells: how many, where the first lies, how far apart; an object of class ci with fields ds, or an array (length, number of its class, what its references mean) -/
abbrev q_K : Type := (Nat × Nat × Nat) × ((Nat × List (Nat × Nat)) ⊕ (Nat × Nat × Option (Option Nat)))
abbrev q_G : Type := va_G × (Nat → ClassId) × Nat
abbrev q_X : Type := (Nat → q_K) × List vw_C × (Nat → List (Nat × FieldType)) × (q_G → State → Heap → Prop) × Nat
def q_a (X : q_X) (G : q_G) (j i : Nat) : Nat := G.2.2 + ((X.1 j).1.2.1 + (X.1 j).1.2.2 * i)
def q_v (X : q_X) (G : q_G) (t v i : Nat) (x : Value) : Value := match t with
  | 0 => .int (q_i x)
  | 1 => .long (q_l x)
  | 2 => .ref (q_a X G v i)
  | 3 => .ref (q_a X G v 0)
  | _ => .int (nI i)
def q_fs (X : q_X) (G : q_G) (i : Nat) (f : Nat → Value) : Nat → List (Nat × Nat) → List Value
  | _, [] => []
  | k, d :: ds => q_v X G d.1 d.2 i (f k) :: q_fs X G i f (k + 1) ds
theorem q_fs_at (X : q_X) (G : q_G) (i : Nat) (f : Nat → Value) : ∀ (ds : List (Nat × Nat)) (k0 k : Nat), (q_fs X G i f k0 ds)[k]? = (ds[k]?).map (fun d => q_v X G d.1 d.2 i (f (k0 + k)))
  | [], k0, k => by simp [q_fs]
  | d :: ds, k0, 0 => by simp [q_fs]
  | d :: ds, k0, k + 1 => by
    rw [q_fs, List.getElem?_cons_succ, q_fs_at X G i f ds (k0 + 1) k, List.getElem?_cons_succ]
    rw [show k0 + 1 + k = k0 + (k + 1) by omega]
theorem q_fs_len (X : q_X) (G : q_G) (i : Nat) (f : Nat → Value) : ∀ (ds : List (Nat × Nat)) (k0 : Nat), (q_fs X G i f k0 ds).length = ds.length
  | [], k0 => rfl
  | d :: ds, k0 => by rw [q_fs, List.length_cons, List.length_cons, q_fs_len X G i f ds (k0 + 1)]
theorem q_fs_set (X : q_X) (G : q_G) (i : Nat) (f : Nat → Value) (ds : List (Nat × Nat)) (k : Nat) (x w : Value) {d : Nat × Nat} (hd : ds[k]? = some d) (hw : q_v X G d.1 d.2 i x = w) :
    (q_fs X G i f 0 ds).set k w = q_fs X G i (fun c => if c = k then x else f c) 0 ds := by
  refine List.ext_getElem? fun n => ?_
  rw [q_fs_at]
  by_cases h : n = k
  · subst h
    have hl : n < (q_fs X G i f 0 ds).length := by rw [q_fs_len]; exact (List.getElem?_eq_some_iff.mp hd).1
    rw [List.getElem?_set_self hl, hd]
    simp [hw]
  · rw [List.getElem?_set_ne (Ne.symm h), q_fs_at]
    simp [h]
def q_e (X : q_X) (G : q_G) (j i : Nat) (f : Nat → Value) : va_E := match (X.1 j).2 with
  | .inl o => .inr (o.1, q_fs X G i f 0 o.2)
  | .inr (n, t, none) => .inl (G.2.1 t, n, .inl (fun k => q_i (f k)))
  | .inr (n, t, some none) => .inl (G.2.1 t, n, .inr (.inl (fun k => q_l (f k))))
  | .inr (n, t, some (some v)) => .inl (G.2.1 t, n, .inr (.inr (.inr (.inr (fun k => some (q_a X G v k))))))
/-- the heap holds the table S -/
def q_W (X : q_X) (G : q_G) (S : q_S) (H : Heap) : Prop := ∀ j i : Nat, i < (X.1 j).1.1 → va_at G.1 X.2.1 (q_a X G j i, q_e X G j i (S j i)) H
def q_A (X : q_X) (G : q_G) : Nat → Prop := fun q => G.2.2 ≤ q ∧ q < G.2.2 + X.2.2.2.2
def q_ty (X : q_X) (G : q_G) : List (ClassId × FieldType) := (X.2.2.1 0).map (fun q => (G.2.1 q.1, q.2))
def q_w (X : q_X) (G : q_G) (s : State) (S : q_S) (H : Heap) : Prop := q_W X G S H ∧ X.2.2.2.1 G s H
def q_P (X : q_X) (G : q_G) (S : q_S) (U : State) : Prop := va_K G.1 X.2.1 (q_ty X G) U ∧ q_w X G U S U.heap
/-- the places are apart, and within; what the statics hold stays -/
def q_Ok (X : q_X) : Prop := (∀ j i j' i' : Nat, i < (X.1 j).1.1 → i' < (X.1 j').1.1 → (X.1 j).1.2.1 + (X.1 j).1.2.2 * i = (X.1 j').1.2.1 + (X.1 j').1.2.2 * i' → j = j' ∧ i = i') ∧
  (∀ j i : Nat, i < (X.1 j).1.1 → (X.1 j).1.2.1 + (X.1 j).1.2.2 * i < X.2.2.2.2) ∧
  (∀ (G : q_G) (u U : State) (H H1 : Heap), u.vm.Alike U.vm → (∀ a : Nat, a < G.2.2 → H1[a]? = H[a]?) → X.2.2.2.1 G u H → X.2.2.2.1 G U H1)
theorem q_Ok.in {X : q_X} (h : q_Ok X) {G : q_G} {j i : Nat} (hi : i < (X.1 j).1.1) : q_A X G (q_a X G j i) := ⟨Nat.le_add_right _ _, Nat.add_lt_add_left (h.2.1 j i hi) _⟩
theorem q_lo (X : q_X) (G : q_G) {j i a : Nat} (h : a < G.2.2) : a ≠ q_a X G j i := fun z => absurd (Nat.le_add_right G.2.2 _) (Nat.not_le.mpr (by rw [z] at h; exact h))
theorem q_W.set {X : q_X} (hO : q_Ok X) {G : q_G} {S S' : q_S} {H H1 : Heap} (hW : q_W X G S H) {j i : Nat} (hi : i < (X.1 j).1.1) (he : va_at G.1 X.2.1 (q_a X G j i, q_e X G j i (S' j i)) H1) (oq : ∀ q : Nat, q ≠ q_a X G j i → H1[q]? = H[q]?) (hS : ∀ a b, ¬ (a = j ∧ b = i) → S' a b = S a b) : q_W X G S' H1 := by
  intro a b hb
  by_cases h : a = j ∧ b = i
  · obtain ⟨rfl, rfl⟩ := h
    exact he
  · rw [hS a b h]
    exact (hW a b hb).kept (oq _ fun z => h (hO.1 a b j i hb hi (Nat.add_left_cancel z)))
theorem q_one {X : q_X} {G : q_G} {S : q_S} {H : Heap} (hW : q_W X G S H) {j i : Nat} (hi : i < (X.1 j).1.1) : va_P G.1 X.2.1 [(q_a X G j i, q_e X G j i (S j i))] H := by
  intro k q hk
  match k, hk with
  | 0, hk => cases hk; exact hW j i hi
  | k + 1, hk => simp at hk
theorem q_moved {X : q_X} (hO : q_Ok X) {G : q_G} {u U : State} {S : q_S} {H : Heap} (hvm : u.vm.Alike U.vm) (h : q_w X G u S H) : q_w X G U S H := ⟨h.1, hO.2.2 G u U H H hvm (fun _ _ => rfl) h.2⟩
theorem q_P.blind {X : q_X} (hO : q_Ok X) {G : q_G} {S : q_S} {av : List Value} : FrameBlind (va_Pc av (q_P X G S)) := by
  intro a U g mk q
  obtain ⟨q0, qK, qW⟩ := q
  exact ⟨q0, va_K.moved (u := U) (U := U.calling g mk a) (Vm.Alike.refl U.vm) qK, q_moved hO (u := U) (U := U.calling g mk a) (Vm.Alike.refl U.vm) qW⟩
theorem q_P.at {X : q_X} (hO : q_Ok X) {G : q_G} {S : q_S} {s U : State} {H : Heap} (hK : va_K G.1 X.2.1 (q_ty X G) s) (hW : q_w X G s S H) (hU : U.heap = H) (hA : s.vm.Alike U.vm) : q_P X G S U := ⟨va_K.moved hA hK, by rw [hU]; exact q_moved hO hA hW⟩
/-- contracts: what is answered, and the table behind it -/
abbrev q_Mi (X : q_X) (G : q_G) (l : Launch) (y : MethodName) (ws : List Cond) (rm : Room) (av : List Value) (S : q_S) (r : Int32) (S' : q_S) : Prop :=
  Met l y ws rm (va_Pc av (q_P X G S)) (va_Qi (fun (r' : Int32) (u : q_S) => r' = r ∧ u = S') (q_P X G) (q_A X G)) 0 0 (q_A X G)
abbrev q_Mv (X : q_X) (G : q_G) (l : Launch) (y : MethodName) (ws : List Cond) (rm : Room) (av : List Value) (S S' : q_S) : Prop :=
  Met l y ws rm (va_Pc av (q_P X G S)) (va_Qv (fun (u : q_S) => u = S') (q_P X G) (q_A X G)) 0 0 (q_A X G)
section QR
variable {p : Program} {l : Launch} {e : Env} {R : Room} {s : State} {m : MethodId} {args : Array Value} {below : List Frame} {meth : Method} {c : Code} {H : Heap} {locs : List Loc} {cells slots : Nat} {Q : State → Prop}
variable {cc : ByteArray} {pc : Nat} {ls : Array Slot} {rest : List Value} {X : q_X} {G : q_G} {S : q_S} {A : Nat → Prop} {H0 : Heap} {Ts : List Cond} {own : String} {nL : Nat}
/-- what a walk knows all along -/
def q_C (X : q_X) (G : q_G) (p : Program) (m : MethodId) (c : Code) (cc : ByteArray) (nL : Nat) (s : State) (args : Array Value) (Ts : List Cond) (own : String) : Prop :=
  CallFix p m c cc nL s args Ts own ∧ q_Ok X ∧ va_K G.1 X.2.1 (q_ty X G) s
theorem q_get (hC : q_C X G p m c cc nL s args Ts own) {C : String} {T : u_T} {N ci index : Nat} (hin : ∀ w ∈ u_ws C T N, w ∈ Ts) (hW : q_w X G s S H) (j i : Nat) (hi : i < (X.1 j).1.1) {ds : List (Nat × Nat)} (hj : (X.1 j).2 = .inl (ci, ds)) (hc : X.2.1[ci]? = some (C, T, N)) (k : Nat) (hk : k < N) {d : Nat × Nat} (hd : ds[k]? = some d) (hlink : Cond.fieldLink own index (T k).1 (T k).2.1 (T k).2.2.1 ∈ Ts) {v : Value} (hv : q_v X G d.1 d.2 i (S j i k) = v) (hdg : decode cc pc = .ok (.getfield index, 3))
    (kk : W p l e R s m args below meth c H locs cells slots Q (F0 m (pc + 3) ls (v :: rest))) : W p l e R s m args below meth c H locs cells slots Q (F0 m pc ls (.ref (q_a X G j i) :: rest)) := by
  obtain ⟨⟨hx, hb, hml, hown, hts⟩, hO, hK⟩ := hC
  have hP := q_one hW.1 hi
  have he : q_e X G j i (S j i) = .inr (ci, q_fs X G i (S j i) 0 ds) := by simp only [q_e, hj]
  rw [he] at hP
  refine va_get (D := G.1) (v := v) hx hb hts hin hown hK hP 0 rfl hc k hk (hts _ hlink) (fun _ h => h) ?_ hdg kk
  rw [q_fs_at, hd, Option.map_some, Nat.zero_add, hv]
theorem q_put (hC : q_C X G p m c cc nL s args Ts own) {C : String} {T : u_T} {N ci index : Nat} (hin : ∀ w ∈ u_ws C T N, w ∈ Ts) (ty0 : Nat → FieldType) (hty : ∀ k, k < N → parseFieldDescriptor (T k).2.2.1 = some (ty0 k)) (hnm : ∀ a, a < N → ∀ b, b < N → a ≠ b → (T a).2.1 ≠ (T b).2.1) (hW : q_w X G s S H) (hS0 : va_S A H0 H locs) (hAA : ∀ q, q_A X G q → A q) (j i : Nat) (hi : i < (X.1 j).1.1) {ds : List (Nat × Nat)} (hj : (X.1 j).2 = .inl (ci, ds)) (hc : X.2.1[ci]? = some (C, T, N)) (k : Nat) (hk : k < N) {d : Nat × Nat} (hd : ds[k]? = some d) (hlink : Cond.fieldLink own index (T k).1 (T k).2.1 (T k).2.2.1 ∈ Ts) (hfin : (T k).2.2.2 = false) {ty : FieldType} {v : Value} (hpd : parseFieldDescriptor (T k).2.2.1 = some ty) (hn : narrow ty v = v) (hfit : fits ty v = true) (hv : q_v X G d.1 d.2 i v = v) (hdg : decode cc pc = .ok (.putfield index, 3))
    (kk : ∀ (H1 : Heap) (locs1 : List Loc), q_w X G s (q_st S j i k v) H1 → va_S A H0 H1 locs1 → W p l e R s m args below meth c H1 locs1 cells slots Q (F0 m (pc + 3) ls rest)) : W p l e R s m args below meth c H locs cells slots Q (F0 m pc ls (v :: .ref (q_a X G j i) :: rest)) := by
  obtain ⟨⟨hx, hb, hml, hown, hts⟩, hO, hK⟩ := hC
  have he : ∀ f, q_e X G j i f = .inr (ci, q_fs X G i f 0 ds) := fun f => by simp only [q_e, hj]
  have hap := va_apart (own := own) hts hin ty0 hty hnm hK hc
  have hP := q_one hW.1 hi
  rw [he] at hP
  obtain ⟨r, h1, cell, q1, q2, q3, q4⟩ := hP 0 _ rfl
  have hr : r = (C, T, N) := Option.some.inj (h1.symm.trans hc)
  subst hr
  obtain ⟨hS, hfc, kC, hkC, hkind⟩ := hK.1 ci _ hc
  obtain ⟨cf, kf, fi, f, hif, hsl⟩ := hS k hk
  have hlay := hts _ (hin _ (u_in_lay hk))
  unfold u_lay at hlay
  rw [if_neg (by rw [hfin]; decide)] at hlay
  have hst := (u_facts hfc hkC (u_lays hts hin hk) hif).1
  have h6 := u_store hfc hkC hkind hlay hif hpd hn hfit
  refine W.putK hx hb (f := f) ⟨hown, hts _ hlink, ⟨_, _, _, hif⟩, hst⟩ (by rw [q2]; exact h6) q1 q3 (by rw [hsl]; exact k2_hasslot (q4 k hk)) rfl rfl hdg fun H' e1 e2 e3 => ?_
  rw [hsl] at e1 ⊢
  have hl : k < (q_fs X G i (S j i) 0 ds).length := by rw [q_fs_len]; exact (List.getElem?_eq_some_iff.mp hd).1
  have hat : va_at G.1 X.2.1 (q_a X G j i, q_e X G j i (q_st S j i k v j i)) H' := by
    rw [he, q_st_at, ← q_fs_set X G i (S j i) ds k v v hd hv]
    exact ⟨_, hc, t_OB.to (V := updV (vp_V (q_fs X G i (S j i) 0 ds)) k v) ⟨_, e1, q2, q3, t_set q4 hap hk v⟩ (fun j _ => vp_updV_set hl v j)⟩
  refine kk H' _ ⟨hW.1.set hO hi hat e3 (fun a b h => q_st_off S v h), hO.2.2 G s s H H' (Vm.Alike.refl _) (fun a h2 => e3 a (q_lo X G h2)) hW.2⟩ (hS0.put e2 e3 (hAA _ (hO.in hi)))
theorem q_iald (hC : q_C X G p m c cc nL s args Ts own) (hW : q_w X G s S H) (j k : Nat) (hk : k < (X.1 j).1.1) {n t : Nat} (hj : (X.1 j).2 = .inr (n, t, none)) (t0 : Nat) (ht : (X.2.2.1 0)[t0]? = some (t, .int)) {i : Int32} (hin : vp_in i n) (hdg : decode cc pc = .ok (.iaload, 1))
    (kk : W p l e R s m args below meth c H locs cells slots Q (F0 m (pc + 1) ls (.int (q_i (S j k i.toNatClampNeg)) :: rest))) : W p l e R s m args below meth c H locs cells slots Q (F0 m pc ls (.int i :: .ref (q_a X G j k) :: rest)) := by
  obtain ⟨⟨hx, hb, hml, hown, hts⟩, hO, hK⟩ := hC
  have hP := q_one hW.1 hk
  have he : q_e X G j k (S j k) = .inl (G.2.1 t, n, .inl (fun a => q_i (S j k a))) := by simp only [q_e, hj]
  rw [he] at hP
  exact va_iald hx hb hK hP 0 t0 rfl (by rw [q_ty, List.getElem?_map, ht]; rfl) hin hdg kk
theorem q_iast (hC : q_C X G p m c cc nL s args Ts own) (hW : q_w X G s S H) (hS0 : va_S A H0 H locs) (hAA : ∀ q, q_A X G q → A q) (j k : Nat) (hk : k < (X.1 j).1.1) {n t : Nat} (hj : (X.1 j).2 = .inr (n, t, none)) (t0 : Nat) (ht : (X.2.2.1 0)[t0]? = some (t, .int)) {i x : Int32} (hin : vp_in i n) (hdg : decode cc pc = .ok (.iastore, 1))
    (kk : ∀ (H1 : Heap) (locs1 : List Loc), q_w X G s (q_st S j k i.toNatClampNeg (.int x)) H1 → va_S A H0 H1 locs1 → W p l e R s m args below meth c H1 locs1 cells slots Q (F0 m (pc + 1) ls rest)) : W p l e R s m args below meth c H locs cells slots Q (F0 m pc ls (.int x :: .int i :: .ref (q_a X G j k) :: rest)) := by
  obtain ⟨⟨hx, hb, hml, hown, hts⟩, hO, hK⟩ := hC
  have he : ∀ f, q_e X G j k f = .inl (G.2.1 t, n, .inl (fun a => q_i (f a))) := fun f => by simp only [q_e, hj]
  have hP := q_one hW.1 hk
  rw [he] at hP
  have hty : (q_ty X G)[t0]? = some (G.2.1 t, .int) := by rw [q_ty, List.getElem?_map, ht]; rfl
  refine W.iast hx hb (hP 0 _ rfl) ((hK.2 t0 _ hty).1 n (fun j' => .int (q_i (S j k j')))) (fun q => by cases q) (by show ¬ (i < 0 ∨ (arrV _ _ _).slots.size ≤ _); rw [arrV_size]; exact hin) rfl rfl hdg fun H1 e1 z oq => ?_
  have hat : va_at G.1 X.2.1 (q_a X G j k, q_e X G j k (q_st S j k i.toNatClampNeg (.int x) j k)) H1 := by
    rw [he, q_st_at]
    show H1[q_a X G j k]? = some (vp_cell _ _)
    rw [e1, vp_cell_i, vp_cell_i, arrV_store]
    congr 2
    funext q
    by_cases hq : q = i.toNatClampNeg
    · subst hq
      simp [updV, q_i]
    · simp [updV, hq]
  exact kk H1 _ ⟨hW.1.set hO hk hat oq (fun a b h => q_st_off S _ h), hO.2.2 G s s H H1 (Vm.Alike.refl _) (fun a h2 => oq a (q_lo X G h2)) hW.2⟩ (hS0.put z oq (hAA _ (hO.in hk)))
theorem q_aald (hC : q_C X G p m c cc nL s args Ts own) (hW : q_w X G s S H) (j k : Nat) (hk : k < (X.1 j).1.1) {n t v : Nat} (hj : (X.1 j).2 = .inr (n, t, some (some v))) (t0 : Nat) {C : String} (ht : (X.2.2.1 0)[t0]? = some (t, .object C)) {i : Int32} (hin : vp_in i n) (hdg : decode cc pc = .ok (.aaload, 1))
    (kk : W p l e R s m args below meth c H locs cells slots Q (F0 m (pc + 1) ls (.ref (q_a X G v i.toNatClampNeg) :: rest))) : W p l e R s m args below meth c H locs cells slots Q (F0 m pc ls (.int i :: .ref (q_a X G j k) :: rest)) := by
  obtain ⟨⟨hx, hb, hml, hown, hts⟩, hO, hK⟩ := hC
  have hP := q_one hW.1 hk
  have he : q_e X G j k (S j k) = .inl (G.2.1 t, n, .inr (.inr (.inr (.inr (fun a => some (q_a X G v a)))))) := by simp only [q_e, hj]
  rw [he] at hP
  exact va_aldq hx hb hK hP 0 t0 rfl (by rw [q_ty, List.getElem?_map, ht]; rfl) hin hdg kk
theorem q_alen (hC : q_C X G p m c cc nL s args Ts own) (hW : q_w X G s S H) (j k : Nat) (hk : k < (X.1 j).1.1) {n t : Nat} {o : Option (Option Nat)} (hj : (X.1 j).2 = .inr (n, t, o)) (t0 : Nat) {ty : FieldType} (ht : (X.2.2.1 0)[t0]? = some (t, ty)) (hdg : decode cc pc = .ok (.arraylength, 1))
    (kk : W p l e R s m args below meth c H locs cells slots Q (F0 m (pc + 1) ls (.int (Int32.ofNat n) :: rest))) : W p l e R s m args below meth c H locs cells slots Q (F0 m pc ls (.ref (q_a X G j k) :: rest)) := by
  obtain ⟨⟨hx, hb, hml, hown, hts⟩, hO, hK⟩ := hC
  have hP := q_one hW.1 hk
  have he : ∃ x : (Nat → Int32) ⊕ (Nat → Int64) ⊕ (Nat → UInt32) ⊕ (Nat → UInt64) ⊕ (Nat → Option Nat), q_e X G j k (S j k) = .inl (G.2.1 t, n, x) := by
    cases o with
    | none => exact ⟨_, by simp only [q_e, hj]; rfl⟩
    | some v => cases v with
      | none => exact ⟨_, by simp only [q_e, hj]; rfl⟩
      | some v => exact ⟨_, by simp only [q_e, hj]; rfl⟩
  obtain ⟨x, he⟩ := he
  rw [he] at hP
  exact va_alen hx hb hK hP 0 t0 rfl (by rw [q_ty, List.getElem?_map, ht]; rfl) rfl hdg kk
/-- arrays of booleans and of longs -/
theorem q_zald (hC : q_C X G p m c cc nL s args Ts own) (hW : q_w X G s S H) (j k : Nat) (hk : k < (X.1 j).1.1) {n t : Nat} (hj : (X.1 j).2 = .inr (n, t, none)) (t0 : Nat) (ht : (X.2.2.1 0)[t0]? = some (t, .boolean)) {i : Int32} (hin : vp_in i n) (hdg : decode cc pc = .ok (.baload, 1))
    (kk : W p l e R s m args below meth c H locs cells slots Q (F0 m (pc + 1) ls (.int (q_i (S j k i.toNatClampNeg)) :: rest))) : W p l e R s m args below meth c H locs cells slots Q (F0 m pc ls (.int i :: .ref (q_a X G j k) :: rest)) := by
  obtain ⟨⟨hx, hb, hml, hown, hts⟩, hO, hK⟩ := hC
  have hP := q_one hW.1 hk
  have he : q_e X G j k (S j k) = .inl (G.2.1 t, n, .inl (fun a => q_i (S j k a))) := by simp only [q_e, hj]
  rw [he] at hP
  exact va_zald hx hb hK hP 0 t0 rfl (by rw [q_ty, List.getElem?_map, ht]; rfl) hin hdg kk
theorem q_zast (hC : q_C X G p m c cc nL s args Ts own) (hW : q_w X G s S H) (hS0 : va_S A H0 H locs) (hAA : ∀ q, q_A X G q → A q) (j k : Nat) (hk : k < (X.1 j).1.1) {n t : Nat} (hj : (X.1 j).2 = .inr (n, t, none)) (t0 : Nat) (ht : (X.2.2.1 0)[t0]? = some (t, .boolean)) {i x : Int32} (hin : vp_in i n) (hnr : narrow .boolean (.int x) = .int x) (hdg : decode cc pc = .ok (.bastore, 1))
    (kk : ∀ (H1 : Heap) (locs1 : List Loc), q_w X G s (q_st S j k i.toNatClampNeg (.int x)) H1 → va_S A H0 H1 locs1 → W p l e R s m args below meth c H1 locs1 cells slots Q (F0 m (pc + 1) ls rest)) : W p l e R s m args below meth c H locs cells slots Q (F0 m pc ls (.int x :: .int i :: .ref (q_a X G j k) :: rest)) := by
  obtain ⟨⟨hx, hb, hml, hown, hts⟩, hO, hK⟩ := hC
  have he : ∀ f, q_e X G j k f = .inl (G.2.1 t, n, .inl (fun a => q_i (f a))) := fun f => by simp only [q_e, hj]
  have hP := q_one hW.1 hk
  rw [he] at hP
  have hty : (q_ty X G)[t0]? = some (G.2.1 t, .boolean) := by rw [q_ty, List.getElem?_map, ht]; rfl
  refine W.zast hx hb (hP 0 _ rfl) ((hK.2 t0 _ hty).1 n (fun j' => .int (q_i (S j k j')))) (fun q => by cases q) (by show ¬ (i < 0 ∨ (arrV _ _ _).slots.size ≤ _); rw [arrV_size]; exact hin) rfl rfl hdg fun H1 e1 z oq => ?_
  have hat : va_at G.1 X.2.1 (q_a X G j k, q_e X G j k (q_st S j k i.toNatClampNeg (.int x) j k)) H1 := by
    rw [he, q_st_at]
    show H1[q_a X G j k]? = some (vp_cell _ _)
    rw [e1, vp_cell_i, vp_cell_i, arrV_store]
    congr 2
    funext q
    by_cases hq : q = i.toNatClampNeg
    · subst hq
      simp only [updV, q_i, if_true]
      first | exact hnr | (simp [hnr])
    · simp [updV, hq]
  exact kk H1 _ ⟨hW.1.set hO hk hat oq (fun a b h => q_st_off S _ h), hO.2.2 G s s H H1 (Vm.Alike.refl _) (fun a h2 => oq a (q_lo X G h2)) hW.2⟩ (hS0.put z oq (hAA _ (hO.in hk)))
theorem q_lald (hC : q_C X G p m c cc nL s args Ts own) (hW : q_w X G s S H) (j k : Nat) (hk : k < (X.1 j).1.1) {n t : Nat} (hj : (X.1 j).2 = .inr (n, t, some none)) (t0 : Nat) (ht : (X.2.2.1 0)[t0]? = some (t, .long)) {i : Int32} (hin : vp_in i n) (hdg : decode cc pc = .ok (.laload, 1))
    (kk : W p l e R s m args below meth c H locs cells slots Q (F0 m (pc + 1) ls (.long (q_l (S j k i.toNatClampNeg)) :: rest))) : W p l e R s m args below meth c H locs cells slots Q (F0 m pc ls (.int i :: .ref (q_a X G j k) :: rest)) := by
  obtain ⟨⟨hx, hb, hml, hown, hts⟩, hO, hK⟩ := hC
  have hP := q_one hW.1 hk
  have he : q_e X G j k (S j k) = .inl (G.2.1 t, n, .inr (.inl (fun a => q_l (S j k a)))) := by simp only [q_e, hj]
  rw [he] at hP
  exact va_lald hx hb hK hP 0 t0 rfl (by rw [q_ty, List.getElem?_map, ht]; rfl) hin hdg kk
theorem q_last (hC : q_C X G p m c cc nL s args Ts own) (hW : q_w X G s S H) (hS0 : va_S A H0 H locs) (hAA : ∀ q, q_A X G q → A q) (j k : Nat) (hk : k < (X.1 j).1.1) {n t : Nat} (hj : (X.1 j).2 = .inr (n, t, some none)) (t0 : Nat) (ht : (X.2.2.1 0)[t0]? = some (t, .long)) {i : Int32} {x : Int64} (hin : vp_in i n) (hdg : decode cc pc = .ok (.lastore, 1))
    (kk : ∀ (H1 : Heap) (locs1 : List Loc), q_w X G s (q_st S j k i.toNatClampNeg (.long x)) H1 → va_S A H0 H1 locs1 → W p l e R s m args below meth c H1 locs1 cells slots Q (F0 m (pc + 1) ls rest)) : W p l e R s m args below meth c H locs cells slots Q (F0 m pc ls (.long x :: .int i :: .ref (q_a X G j k) :: rest)) := by
  obtain ⟨⟨hx, hb, hml, hown, hts⟩, hO, hK⟩ := hC
  have he : ∀ f, q_e X G j k f = .inl (G.2.1 t, n, .inr (.inl (fun a => q_l (f a)))) := fun f => by simp only [q_e, hj]
  have hP := q_one hW.1 hk
  rw [he] at hP
  have hty : (q_ty X G)[t0]? = some (G.2.1 t, .long) := by rw [q_ty, List.getElem?_map, ht]; rfl
  refine W.last hx hb (hP 0 _ rfl) ((hK.2 t0 _ hty).1 n (fun j' => .long (q_l (S j k j')))) (fun q => by cases q) (by show ¬ (i < 0 ∨ (arrV _ _ _).slots.size ≤ _); rw [arrV_size]; exact hin) rfl rfl hdg fun H1 e1 z oq => ?_
  have hat : va_at G.1 X.2.1 (q_a X G j k, q_e X G j k (q_st S j k i.toNatClampNeg (.long x) j k)) H1 := by
    rw [he, q_st_at]
    show H1[q_a X G j k]? = some (vp_cell _ _)
    rw [e1, vp_cell_l, vp_cell_l, arrV_store]
    congr 2
    funext q
    by_cases hq : q = i.toNatClampNeg
    · subst hq
      simp [updV, q_l]
    · simp [updV, hq]
  exact kk H1 _ ⟨hW.1.set hO hk hat oq (fun a b h => q_st_off S _ h), hO.2.2 G s s H H1 (Vm.Alike.refl _) (fun a h2 => oq a (q_lo X G h2)) hW.2⟩ (hS0.put z oq (hAA _ (hO.in hk)))
/-- calls -/
theorem q_recv {C : String} {T : u_T} {N ci : Nat} (hK : va_K G.1 X.2.1 (q_ty X G) s) (hW : q_w X G s S H) {j i : Nat} (hi : i < (X.1 j).1.1) {ds : List (Nat × Nat)} (hj : (X.1 j).2 = .inl (ci, ds)) (hc : X.2.1[ci]? = some (C, T, N)) : ∃ cell : Cell, H[q_a X G j i]? = some cell ∧ cell.vm.isStatics = false ∧ s.vm.findClass C = some cell.cls := by
  have hP := q_one hW.1 hi
  have he : q_e X G j i (S j i) = .inr (ci, q_fs X G i (S j i) 0 ds) := by simp only [q_e, hj]
  rw [he] at hP
  exact va_recv hK hP hc (q0 := 0) rfl
variable {y : MethodName} {bytes : ByteArray} {maxL n index : Nat} {ret : Option FieldType} {ws : List Cond} {rm : Room} {As st0 : List Value} {S' : q_S} {r : Int32} {C : String} {T : u_T} {N ci j i : Nat} {ds : List (Nat × Nat)} {b : Nat}
theorem q_runV (hC : q_C X G p m c cc nL s args Ts own) (hW : q_w X G s S H) {Qc : Array Value → State → Outcome → State → Prop} (hM : Met l y ws rm (va_Pc (.ref (q_a X G j i) :: As) (q_P X G S)) Qc 0 0 (q_A X G)) (cw : CallW R s args own C index y bytes maxL ret ws rm 0 0 n) (hi : i < (X.1 j).1.1) (hj : (X.1 j).2 = .inl (ci, ds)) (hc : X.2.1[ci]? = some (C, T, N)) (hn : As.length = n) (hl : ls.size = nL) (hst : st0 = As.reverse ++ .ref (q_a X G j i) :: rest) (hrm : (rest.map fun v => v.category).sum ≤ 8) (hdg : decode cc pc = .ok (.invokevirtual index, 3)) (hcs : cells ≤ R.cells ∧ slots ≤ R.slots) :
    va_Run p l e R s m args below meth c H locs cells slots 0 0 (F0 m pc ls st0) rest (Qc (Value.ref (q_a X G j i) :: As).toArray) (q_A X G) := by
  subst hst
  exact va_runV (As := As) (rest := rest) (b := q_a X G j i) hC.1 hM cw ⟨q_P.blind hC.2.1, q_recv hC.2.2 hW hi hj hc, fun U hU hWm => ⟨rfl, q_P.at hC.2.1 hC.2.2 hW hU hWm.alike⟩⟩ rfl hn hl rfl (lv_room hrm) hdg hcs
theorem q_runVN {host : String} (hC : q_C X G p m c cc nL s args Ts own) (hW : q_w X G s S H) {Qc : Array Value → State → Outcome → State → Prop} (hM : Met l y ws rm (va_Pc (.ref (q_a X G j i) :: As) (q_P X G S)) Qc 0 0 (q_A X G)) (cw : va_CN R s args own index y host bytes maxL ret ws rm 0 0 n ∧ (Cond.instanceMethod y).before args s = true ∧ (Cond.selects C y y).before args s = true) (hi : i < (X.1 j).1.1) (hj : (X.1 j).2 = .inl (ci, ds)) (hc : X.2.1[ci]? = some (C, T, N)) (hn : As.length = n) (hl : ls.size = nL) (hst : st0 = As.reverse ++ .ref (q_a X G j i) :: rest) (hrm : (rest.map fun v => v.category).sum ≤ 8) (hdg : decode cc pc = .ok (.invokevirtual index, 3)) (hcs : cells ≤ R.cells ∧ slots ≤ R.slots) :
    va_Run p l e R s m args below meth c H locs cells slots 0 0 (F0 m pc ls st0) rest (Qc (Value.ref (q_a X G j i) :: As).toArray) (q_A X G) := by
  subst hst
  exact va_runVN (As := As) (rest := rest) (b := q_a X G j i) hC.1 hM cw ⟨q_P.blind hC.2.1, q_recv hC.2.2 hW hi hj hc, fun U hU hWm => ⟨rfl, q_P.at hC.2.1 hC.2.2 hW hU hWm.alike⟩⟩ rfl hn hl rfl (lv_room hrm) hdg hcs
theorem q_runS (hC : q_C X G p m c cc nL s args Ts own) (hW : q_w X G s S H) {Qc : Array Value → State → Outcome → State → Prop} (hM : Met l y ws rm (va_Pc As (q_P X G S)) Qc 0 0 (q_A X G)) (cw : CallB R s args own index y bytes maxL ret ws rm 0 0 n ∧ (Cond.static y).before args s = true) (hn : As.length = n) (hl : ls.size = nL) (hst : st0 = As.reverse ++ rest) (hrm : (rest.map fun v => v.category).sum ≤ 8) (hdg : decode cc pc = .ok (.invokestatic index, 3)) (hcs : cells ≤ R.cells ∧ slots ≤ R.slots) :
    va_Run p l e R s m args below meth c H locs cells slots 0 0 (F0 m pc ls st0) rest (Qc As.toArray) (q_A X G) := by
  subst hst
  exact va_runS (As := As) (rest := rest) hC.1 hM cw ⟨q_P.blind hC.2.1, fun U hU hWm => ⟨rfl, q_P.at hC.2.1 hC.2.2 hW hU hWm.alike⟩⟩ rfl hn hl rfl (lv_room hrm) hdg hcs
theorem q_calli {a : Array Value} (hC : q_C X G p m c cc nL s args Ts own) (hS : va_S A H0 H locs) (hAA : ∀ q, q_A X G q → A q) (hr : va_Run p l e R s m args below meth c H locs cells slots 0 0 (F0 m pc ls st0) rest (va_Qi (fun (r' : Int32) (u : q_S) => r' = r ∧ u = S') (q_P X G) (q_A X G) a) (q_A X G))
    (kk : ∀ (H1 : Heap) (locs1 : List Loc), q_w X G s S' H1 → va_S A H0 H1 locs1 → W p l e R s m args below meth c H1 locs1 cells slots Q (F0 m (pc + 3) ls (.int r :: rest))) : W p l e R s m args below meth c H locs cells slots Q (F0 m pc ls st0) := by
  refine va_calli hr hS (fun q _ h => hAA q h) hAA (fun r1 u t H1 locs1 ht hvm hw hB hz1 hk1 hS1 => ?_)
  obtain ⟨rfl, rfl⟩ := hw
  refine kk H1 locs1 ?_ hS1
  have h2 := hB.2
  rw [ht] at h2
  exact q_moved hC.2.1 hvm.symm h2
theorem q_callv {a : Array Value} (hC : q_C X G p m c cc nL s args Ts own) (hS : va_S A H0 H locs) (hAA : ∀ q, q_A X G q → A q) (hr : va_Run p l e R s m args below meth c H locs cells slots 0 0 (F0 m pc ls st0) rest (va_Qv (fun (u : q_S) => u = S') (q_P X G) (q_A X G) a) (q_A X G))
    (kk : ∀ (H1 : Heap) (locs1 : List Loc), q_w X G s S' H1 → va_S A H0 H1 locs1 → W p l e R s m args below meth c H1 locs1 cells slots Q (F0 m (pc + 3) ls rest)) : W p l e R s m args below meth c H locs cells slots Q (F0 m pc ls st0) := by
  refine va_callv hr hS (fun q _ h => hAA q h) hAA (fun u t H1 locs1 ht hvm hw hB hz1 hk1 hS1 => ?_)
  subst hw
  refine kk H1 locs1 ?_ hS1
  have h2 := hB.2
  rw [ht] at h2
  exact q_moved hC.2.1 hvm.symm h2
/-- ends -/
theorem q_iret {S1 : q_S} {v : Int32} (hC : q_C X G p m c cc nL s args Ts own) (hr : meth.sig.returnType = some .int) (hlocks : meth.locks = false) (hW : q_w X G s S1 H) (hS : va_S (q_A X G) s.heap H locs) (e1 : v = r) (e2 : S1 = S') (hdg : decode cc pc = .ok (.ireturn, 1)) :
    W p l e R s m args below meth c H locs cells slots (MQ below (va_Qi (fun (r' : Int32) (u : q_S) => r' = r ∧ u = S') (q_P X G) (q_A X G)) args s cells slots (q_A X G)) (F0 m pc ls [.int v]) := by
  subst e1; subst e2
  exact W.iret (v := v) hC.1.1 hC.1.2.1 hr (fun t ht hWm => ⟨⟨v, S1, rfl, ⟨rfl, rfl⟩, q_P.at hC.2.1 hC.2.2 hW ht hWm.alike⟩, hS.F ht⟩) hS.2.2 hdg hlocks
theorem q_zret {S1 : q_S} {v : Int32} {ty : FieldType} (hC : q_C X G p m c cc nL s args Ts own) (hr : meth.sig.returnType = some ty) (hlocks : meth.locks = false) (hW : q_w X G s S1 H) (hS : va_S (q_A X G) s.heap H locs) (hn : narrow ty (.int v) = .int v) (e1 : v = r) (e2 : S1 = S') (hdg : decode cc pc = .ok (.ireturn, 1)) :
    W p l e R s m args below meth c H locs cells slots (MQ below (va_Qi (fun (r' : Int32) (u : q_S) => r' = r ∧ u = S') (q_P X G) (q_A X G)) args s cells slots (q_A X G)) (F0 m pc ls [.int v]) := by
  subst e1; subst e2
  exact W.zret (v := v) hC.1.1 hC.1.2.1 hr hn (fun t ht hWm => ⟨⟨v, S1, rfl, ⟨rfl, rfl⟩, q_P.at hC.2.1 hC.2.2 hW ht hWm.alike⟩, hS.F ht⟩) hS.2.2 hdg hlocks
theorem q_vret {S1 : q_S} (hC : q_C X G p m c cc nL s args Ts own) (hr : meth.sig.returnType = none) (hlocks : meth.locks = false) (hW : q_w X G s S1 H) (hS : va_S (q_A X G) s.heap H locs) (e2 : S1 = S') (hdg : decode cc pc = .ok (.return_, 1)) :
    W p l e R s m args below meth c H locs cells slots (MQ below (va_Qv (fun (u : q_S) => u = S') (q_P X G) (q_A X G)) args s cells slots (q_A X G)) (F0 m pc ls []) := by
  subst e2
  exact W.vret hC.1.1 hC.1.2.1 hr (fun t ht hWm => ⟨⟨S1, rfl, rfl, q_P.at hC.2.1 hC.2.2 hW ht hWm.alike⟩, hS.F ht⟩) hS.2.2 hdg hlocks
end QR
/-- a method's beginning -/
theorem q_met {X : q_X} {G : q_G} {S : q_S} {l : Launch} {y : MethodName} {ws ws' : List Cond} {rm : Room} {av : List Value} {Qc : Array Value → State → Outcome → State → Prop} {cc : ByteArray} {maxL : Nat} {ret : Option FieldType} (hO : q_Ok X) (hy : plainName y.cls = true) (hw : ws = Cond.code y cc maxL ret :: ws') (hav : (lg_sl av).length ≤ maxL)
    (body : ∀ (p : Program) (e : Env) (s : State) (m : MethodId) (below : List Frame) (meth : Method) (c : Code) (ls : Array Slot), q_C X G p m c cc maxL s av.toArray ws y.cls → meth.sig.returnType = ret → meth.locks = false → q_w X G s S s.heap → va_S (q_A X G) s.heap s.heap [] → lv_has ls maxL (lv_args 0 av) →
      W p l e (headSpec ws rm).room s m av.toArray below meth c s.heap [] 0 0 (MQ below Qc av.toArray s 0 0 (q_A X G)) (F0 m 0 ls [])) : Met l y ws rm (va_Pc av (q_P X G S)) Qc 0 0 (q_A X G) := by
  refine Met.ofW (cc := cc) (maxL := maxL) (ret := ret) hy hw ?_
  intro p e s m args below meth c s₁ B hml hv
  obtain ⟨rfl, hK, hW⟩ := hv
  have hts := atoms_spec (ws := ws) B.pre
  have hown : s.vm.findClass y.cls = some m.cls := findClass_of_methodNamed B.named
  rw [lg_entry_eq]
  exact body p e s m below meth c _ ⟨⟨B.exec, B.bytes, hml, hown, hts⟩, hO, hK⟩ B.returns B.notSynchronized hW va_S.rf (lv_entry av hav)
theorem q_ss {S : q_S} {j i k : Nat} {x : Int32} : q_i (q_st S j i k (.int x) j i k) = x := by rw [q_st_s]; rfl
theorem q_sj {S : q_S} {j i k a b d : Nat} {v : Value} {x : Int32} (h : a ≠ j) (r : q_i (S a b d) = x) : q_i (q_st S j i k v a b d) = x := by rw [q_st_n S v (fun q => h q.1)]; exact r
theorem q_sk {S : q_S} {j i k a b d : Nat} {v : Value} {x : Int32} (h : d ≠ k) (r : q_i (S a b d) = x) : q_i (q_st S j i k v a b d) = x := by rw [q_st_n S v (fun q => h q.2.2)]; exact r
theorem q_ls {S : q_S} {j i k : Nat} {x : Int64} : q_l (q_st S j i k (.long x) j i k) = x := by rw [q_st_s]; rfl
theorem q_lj {S : q_S} {j i k a b d : Nat} {v : Value} {x : Int64} (h : a ≠ j) (r : q_l (S a b d) = x) : q_l (q_st S j i k v a b d) = x := by rw [q_st_n S v (fun q => h q.1)]; exact r
theorem q_lk {S : q_S} {j i k a b d : Nat} {v : Value} {x : Int64} (h : d ≠ k) (r : q_l (S a b d) = x) : q_l (q_st S j i k v a b d) = x := by rw [q_st_n S v (fun q => h q.2.2)]; exact r
theorem q_lt {i : Int32} {n : Nat} (h : vp_in i n) : i.toNatClampNeg < n := Nat.not_le.mp fun q => h (Or.inr q)
/-- rooms by depth -/
def q_rm (d : Nat) : Room := { frames := d, cells := 0, slots := 0, locals := 40 * d }
def q_gw (big : List Cond) : List Cond := big.filter goodWord
theorem q_gw_all (big : List Cond) : (q_gw big).all goodWord = true := List.all_eq_true.mpr fun _ h => (List.mem_filter.mp h).2
theorem q_mf {big : List Cond} {w : Cond} (i : Nat) (h : big[i]? = some w) (hg : goodWord w = true) : w ∈ q_gw big := List.mem_filter.mpr ⟨List.mem_of_getElem? h, hg⟩
theorem q_mem {big ws : List Cond} (ps : List Nat) (hp : ws = ps.filterMap (fun i => big[i]?)) (hg : ws.all goodWord = true) : ∀ w ∈ ws, w ∈ q_gw big := by
  intro w hw
  refine List.mem_filter.mpr ⟨?_, List.all_eq_true.mp hg w hw⟩
  rw [hp] at hw
  obtain ⟨i, -, hi⟩ := List.mem_filterMap.mp hw
  exact List.mem_of_getElem? hi
/-- words: a method's own code, and all words of the tables -/
def q_ws (big : List Cond) (y : MethodName) (bytes : ByteArray) (maxL : Nat) (ret : Option FieldType) : List Cond := .code y bytes maxL ret :: big
theorem q_good {big : List Cond} (h : big.all goodWord = true) {w0 : Cond} {y : MethodName} {bytes : ByteArray} {maxL : Nat} {ret : Option FieldType} (hc : Cond.code y bytes maxL ret ∈ big) : GoodIn (w0 :: big) (q_ws big y bytes maxL ret) := by
  have key : ∀ w ∈ big, w ∈ w0 :: big ∧ ((w.onTables && w.keeps) = true ∨ ∃ ty, w = .arrayClass ty) := fun w hw => ⟨List.mem_cons_of_mem _ hw, good_of_word (List.all_eq_true.mp h w hw)⟩
  intro w hw
  rcases List.mem_cons.mp hw with rfl | hw
  · exact key _ hc
  · exact key w hw
theorem q_goodV {big : List Cond} (h : big.all goodWord = true) {w0 : Cond} {own C : String} {idx : Nat} {y : MethodName} {bytes : ByteArray} {maxL : Nat} {ret : Option FieldType} (h1 : Cond.methodLink own idx y ∈ big) (h2 : Cond.instanceMethod y ∈ big) (h3 : Cond.selects C y y ∈ big) (h4 : Cond.initialized C ∈ big) (hc : Cond.code y bytes maxL ret ∈ big) : GoodIn (w0 :: big) (wsV own idx C y (q_ws big y bytes maxL ret)) := by
  have key : ∀ w ∈ big, w ∈ w0 :: big ∧ ((w.onTables && w.keeps) = true ∨ ∃ ty, w = .arrayClass ty) := fun w hw => ⟨List.mem_cons_of_mem _ hw, good_of_word (List.all_eq_true.mp h w hw)⟩
  intro w hw
  rcases List.mem_append.mp hw with hw | hw
  · simp only [List.mem_cons, List.not_mem_nil, or_false] at hw
    rcases hw with rfl | rfl | rfl | rfl
    · exact key _ h1
    · exact key _ h2
    · exact key _ h3
    · exact key _ h4
  · exact q_good h hc w hw
theorem q_goodS {big : List Cond} (h : big.all goodWord = true) {w0 : Cond} {own : String} {idx : Nat} {y : MethodName} {bytes : ByteArray} {maxL : Nat} {ret : Option FieldType} (h1 : Cond.methodLink own idx y ∈ big) (h2 : Cond.static y ∈ big) (h4 : Cond.initialized own ∈ big) (hc : Cond.code y bytes maxL ret ∈ big) : GoodIn (w0 :: big) (wsS own idx y (q_ws big y bytes maxL ret)) := by
  have key : ∀ w ∈ big, w ∈ w0 :: big ∧ ((w.onTables && w.keeps) = true ∨ ∃ ty, w = .arrayClass ty) := fun w hw => ⟨List.mem_cons_of_mem _ hw, good_of_word (List.all_eq_true.mp h w hw)⟩
  intro w hw
  rcases List.mem_append.mp hw with hw | hw
  · simp only [List.mem_cons, List.not_mem_nil, or_false] at hw
    rcases hw with rfl | rfl | rfl
    · exact key _ h1
    · exact key _ h2
    · exact key _ h4
  · exact q_good h hc w hw
theorem q_kj {S : q_S} {j i k a b d : Nat} {v : Value} (h : a ≠ j) : q_st S j i k v a b d = S a b d := q_st_n S v (fun q => h q.1)
theorem q_kc {S S' : q_S} {a b d : Nat} {x : Int32} (e : S' a b d = S a b d) (r : q_i (S a b d) = x) : q_i (S' a b d) = x := by rw [e]; exact r
theorem q_kl {S S' : q_S} {a b d : Nat} {x : Int64} (e : S' a b d = S a b d) (r : q_l (S a b d) = x) : q_l (S' a b d) = x := by rw [e]; exact r
/-- two objects side by side: a call on one leaves the other -/
theorem q_w.off {X Y : q_X} {G G2 : q_G} {s : State} {T : q_S} {H H1 : Heap} (hY : q_Ok Y) (h : q_w Y G2 s T H) (hd : ∀ q, q_A Y G2 q → ¬ q_A X G q) (o : ∀ q : Nat, q < H.size → ¬ q_A X G q → H1[q]? = H[q]?) (hz : Y.2.2.2.1 G2 s H1) : q_w Y G2 s T H1 :=
  ⟨fun j i hi => (h.1 j i hi).kept (o _ ((h.1 j i hi).lt) (hd _ (hY.in hi))), hz⟩
section QL
variable {p : Program} {l : Launch} {e : Env} {R : Room} {s : State} {m : MethodId} {args : Array Value} {below : List Frame} {meth : Method} {c : Code} {H : Heap} {locs : List Loc} {cells slots : Nat} {Q : State → Prop}
variable {cc : ByteArray} {pc : Nat} {ls : Array Slot} {rest st0 : List Value} {X : q_X} {G : q_G} {S' : q_S} {r : Int32} {A : Nat → Prop} {H0 : Heap} {Ts : List Cond} {own : String} {nL : Nat}
theorem q_calli2 {a : Array Value} (hC : q_C X G p m c cc nL s args Ts own) (hS : va_S A H0 H locs) (hAA : ∀ q, q_A X G q → A q) (hr : va_Run p l e R s m args below meth c H locs cells slots 0 0 (F0 m pc ls st0) rest (va_Qi (fun (r' : Int32) (u : q_S) => r' = r ∧ u = S') (q_P X G) (q_A X G) a) (q_A X G))
    (kk : ∀ (H1 : Heap) (locs1 : List Loc), q_w X G s S' H1 → va_S A H0 H1 locs1 → H.size ≤ H1.size → (∀ q : Nat, q < H.size → ¬ q_A X G q → H1[q]? = H[q]?) → W p l e R s m args below meth c H1 locs1 cells slots Q (F0 m (pc + 3) ls (.int r :: rest))) : W p l e R s m args below meth c H locs cells slots Q (F0 m pc ls st0) := by
  refine va_calli hr hS (fun q _ h => hAA q h) hAA (fun r1 u t H1 locs1 ht hvm hw hB hz1 hk1 hS1 => ?_)
  obtain ⟨rfl, rfl⟩ := hw
  refine kk H1 locs1 ?_ hS1 hz1 hk1
  have h2 := hB.2
  rw [ht] at h2
  exact q_moved hC.2.1 hvm.symm h2
end QL
