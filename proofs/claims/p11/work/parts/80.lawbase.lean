/-! THE LAW: rows for its walk, for any object Y beside the class's -/
def lw_A (s : State) : Nat → Prop := fun q => s.heap.size ≤ q
def lw_Zok (Y : q_X) (G2 : q_G) (s : State) : Prop := ∀ H : Heap, (∀ a : Nat, a < s.heap.size → H[a]? = s.heap[a]?) → Y.2.2.2.1 G2 s H
theorem lw_vin {n L : Nat} (h : n < L) (hL : L ≤ 3072) : vp_in (nI n) L := nI_in h (by omega)
theorem lw_sub6 {L i : Nat} (hL : L ≤ 3072) (hi : i ≤ L) : (Int32.ofNat L - 6 < nI i) ↔ L < i + 6 := by
  have h1 := nI_toInt (n := L) (by omega)
  have h2 := nI_toInt (n := i) (by omega)
  have h3 : (Int32.ofNat L - 6).toInt = (L : Int) - 6 := by
    rw [Int32.toInt_sub, show (Int32.ofNat L).toInt = (L : Int) from h1]
    show ((L : Int) - 6).bmod _ = _
    rw [Int.bmod_eq_of_le (by omega) (by omega)]
  rw [Int32.lt_iff_toInt_lt, h3, h2]
  omega
section LW
variable {p : Program} {l : Launch} {e : Env} {R : Room} {s : State} {m : MethodId} {args : Array Value} {below : List Frame} {meth : Method} {c : Code} {H : Heap} {locs : List Loc} {cells slots : Nat} {Q : State → Prop}
variable {cc : ByteArray} {pc : Nat} {ls : Array Slot} {rest st0 : List Value} {X Y : q_X} {G G2 : q_G} {S S' T : q_S} {r : Int32} {Ts : List Cond} {own : String} {nL : Nat}
theorem lw_call {a : Array Value} (hC : q_C X G p m c cc nL s args Ts own) (hY : q_Ok Y) (hd : ∀ q, q_A Y G2 q → ¬ q_A X G q) (hA : ∀ q, q_A X G q → lw_A s q) (hZ : lw_Zok Y G2 s) (hT : q_w Y G2 s T H) (hS : va_S (lw_A s) s.heap H locs) (hr : va_Run p l e R s m args below meth c H locs cells slots 0 0 (F0 m pc ls st0) rest (va_Qi (fun (r' : Int32) (u : q_S) => r' = r ∧ u = S') (q_P X G) (q_A X G) a) (q_A X G))
    (kk : ∀ (H1 : Heap) (locs1 : List Loc), q_w X G s S' H1 → q_w Y G2 s T H1 → va_S (lw_A s) s.heap H1 locs1 → W p l e R s m args below meth c H1 locs1 cells slots Q (F0 m (pc + 3) ls (.int r :: rest))) : W p l e R s m args below meth c H locs cells slots Q (F0 m pc ls st0) := by
  refine q_calli2 hC hS hA hr fun H1 locs1 w1 hS1 z1 k1 => ?_
  exact kk H1 locs1 w1 (hT.off hY hd k1 (hZ H1 fun a ha => hS1.2.1 a ha (Nat.not_le.mpr ha))) hS1
variable {b L i a1 a2 : Nat} {xs : Nat → Int32}
/-- script[i + k] onto the stack -/
theorem lw_ld (hx : p.tables.exec = Jvm.exec) (hb : c.code = cc) (hX : va_X b L xs s s.heap) (hbl : b < s.heap.size) (hS : va_S (lw_A s) s.heap H locs) (hl : lv_has ls 4 [(0, .ref b), (1, .ref a1), (2, .ref a2), (3, .int (nI i))]) (k : Nat) {n : Int} (hn : Int32.ofInt n = nI k) (hi : i + k < L) (hL : L ≤ 3072) (d0 : decode cc pc = .ok (.aload_n 0, 1)) (d1 : decode cc (pc + 1) = .ok (.iload_n 3, 1)) (d2 : decode cc (pc + 2) = .ok (.iconst n, 1)) (d3 : decode cc (pc + 3) = .ok (.iadd, 1)) (d4 : decode cc (pc + 4) = .ok (.iaload, 1))
    (kk : W p l e R s m args below meth c H locs cells slots Q (F0 m (pc + 5) ls (.int (xs (i + k)) :: rest))) : W p l e R s m args below meth c H locs cells slots Q (F0 m pc ls rest) := by
  refine lv_aload_n hx hb d0 rfl (lv_at hl 0 rfl) ?_
  refine lv_iload_n hx hb d1 rfl (lv_at hl 3 rfl) ?_
  refine lv_iconst (v := nI k) hx hb d2 hn ?_
  refine lv_iadd hx hb d3 ?_
  rw [nI_add]
  refine va_sld hx hb hX hbl (Nat.not_le.mpr hbl) hS (lw_vin hi hL) d4 ?_
  rw [nI_clamp (by omega)]
  exact kk
/-- x != 0 as a boolean -/
theorem lw_ne (hx : p.tables.exec = Jvm.exec) (hb : c.code = cc) {x : Int32} (d0 : decode cc pc = .ok (.ifCond .eq 7, 3)) (d1 : decode cc (pc + 3) = .ok (.iconst 1, 1)) (d2 : decode cc (pc + 4) = .ok (.goto 4, 3)) (d3 : decode cc (pc + 7) = .ok (.iconst 0, 1))
    (kk : W p l e R s m args below meth c H locs cells slots Q (F0 m (pc + 8) ls (.int (if x = 0 then 0 else 1) :: rest))) : W p l e R s m args below meth c H locs cells slots Q (F0 m pc ls (.int x :: rest)) := by
  refine lv_if_eq (tgt := pc + 7) hx hb d0 (by omega) (fun h => ?_) (fun h => ?_)
  · rw [if_pos h] at kk
    exact lv_iconst (v := 0) hx hb d3 (by decide) kk
  · rw [if_neg h] at kk
    refine lv_iconst (v := 1) hx hb d1 (by decide) ?_
    exact lv_goto (tgt := pc + 8) hx hb d2 (by omega) kk
variable {D : va_G} {cl : List vw_C} {tys : List (ClassId × FieldType)} {ws : List Cond} {index i2 maxL mc ms N ci b1 : Nat} {y : MethodName} {bytes : ByteArray} {rm : Room} {Xt : State → Prop} {C : String} {TT : u_T} {fs : List Value} {cs : List va_E}
/-- an object made, and its constructor run -/
theorem lw_mk (hF : CallFix p m c cc nL s args Ts own) (hK : va_K D cl tys s) (hX : Xt s) (hXs : ∀ u U : State, u.vm = U.vm → Xt u → Xt U) (hXw : ∀ u U : State, u.WarmedH U.vm → Xt u → Xt U) (hin : ∀ w ∈ u_ws C TT N, w ∈ Ts) (ty : Nat → FieldType) (hty : ∀ k, k < N → parseFieldDescriptor (TT k).2.2.1 = some (ty k)) (hcl : Cond.classLink own index C ∈ Ts) (hinst : Cond.instantiable C N ∈ Ts) (hini : Cond.initialized C ∈ Ts) (hc : cl[ci]? = some (C, TT, N)) (hfs : ∀ j, j < N → defaultValue (ty j) = vp_V fs j)
    (hM : q_Mc D cl tys Xt l y ws rm b1 [] (.inr (ci, fs)) cs mc ms) (cw : CallB R s args own i2 y bytes maxL none ws rm mc ms 0 ∧ y.name = "<init>" ∧ (Cond.instanceMethod y).before args s = true) (hl : ls.size = nL) (hb1 : H.size = b1) (hS : va_S (lw_A s) s.heap H []) (hrm : (rest.map fun v => v.category).sum ≤ 6) (hcells : cells + 1 + mc ≤ R.cells) (hslots : slots + N + ms ≤ R.slots) (d0 : decode cc pc = .ok (.new index, 3)) (d1 : decode cc (pc + 3) = .ok (.dup, 1)) (d2 : decode cc (pc + 4) = .ok (.invokespecial i2, 3))
    (kk : ∀ H1 : Heap, q_L D cl b1 cs H1 → (∀ q : Nat, q < b1 → H1[q]? = H[q]?) → va_S (lw_A s) s.heap H1 [] → W p l e R s m args below meth c H1 [] (cells + 1 + mc) (slots + N + ms) Q (F0 m (pc + 7) ls (.ref b1 :: rest))) : W p l e R s m args below meth c H [] cells slots Q (F0 m pc ls rest) := by
  obtain ⟨hx, hb, hml, hown, hts⟩ := id hF
  subst hb1
  have hKn := hK.1 ci _ hc
  refine W.newcK hx hb hown (hts _ hcl) (hts _ hinst) (hts _ hini) rfl d0 (by omega) (by omega) hKn.2.1 rfl fun H1 kC hkC e1 z1 o1 => ?_
  refine lv_dup hx hb d1 rfl ?_
  have hL0 : q_L D cl H.size [] H := ⟨rfl, fun k x h => by simp at h⟩
  have hL1 : q_L D cl H.size [.inr (ci, fs)] H1 := hL0.push z1 o1 ⟨_, hc, (u_born ty hts hin hKn hkC e1 hty).to hfs⟩
  have hr := q_crunI (e := e) (below := below) (meth := meth) (cs := []) (rest := .ref H.size :: rest) (st0 := .ref H.size :: .ref H.size :: rest) (H := H1) (locs := []) (cells := cells + 1) (slots := slots + N) (ls := ls) (b := H.size) hF hK hX hXs hXw hM cw rfl hL1 rfl hl rfl (by
    show 1 + (rest.map fun v => v.category).sum ≤ 8
    omega) d2 ⟨hcells, hslots⟩
  intro T hT X
  obtain ⟨v, st₀, t, T', L, h0, X', hLb, e1', e2', ⟨hv, hq, hk⟩, st⟩ := hr T hT X
  cases hv
  rw [h0] at hk
  rw [← e1'] at hq hk
  have hk2 : ∀ q : Nat, q < H.size → T'.heap[q]? = H[q]? := fun q hq2 => (hk q hq2).trans (o1 q hq2)
  have hsz : H.size ≤ T'.heap.size := by rw [hq.1]; exact Nat.le_add_right _ _
  have hS2 : va_S (lw_A s) s.heap T'.heap [] := ⟨Nat.le_trans hS.1 hsz, fun q g1 g2 => (hk2 q (Nat.lt_of_lt_of_le g1 hS.1)).trans (hS.2.1 q g1 g2), fun q h => by cases h⟩
  have k3 := kk T'.heap hq hk2 hS2
  have k4 : W p l e R s m args below meth c T'.heap ([] ++ L) (cells + 1 + mc) (slots + N + ms) Q (F0 m (pc + 7) ls (.ref H.size :: rest)) := va_forget (fun q h => Nat.le_trans hS.1 (hLb q (by simpa using h))) k3
  obtain ⟨t2, a1, b2⟩ := k4 T' rfl X'
  exact ⟨t2, st t2 a1, b2⟩
end LW
