/-! CLASS AND REFERENCE, cell by cell -/
def rM (j i k a b : Nat) : Prop :=
  (i = 0 ∧ ((j = 0 ∧ ((k = 3 ∧ a = 0 ∧ b = 34) ∨ (k = 4 ∧ a = 33 ∧ b = 3) ∨ (k = 5 ∧ a = 33 ∧ b = 4) ∨ (k = 6 ∧ a = 33 ∧ b = 5) ∨ (k = 8 ∧ a = 33 ∧ b = 7) ∨ (k = 9 ∧ a = 33 ∧ b = 8) ∨ (k = 10 ∧ a = 33 ∧ b = 9))) ∨ (j = 3 ∧ k = 1 ∧ a = 0 ∧ b = 33) ∨ (j = 4 ∧ k < 6 ∧ a = 32 ∧ b = k))) ∨
  (i < 3 ∧ ((j = 5 ∧ k = 3 ∧ a = 4 ∧ b = i) ∨ (k < 14 ∧ b = 14 * i + k ∧ ((j = 6 ∧ a = 1) ∨ (j = 7 ∧ a = 2) ∨ (j = 8 ∧ a = 3))))) ∨
  (i < 6 ∧ ((b = i ∧ ((j = 9 ∧ ((k = 6 ∧ a = 5) ∨ (k = 7 ∧ a = 6) ∨ (k = 9 ∧ a = 9) ∨ (k = 10 ∧ a = 10) ∨ (k = 11 ∧ a = 11) ∨ (k = 12 ∧ a = 12) ∨ (k = 16 ∧ a = 26))) ∨ (j = 11 ∧ k = 3 ∧ a = 15) ∨ (j = 15 ∧ k = 2 ∧ a = 23) ∨ (j = 18 ∧ k = 2 ∧ a = 20) ∨ (j = 21 ∧ k = 1 ∧ a = 29) ∨ (j = 21 ∧ k = 2 ∧ a = 7))) ∨
    (b = 4 * i + k ∧ k < 4 ∧ ((j = 10 ∧ a = 14) ∨ (j = 16 ∧ a = 24) ∨ (j = 17 ∧ a = 25))) ∨
    (b = 20 * i + k ∧ k < 20 ∧ ((j = 12 ∧ a = 17) ∨ (j = 13 ∧ a = 18) ∨ (j = 14 ∧ a = 19))) ∨
    (b = 6 * i + k ∧ k < 6 ∧ ((j = 19 ∧ a = 21) ∨ (j = 20 ∧ a = 22)))))
theorem rm_t : rM 0 0 3 0 34 := by simp [rM]
theorem rm_own : rM 0 0 4 33 3 := by simp [rM]
theorem rm_rep : rM 0 0 5 33 4 := by simp [rM]
theorem rm_rpl : rM 0 0 6 33 5 := by simp [rM]
theorem rm_don : rM 0 0 8 33 7 := by simp [rM]
theorem rm_fai : rM 0 0 9 33 8 := by simp [rM]
theorem rm_brk : rM 0 0 10 33 9 := by simp [rM]
theorem rm_qs : rM 3 0 1 0 33 := by simp [rM]
theorem rm_q {k : Nat} (h : k < 6) : rM 4 0 k 32 k := by simp [rM, h]
theorem rm_sz {p : Nat} (h : p < 3) : rM 5 p 3 4 p := by simp [rM, h]
theorem rm_op {p k : Nat} (h : p < 3) (h2 : k < 14) : rM 6 p k 1 (14 * p + k) := by simp [rM, h, h2]
theorem rm_one {p k : Nat} (h : p < 3) (h2 : k < 14) : rM 7 p k 2 (14 * p + k) := by simp [rM, h, h2]
theorem rm_two {p k : Nat} (h : p < 3) (h2 : k < 14) : rM 8 p k 3 (14 * p + k) := by simp [rM, h, h2]
theorem rm_th {i : Nat} (h : i < 6) : rM 9 i 6 5 i := by simp [rM, h]
theorem rm_fo {i : Nat} (h : i < 6) : rM 9 i 7 6 i := by simp [rM, h]
theorem rm_pg {i : Nat} (h : i < 6) : rM 9 i 9 9 i := by simp [rM, h]
theorem rm_st {i : Nat} (h : i < 6) : rM 9 i 10 10 i := by simp [rM, h]
theorem rm_pl {i : Nat} (h : i < 6) : rM 9 i 11 11 i := by simp [rM, h]
theorem rm_sp {i : Nat} (h : i < 6) : rM 9 i 12 12 i := by simp [rM, h]
theorem rm_wk {i : Nat} (h : i < 6) : rM 9 i 16 26 i := by simp [rM, h]
theorem rm_hs {i : Nat} (h : i < 6) : rM 11 i 3 15 i := by simp [rM, h]
theorem rm_ks {i : Nat} (h : i < 6) : rM 15 i 2 23 i := by simp [rM, h]
theorem rm_ns {i : Nat} (h : i < 6) : rM 18 i 2 20 i := by simp [rM, h]
theorem rm_tr {i : Nat} (h : i < 6) : rM 21 i 1 29 i := by simp [rM, h]
theorem rm_ou {i : Nat} (h : i < 6) : rM 21 i 2 7 i := by simp [rM, h]
theorem rm_va {i k : Nat} (h : i < 6) (h2 : k < 4) : rM 10 i k 14 (4 * i + k) := by simp [rM, h, h2]
theorem rm_kn {i k : Nat} (h : i < 6) (h2 : k < 4) : rM 16 i k 24 (4 * i + k) := by simp [rM, h, h2]
theorem rm_kv {i k : Nat} (h : i < 6) (h2 : k < 4) : rM 17 i k 25 (4 * i + k) := by simp [rM, h, h2]
theorem rm_s {i k : Nat} (h : i < 6) (h2 : k < 20) : rM 12 i k 17 (20 * i + k) := by simp [rM, h, h2]
theorem rm_n {i k : Nat} (h : i < 6) (h2 : k < 20) : rM 13 i k 18 (20 * i + k) := by simp [rM, h, h2]
theorem rm_v {i k : Nat} (h : i < 6) (h2 : k < 20) : rM 14 i k 19 (20 * i + k) := by simp [rM, h, h2]
theorem rm_nk {i k : Nat} (h : i < 6) (h2 : k < 6) : rM 19 i k 21 (6 * i + k) := by simp [rM, h, h2]
theorem rm_na {i k : Nat} (h : i < 6) (h2 : k < 6) : rM 20 i k 22 (6 * i + k) := by simp [rM, h, h2]
theorem rn_8 {b : Nat} : ∀ j i k, ¬ rM j i k 8 b := fun j i k m => by simp [rM] at m
theorem rn_13 {b : Nat} : ∀ j i k, ¬ rM j i k 13 b := fun j i k m => by simp [rM] at m
theorem rn_16 {b : Nat} : ∀ j i k, ¬ rM j i k 16 b := fun j i k m => by simp [rM] at m
theorem rn_27 {b : Nat} : ∀ j i k, ¬ rM j i k 27 b := fun j i k m => by simp [rM] at m
theorem rn_28 {b : Nat} : ∀ j i k, ¬ rM j i k 28 b := fun j i k m => by simp [rM] at m
theorem rn_30 {b : Nat} : ∀ j i k, ¬ rM j i k 30 b := fun j i k m => by simp [rM] at m
theorem rn_31 {b : Nat} : ∀ j i k, ¬ rM j i k 31 b := fun j i k m => by simp [rM] at m
theorem rn_336 : ∀ j i k, ¬ rM j i k 33 6 := fun j i k m => by simp [rM] at m
theorem rx_9_8 {i : Nat} : ∀ a b, ¬ rM 9 i 8 a b := fun a b m => by simp [rM] at m
theorem rx_9_13 {i : Nat} : ∀ a b, ¬ rM 9 i 13 a b := fun a b m => by simp [rM] at m
theorem rx_9_14 {i : Nat} : ∀ a b, ¬ rM 9 i 14 a b := fun a b m => by simp [rM] at m
theorem rx_9_15 {i : Nat} : ∀ a b, ¬ rM 9 i 15 a b := fun a b m => by simp [rM] at m
theorem rx_11_4 {i : Nat} : ∀ a b, ¬ rM 11 i 4 a b := fun a b m => by simp [rM] at m
theorem rx_21_0 {i : Nat} : ∀ a b, ¬ rM 21 i 0 a b := fun a b m => by simp [rM] at m
theorem rx_21_3 {i : Nat} : ∀ a b, ¬ rM 21 i 3 a b := fun a b m => by simp [rM] at m
theorem rx_21_4 {i : Nat} : ∀ a b, ¬ rM 21 i 4 a b := fun a b m => by simp [rM] at m
theorem rx_0_7 {i : Nat} : ∀ a b, ¬ rM 0 i 7 a b := fun a b m => by simp [rM] at m
set_option maxHeartbeats 4000000 in
theorem rM_inj {j i k j' i' k' a b : Nat} (h : rM j i k a b) (h' : rM j' i' k' a b) : j = j' ∧ i = i' ∧ k = k' := by
  unfold rM at h
  rcases h with ⟨h0, ⟨h1, h⟩ | h | h⟩ | ⟨h0, h | ⟨h1, h2, h⟩⟩ | ⟨h0, ⟨h1, ⟨h2, h⟩ | h | h | h | h | h⟩ | ⟨h1, h2, h⟩ | ⟨h1, h2, h⟩ | ⟨h1, h2, h⟩⟩
  · rcases h with h | h | h | h | h | h | h <;> (obtain ⟨hk, ha, hb⟩ := h; subst ha hb hk h0 h1; simp only [rM] at h'; omega)
  · obtain ⟨hk, h1, ha, hb⟩ := h; subst ha hb; simp only [rM] at h'; omega
  · obtain ⟨hk, h1, ha, hb⟩ := h; subst ha; simp only [rM] at h'; omega
  · obtain ⟨hk, h1, ha, hb⟩ := h; subst ha; simp only [rM] at h'; omega
  · rcases h with h | h | h <;> (obtain ⟨hk, ha⟩ := h; subst ha; simp only [rM] at h'; omega)
  · rcases h with h | h | h | h | h | h | h <;> (obtain ⟨hk, ha⟩ := h; subst ha; simp only [rM] at h'; omega)
  · obtain ⟨hk, h2, ha⟩ := h; subst ha; simp only [rM] at h'; omega
  · obtain ⟨hk, h2, ha⟩ := h; subst ha; simp only [rM] at h'; omega
  · obtain ⟨hk, h2, ha⟩ := h; subst ha; simp only [rM] at h'; omega
  · obtain ⟨hk, h2, ha⟩ := h; subst ha; simp only [rM] at h'; omega
  · obtain ⟨hk, h2, ha⟩ := h; subst ha; simp only [rM] at h'; omega
  · rcases h with h | h | h <;> (obtain ⟨hk, ha⟩ := h; subst ha; simp only [rM] at h'; omega)
  · rcases h with h | h | h <;> (obtain ⟨hk, ha⟩ := h; subst ha; simp only [rM] at h'; omega)
  · rcases h with h | h <;> (obtain ⟨hk, ha⟩ := h; subst ha; simp only [rM] at h'; omega)
def vq (j : Nat) (u v : Value) : Prop := q_i u = q_i v ∧ (j = 9 → q_l u = q_l v)
theorem vq_r {j : Nat} {u : Value} : vq j u u := ⟨rfl, fun _ => rfl⟩
/-- all cells that answer to each other hold the same number, but the task of workflow e -/
def Ce (e : Nat) (S T : q_S) : Prop := ∀ j i k a b : Nat, rM j i k a b → ¬ (j = 21 ∧ i = e) → vq j (S j i k) (T a 0 b)
theorem rM_fun {j i k a b a' b' : Nat} (h : rM j i k a b) (h' : rM j i k a' b') : a = a' ∧ b = b' := by
  unfold rM at h
  rcases h with ⟨h0, ⟨h1, h⟩ | h | h⟩ | ⟨h0, h | ⟨h1, h2, h⟩⟩ | ⟨h0, ⟨h1, ⟨h2, h⟩ | h | h | h | h | h⟩ | ⟨h1, h2, h⟩ | ⟨h1, h2, h⟩ | ⟨h1, h2, h⟩⟩
  · rcases h with h | h | h | h | h | h | h <;> (obtain ⟨hk, ha, hb⟩ := h; subst ha hb hk h0 h1; simp only [rM] at h'; omega)
  · obtain ⟨hk, h1, ha, hb⟩ := h; subst hk; simp only [rM] at h'; omega
  · obtain ⟨hk, h1, ha, hb⟩ := h; subst hk; simp only [rM] at h'; omega
  · obtain ⟨hk, h1, ha, hb⟩ := h; subst hk; simp only [rM] at h'; omega
  · rcases h with h | h | h <;> (obtain ⟨hk, ha⟩ := h; subst hk; simp only [rM] at h'; omega)
  · rcases h with h | h | h | h | h | h | h <;> (obtain ⟨hk, ha⟩ := h; subst hk; simp only [rM] at h'; omega)
  · obtain ⟨hk, h2, ha⟩ := h; subst hk; simp only [rM] at h'; omega
  · obtain ⟨hk, h2, ha⟩ := h; subst hk; simp only [rM] at h'; omega
  · obtain ⟨hk, h2, ha⟩ := h; subst hk; simp only [rM] at h'; omega
  · obtain ⟨hk, h2, ha⟩ := h; subst hk; simp only [rM] at h'; omega
  · obtain ⟨hk, h2, ha⟩ := h; subst hk; simp only [rM] at h'; omega
  · rcases h with h | h | h <;> (obtain ⟨hk, ha⟩ := h; subst hk; simp only [rM] at h'; omega)
  · rcases h with h | h | h <;> (obtain ⟨hk, ha⟩ := h; subst hk; simp only [rM] at h'; omega)
  · rcases h with h | h <;> (obtain ⟨hk, ha⟩ := h; subst hk; simp only [rM] at h'; omega)
section CE
variable {e j i k a b : Nat} {S T : q_S} {v : Value}
/-- both cells written -/
theorem ce_p (h : Ce e S T) (m : rM j i k a b) : Ce e (q_st S j i k v) (q_st T a 0 b v) := by
  intro j' i' k' a' b' m' n
  by_cases hs : a' = a ∧ b' = b
  · obtain ⟨rfl, rfl⟩ := hs
    obtain ⟨rfl, rfl, rfl⟩ := rM_inj m' m
    rw [q_st_s, q_st_s]
    exact vq_r
  · rw [q_st_n T v (fun z => hs ⟨z.1, z.2.2⟩), q_st_n S v (fun z => by
      obtain ⟨z1, z2, z3⟩ := z
      rw [z1, z2, z3] at m'
      exact hs (rM_fun m' m))]
    exact h _ _ _ _ _ m' n
/-- a cell of the class alone -/
theorem ce_x (h : Ce e S T) (m : ∀ a b, ¬ rM j i k a b) : Ce e (q_st S j i k v) T := by
  intro j' i' k' a' b' m' n
  rw [q_st_n S v (fun z => by
    obtain ⟨z1, z2, z3⟩ := z
    rw [z1, z2, z3] at m'
    exact m _ _ m')]
  exact h _ _ _ _ _ m' n
/-- a cell of the reference alone -/
theorem ce_m (h : Ce e S T) (m : ∀ j i k, ¬ rM j i k a b) : Ce e S (q_st T a 0 b v) := by
  intro j' i' k' a' b' m' n
  rw [q_st_n T v (fun z => by
    obtain ⟨z1, _, z3⟩ := z
    rw [z1, z3] at m'
    exact m _ _ _ m')]
  exact h _ _ _ _ _ m' n
/-- the task of e, in the class -/
theorem ce_te (h : Ce e S T) : Ce e (q_st S 21 e k v) T := by
  intro j' i' k' a' b' m' n
  rw [q_st_n S v (fun z => n ⟨z.1, z.2.1⟩)]
  exact h _ _ _ _ _ m' n
/-- the task of e, in the reference -/
theorem ce_tm (h : Ce e S T) (m : rM 21 e k a b) : Ce e S (q_st T a 0 b v) := by
  intro j' i' k' a' b' m' n
  rw [q_st_n T v (fun z => by
    obtain ⟨z1, _, z3⟩ := z
    rw [z1, z3] at m'
    have := rM_inj m' m
    exact n ⟨this.1, this.2.1⟩)]
  exact h _ _ _ _ _ m' n
end CE
theorem ce_0 : Ce 6 xS0 mS0 := fun _ _ _ _ _ _ _ => vq_r
theorem ce_i {e j i k a b : Nat} {S T : q_S} (h : Ce e S T) (m : rM j i k a b) (n : ¬ (j = 21 ∧ i = e)) : q_i (S j i k) = q_i (T a 0 b) := (h _ _ _ _ _ m n).1
/-- two tables that hold the same numbers where it matters -/
theorem ce_eqx {e : Nat} {S S' T : q_S} (h : Ce e S T) (q : ∀ j i k a b : Nat, rM j i k a b → ¬ (j = 21 ∧ i = e) → vq j (S' j i k) (S j i k)) : Ce e S' T := fun j i k a b m n => ⟨(q j i k a b m n).1.trans (h j i k a b m n).1, fun z => ((q j i k a b m n).2 z).trans ((h j i k a b m n).2 z)⟩
theorem ce_eqm {e : Nat} {S T T' : q_S} (h : Ce e S T) (q : ∀ j i k a b : Nat, rM j i k a b → ¬ (j = 21 ∧ i = e) → vq j (T a 0 b) (T' a 0 b)) : Ce e S T' := fun j i k a b m n => ⟨(h j i k a b m n).1.trans (q j i k a b m n).1, fun z => ((h j i k a b m n).2 z).trans ((q j i k a b m n).2 z)⟩
theorem ce_dn {e i : Nat} {S T : q_S} (h : Ce e S T) (he : e = i ∨ e = 6) : Ce i S T := by
  rcases he with rfl | rfl
  · exact h
  · exact fun j i' k a b m n => h j i' k a b m (fun z => by unfold rM at m; omega)
theorem ce_up {i : Nat} {S T : q_S} (h : Ce i S T) (h1 : q_i (S 21 i 1) = q_i (T 29 0 i)) (h2 : q_i (S 21 i 2) = q_i (T 7 0 i)) : Ce 6 S T := by
  intro j i' k a b m n
  by_cases z : j = 21 ∧ i' = i
  · obtain ⟨rfl, rfl⟩ := z
    have hk : (k = 1 ∧ a = 29 ∧ b = i') ∨ (k = 2 ∧ a = 7 ∧ b = i') := by unfold rM at m; omega
    rcases hk with ⟨rfl, rfl, rfl⟩ | ⟨rfl, rfl, rfl⟩
    · exact ⟨h1, fun z => by omega⟩
    · exact ⟨h2, fun z => by omega⟩
  · exact h j i' k a b m z
