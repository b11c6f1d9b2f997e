/-! The reference: made -/
def cs (done : List Nat) (K : ex_K) (I : ex_I) (F : ex_F) (m : Nat) (ad : Nat → Nat) : Prop :=
  (K m).1 = 12 ∧ (∀ g, I g m 0 = 0) ∧ (∀ j, j ∈ done → ad j ≠ m ∧ (K (ad j)).1 ≠ 0) ∧ (∀ i j, i ∈ done → j ∈ done → ad i = ad j → i = j) ∧
  (∀ q, q ∈ rf_tab → q.1 ∈ done → F (804 + q.1) m 0 = some (ad q.1) ∧ K (ad q.1) = q.2) ∧
  (∀ j, j ∈ done → ∀ g, (g ≠ 22 ∨ (j ≠ 6 ∧ j ≠ 7)) → I g (ad j) = fun _ => 0) ∧
  (6 ∈ done → ∀ k, k < 30 → I 22 (ad 6) k = rn_N.getD k 0) ∧ (7 ∈ done → ∀ k, k < 31 → I 22 (ad 7) k = rn_O.getD k 0)
theorem nk_m {K : ex_K} {m a kd n : Nat} (h : (K m).1 = 12) (fa : (K a).1 = 0) : (ex_nk K a kd n m).1 = 12 := by
  unfold ex_nk
  rw [if_neg (fun e => by rw [e, fa] at h; exact absurd h (by decide))]
  exact h
def adu (ad : Nat → Nat) (j a : Nat) : Nat → Nat := fun i => if i = j then a else ad i
theorem adu_at (ad : Nat → Nat) (j a : Nat) : adu ad j a j = a := if_pos rfl
theorem adu_ne (ad : Nat → Nat) {j i : Nat} (a : Nat) (h : i ≠ j) : adu ad j a i = ad i := if_neg h
theorem cs_step {done : List Nat} {K : ex_K} {I : ex_I} {F : ex_F} {m a : Nat} {ad : Nat → Nat} {X : Nat → Int32} (h : cs done K I F m ad) (fa : (K a).1 = 0) (q : Nat × Nat × Nat) (hq : q ∈ rf_tab) (hj : q.1 ∉ done) (hu : ∀ q', q' ∈ rf_tab → q'.1 = q.1 → q' = q) (hk : q.2.1 ≠ 0)
    (h6 : q.1 = 6 → ∀ k, k < 30 → X k = rn_N.getD k 0) (h7 : q.1 = 7 → ∀ k, k < 31 → X k = rn_O.getD k 0) (h0 : q.1 ≠ 6 → q.1 ≠ 7 → X = fun _ => 0) :
    cs (q.1 :: done) (ex_nk K a q.2.1 q.2.2) (ex_wi (ex_ni I a) 22 a X) (ex_uf (ex_nr F a) (804 + q.1) m 0 (some a)) m (adu ad q.1 a) := by
  obtain ⟨c1, c2, c3, c4, c5, c6, c7, c8⟩ := h
  have nm : m ≠ a := fun e => by rw [e, fa] at c1; exact absurd c1 (by decide)
  have na : ∀ j, j ∈ done → ad j ≠ a := fun j hj e => by
    have := (c3 j hj).2
    rw [e] at this
    exact this fa
  have old : ∀ j, j ∈ done → j ≠ q.1 := fun j h e => hj (by rw [← e]; exact h)
  refine ⟨nk_m c1 fa, fun g => ?_, fun j hj => ?_, fun i j hi hj' => ?_, fun q' hq' hm => ?_, fun j hj' g hg => ?_, fun h => ?_, fun h => ?_⟩
  · rw [ex_wi_ne _ _ _ nm]
    unfold ex_ni
    rw [if_neg nm]
    exact c2 g
  · rcases List.mem_cons.mp hj with e | e
    · rw [e, adu_at]
      refine ⟨Ne.symm nm, ?_⟩
      rw [ex_nk_at]
      exact hk
    · rw [adu_ne _ _ (old j e)]
      refine ⟨(c3 j e).1, ?_⟩
      unfold ex_nk
      rw [if_neg (na j e)]
      exact (c3 j e).2
  · rcases List.mem_cons.mp hi with e | e
    · rcases List.mem_cons.mp hj' with e' | e'
      · intro _
        rw [e, e']
      · rw [e, adu_at, adu_ne _ _ (old j e')]
        intro z
        exact absurd z.symm (na j e')
    · rcases List.mem_cons.mp hj' with e' | e'
      · rw [adu_ne _ _ (old i e), e', adu_at]
        intro z
        exact absurd z (na i e)
      · rw [adu_ne _ _ (old i e), adu_ne _ _ (old j e')]
        exact c4 i j e e'
  · rcases List.mem_cons.mp hm with e | e
    · have e2 := hu q' hq' e
      subst e2
      rw [adu_at, ex_uf_eq, ex_nk_at]
      exact ⟨rfl, rfl⟩
    · rw [adu_ne _ _ (old _ e)]
      obtain ⟨z1, z2⟩ := c5 q' hq' e
      refine ⟨?_, ?_⟩
      · have ne : 804 + q'.1 ≠ 804 + q.1 := fun z => old _ e (by omega)
        rw [ex_uf_f _ _ _ _ ne]
        unfold ex_nr
        rw [if_neg nm]
        exact z1
      · unfold ex_nk
        rw [if_neg (na _ e)]
        exact z2
  · rcases List.mem_cons.mp hj' with e | e
    · subst e
      rw [adu_at]
      by_cases z : g = 22
      · subst z
        rw [ex_wi_at]
        obtain ⟨z1, z2⟩ := hg.resolve_left (fun w => w rfl)
        exact h0 z1 z2
      · rw [ex_wi_f _ _ _ z]
        unfold ex_ni
        rw [if_pos rfl]
    · rw [adu_ne _ _ (old j e), ex_wi_ne _ _ _ (na j e)]
      unfold ex_ni
      rw [if_neg (na j e)]
      exact c6 j e g hg
  · rcases List.mem_cons.mp h with e | e
    · rw [e, adu_at, ex_wi_at]
      exact h6 e.symm
    · rw [adu_ne _ _ (old 6 e), ex_wi_ne _ _ _ (na 6 e)]
      unfold ex_ni
      rw [if_neg (na 6 e)]
      exact c7 e
  · rcases List.mem_cons.mp h with e | e
    · rw [e, adu_at, ex_wi_at]
      exact h7 e.symm
    · rw [adu_ne _ _ (old 7 e), ex_wi_ne _ _ _ (na 7 e)]
      unfold ex_ni
      rw [if_neg (na 7 e)]
      exact c8 e
theorem ni_w (I : ex_I) (a : Nat) : ex_wi (ex_ni I a) 22 a (fun _ => 0) = ex_ni I a := by
  have e : ex_ni I a 22 a = fun _ => 0 := by
    unfold ex_ni
    rw [if_pos rfl]
  rw [← e]
  exact ex_wi_id _ _ _
theorem cs_step0 {done : List Nat} {K : ex_K} {I : ex_I} {F : ex_F} {m a : Nat} {ad : Nat → Nat} (h : cs done K I F m ad) (fa : (K a).1 = 0) (q : Nat × Nat × Nat) (hq : q ∈ rf_tab) (hj : q.1 ∉ done) (hu : ∀ q', q' ∈ rf_tab → q'.1 = q.1 → q' = q) (hk : q.2.1 ≠ 0) (n6 : q.1 ≠ 6) (n7 : q.1 ≠ 7) :
    cs (q.1 :: done) (ex_nk K a q.2.1 q.2.2) (ex_ni I a) (ex_uf (ex_nr F a) (804 + q.1) m 0 (some a)) m (adu ad q.1 a) := by
  have z := cs_step (X := fun _ => 0) h fa q hq hj hu hk (fun e => absurd e n6) (fun e => absurd e n7) (fun _ _ => rfl)
  rw [ni_w] at z
  exact z
