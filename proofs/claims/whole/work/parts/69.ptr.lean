/-! Entries by pointer and by name -/
theorem J_new (c : Int32) : J 0 3 3 (m_new c) := by
  have n : ∀ k i, k ≠ 804 → (m_new c).1 k i = 0 := fun k i hk => if_neg (fun w => hk w.1)
  have q : ∀ j, (m_new c).2 j = [] := fun _ => rfl
  refine ⟨⟨fun k hk => ?_, fun t ht => ?_⟩, fun t ht _ _ hn => absurd (q _) hn, ⟨fun t ht => ⟨fun w hw => (by rw [q] at hw; cases hw), by rw [q]; exact List.Pairwise.nil, fun _ => q _⟩, fun t u _ _ _ w w' hw => (by rw [q] at hw; cases hw)⟩, ⟨fun row hr => (by rw [q] at hr; cases hr), fun t ht hn => absurd (n 29 t (by decide)) hn⟩, fun p hp hv => absurd (n 8 p (by decide)) hv, ⟨fun row hr => (by rw [q] at hr; cases hr), by rw [q]; exact List.Pairwise.nil⟩⟩
  · have nk : ∀ k, k ∈ [805, 806, 817, 820] → k ≠ 804 := by decide
    rw [n k 0 (nk k hk), Int32.toInt_zero]
    omega
  · rw [n 24 t (by decide), n 29 t (by decide), n 27 t (by decide), n 28 t (by decide), Int32.toInt_zero]
    exact ⟨by omega, by omega, by omega, by omega, Or.inl rfl, Or.inl rfl⟩
section RE
variable {K : ex_K} {I : ex_I} {F : ex_F} {a : Nat → Nat} {g : GH} {s : MS} {z : Nat}
theorem mE_mtb {p : Nat} {row : Nat → Int32} (x v : Int32) (h : Er K I F g p row) : mE I F x v p = mtb x v row := by
  obtain ⟨⟨e1, e2, e3, e4, e5, ⟨q, c, e6, e7⟩, -⟩, -⟩ := h
  unfold mE mtb
  rw [e2, e3, e6, Option.getD_some, e7.2.2.2.1]
theorem mE_path {p : Nat} {row : Nat → Int32} (x : Int32) (h : Er K I F g p row) : decide (I 356 p 0 = x) = decide (row 1 = x) := by
  rw [h.1.2.1]
theorem fix_pw : ∀ (L : List (Nat → Int32)) (i e : Nat) (row : Nat → Int32), L.Pairwise (fun r r' => ¬ r 0 = r' 0) → L[e]? = some row → fix (fun r => decide (r 0 = row 0)) L i = some (i + e) := by
  intro L
  induction L with
  | nil => intro i e row _ h; simp at h
  | cons x L ih =>
    intro i e row hp h
    rw [List.pairwise_cons] at hp
    cases e with
    | zero =>
      have ex : x = row := by simpa using h
      subst ex
      rw [fix, if_pos (by simp)]
      rfl
    | succ e =>
      have h' : L[e]? = some row := by simpa using h
      have hne := hp.1 row (List.mem_of_getElem? h')
      rw [fix, if_neg (by simpa using hne), ih (i + 1) e row hp.2 h']
      congr 1
      omega
theorem Er_inj (hg : c_gh K g s) {p q : Nat} {row row' : Nat → Int32} (h : Er K I F g p row) (h' : Er K I F g q row') : p = q ↔ row 0 = row' 0 := by
  obtain ⟨-, k, e2, e3, e4, e5⟩ := h
  obtain ⟨-, j, f2, f3, f4, f5⟩ := h'
  have := hg.2.2.2.1
  rw [e2, f2, nI_eq (by omega) (by omega)]
  constructor
  · intro e
    exact (hg.2.2.2.2 j f3 f4).2 k e3 e4 (by rw [e5, f5, e])
  · intro e
    rw [← e5, ← f5, e]
theorem fix_ptr (hg : c_gh K g s) {S : List Nat} {L : List (Nat → Int32)} (h2 : f2 (Er K I F g) S L) (hp : L.Pairwise (fun r r' => ¬ r 0 = r' 0)) {e q : Nat} (hq : S[e]? = some q) : fix (fun p => decide (p = q)) S 0 = some e := by
  obtain ⟨row, h1, hr⟩ := f2_get h2 hq
  rw [f2_fix (q := fun r => decide (r 0 = row 0)) (fun p r hpr => ?_) 0 h2, fix_pw L 0 e row hp h1, Nat.zero_add]
  have := Er_inj hg hpr hr
  by_cases c : p = q
  · rw [decide_eq_true c, decide_eq_true (this.mp c)]
  · rw [decide_eq_false c, decide_eq_false (fun w => c (this.mpr w))]
/-- the rows and their pointers -/
theorem c_find (hR : Rc K I F a g z s) (x v : Int32) : ∃ S c, s.1 804 0 = nI c ∧ st_rep K I F (a 3) (a 4) c S ∧ f2 (Er K I F g) S (s.2 14) ∧ fix (mE I F x v) S 0 = fix (mtb x v) (s.2 14) 0 := by
  obtain ⟨S, c, e1, e2, e3⟩ := hR.2.2.1
  exact ⟨S, c, e1, e2, e3, f2_fix (fun p row h => mE_mtb x v h) 0 e3⟩
theorem fix_lt {α : Type} (p : α → Bool) : ∀ (l : List α) (i j : Nat), fix p l i = some j → i ≤ j ∧ ∃ x, l[j - i]? = some x ∧ p x = true := by
  intro l
  induction l with
  | nil => intro i j h; cases h
  | cons y l ih =>
    intro i j h
    rw [fix] at h
    split at h
    · rename_i hy
      cases h
      exact ⟨Nat.le_refl _, y, by simp, hy⟩
    · obtain ⟨h1, x, h2, h3⟩ := ih (i + 1) j h
      refine ⟨by omega, x, ?_, h3⟩
      rw [show j - i = (j - (i + 1)) + 1 by omega]
      exact h2
end RE
