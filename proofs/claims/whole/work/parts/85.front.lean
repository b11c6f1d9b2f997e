/-! What an answer comes to: the state and the rows -/
def T26 (s : MS) (t : Nat) (Q : List (Nat → Int32)) : MS := tu (cw s 26 t 0) (100 + t) Q
section TT
variable {s : MS} {t : Nat} {Q : List (Nat → Int32)}
theorem tu_comm (s : MS) {k j : Nat} (L M : List (Nat → Int32)) (h : k ≠ j) : tu (tu s j M) k L = tu (tu s k L) j M := by
  refine Prod.ext rfl ?_
  funext i
  show (if i = k then L else if i = j then M else s.2 i) = (if i = j then M else if i = k then L else s.2 i)
  by_cases e1 : i = k
  · rw [if_pos e1, if_pos e1, if_neg (by omega)]
  · rw [if_neg e1, if_neg e1]
theorem T_tu (L : List (Nat → Int32)) : tu (T26 s t Q) 14 L = T26 (tu s 14 L) t Q := by
  unfold T26
  rw [tu_comm _ _ _ (by omega)]
  rfl
theorem T_cw {k i : Nat} {x : Int32} (h : k ≠ 26) : cw (T26 s t Q) k i x = T26 (cw s k i x) t Q := by
  unfold T26
  have e : ∀ (X : MS) (M : List (Nat → Int32)), cw (tu X (100 + t) M) k i x = tu (cw X k i x) (100 + t) M := fun _ _ => rfl
  rw [e, cw_comm s t i 0 x h]
theorem T_1 {k : Nat} (h : k ≠ 26) : (T26 s t Q).1 k = s.1 k := cw_ne _ _ _ h
theorem T_14 : (T26 s t Q).2 14 = s.2 14 := tu_ne _ _ (by omega)
theorem T_rep (r c t1 ag w : Int32) : m_rep (T26 s t Q) r c t1 ag w = T26 (m_rep s r c t1 ag w) t Q := by
  unfold m_rep
  rw [T_1 (by decide)]
  split
  · rw [T_cw (by decide), T_cw (by decide), T_cw (by decide), T_cw (by decide)]
  · rfl
theorem T_an1 {cm w : Nat → Int32} : m_an1 (T26 s t Q) cm w = T26 (m_an1 s cm w) t Q := by
  unfold m_an1
  rw [T_1 (by decide), T_rep, T_rep]
  split <;> rfl
theorem T_dr {p v x : Int32} : m_dr (T26 s t Q) p v x = T26 (m_dr s p v x) t Q := by
  unfold m_dr
  rw [T_14, T_tu]
theorem T_ev {n : Int32} : m_ev (T26 s t Q) n = T26 (m_ev s n) t Q := by
  unfold m_ev
  rw [T_14, T_1 (by decide), T_tu]
theorem T_add {p v : Int32} {cm : Nat → Int32} : m_add (T26 s t Q) p v cm = T26 (m_add s p v cm) t Q := by
  unfold m_add
  rw [T_14, T_1 (by decide), T_cw (by decide), T_tu]
theorem T_an2 {cm w : Nat → Int32} : m_an2 (T26 s t Q) cm w = T26 (m_an2 s cm w) t Q := by
  unfold m_an2
  rw [T_1 (by decide), T_14]
  split
  · split
    · unfold m_store
      rw [T_dr, T_ev, T_add]
    · rfl
  · split
    · unfold m_conf
      split
      · rfl
      · rw [T_14]
        split
        · rfl
        · rw [T_tu]
    · split
      · exact T_dr
      · split
        · exact T_dr
        · rfl
theorem T_answered {cm w : Nat → Int32} : m_answered s t cm w Q = m_beg (m_an2 (m_an1 (T26 s t Q) cm w) cm w) t := by
  rw [T_an1, T_an2]
  rfl
end TT
theorem f2_mapr {α β γ : Type} {R : α → β → Prop} {R' : α → γ → Prop} (f : β → γ) (h : ∀ a b, R a b → R' a (f b)) : ∀ {l : List α} {m : List β}, f2 R l m → f2 R' l (m.map f) := by
  intro l
  induction l with
  | nil =>
    intro m hm
    cases m with
    | nil => trivial
    | cons b m => exact hm.elim
  | cons x l ih =>
    intro m hm
    cases m with
    | nil => exact hm.elim
    | cons y m => exact ⟨h x y hm.1, ih hm.2⟩
theorem alw_stb (N : Nat → Int32) (h : ∀ j, j < 7 → N j = -1 ∨ 0 ≤ N j) : stb (tx_4 N 0) (tx_4 N 1) = alw N := by
  have ln : life N = -1 ∨ 0 ≤ life N := by unfold life; split; exact h 4 (by decide); exact h 5 (by decide)
  have e1 : tx_4 N 1 = life N := rfl
  have h6 := tx_bit6 (N := N)
  unfold stb alw
  rw [e1]
  have hl : (!decide (life N < 0)) = decide (¬ life N = -1) := by
    by_cases e : life N = -1
    · rw [decide_eq_true ((m1_lt ln).mpr e), decide_eq_false (fun w => w e)]
      rfl
    · rw [decide_eq_false (fun w => e ((m1_lt ln).mp w)), decide_eq_true e]
      rfl
  rw [hl]
  congr 1
  by_cases e1 : N 1 = -1
  · by_cases e2 : N 2 = -1
    · rw [decide_eq_true (h6.mpr ⟨e1, e2⟩), decide_eq_true e1, decide_eq_true e2]; rfl
    · rw [decide_eq_false (fun w => e2 (h6.mp w).2), decide_eq_true e1, decide_eq_false e2]; rfl
  · rw [decide_eq_false (fun w => e1 (h6.mp w).1), decide_eq_false e1]; rfl
section RV
variable {K : ex_K} {I : ex_I} {F : ex_F} {a : Nat → Nat} {g : GH} {s : MS} {z : Nat}
theorem Er_sz {p : Nat} {row : Nat → Int32} (h : Er K I F g p row) (he : ent_ok K I F p) : row 3 = nI (szN I F p) := by
  obtain ⟨⟨e1, e2, e3, e4, e5, ⟨q, c, e6, e7⟩, -⟩, -⟩ := h
  rw [← szN_at he e6, e7.2.2.1]
theorem f2_rsum : ∀ {S : List Nat} {L : List (Nat → Int32)}, f2 (Er K I F g) S L → (∀ p, p ∈ S → ent_ok K I F p) → rsum L = nI (S.map (szN I F)).sum := by
  intro S
  induction S with
  | nil =>
    intro L h _
    cases L with
    | nil => rfl
    | cons r L => exact h.elim
  | cons p S ih =>
    intro L h he
    cases L with
    | nil => exact h.elim
    | cons r L =>
      rw [rsum, ih h.2 (fun q hq => he q (List.mem_cons_of_mem _ hq)), Er_sz h.1 (he p List.mem_cons_self), nI_add]
      rfl
theorem f2_ev {cap n : Nat} (hc : cap < 1000) (hn : n < 1000) : ∀ {S : List Nat} {L : List (Nat → Int32)}, f2 (Er K I F g) S L → (∀ p, p ∈ S → ent_ok K I F p) → (S.map (szN I F)).sum < 1000 → f2 (Er K I F g) (evi (szN I F) cap n S) (evr (nI cap) (nI n) L) := by
  intro S
  induction S with
  | nil =>
    intro L h _ _
    cases L with
    | nil => trivial
    | cons r L => exact h.elim
  | cons p S ih =>
    intro L h he hs
    cases L with
    | nil => exact h.elim
    | cons r L =>
      have hr := f2_rsum h he
      rw [evi, evr, hr, nI_add]
      have hs2 : (S.map (szN I F)).sum < 1000 := by
        rw [List.map_cons, List.sum_cons] at hs
        omega
      by_cases c : ((p :: S).map (szN I F)).sum + n ≤ cap
      · rw [if_pos c, if_pos ((nI_leI (by omega) (by omega)).mpr c)]
        exact h
      · rw [if_neg c, if_neg (fun w => c ((nI_leI (by omega) (by omega)).mp w))]
        exact ih h.2 (fun q hq => he q (List.mem_cons_of_mem _ hq)) hs2
theorem f2_mem {α β : Type} {R : α → β → Prop} : ∀ {l : List α} {m : List β}, f2 R l m → ∀ b, b ∈ m → ∃ a, a ∈ l ∧ R a b := by
  intro l
  induction l with
  | nil =>
    intro m h b hb
    cases m with
    | nil => cases hb
    | cons y m => exact h.elim
  | cons x l ih =>
    intro m h b hb
    cases m with
    | nil => exact h.elim
    | cons y m =>
      rcases List.mem_cons.mp hb with e | e
      · subst e
        exact ⟨x, List.mem_cons_self, h.1⟩
      · obtain ⟨p, h1, h2⟩ := ih h.2 b e
        exact ⟨p, List.mem_cons_of_mem _ h1, h2⟩
end RV
/-- a row that is confirmed -/
def cfr (x : Int32) (cm row : Nat → Int32) : Nat → Int32 := if row 0 = x then crw row cm else row
theorem cfr_none {x : Int32} {cm : Nat → Int32} : ∀ {L : List (Nat → Int32)} {i : Nat}, fix (fun r => decide (r 0 = x)) L i = none → L.map (cfr x cm) = L := by
  intro L
  induction L with
  | nil => intro _ _; rfl
  | cons r L ih =>
    intro i h
    rw [fix] at h
    split at h
    · cases h
    · rename_i hr
      rw [List.map_cons, ih h]
      unfold cfr
      rw [if_neg (by simpa using hr)]
theorem er_map {α β : Type} (f : α → β) : ∀ (L : List α) (e : Nat), (L.map f).eraseIdx e = (L.eraseIdx e).map f := by
  intro L
  induction L with
  | nil => intro e; rfl
  | cons x L ih =>
    intro e
    cases e with
    | zero => rfl
    | succ e =>
      rw [List.map_cons, List.eraseIdx_cons_succ, List.eraseIdx_cons_succ, List.map_cons, ih e]
theorem cfr_erase {x : Int32} {cm row : Nat → Int32} {L : List (Nat → Int32)} {e : Nat} (hp : L.Pairwise (fun r r' => ¬ r 0 = r' 0)) (he : L[e]? = some row) (hx : row 0 = x) : (L.map (cfr x cm)).eraseIdx e = L.eraseIdx e := by
  have hpw : (row :: L.eraseIdx e).Pairwise (fun r r' => ¬ r 0 = r' 0) := (List.Perm.pairwise_iff (fun {x y} h w => h w.symm) (pw_perm he)).mp hp
  rw [List.pairwise_cons] at hpw
  rw [er_map]
  have gen : ∀ M : List (Nat → Int32), (∀ r, r ∈ M → ¬ row 0 = r 0) → M.map (cfr x cm) = M := by
    intro M
    induction M with
    | nil => intro _; rfl
    | cons y M ih =>
      intro h
      rw [List.map_cons, ih (fun r hr => h r (List.mem_cons_of_mem _ hr))]
      unfold cfr
      rw [if_neg (fun w => h y List.mem_cons_self (by rw [w, hx]))]
  exact gen _ (fun r hr => hpw.1 r hr)
