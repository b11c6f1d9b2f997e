/-! The state alone: ticks, resources, deliveries -/
section JT
variable {N b z t : Nat} {s s' : MS}
/-- the queue of a connection goes, and its marks change -/
theorem J_down (h : J N b t s) (ht : t < 3) (h1 : ∀ k, k ∉ Jno → k ≠ 25 → k ≠ 27 → s'.1 k = s.1 k) (h2 : ∀ k u, k = 25 ∨ k = 27 → u ≠ t → s'.1 k u = s.1 k u) (h3 : s'.1 27 t = 0 ∨ s'.1 27 t = 1) (h4 : ∀ j, j ≠ 100 + t → s'.2 j = s.2 j) (h5 : s'.2 (100 + t) = []) {b' : Nat} (hb : ∀ u, u < 3 → u ≠ t → (u < b' ↔ u < b)) : J N b' 3 s' := by
  obtain ⟨⟨a1, a2⟩, htm, ⟨q1, q2⟩, ⟨f1, f2⟩, hr, e1, e2⟩ := h
  have n3 : ∀ t, t < 3 → s'.1 (300 + t) = s.1 (300 + t) := fun t ht => h1 _ (by simp [Jno]; omega) (by omega) (by omega)
  have hq : ∀ u, u ≠ t → s'.2 (100 + u) = s.2 (100 + u) := fun u hu => h4 _ (by omega)
  have hd : ∀ u, u < 3 → hdz s' 3 u = hdz s t u := fun u hu => by
    unfold hdz
    rw [if_neg (by omega)]
    by_cases e : u = t
    · subst e
      rw [if_pos rfl, h5]
      rfl
    · rw [if_neg e, hq u e]
  refine ⟨⟨fun k hk => ?_, fun u hu => ?_⟩, fun u hu _ h0 hn => ?_, ⟨fun u hu => ?_, fun u v hu hv huv => ?_⟩, ⟨fun row hrow => ?_, fun u hu => ?_⟩, fun p hp => ?_, ⟨fun row hrow => ?_, ?_⟩⟩
  · have nk : ∀ k, k ∈ [805, 806, 817, 820] → k ∉ Jno ∧ k ≠ 25 ∧ k ≠ 27 := by decide
    rw [h1 k (nk k hk).1 (nk k hk).2.1 (nk k hk).2.2]
    exact a1 k hk
  · rw [h1 24 (by decide) (by decide) (by decide), h1 29 (by decide) (by decide) (by decide), h1 28 (by decide) (by decide) (by decide)]
    obtain ⟨b1, b2, b3, b4, b5, b6⟩ := a2 u hu
    refine ⟨b1, b2, b3, b4, ?_, b6⟩
    by_cases e : u = t
    · subst e
      exact h3
    · rw [h2 27 u (Or.inr rfl) e]
      exact b5
  · by_cases e : u = t
    · subst e
      exact absurd h5 hn
    · rw [h2 27 u (Or.inr rfl) e] at h0
      rw [hq u e] at hn
      obtain ⟨k, k1, k2⟩ := htm u hu e h0 hn
      refine ⟨k, ?_, by rw [h1 805 (by decide) (by decide) (by decide), h2 25 u (Or.inl rfl) e]; exact k2⟩
      have := hb u hu e
      by_cases c : u < b
      · rw [if_pos c] at k1
        rw [if_pos (this.mpr c)]
        exact k1
      · rw [if_neg c] at k1
        rw [if_neg (fun w => c (this.mp w))]
        exact k1
  · by_cases e : u = t
    · subst e
      rw [h5]
      exact ⟨fun w hw => absurd hw (by simp), List.Pairwise.nil, fun _ => rfl⟩
    · rw [hq u e, h1 820 (by decide) (by decide) (by decide), h2 27 u (Or.inr rfl) e]
      exact q1 u hu
  · by_cases e : u = t
    · subst e
      rw [h5]
      exact fun w w' hw => absurd hw (by simp)
    · by_cases e' : v = t
      · subst e'
        rw [h5]
        exact fun w w' _ hw => absurd hw (by simp)
      · rw [hq u e, hq v e']
        exact q2 u v hu hv huv
  · rw [h4 31 (by omega)] at hrow
    obtain ⟨u, c1, c2, c3⟩ := f1 row hrow
    exact ⟨u, c1, c2, by rw [hd u c1, h1 24 (by decide) (by decide) (by decide)]; exact c3⟩
  · rw [hd u hu, h1 24 (by decide) (by decide) (by decide), h1 29 (by decide) (by decide) (by decide), n3 u hu]
    exact f2 u hu
  · rw [h1 8 (by decide) (by decide) (by decide), h1 9 (by decide) (by decide) (by decide), h1 10 (by decide) (by decide) (by decide), h1 806 (by decide) (by decide) (by decide)]
    exact hr p hp
  · rw [h4 14 (by omega)] at hrow
    rw [h1 817 (by decide) (by decide) (by decide)]
    exact e1 row hrow
  · rw [h4 14 (by omega)]
    exact e2
theorem m_reps_1 (t : Nat) : ∀ Q s k, k ∉ [17, 18, 19, 20] → (m_reps t Q s).1 k = s.1 k := by
  intro Q
  induction Q with
  | nil => intro s k _; rfl
  | cons w Q ih =>
    intro s k hk
    rw [m_reps, ih _ k hk]
    exact m_rep_1 _ _ _ _ _ _ hk
theorem m_reps_2 (t : Nat) : ∀ Q s j, j ≠ 100 + t → (m_reps t Q s).2 j = s.2 j := by
  intro Q
  induction Q with
  | nil => intro s j _; rfl
  | cons w Q ih =>
    intro s j hj
    rw [m_reps, ih _ j hj, tu_ne _ _ hj, m_rep_2]
theorem m_reps_e (t : Nat) : ∀ Q s, s.2 (100 + t) = Q → (m_reps t Q s).2 (100 + t) = [] := by
  intro Q
  induction Q with
  | nil => intro s h; exact h
  | cons w Q ih =>
    intro s _
    rw [m_reps]
    exact ih _ (tu_at _ _ _)
theorem J_tail (h : J N b t s) (ht : t < 3) {w : Nat → Int32} {Q : List (Nat → Int32)} (hQ : s.2 (100 + t) = w :: Q) : J N b t (tu s (100 + t) Q) := by
  obtain ⟨q1, q2⟩ := h.2.2.1
  obtain ⟨b1, b2, b3⟩ := q1 t ht
  refine J_que h ht (fun x hx => b1 x (by rw [hQ]; exact List.mem_cons_of_mem _ hx)) ?_ (fun e => ?_) (fun u hu hut x x' hx hx' => q2 t u ht hu (Ne.symm hut) x x' (by rw [hQ]; exact List.mem_cons_of_mem _ hx) hx') (Or.inl rfl)
  · rw [hQ, List.pairwise_cons] at b2
    exact b2.2
  · have := b3 e
    rw [hQ] at this
    cases this
theorem J_gu (h : J N t 3 s) (ht : t < 3) (hN : N ≤ 1000) (hG : (s.1 24 t).toInt + 1 ≤ N) {w : Nat → Int32} {Q : List (Nat → Int32)} (hQ : s.2 (100 + t) = w :: Q) : J N (t + 1) 3 (m_gu s t) := by
  have hb : ∀ u, u < 3 → u ≠ t → (u < t + 1 ↔ u < t) := fun u _ hu => by omega
  have h1 : J N t t (tu (m_rep s (w 0) 504 0 0 0) (100 + t) Q) := J_tail (J_rep (J_open h t) _ _ _ _ _) ht (by rw [m_rep_2]; exact hQ)
  unfold m_gu
  rw [hQ]
  simp only []
  split
  · refine J_down h1 ht (fun k k1 k2 k3 => ?_) (fun k u hk hu => ?_) (Or.inr ?_) (fun j hj => ?_) ?_ hb
    · have : k ∉ [17, 18, 19, 20] := fun w => k1 (by
        have : ∀ k, k ∈ [17, 18, 19, 20] → k ∈ Jno := by decide
        exact this k w)
      rw [m_reps_1 _ _ _ _ this, cw_ne _ _ _ k2, cw_ne _ _ _ (fun e => k1 (by rw [e]; decide)), cw_ne _ _ _ k3, cw_ne _ _ _ (fun e => k1 (by rw [e]; decide))]
    · rcases hk with rfl | rfl
      · rw [m_reps_1 _ _ _ _ (by decide), cw_at]
        show (if u = t then _ else _) = _
        rw [if_neg hu, cw_ne _ _ _ (by decide), cw_ne _ _ _ (by decide), cw_ne _ _ _ (by decide)]
      · rw [m_reps_1 _ _ _ _ (by decide), cw_ne _ _ _ (by decide), cw_ne _ _ _ (by decide), cw_at]
        show (if u = t then _ else _) = _
        rw [if_neg hu, cw_ne _ _ _ (by decide)]
    · rw [m_reps_1 _ _ _ _ (by decide), cw_ne _ _ _ (by decide), cw_ne _ _ _ (by decide), cw_at]
      exact if_pos rfl
    · rw [m_reps_2 _ _ _ _ hj]
      rfl
    · exact m_reps_e _ _ _ (tu_at _ _ _)
  · refine J_beg (J_no (by decide) h1) ht hN ?_ hb
    have e : ∀ X : MS, (cw (tu X (100 + t) Q) 26 t ((tu X (100 + t) Q).1 26 t + 1)).1 24 t = X.1 24 t := fun X => by rw [cw_ne _ _ _ (by decide)]; rfl
    rw [e, m_rep_1 _ _ _ _ _ _ (by decide)]
    exact hG
theorem J_b (h : J N t 3 s) (h0 : s.1 27 t = 0 → ¬ s.2 (100 + t) = [] → ∃ k, k ≤ 11 ∧ s.1 805 0 - s.1 25 t = nI k) : J N (t + 1) 3 s := by
  obtain ⟨ha, htm, hr⟩ := h
  refine ⟨ha, fun u hu hz a1 a2 => ?_, hr⟩
  by_cases e : u = t
  · subst e
    rw [if_pos (by omega)]
    exact h0 a1 a2
  · obtain ⟨k, k1, k2⟩ := htm u hu hz a1 a2
    refine ⟨k, ?_, k2⟩
    by_cases c : u < t
    · rw [if_pos c] at k1
      rw [if_pos (by omega)]
      exact k1
    · rw [if_neg c] at k1
      rw [if_neg (by omega)]
      exact k1
theorem prow_ok {G : Int32} {hd : Option (Nat → Int32)} {x : Int32} (hG : 0 ≤ G.toInt) : fOk G hd (prow x) :=
  ⟨Or.inl rfl, by show (0 : Int) ≤ 0; omega, hG, fun h => absurd rfl h, fun h => absurd rfl h, fun h => absurd rfl h⟩
theorem J_tk (h : J N t 3 s) (ht : t < 3) (hN : N ≤ 1000) (hG : (s.1 24 t).toInt + 1 ≤ N) : J N (t + 1) 3 (m_tk s t) := by
  unfold m_tk
  split
  · rename_i h27
    split
    · rename_i hQ
      exact J_b h (fun _ hn => absurd hQ hn)
    · rename_i w Q hQ
      obtain ⟨k, k1, k2⟩ := h.2.1 t ht (by omega) h27 (by rw [hQ]; exact List.cons_ne_nil _ _)
      rw [if_neg (by omega)] at k1
      split
      · exact J_gu h ht hN hG hQ
      · rename_i h12
        have k11 : k ≤ 11 := by
          rcases Nat.lt_or_ge k 12 with c | c
          · omega
          · have : k = 12 := by omega
            subst this
            exact absurd k2 h12
        have h' := J_b h (fun _ _ => ⟨k, k11, k2⟩)
        split
        · exact J_sf h' ht
        · exact h'
  · rename_i h27
    have h' : J N (t + 1) 3 s := J_b h (fun z => absurd z h27)
    split
    · exact J_send h' ⟨t, ht, rfl, prow_ok (h.1.2 t ht).1⟩
    · exact h'
theorem m_gu_24 {u : Nat} (hu : u ≠ t) : (m_gu s t).1 24 u = s.1 24 u := by
  unfold m_gu
  split
  · rfl
  · split
    · rw [m_reps_1 _ _ _ _ (by decide), cw_ne _ _ _ (by decide), cw_ne _ _ _ (by decide), cw_ne _ _ _ (by decide), cw_ne _ _ _ (by decide)]
      show (m_rep s _ 504 0 0 0).1 24 u = _
      rw [m_rep_1 _ _ _ _ _ _ (by decide)]
    · unfold m_beg
      split
      · rw [cw_ne _ _ _ (by decide)]
        show (m_rep s _ 504 0 0 0).1 24 u = _
        rw [m_rep_1 _ _ _ _ _ _ (by decide)]
      · rw [m_sf_T, cw_ne _ _ _ (by decide), cw_at]
        show (if u = t then _ else _) = _
        rw [if_neg hu, cw_ne _ _ _ (by decide)]
        show (m_rep s _ 504 0 0 0).1 24 u = _
        rw [m_rep_1 _ _ _ _ _ _ (by decide)]
theorem m_tk_24 {u : Nat} (hu : u ≠ t) : (m_tk s t).1 24 u = s.1 24 u := by
  unfold m_tk
  split
  · split
    · rfl
    · split
      · exact m_gu_24 hu
      · split
        · rw [m_sf_T]
        · rfl
  · split <;> rfl
theorem J_tks : ∀ n t s, 3 - t = n → t ≤ 3 → J N t 3 s → N ≤ 1000 → (∀ u, t ≤ u → u < 3 → (s.1 24 u).toInt + 1 ≤ N) → J N 3 3 (m_tks n t s) := by
  intro n
  induction n with
  | zero =>
    intro t s hn ht h _ _
    have : t = 3 := by omega
    subst this
    exact h
  | succ n ih =>
    intro t s hn ht h hN hG
    rw [m_tks]
    refine ih (t + 1) _ (by omega) (by omega) (J_tk h (by omega) hN (hG t (Nat.le_refl _) (by omega))) hN (fun u h1 h2 => ?_)
    rw [m_tk_24 (by omega)]
    exact hG u (by omega) h2
theorem J_time (h : J N 3 3 s) (hN : N < 1000) : J (N + 1) 0 3 (cw s 805 0 (s.1 805 0 + 1)) := by
  have t0 := h.1.1 805 (by decide)
  have ti := jinc (x := s.1 805 0) (by omega) (by omega)
  have e1 : (cw s 805 0 (s.1 805 0 + 1)).1 805 0 = s.1 805 0 + 1 := by rw [cw_at]; exact if_pos rfl
  obtain ⟨⟨a1, a2⟩, htm, hq, ⟨f1, f2⟩, hr, he⟩ := J_up h
  refine ⟨⟨fun k hk => ?_, a2⟩, fun u hu hz h0 hn => ?_, hq, ⟨f1, fun u hu => ?_⟩, hr, he⟩
  · by_cases e : k = 805
    · subst e
      rw [e1, ti]
      omega
    · rw [cw_ne _ _ _ e]
      exact a1 k hk
  · obtain ⟨k, k1, k2⟩ := htm u hu hz h0 hn
    rw [if_pos (by omega)] at k1
    refine ⟨k + 1, by rw [if_neg (by omega)]; omega, ?_⟩
    rw [e1, ← nI_1, ← k2]
    show s.1 805 0 + 1 - s.1 25 u = _
    rw [Int32.sub_eq_add_neg, Int32.sub_eq_add_neg, Int32.add_assoc, Int32.add_comm 1, ← Int32.add_assoc]
  · rw [cw_ne _ _ _ (show 300 + u ≠ 805 by omega)]
    exact f2 u hu
theorem J_tick (h : J N 3 3 s) (hN : N < 1000) : J (N + 1) 3 3 (m_tick s) := by
  refine J_tks 3 0 _ rfl (by omega) (J_time h hN) (by omega) (fun u _ hu => ?_)
  show (s.1 24 u).toInt + 1 ≤ _
  have := (h.1.2 u hu).2.1
  omega
theorem J_prb (h : J N b 3 s) (ht : t < 3) : J N b 3 (m_prb s t) := by
  unfold m_prb
  have h' : J N b 3 (cw s 26 t 0) := J_no (by decide) h
  obtain ⟨⟨a1, a2⟩, htm, ⟨q1, q2⟩, ⟨f1, f2⟩, hr, he⟩ := h'
  have e27 : ∀ u, (cw (cw s 26 t 0) 27 t 0).1 27 u = if u = t then 0 else (cw s 26 t 0).1 27 u := fun u => by rw [cw_at]; rfl
  refine ⟨⟨fun k hk => ?_, fun u hu => ?_⟩, fun u hu hz h0 hn => ?_, ⟨fun u hu => ?_, q2⟩, ⟨f1, fun u hu => ?_⟩, hr, he⟩
  · have nk : ∀ k, k ∈ [805, 806, 817, 820] → k ≠ 27 := by decide
    rw [cw_ne _ _ _ (nk k hk)]
    exact a1 k hk
  · obtain ⟨b1, b2, b3, b4, b5, b6⟩ := a2 u hu
    refine ⟨b1, b2, b3, b4, ?_, b6⟩
    rw [e27]
    by_cases e : u = t
    · rw [if_pos e]
      exact Or.inl rfl
    · rw [if_neg e]
      exact b5
  · rw [e27] at h0
    by_cases e : u = t
    · subst e
      rcases (a2 u hu).2.2.2.2.1 with w | w
      · exact htm u hu hz w hn
      · exact absurd ((q1 u hu).2.2 (by rw [w]; decide)) hn
    · rw [if_neg e] at h0
      exact htm u hu hz h0 hn
  · obtain ⟨b1, b2, b3⟩ := q1 u hu
    refine ⟨b1, b2, fun hd => ?_⟩
    rw [e27] at hd
    by_cases e : u = t
    · rw [if_pos e] at hd
      exact absurd rfl hd
    · rw [if_neg e] at hd
      exact b3 hd
  · rw [cw_ne _ _ _ (show 300 + u ≠ 27 by omega)]
    exact f2 u hu
/-- resources -/
theorem J_res (h : J N b z s) (h1 : ∀ k, k ∉ Jno → k ∉ [8, 9, 10, 806] → s'.1 k = s.1 k) (h2 : s'.2 = s.2) (h3 : 0 ≤ (s'.1 806 0).toInt ∧ (s'.1 806 0).toInt ≤ N) (h4 : Jr s') : J N b z s' := by
  have hs : J N b z (s'.1, s.2) := by
    obtain ⟨⟨a1, a2⟩, ht, ⟨q1, q2⟩, ⟨f1, f2⟩, hr, e1, e2⟩ := h
    have g : ∀ k, k ∉ Jno → k ∉ [8, 9, 10, 806] → (s'.1, s.2).1 k = s.1 k := h1
    have n3 : ∀ t, t < 3 → (s'.1, s.2).1 (300 + t) = s.1 (300 + t) := fun t ht => g _ (by simp [Jno]; omega) (by simp; omega)
    refine ⟨⟨fun k hk => ?_, fun u hu => ?_⟩, fun u hu hz => ?_, ⟨fun u hu => ?_, q2⟩, ⟨fun row hrow => ?_, fun u hu => ?_⟩, h4, ⟨fun row hrow => ?_, e2⟩⟩
    · by_cases e : k = 806
      · subst e
        exact h3
      · have nk : ∀ k, k ∈ [805, 806, 817, 820] → k ≠ 806 → k ∉ Jno ∧ k ∉ [8, 9, 10, 806] := by decide
        rw [g k (nk k hk e).1 (nk k hk e).2]
        exact a1 k hk
    · rw [g 24 (by decide) (by decide), g 29 (by decide) (by decide), g 27 (by decide) (by decide), g 28 (by decide) (by decide)]
      exact a2 u hu
    · rw [g 27 (by decide) (by decide), g 805 (by decide) (by decide), g 25 (by decide) (by decide)]
      exact ht u hu hz
    · rw [g 820 (by decide) (by decide), g 27 (by decide) (by decide)]
      exact q1 u hu
    · rw [g 24 (by decide) (by decide)]
      exact f1 row hrow
    · rw [g 24 (by decide) (by decide), g 29 (by decide) (by decide), n3 u hu]
      exact f2 u hu
    · rw [g 817 (by decide) (by decide)]
      exact e1 row hrow
  have e : s' = (s'.1, s.2) := by rw [← h2]
  rw [e]
  exact hs
theorem J_wd {p : Nat} (h : J N b z s) : J N b z (cw s 8 p 0) := by
  refine J_res h (fun k _ k2 => cw_ne _ _ _ (fun e => k2 (by rw [e]; decide))) rfl (h.1.1 806 (by decide)) (fun q hq hv => ?_)
  have e : (cw s 8 p 0).1 8 q = if q = p then 0 else s.1 8 q := by rw [cw_at]; rfl
  rw [e] at hv ⊢
  by_cases c : q = p
  · rw [if_pos c] at hv
    exact absurd rfl hv
  · rw [if_neg c] at hv ⊢
    exact h.2.2.2.2.1 q hq hv
theorem J_pw {p : Nat} {y : Int32} (h : J N b 3 s) (hy : y = 0 ∨ y = 1) : J N b 3 (cw s 28 p (1 - y)) := by
  obtain ⟨⟨a1, a2⟩, htm, hq, ⟨f1, f2⟩, hr, he⟩ := h
  refine ⟨⟨fun k hk => ?_, fun u hu => ?_⟩, htm, hq, ⟨f1, fun u hu => ?_⟩, hr, he⟩
  · have nk : ∀ k, k ∈ [805, 806, 817, 820] → k ≠ 28 := by decide
    rw [cw_ne _ _ _ (nk k hk)]
    exact a1 k hk
  · obtain ⟨b1, b2, b3, b4, b5, b6⟩ := a2 u hu
    refine ⟨b1, b2, b3, b4, b5, ?_⟩
    have e : (cw s 28 p (1 - y)).1 28 u = if u = p then 1 - y else s.1 28 u := by rw [cw_at]; rfl
    rw [e]
    by_cases c : u = p
    · rw [if_pos c]
      rcases hy with rfl | rfl
      · exact Or.inr rfl
      · exact Or.inl rfl
    · rw [if_neg c]
      exact b6
  · rw [cw_ne _ _ _ (show 300 + u ≠ 28 by omega)]
    exact f2 u hu
theorem J_pub {p n m : Nat} {y : Int32} (h : J N 3 3 s) (hN : N < 1000) (hy : y = 0 ∨ y = 1) (h1 : 1 ≤ m) (h9 : m ≤ 9) : J (N + 1) 3 3 (m_pub s p n (nI m) y) := by
  have h0 := J_up (J_parse h n)
  have v0 := h.1.1 806 (by decide)
  have vi := jinc (x := s.1 806 0) (by omega) (by omega)
  unfold m_pub m_pub3
  refine J_no (by decide) (J_no (by decide) (J_no (by decide) (J_no (by decide) ?_)))
  have e806 : (m_pub2 (m_parse s n) p (nI m) y).1 806 0 = s.1 806 0 + 1 := by
    unfold m_pub2
    rw [cw_ne _ _ _ (by decide), cw_ne _ _ _ (by decide), cw_ne _ _ _ (by decide), cw_at]
    exact if_pos rfl
  refine J_res h0 (fun k _ k2 => ?_) rfl ?_ (fun q hq hv => ?_)
  · unfold m_pub2
    rw [cw_ne _ _ _ (fun e => k2 (by rw [e]; decide)), cw_ne _ _ _ (fun e => k2 (by rw [e]; decide)), cw_ne _ _ _ (fun e => k2 (by rw [e]; decide)), cw_ne _ _ _ (fun e => k2 (by rw [e]; decide))]
  · rw [e806, vi]
    omega
  · have e8 : (m_pub2 (m_parse s n) p (nI m) y).1 8 q = if q = p then s.1 806 0 + 1 else s.1 8 q := by
      unfold m_pub2
      rw [cw_ne _ _ _ (by decide), cw_ne _ _ _ (by decide), cw_at, cw_ne _ _ _ (by decide)]
      rfl
    have e9 : (m_pub2 (m_parse s n) p (nI m) y).1 9 q = if q = p then nI m else s.1 9 q := by
      unfold m_pub2
      rw [cw_ne _ _ _ (by decide), cw_at, cw_ne _ _ _ (by decide), cw_ne _ _ _ (by decide)]
      rfl
    have e10 : (m_pub2 (m_parse s n) p (nI m) y).1 10 q = if q = p then y else s.1 10 q := by
      unfold m_pub2
      rw [cw_at, cw_ne _ _ _ (by decide), cw_ne _ _ _ (by decide), cw_ne _ _ _ (by decide)]
      rfl
    rw [e8] at hv
    rw [e8, e9, e10, e806, vi]
    by_cases c : q = p
    · rw [if_pos c, if_pos c, if_pos c]
      exact ⟨by omega, by omega, ⟨m, h1, h9, rfl⟩, hy⟩
    · rw [if_neg c] at hv
      rw [if_neg c, if_neg c, if_neg c]
      obtain ⟨d1, d2, d3, d4⟩ := h.2.2.2.2.1 q hq hv
      exact ⟨d1, by omega, d3, d4⟩
end JT
