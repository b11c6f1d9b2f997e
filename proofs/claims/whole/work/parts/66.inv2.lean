/-! The state alone: begin, pass, tick -/
section JB
variable {N b z t : Nat} {s s' : MS}
theorem own3 : ∀ p, p < 8 → own p < 3 := by decide
theorem J_nil (h : J N b t s) (hQ : s.2 (100 + t) = []) {b' : Nat} (hb : ∀ u, u < 3 → u ≠ t → (u < b' ↔ u < b)) : J N b' 3 s := by
  obtain ⟨ha, ht, hq, ⟨f1, f2⟩, hr, he⟩ := h
  have hd : ∀ u, u < 3 → hdz s 3 u = hdz s t u := fun u hu => by
    unfold hdz
    rw [if_neg (by omega)]
    by_cases e : u = t
    · subst e
      rw [if_pos rfl, hQ]
      rfl
    · rw [if_neg e]
  refine ⟨ha, fun u hu _ h0 hn => ?_, hq, ⟨fun r hrow => ?_, fun u hu hn => ?_⟩, hr, he⟩
  · by_cases e : u = t
    · subst e
      exact absurd hQ hn
    · obtain ⟨k, k1, k2⟩ := ht u hu e h0 hn
      refine ⟨k, ?_, k2⟩
      have := hb u hu e
      by_cases c : u < b
      · rw [if_pos c] at k1
        rw [if_pos (this.mpr c)]
        exact k1
      · rw [if_neg c] at k1
        rw [if_neg (fun w => c (this.mp w))]
        exact k1
  · obtain ⟨u, g1, g2, g3⟩ := f1 r hrow
    exact ⟨u, g1, g2, by rw [hd u g1]; exact g3⟩
  · rw [hd u hu]
    exact f2 u hu hn
theorem rqr_ok {G : Int32} {w : Nat → Int32} {M : Int32} (hG : 0 ≤ G.toInt) (hw : rOk t M w) : fOk G (some w) (rqr (nI t) G w) := by
  obtain ⟨⟨p, p1, p2, -⟩, c2, c3, c4, -⟩ := hw
  refine ⟨Or.inl rfl, hG, Int.le_refl _, fun _ _ => ⟨⟨p, p1, p2⟩, c2, c3, c4⟩, fun _ h => absurd (show (0 : Int32) = 1 from h) (by decide), fun _ _ w' hw' => ?_⟩
  cases hw'
  exact ⟨fun _ => ⟨rfl, rfl⟩, fun h => absurd (show (0 : Int32) = 1 from h) (by decide)⟩
theorem J_beg (h : J N b t s) (ht : t < 3) (hN : N ≤ 1000) (hG : (s.1 24 t).toInt + 1 ≤ N) {b' : Nat} (hb : ∀ u, u < 3 → u ≠ t → (u < b' ↔ u < b)) : J N b' 3 (m_beg s t) := by
  unfold m_beg
  split
  · rename_i hQ
    exact J_nil h hQ hb
  · rename_i w Q hQ
    obtain ⟨⟨a1, a2⟩, htm, ⟨q1, q2⟩, ⟨f1, f2⟩, hr, he⟩ := h
    obtain ⟨g1, g2, g3, g4, g5, g6⟩ := a2 t ht
    have gi := jinc g1 (by omega)
    have e24 : ∀ u, (cw (cw s 24 t (s.1 24 t + 1)) 25 t (s.1 805 0)).1 24 u = if u = t then s.1 24 t + 1 else s.1 24 u := fun u => by
      rw [cw_ne _ _ _ (by decide), cw_at]
      rfl
    have e25 : ∀ u, (cw (cw s 24 t (s.1 24 t + 1)) 25 t (s.1 805 0)).1 25 u = if u = t then s.1 805 0 else s.1 25 u := fun u => by
      rw [cw_at, cw_ne _ _ _ (by decide)]
      rfl
    have e3 : ∀ u, u < 3 → (cw (cw s 24 t (s.1 24 t + 1)) 25 t (s.1 805 0)).1 (300 + u) = s.1 (300 + u) := fun u hu => by
      rw [cw_ne _ _ _ (by omega), cw_ne _ _ _ (by omega)]
    have hf : ∀ u, u < 3 → ∀ row, fOk (s.1 24 u) (hdz s t u) row → fOk ((cw (cw s 24 t (s.1 24 t + 1)) 25 t (s.1 805 0)).1 24 u) (hdz (cw (cw s 24 t (s.1 24 t + 1)) 25 t (s.1 805 0)) 3 u) row := by
      intro u hu row hrow
      rw [e24]
      by_cases e : u = t
      · subst e
        rw [if_pos rfl]
        exact fOk_none hrow (by omega) (Or.inr ⟨jne (by omega), by omega⟩)
      · rw [if_neg e]
        unfold hdz at hrow ⊢
        rw [if_neg e] at hrow
        rw [if_neg (by omega)]
        exact hrow
    have hJ : J N b' 3 (cw (cw s 24 t (s.1 24 t + 1)) 25 t (s.1 805 0)) := by
      refine ⟨⟨fun k hk => ?_, fun u hu => ?_⟩, fun u hu _ h0 hn => ?_, ⟨q1, q2⟩, ⟨fun row hrow => ?_, fun u hu hn => ?_⟩, hr, he⟩
      · have nk : ∀ k, k ∈ [805, 806, 817, 820] → k ≠ 24 ∧ k ≠ 25 := by decide
        rw [cw_ne _ _ _ (nk k hk).2, cw_ne _ _ _ (nk k hk).1]
        exact a1 k hk
      · rw [e24]
        obtain ⟨b1, b2, b3, b4, b5, b6⟩ := a2 u hu
        by_cases e : u = t
        · subst e
          rw [if_pos rfl]
          refine ⟨by omega, by omega, b3, ?_, b5, b6⟩
          show (s.1 29 u).toInt ≤ _
          omega
        · rw [if_neg e]
          exact ⟨b1, b2, b3, b4, b5, b6⟩
      · rw [e25]
        by_cases e : u = t
        · subst e
          rw [if_pos rfl]
          exact ⟨0, Nat.zero_le _, Int32.sub_self _⟩
        · rw [if_neg e]
          obtain ⟨k, k1, k2⟩ := htm u hu e h0 hn
          refine ⟨k, ?_, k2⟩
          have := hb u hu e
          by_cases c : u < b
          · rw [if_pos c] at k1
            rw [if_pos (this.mpr c)]
            exact k1
          · rw [if_neg c] at k1
            rw [if_neg (fun w => c (this.mp w))]
            exact k1
      · obtain ⟨u, c1, c2, c3⟩ := f1 row hrow
        exact ⟨u, c1, c2, hf u c1 row c3⟩
      · rw [e3 u hu]
        obtain ⟨c1, c2, c3, c4⟩ := f2 u hu hn
        exact ⟨c1, c2, c3, hf u hu _ c4⟩
    have hQ2 : (cw (cw s 24 t (s.1 24 t + 1)) 25 t (s.1 805 0)).2 (100 + t) = w :: Q := hQ
    unfold m_sf
    rw [hQ2]
    refine J_send hJ ⟨t, ht, rfl, ?_⟩
    unfold hdz
    rw [if_neg (by omega), hQ2, e24, if_pos rfl]
    exact rqr_ok (M := s.1 820 0) (by omega) ((q1 t ht).1 w (by rw [hQ]; exact List.mem_cons_self))
theorem J_sf (h : J N b 3 s) (ht : t < 3) : J N b 3 (m_sf s t) := by
  unfold m_sf
  split
  · exact h
  · rename_i w Q hQ
    refine J_send h ⟨t, ht, rfl, ?_⟩
    unfold hdz
    rw [if_neg (by omega), hQ]
    exact rqr_ok (M := s.1 820 0) (h.1.2 t ht).1 ((h.2.2.1.1 t ht).1 w (by rw [hQ]; exact List.mem_cons_self))
theorem J_ps2 {w : Nat → Int32} (h : J N b 3 s) (ht : t < 3) (hN : N ≤ 1000) (hG : (s.1 24 t).toInt + 1 ≤ N) (hw : rOk t (s.1 820 0) w) (hf : ∀ u, u < 3 → ∀ w', w' ∈ s.2 (100 + u) → ¬ w 0 = w' 0) (h27 : s.1 27 t = 0) : J N b 3 (m_ps2 s t w) := by
  have hq1 : ∀ x, x ∈ s.2 (100 + t) ++ [w] → rOk t (s.1 820 0) x := fun x hx => by
    rcases List.mem_append.mp hx with e | e
    · exact (h.2.2.1.1 t ht).1 x e
    · rw [List.mem_singleton] at e
      rw [e]
      exact hw
  have hq2 : (s.2 (100 + t) ++ [w]).Pairwise (fun w w' => ¬ w 0 = w' 0) := by
    rw [List.pairwise_append]
    refine ⟨(h.2.2.1.1 t ht).2.1, List.pairwise_singleton _ _, fun x hx y hy => ?_⟩
    rw [List.mem_singleton] at hy
    rw [hy]
    exact fun e => hf t ht x hx e.symm
  have hq4 : ∀ u, u < 3 → u ≠ t → ∀ x x', x ∈ s.2 (100 + t) ++ [w] → x' ∈ s.2 (100 + u) → ¬ x 0 = x' 0 := fun u hu hut x x' hx hx' => by
    rcases List.mem_append.mp hx with e | e
    · exact h.2.2.1.2 t u ht hu (Ne.symm hut) x x' e hx'
    · rw [List.mem_singleton] at e
      rw [e]
      exact hf u hu x' hx'
  unfold m_ps2
  split
  · exact J_beg (J_que (J_open h t) ht hq1 hq2 (fun z => absurd h27 z) hq4 (Or.inl rfl)) ht hN hG (fun _ _ _ => Iff.rfl)
  · rename_i hl
    have hne : ¬ s.2 (100 + t) = [] := fun e => hl (by rw [e]; rfl)
    refine J_que h ht hq1 hq2 (fun z => absurd h27 z) hq4 (Or.inr ⟨?_, hne⟩)
    cases hQ : s.2 (100 + t) with
    | nil => exact absurd hQ hne
    | cons x Q => rfl
theorem J_pass {r kind v tag n : Int32} {p : Nat} (h : J N b 3 s) (hN : N ≤ 1000) (hG : ∀ u, u < 3 → (s.1 24 u).toInt + 1 ≤ N) (hp : p < 8) (hk : kind = 1 ∨ kind = 2 ∨ kind = 3) (hv : ∃ j, j ≤ 3 ∧ v = nI j) (hn : kind = 2 → ∃ m, 1 ≤ m ∧ m ≤ 9 ∧ n = nI m) (h1 : 1 ≤ r.toInt) (h2 : r.toInt ≤ (s.1 820 0).toInt) (hf : ∀ u, u < 3 → ∀ w', w' ∈ s.2 (100 + u) → ¬ r = w' 0) : J N b 3 (m_pass s r kind p v tag n) := by
  unfold m_pass
  split
  · rename_i h27
    split
    · exact J_rep h _ _ _ _ _
    · exact J_ps2 h (own3 p hp) hN (hG _ (own3 p hp)) ⟨⟨p, hp, rfl, rfl⟩, hk, hv, hn, h1, h2⟩ hf h27
  · exact J_rep h _ _ _ _ _
/-- a new request's number is new -/
theorem J_fresh (h : J N b z s) (hN : N ≤ 1000) : ∀ u, u < 3 → ∀ w', w' ∈ (m_next s).2 (100 + u) → ¬ s.1 820 0 + 1 = w' 0 := by
  intro u hu w' hw'
  unfold m_next at hw'
  rw [m_rep_2] at hw'
  obtain ⟨-, -, -, -, -, c⟩ := (h.2.2.1.1 u hu).1 w' hw'
  have m0 := h.1.1 820 (by decide)
  have mi := jinc (x := s.1 820 0) (by omega) (by omega)
  refine jne ?_
  omega
theorem J_ask {kind v tag n : Int32} {p : Nat} (h : J N 3 3 s) (hN : N < 1000) (hp : p < 8) (hk : kind = 1 ∨ kind = 2 ∨ kind = 3) (hv : ∃ j, j ≤ 3 ∧ v = nI j) (hn : kind = 2 → ∃ m, 1 ≤ m ∧ m ≤ 9 ∧ n = nI m) : J (N + 1) 3 3 (m_pass (m_next s) (s.1 820 0 + 1) kind p v tag n) := by
  have m0 := h.1.1 820 (by decide)
  have mi := jinc (x := s.1 820 0) (by omega) (by omega)
  refine J_pass (J_next (J_up h) (by omega) (by omega)) (by omega) (fun u hu => ?_) hp hk hv hn (by omega) (by rw [m_next_M]; omega) (J_fresh h (by omega))
  have e : (m_next s).1 24 u = s.1 24 u := by
    unfold m_next
    rw [m_rep_1 _ _ _ _ _ _ (by decide)]
    rfl
  rw [e]
  have := (h.1.2 u hu).2.1
  omega
theorem J_put {p m : Nat} (h : J N 3 3 s) (hN : N < 1000) (hp : p < 8) (h1 : 1 ≤ m) (h9 : m ≤ 9) : J (N + 1) 3 3 (m_put s p (nI m)) := J_ask h hN hp (Or.inr (Or.inl rfl)) ⟨0, by omega, rfl⟩ (fun _ => ⟨m, h1, h9, rfl⟩)
theorem J_del {p : Nat} (h : J N 3 3 s) (hN : N < 1000) (hp : p < 8) : J (N + 1) 3 3 (m_del s p) := J_ask h hN hp (Or.inr (Or.inr rfl)) ⟨0, by omega, rfl⟩ (fun e => absurd e (by decide))
theorem pw_perm {L : List (Nat → Int32)} : ∀ {e : Nat} {row : Nat → Int32}, L[e]? = some row → L.Perm (row :: L.eraseIdx e) := by
  induction L with
  | nil => intro e row h; simp at h
  | cons x L ih =>
    intro e row h
    cases e with
    | zero =>
      have : x = row := by simpa using h
      subst this
      exact List.Perm.refl _
    | succ e =>
      have h1 := ih (e := e) (row := row) (by simpa using h)
      rw [List.eraseIdx_cons_succ]
      exact (List.Perm.cons x h1).trans (List.Perm.swap row x _)
theorem pw_last {L : List (Nat → Int32)} {R : (Nat → Int32) → (Nat → Int32) → Prop} (hs : ∀ x y, R x y → R y x) {e : Nat} {row row' : Nat → Int32} (he : L[e]? = some row) (h : L.Pairwise R) (hr : ∀ x, R x row → R x row') : (L.eraseIdx e ++ [row']).Pairwise R := by
  have hp : (row :: L.eraseIdx e).Pairwise R := by
    exact (List.Perm.pairwise_iff (fun {x y} => hs x y) (pw_perm he)).mp h
  rw [List.pairwise_cons] at hp
  rw [List.pairwise_append]
  refine ⟨hp.2, List.pairwise_singleton _ _, fun x hx y hy => ?_⟩
  rw [List.mem_singleton] at hy
  rw [hy]
  exact hr x (hs _ _ (hp.1 x hx))
theorem J_move {e : Nat} {row row' : Nat → Int32} (h : J N b z s) (he : (s.2 14)[e]? = some row) (h0 : row' 0 = row 0) (h4 : row' 4 = row 4) : J N b z (tu s 14 ((s.2 14).eraseIdx e ++ [row'])) := by
  obtain ⟨e1, e2⟩ := h.2.2.2.2.2
  refine J_ent h (fun x hx => ?_) (pw_last (fun x y q w => q w.symm) he e2 (fun x q w => q (by rw [w, h0])))
  rcases List.mem_append.mp hx with w | w
  · exact e1 x (List.mem_of_mem_eraseIdx w)
  · rw [List.mem_singleton] at w
    rw [w, h0, h4]
    exact e1 row (List.mem_of_getElem? he)
theorem m_hit_at {p v : Int32} {e : Nat} {row : Nat → Int32} (h : m_hit s p v = some (e, row)) : (s.2 14)[e]? = some row := by
  unfold m_hit at h
  split at h
  · cases h
  · split at h
    · cases h
    · rename_i h1
      split at h
      · cases h
        exact h1
      · cases h
theorem J_get {p n : Nat} {v tag : Int32} (h : J N 3 3 s) (hN : N < 1000) (hp : p < 8) (hv : ∃ j, j ≤ 3 ∧ v = nI j) : J (N + 1) 3 3 (m_get s p v tag n) := by
  have h0 := J_parse h n
  have e0 : (m_parse s n).1 820 0 = s.1 820 0 := rfl
  have m0 := h.1.1 820 (by decide)
  have hJ : J (N + 1) 3 3 (m_next (m_parse s n)) := J_next (J_up h0) (by omega) (by rw [e0]; omega)
  unfold m_get m_get2
  split
  · rename_i e row hh
    have he := m_hit_at hh
    have hm := J_move (J_rep hJ ((m_parse s n).1 820 0 + 1) (if tag = tgr row then 304 else 200) (tgr row) ((m_next (m_parse s n)).1 805 0 - row 6) 1) (e := e) (row := row) (row' := row) (by rw [m_rep_2]; exact he) rfl rfl
    rw [m_rep_2] at hm
    exact hm
  · split
    · exact J_ask (s := m_parse s n) h0 hN hp (Or.inl rfl) hv (fun e => absurd e (by decide))
    · exact J_rep hJ _ _ _ _ _
end JB
