/-! The state alone: deliveries -/
section JD
variable {N b z t : Nat} {s s' : MS}
theorem J_wks {p : Nat} {cm : Nat → Int32} (h : J N b z s) (hp : p < 8) (hN : N ≤ 1000) (hv : (s.1 806 0).toInt + 1 ≤ N) (hm : cm 3 = 2 → ∃ m, 1 ≤ m ∧ m ≤ 9 ∧ cm 7 = nI m) : J N b z (m_wks s p cm) := by
  have v0 := h.1.1 806 (by decide)
  have vi := jinc (x := s.1 806 0) (by omega) (by omega)
  have put : ∀ X : MS, (∀ k, k ∉ Jno → k ∉ [8, 9, 10, 806] → X.1 k = s.1 k) → X.2 = s.2 → X.1 806 0 = s.1 806 0 + 1 → (∀ q, X.1 8 q = s.1 8 q) → (∀ q, X.1 9 q = s.1 9 q) → (∀ q, q ≠ p → X.1 10 q = s.1 10 q) → (X.1 10 p = 0 ∨ X.1 10 p = 1) → (∃ m, 1 ≤ m ∧ m ≤ 9 ∧ cm 7 = nI m) → J N b z (m_wk2 X p (cm 7)) := by
    intro X x1 x2 x3 x4 x5 x6 x7 x8
    have e806 : (m_wk2 X p (cm 7)).1 806 0 = s.1 806 0 + 1 := by
      unfold m_wk2
      rw [cw_ne _ _ _ (by decide), cw_ne _ _ _ (by decide), x3]
    refine J_res h (fun k k1 k2 => ?_) ?_ ?_ (fun q hq hvq => ?_)
    · unfold m_wk2
      rw [cw_ne _ _ _ (fun e => k2 (by rw [e]; decide)), cw_ne _ _ _ (fun e => k2 (by rw [e]; decide)), x1 k k1 k2]
    · exact x2
    · rw [e806, vi]
      omega
    · have e8 : (m_wk2 X p (cm 7)).1 8 q = if q = p then X.1 806 0 else X.1 8 q := by
        unfold m_wk2
        rw [cw_ne _ _ _ (by decide), cw_at]
        rfl
      have e9 : (m_wk2 X p (cm 7)).1 9 q = if q = p then cm 7 else X.1 9 q := by
        unfold m_wk2
        rw [cw_at, cw_ne _ _ _ (by decide)]
        rfl
      have e10 : (m_wk2 X p (cm 7)).1 10 q = X.1 10 q := by
        unfold m_wk2
        rw [cw_ne _ _ _ (by decide), cw_ne _ _ _ (by decide)]
      rw [e8] at hvq
      rw [e8, e9, e10, e806, vi]
      by_cases c : q = p
      · rw [if_pos c, if_pos c, x3, vi, c]
        exact ⟨by omega, by omega, x8, x7⟩
      · rw [if_neg c, x4] at hvq
        rw [if_neg c, if_neg c, x4, x5, x6 q c]
        obtain ⟨d1, d2, d3, d4⟩ := h.2.2.2.2.1 q hq hvq
        exact ⟨d1, by omega, d3, d4⟩
  unfold m_wks
  split
  · exact h
  · split
    · rename_i h2
      split
      · refine put _ (fun k k1 k2 => ?_) rfl ?_ (fun q => ?_) (fun q => ?_) (fun q hq => ?_) (Or.inl ?_) (hm h2)
        · rw [cw_ne _ _ _ (fun e => k2 (by rw [e]; decide)), cw_ne _ _ _ (fun e => k1 (by rw [e]; decide)), cw_ne _ _ _ (fun e => k1 (by rw [e]; decide)), cw_ne _ _ _ (fun e => k1 (by rw [e]; decide)), cw_ne _ _ _ (fun e => k1 (by rw [e]; decide)), cw_ne _ _ _ (fun e => k2 (by rw [e]; decide))]
        · rw [cw_ne _ _ _ (by decide), cw_ne _ _ _ (by decide), cw_ne _ _ _ (by decide), cw_ne _ _ _ (by decide), cw_ne _ _ _ (by decide), cw_at]
          exact if_pos rfl
        · rw [cw_ne _ _ _ (by decide), cw_ne _ _ _ (by decide), cw_ne _ _ _ (by decide), cw_ne _ _ _ (by decide), cw_ne _ _ _ (by decide), cw_ne _ _ _ (by decide)]
        · rw [cw_ne _ _ _ (by decide), cw_ne _ _ _ (by decide), cw_ne _ _ _ (by decide), cw_ne _ _ _ (by decide), cw_ne _ _ _ (by decide), cw_ne _ _ _ (by decide)]
        · rw [cw_at]
          show (if q = p then _ else _) = _
          rw [if_neg hq, cw_ne _ _ _ (by decide), cw_ne _ _ _ (by decide), cw_ne _ _ _ (by decide), cw_ne _ _ _ (by decide), cw_ne _ _ _ (by decide)]
        · rw [cw_at]
          exact if_pos rfl
      · rename_i hv8
        refine put _ (fun k k1 k2 => ?_) rfl ?_ (fun q => ?_) (fun q => ?_) (fun q hq => ?_) ?_ (hm h2)
        · rw [cw_ne _ _ _ (fun e => k2 (by rw [e]; decide)), cw_ne _ _ _ (fun e => k2 (by rw [e]; decide))]
        · rw [cw_ne _ _ _ (by decide), cw_at]
          exact if_pos rfl
        · rw [cw_ne _ _ _ (by decide), cw_ne _ _ _ (by decide)]
        · rw [cw_ne _ _ _ (by decide), cw_ne _ _ _ (by decide)]
        · rw [cw_at]
          show (if q = p then _ else _) = _
          rw [if_neg hq, cw_ne _ _ _ (by decide)]
        · rw [cw_at]
          show (if p = p then s.1 10 p else _) = 0 ∨ (if p = p then s.1 10 p else _) = 1
          rw [if_pos rfl]
          exact (h.2.2.2.2.1 p hp hv8).2.2.2
    · exact J_wd h
theorem m_tg_ne {p : Nat} {v : Int32} (h : J N b z s) (hN : N ≤ 1000) (hp : p < 8) (h8 : ¬ s.1 8 p = 0) (hv : ∃ j, j ≤ 3 ∧ v = nI j) : ¬ m_tg s p v = 0 := by
  obtain ⟨d1, d2, -⟩ := h.2.2.2.2.1 p hp h8
  have d3 := (h.1.1 806 (by decide)).2
  obtain ⟨j, hj, rfl⟩ := hv
  obtain ⟨k, hk, ek⟩ := nI_of (x := s.1 8 p) (by rw [Int32.lt_iff_toInt_lt, Int32.toInt_zero]; omega)
  rw [ek, nI_toInt hk] at d1 d2
  unfold m_tg
  rw [ek, show (4 : Int32) = nI 4 from rfl, pk_mul]
  split
  · rw [nI_add]
    exact nI_ne0 (by omega) (by omega)
  · rw [Int32.add_zero]
    exact nI_ne0 (by omega) (by omega)
theorem arow_ok {G x n c : Int32} {hd : Option (Nat → Int32)} (h0 : 0 ≤ n.toInt) (h1 : n.toInt ≤ G.toInt) (hc : c = 204 ∨ c = 404) : fOk G hd (arow x n c) := by
  have c1 : ¬ (c = 200 ∨ c = 304) := by rcases hc with rfl | rfl <;> decide
  refine ⟨Or.inr rfl, h0, h1, fun _ h => absurd (show (1 : Int32) = 0 from h) (by decide), fun _ _ => ⟨Or.inr (Or.inr hc), fun w => absurd w c1⟩, fun _ _ w _ => ⟨fun h => absurd (show (1 : Int32) = 0 from h) (by decide), fun _ => ⟨fun w => absurd w c1, fun w => absurd (Or.inr w) c1⟩⟩⟩
theorem J_wkr {p : Nat} {cm : Nat → Int32} (h : J N b z s) (hN : N ≤ 1000) (hp : p < 8) (h1 : cm 1 = 0) (h2 : ¬ cm 2 = 0) {hd : Option (Nat → Int32)} (hf : fOk (s.1 24 t) hd cm) : fOk (s.1 24 t) hd (m_wkr s (nI t) (cm 2) p cm) := by
  obtain ⟨f1, f2, f3, f4, f5, f6⟩ := hf
  unfold m_wkr
  split
  · rename_i h3
    split
    · exact arow_ok f2 f3 (Or.inr rfl)
    · rename_i h8
      obtain ⟨g1, g2, g3, g4⟩ := f4 h2 h1
      obtain ⟨d1, d2, d3, d4⟩ := h.2.2.2.2.1 p hp h8
      have tn := m_tg_ne h hN hp h8 g3
      refine ⟨Or.inr rfl, f2, f3, fun _ w => absurd (show (1 : Int32) = 0 from w) (by decide), fun _ _ => ⟨?_, fun _ => ⟨d3, d4⟩⟩, fun _ hG w hw => ⟨fun x => absurd (show (1 : Int32) = 0 from x) (by decide), fun _ => ⟨fun _ => ?_, fun x => ?_⟩⟩⟩
      · show (if cm 4 = m_tg s p (cm 6) then (304 : Int32) else 200) = 200 ∨ (if cm 4 = m_tg s p (cm 6) then (304 : Int32) else 200) = 304 ∨ _ ∨ _
        split
        · exact Or.inr (Or.inl rfl)
        · exact Or.inl rfl
      · rw [← ((f6 h2 hG w hw).1 h1).1, h3]
      · have x' : (if cm 4 = m_tg s p (cm 6) then (304 : Int32) else 200) = 304 := x
        split at x'
        · rename_i e4
          rw [← ((f6 h2 hG w hw).1 h1).2, e4]
          exact tn
        · exact absurd x' (by decide)
  · split
    · exact arow_ok f2 f3 (Or.inl rfl)
    · split
      · exact arow_ok f2 f3 (Or.inr rfl)
      · exact arow_ok f2 f3 (Or.inl rfl)
theorem cw_comm (s : MS) {k j : Nat} (i i' : Nat) (x x' : Int32) (h : k ≠ j) : cw (cw s j i x) k i' x' = cw (cw s k i' x') j i x := by
  refine Prod.ext ?_ rfl
  funext m
  by_cases e1 : m = k
  · subst e1
    rw [cw_at, cw_ne _ _ _ h, cw_ne _ _ _ h, cw_at]
  · rw [cw_ne _ _ _ e1]
    by_cases e2 : m = j
    · subst e2
      rw [cw_at, cw_at, cw_ne _ _ _ e1]
    · rw [cw_ne _ _ _ e2, cw_ne _ _ _ e2, cw_ne _ _ _ e1]
theorem wks_29 {p u : Nat} {n : Int32} {cm : Nat → Int32} : m_wks (cw s 29 u n) p cm = cw (m_wks s p cm) 29 u n := by
  have r1 : (cw s 29 u n).1 8 p = s.1 8 p := rfl
  have r2 : (cw s 29 u n).1 806 0 = s.1 806 0 := rfl
  have r3 : (cw s 29 u n).1 10 p = s.1 10 p := rfl
  unfold m_wks
  rw [r1, r2, r3]
  split
  · rfl
  · split
    · split
      · have e : ∀ X : MS, m_wk2 (cw X 29 u n) p (cm 7) = cw (m_wk2 X p (cm 7)) 29 u n := fun X => by
          unfold m_wk2
          rw [show (cw X 29 u n).1 806 0 = X.1 806 0 from rfl, cw_comm X _ _ _ _ (show 8 ≠ 29 by decide), cw_comm _ _ _ _ _ (show 9 ≠ 29 by decide)]
        rw [cw_comm s _ _ _ _ (show 806 ≠ 29 by decide), cw_comm _ _ _ _ _ (show 11 ≠ 29 by decide), cw_comm _ _ _ _ _ (show 11 ≠ 29 by decide), cw_comm _ _ _ _ _ (show 11 ≠ 29 by decide), cw_comm _ _ _ _ _ (show 11 ≠ 29 by decide), cw_comm _ _ _ _ _ (show 10 ≠ 29 by decide), e]
      · have e : ∀ X : MS, m_wk2 (cw X 29 u n) p (cm 7) = cw (m_wk2 X p (cm 7)) 29 u n := fun X => by
          unfold m_wk2
          rw [show (cw X 29 u n).1 806 0 = X.1 806 0 from rfl, cw_comm X _ _ _ _ (show 8 ≠ 29 by decide), cw_comm _ _ _ _ _ (show 9 ≠ 29 by decide)]
        rw [cw_comm s _ _ _ _ (show 806 ≠ 29 by decide), cw_comm _ _ _ _ _ (show 10 ≠ 29 by decide), e]
    · exact cw_comm _ _ _ _ _ (by decide)
theorem wks_24 {p : Nat} {cm : Nat → Int32} : (m_wks s p cm).1 24 = s.1 24 ∧ (m_wks s p cm).1 29 = s.1 29 ∧ (m_wks s p cm).2 = s.2 := by
  unfold m_wks
  split
  · exact ⟨rfl, rfl, rfl⟩
  · split
    · split <;> exact ⟨rfl, rfl, rfl⟩
    · exact ⟨rfl, rfl, rfl⟩
/-- an origin has answered anew -/
theorem J_last {n : Int32} {row : Nat → Int32} (h : J N b 3 s) (ht : t < 3) (h0 : 0 ≤ n.toInt) (h1 : n.toInt ≤ (s.1 24 t).toInt) (r0 : row 0 = nI t) (r1 : row 1 = 1) (r2 : row 2 = n) (hf : fOk (s.1 24 t) (hdz s 3 t) row) : J N b 3 (cu (cw s 29 t n) (300 + t) row) := by
  obtain ⟨⟨a1, a2⟩, htm, hq, ⟨f1, f2⟩, hr, he⟩ := h
  have g : ∀ k, k ≠ 29 → k ≠ 300 + t → (cu (cw s 29 t n) (300 + t) row).1 k = s.1 k := fun k k1 k2 => by rw [cu_ne _ _ k2, cw_ne _ _ _ k1]
  have e29 : ∀ u, (cu (cw s 29 t n) (300 + t) row).1 29 u = if u = t then n else s.1 29 u := fun u => by
    rw [cu_ne _ _ (by omega), cw_at]
    rfl
  have hd : ∀ u, hdz (cu (cw s 29 t n) (300 + t) row) 3 u = hdz s 3 u := fun u => rfl
  refine ⟨⟨fun k hk => ?_, fun u hu => ?_⟩, fun u hu => ?_, ⟨fun u hu => ?_, hq.2⟩, ⟨fun r hrow => ?_, fun u hu => ?_⟩, fun p hp => ?_, ⟨fun r hrow => ?_, he.2⟩⟩
  · have nk : ∀ k, k ∈ [805, 806, 817, 820] → k ≠ 29 ∧ 500 < k := by decide
    have := nk k hk
    rw [g k this.1 (by omega)]
    exact a1 k hk
  · rw [g 24 (by decide) (by omega), g 27 (by decide) (by omega), g 28 (by decide) (by omega), e29]
    obtain ⟨b1, b2, b3, b4, b5, b6⟩ := a2 u hu
    by_cases e : u = t
    · subst e
      rw [if_pos rfl]
      exact ⟨b1, b2, h0, h1, b5, b6⟩
    · rw [if_neg e]
      exact ⟨b1, b2, b3, b4, b5, b6⟩
  · rw [g 27 (by decide) (by omega), g 25 (by decide) (by omega), g 805 (by decide) (by omega)]
    exact htm u hu
  · rw [g 820 (by decide) (by omega), g 27 (by decide) (by omega)]
    exact hq.1 u hu
  · rw [g 24 (by decide) (by omega)]
    exact f1 r hrow
  · rw [g 24 (by decide) (by omega), e29, hd]
    by_cases e : u = t
    · subst e
      rw [if_pos rfl, cu_at]
      exact fun _ => ⟨r0, r1, r2, hf⟩
    · rw [if_neg e, g (300 + u) (by omega) (by omega)]
      exact f2 u hu
  · rw [g 8 (by decide) (by omega), g 9 (by decide) (by omega), g 10 (by decide) (by omega), g 806 (by decide) (by omega)]
    exact hr p hp
  · rw [g 817 (by decide) (by omega)]
    exact he.1 r hrow
theorem wkr_0 {n : Int32} {p : Nat} {x : Int32} {cm : Nat → Int32} : m_wkr s x n p cm 0 = x ∧ m_wkr s x n p cm 1 = 1 ∧ m_wkr s x n p cm 2 = n := by
  unfold m_wkr
  split
  · split <;> exact ⟨rfl, rfl, rfl⟩
  · split
    · exact ⟨rfl, rfl, rfl⟩
    · split <;> exact ⟨rfl, rfl, rfl⟩
theorem J_atw {p : Nat} {cm : Nat → Int32} (h : J N b 3 s) (hN : N ≤ 1000) (hv : (s.1 806 0).toInt + 1 ≤ N) (ht : t < 3) (hp : p < 8) (h1 : cm 1 = 0) (h2 : ¬ cm 2 = 0) (hf : fOk (s.1 24 t) (hdz s 3 t) cm) : J N b 3 (m_atw s t p cm) := by
  have hw : J N b 3 (m_wks s p cm) := J_wks h hp hN hv (fun e => (hf.2.2.2.1 h2 h1).2.2.2 e)
  have hr := J_wkr (t := t) h hN hp h1 h2 hf
  have e24 := (wks_24 (s := s) (p := p) (cm := cm)).1
  have e2 := (wks_24 (s := s) (p := p) (cm := cm)).2.2
  have hd : hdz (m_wks s p cm) 3 t = hdz s 3 t := by unfold hdz; rw [e2]
  have ew : m_wkr (cw s 29 t (cm 2)) (nI t) (cm 2) p cm = m_wkr s (nI t) (cm 2) p cm := rfl
  obtain ⟨w0, w1, w2⟩ := wkr_0 (s := s) (n := cm 2) (p := p) (x := nI t) (cm := cm)
  have hl := J_last (t := t) (n := cm 2) (row := m_wkr s (nI t) (cm 2) p cm) hw ht hf.2.1 (by rw [e24]; exact hf.2.2.1) w0 w1 w2 (by rw [e24, hd]; exact hr)
  unfold m_atw
  simp only []
  rw [ew, wks_29]
  refine J_send hl ⟨t, ht, w0, ?_⟩
  have e3 : (cu (cw (m_wks s p cm) 29 t (cm 2)) (300 + t) (m_wkr s (nI t) (cm 2) p cm)).1 24 t = s.1 24 t := by
    rw [cu_ne _ _ (by omega), cw_ne _ _ _ (by decide), e24]
  have e4 : hdz (cu (cw (m_wks s p cm) 29 t (cm 2)) (300 + t) (m_wkr s (nI t) (cm 2) p cm)) 3 t = hdz s 3 t := hd
  rw [e3, e4]
  exact hr
theorem J_ato {p : Nat} {cm : Nat → Int32} (h : J N b 3 s) (hN : N ≤ 1000) (hv : (s.1 806 0).toInt + 1 ≤ N) (ht : t < 3) (hp : ¬ cm 2 = 0 → p < 8) (h1 : cm 1 = 0) (hf : fOk (s.1 24 t) (hdz s 3 t) cm) : J N b 3 (m_ato s t p cm) := by
  unfold m_ato
  split
  · split
    · refine J_send h ⟨t, ht, rfl, ⟨Or.inr rfl, by show (0 : Int) ≤ 0; omega, (h.1.2 t ht).1, fun w => absurd rfl w, fun w => absurd rfl w, fun w => absurd rfl w⟩⟩
    · rename_i h2
      split
      · rename_i h29
        obtain ⟨c1, c2, c3, c4⟩ := h.2.2.2.1.2 t ht (by rw [← h29]; exact h2)
        exact J_send h ⟨t, ht, c1, c4⟩
      · split
        · exact h
        · exact J_atw h hN hv ht (hp h2) h1 h2 hf
  · exact h
theorem evr_drop (cap n : Int32) : ∀ L, ∃ k, evr cap n L = L.drop k := by
  intro L
  induction L with
  | nil => exact ⟨0, rfl⟩
  | cons x L ih =>
    rw [evr]
    split
    · exact ⟨0, rfl⟩
    · obtain ⟨k, hk⟩ := ih
      exact ⟨k + 1, hk⟩
theorem J_sub {L : List (Nat → Int32)} (h : J N b z s) (hL : L.Sublist (s.2 14)) : J N b z (tu s 14 L) :=
  J_ent h (fun row hr => h.2.2.2.2.2.1 row (hL.subset hr)) (h.2.2.2.2.2.2.sublist hL)
theorem J_dr {p v x : Int32} (h : J N b z s) : J N b z (m_dr s p v x) := J_sub h List.filter_sublist
theorem J_ev {n : Int32} (h : J N b z s) : J N b z (m_ev s n) := by
  unfold m_ev
  obtain ⟨k, hk⟩ := evr_drop (s.1 804 0) n (s.2 14)
  rw [hk]
  exact J_sub h (List.drop_sublist _ _)
theorem J_add {p v : Int32} {cm : Nat → Int32} (h : J N b z s) (hN : N ≤ 1000) (hn : (s.1 817 0).toInt + 1 ≤ N) (h8 : cm 8 = 0 ∨ cm 8 = 1) : J N b z (m_add s p v cm) := by
  have v0 := h.1.1 817 (by decide)
  have vi := jinc (x := s.1 817 0) (by omega) (by omega)
  have e1 : (cw s 817 0 (s.1 817 0 + 1)).1 817 0 = s.1 817 0 + 1 := by rw [cw_at]; exact if_pos rfl
  have hs : J N b z (cw s 817 0 (s.1 817 0 + 1)) := by
    obtain ⟨⟨a1, a2⟩, htm, hq, ⟨f1, f2⟩, hr, he⟩ := h
    refine ⟨⟨fun k hk => ?_, a2⟩, htm, hq, ⟨f1, fun u hu => ?_⟩, hr, ⟨fun r hrow => ?_, he.2⟩⟩
    · by_cases e : k = 817
      · subst e
        rw [e1, vi]
        omega
      · rw [cw_ne _ _ _ e]
        exact a1 k hk
    · rw [cw_ne _ _ _ (show 300 + u ≠ 817 by omega)]
      exact f2 u hu
    · obtain ⟨d1, d2, d3⟩ := he.1 r hrow
      exact ⟨d1, by rw [e1, vi]; omega, d3⟩
  unfold m_add
  refine J_ent hs (fun r hr => ?_) ?_
  · rcases List.mem_append.mp hr with w | w
    · exact hs.2.2.2.2.2.1 r w
    · rw [List.mem_singleton] at w
      subst w
      refine ⟨?_, ?_, h8⟩
      · show 1 ≤ (s.1 817 0 + 1).toInt
        omega
      · rw [e1]
        exact Int.le_refl _
  · rw [List.pairwise_append]
    refine ⟨h.2.2.2.2.2.2, List.pairwise_singleton _ _, fun x hx y hy => ?_⟩
    rw [List.mem_singleton] at hy
    rw [hy]
    obtain ⟨d1, d2, d3⟩ := h.2.2.2.2.2.1 x hx
    refine jne ?_
    show ¬ (x 0).toInt = (s.1 817 0 + 1).toInt
    omega
theorem J_an2 {cm w : Nat → Int32} (h : J N b z s) (hN : N ≤ 1000) (hn : (s.1 817 0).toInt + 1 ≤ N) (h8 : cm 3 = 200 → cm 8 = 0 ∨ cm 8 = 1) : J N b z (m_an2 s cm w) := by
  unfold m_an2
  split
  · rename_i h3
    split
    · unfold m_store
      exact J_add (J_ev (J_dr h)) hN hn (h8 h3)
    · exact h
  · split
    · unfold m_conf
      split
      · exact h
      · split
        · exact h
        · rename_i e _ row he
          split
          · exact J_sub h (List.eraseIdx_sublist _ _)
          · exact J_move h he rfl rfl
    · split
      · exact J_dr h
      · split
        · exact J_dr h
        · exact h
theorem an1_c {cm w : Nat → Int32} {k : Nat} (hk : k ∉ [17, 18, 19, 20]) : (m_an1 s cm w).1 k = s.1 k := by
  unfold m_an1
  split
  · exact m_rep_1 _ _ _ _ _ _ hk
  · exact m_rep_1 _ _ _ _ _ _ hk
theorem an1_2 {cm w : Nat → Int32} : (m_an1 s cm w).2 = s.2 := by
  unfold m_an1
  split
  · exact m_rep_2 _ _ _ _ _ _
  · exact m_rep_2 _ _ _ _ _ _
theorem an2_c {cm w : Nat → Int32} {k : Nat} (hk : k ≠ 817) : (m_an2 s cm w).1 k = s.1 k := by
  unfold m_an2
  split
  · split
    · unfold m_store m_add m_ev m_dr
      exact cw_ne _ _ _ hk
    · rfl
  · split
    · unfold m_conf
      split
      · rfl
      · split <;> rfl
    · split
      · rfl
      · split <;> rfl
theorem an2_2 {cm w : Nat → Int32} {j : Nat} (hj : j ≠ 14) : (m_an2 s cm w).2 j = s.2 j := by
  unfold m_an2
  split
  · split
    · unfold m_store m_add m_ev m_dr
      rw [tu_ne _ _ hj]
      show (tu (tu s 14 _) 14 _).2 j = _
      rw [tu_ne _ _ hj, tu_ne _ _ hj]
    · rfl
  · split
    · unfold m_conf
      split
      · rfl
      · split
        · rfl
        · exact tu_ne _ _ hj
    · split
      · exact tu_ne _ _ hj
      · split
        · exact tu_ne _ _ hj
        · rfl
theorem J_answered {cm w : Nat → Int32} {Q : List (Nat → Int32)} (h : J N b 3 s) (hN : N ≤ 1000) (ht : t < 3) (hG : (s.1 24 t).toInt + 1 ≤ N) (hn : (s.1 817 0).toInt + 1 ≤ N) (h8 : cm 3 = 200 → cm 8 = 0 ∨ cm 8 = 1) (hQ : s.2 (100 + t) = w :: Q) : J N b 3 (m_answered s t cm w Q) := by
  have h1 : J N b 3 (m_an1 s cm w) := by
    unfold m_an1
    split
    · exact J_rep h _ _ _ _ _
    · exact J_rep h _ _ _ _ _
  have h2 : J N b 3 (m_an2 (m_an1 s cm w) cm w) := J_an2 h1 hN (by rw [an1_c (by decide)]; exact hn) h8
  have q2 : (m_an2 (m_an1 s cm w) cm w).2 (100 + t) = w :: Q := by rw [an2_2 (by omega), an1_2]; exact hQ
  have g2 : (m_an2 (m_an1 s cm w) cm w).1 24 t = s.1 24 t := by rw [an2_c (by decide), an1_c (by decide)]
  unfold m_answered m_an3
  have h3 : J N b t (cw (m_an2 (m_an1 s cm w) cm w) 26 t 0) := J_no (by decide) (J_open h2 t)
  refine J_beg (J_tail h3 ht (w := w) (Q := Q) q2) ht hN ?_ (fun _ _ _ => Iff.rfl)
  show ((m_an2 (m_an1 s cm w) cm w).1 24 t).toInt + 1 ≤ N
  rw [g2]
  exact hG
theorem J_dan {cm : Nat → Int32} (h : J N b 3 s) (hN : N ≤ 1000) (ht : t < 3) (hG : (s.1 24 t).toInt + 1 ≤ N) (hn : (s.1 817 0).toInt + 1 ≤ N) (h8 : cm 3 = 200 → cm 8 = 0 ∨ cm 8 = 1) : J N b 3 (m_dan s t cm) := by
  unfold m_dan
  split
  · exact h
  · rename_i w Q hQ
    split
    · exact J_answered h hN ht hG hn h8 hQ
    · exact h
theorem J_row {cm : Nat → Int32} (h : J N b z s) (hc : cm ∈ s.2 31) (ht : t < 3) (h0 : cm 0 = nI t) : fOk (s.1 24 t) (hdz s z t) cm := by
  obtain ⟨u, c1, c2, c3⟩ := h.2.2.2.1.1 cm hc
  have : u = t := (nI_eq (by omega) (by omega)).mp (by rw [← c2, h0])
  subst this
  exact c3
theorem J_dlv {e p : Nat} {cm : Nat → Int32} (h : J N 3 3 s) (hN : N < 1000) (he : (s.2 31)[e]? = some cm) (ht : t < 3) (h0 : cm 0 = nI t) (hp : cm 1 = 0 → ¬ cm 2 = 0 → p < 8) : J (N + 1) 3 3 (m_dlv s e t p cm) := by
  have hc := J_row h (List.mem_of_getElem? he) ht h0
  have hd : J (N + 1) 3 3 (m_d0 s e) := J_fly (J_up h) (fun r hr => List.mem_of_mem_eraseIdx hr)
  have v0 := (h.1.1 806 (by decide)).2
  have n0 := (h.1.1 817 (by decide)).2
  have g0 := (h.1.2 t ht).2.1
  have hh : hdz (m_d0 s e) 3 t = hdz s 3 t := by
    unfold hdz m_d0
    rw [tu_ne _ _ (by omega)]
  unfold m_dlv
  split
  · rename_i h1
    exact J_ato hd (by omega) (by show (s.1 806 0).toInt + 1 ≤ _; omega) ht (hp h1) h1 (by rw [hh]; exact hc)
  · rename_i h1
    have h1' : cm 1 = 1 := hc.1.resolve_left h1
    split
    · exact J_prb hd ht
    · rename_i h2
      split
      · refine J_dan hd (by omega) ht (by show (s.1 24 t).toInt + 1 ≤ _; omega) (by show (s.1 817 0).toInt + 1 ≤ _; omega) (fun h3 => ((hc.2.2.2.2.1 h2 h1').2 (Or.inl h3)).2)
      · exact hd
end JD
