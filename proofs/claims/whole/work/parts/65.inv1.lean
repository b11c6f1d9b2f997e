/-! What holds of the state alone -/
def fOk (G : Int32) (hd : Option (Nat → Int32)) (row : Nat → Int32) : Prop :=
  (row 1 = 0 ∨ row 1 = 1) ∧ 0 ≤ (row 2).toInt ∧ (row 2).toInt ≤ G.toInt ∧
  (¬ row 2 = 0 → row 1 = 0 → (∃ p, p < 8 ∧ row 5 = nI p) ∧ (row 3 = 1 ∨ row 3 = 2 ∨ row 3 = 3) ∧ (∃ v, v ≤ 3 ∧ row 6 = nI v) ∧ (row 3 = 2 → ∃ m, 1 ≤ m ∧ m ≤ 9 ∧ row 7 = nI m)) ∧
  (¬ row 2 = 0 → row 1 = 1 → (row 3 = 200 ∨ row 3 = 304 ∨ row 3 = 204 ∨ row 3 = 404) ∧ (row 3 = 200 ∨ row 3 = 304 → (∃ m, 1 ≤ m ∧ m ≤ 9 ∧ row 7 = nI m) ∧ (row 8 = 0 ∨ row 8 = 1))) ∧
  (¬ row 2 = 0 → row 2 = G → ∀ w, hd = some w → (row 1 = 0 → row 3 = w 1 ∧ row 4 = w 7) ∧ (row 1 = 1 → (row 3 = 200 ∨ row 3 = 304 → w 1 = 1) ∧ (row 3 = 304 → ¬ w 7 = 0)))
def rOk (t : Nat) (M : Int32) (w : Nat → Int32) : Prop :=
  (∃ p, p < 8 ∧ w 2 = nI p ∧ own p = t) ∧ (w 1 = 1 ∨ w 1 = 2 ∨ w 1 = 3) ∧ (∃ v, v ≤ 3 ∧ w 3 = nI v) ∧ (w 1 = 2 → ∃ m, 1 ≤ m ∧ m ≤ 9 ∧ w 5 = nI m) ∧ 1 ≤ (w 0).toInt ∧ (w 0).toInt ≤ M.toInt
def hdz (s : MS) (z t : Nat) : Option (Nat → Int32) := if t = z then none else (s.2 (100 + t)).head?
def Ja (N : Nat) (s : MS) : Prop := (∀ k, k ∈ [805, 806, 817, 820] → 0 ≤ (s.1 k 0).toInt ∧ (s.1 k 0).toInt ≤ N) ∧ ∀ t, t < 3 → 0 ≤ (s.1 24 t).toInt ∧ (s.1 24 t).toInt ≤ N ∧ 0 ≤ (s.1 29 t).toInt ∧ (s.1 29 t).toInt ≤ (s.1 24 t).toInt ∧ (s.1 27 t = 0 ∨ s.1 27 t = 1) ∧ (s.1 28 t = 0 ∨ s.1 28 t = 1)
def Jt (b z : Nat) (s : MS) : Prop := ∀ t, t < 3 → t ≠ z → s.1 27 t = 0 → ¬ s.2 (100 + t) = [] → ∃ k, k ≤ (if t < b then 11 else 12) ∧ s.1 805 0 - s.1 25 t = nI k
def Jq (s : MS) : Prop := (∀ t, t < 3 → (∀ w, w ∈ s.2 (100 + t) → rOk t (s.1 820 0) w) ∧ (s.2 (100 + t)).Pairwise (fun w w' => ¬ w 0 = w' 0) ∧ (¬ s.1 27 t = 0 → s.2 (100 + t) = [])) ∧ ∀ t u, t < 3 → u < 3 → t ≠ u → ∀ w w', w ∈ s.2 (100 + t) → w' ∈ s.2 (100 + u) → ¬ w 0 = w' 0
def Jf (z : Nat) (s : MS) : Prop := (∀ row, row ∈ s.2 31 → ∃ t, t < 3 ∧ row 0 = nI t ∧ fOk (s.1 24 t) (hdz s z t) row) ∧ ∀ t, t < 3 → ¬ s.1 29 t = 0 → s.1 (300 + t) 0 = nI t ∧ s.1 (300 + t) 1 = 1 ∧ s.1 (300 + t) 2 = s.1 29 t ∧ fOk (s.1 24 t) (hdz s z t) (s.1 (300 + t))
def Jr (s : MS) : Prop := ∀ p, p < 8 → ¬ s.1 8 p = 0 → 1 ≤ (s.1 8 p).toInt ∧ (s.1 8 p).toInt ≤ (s.1 806 0).toInt ∧ (∃ m, 1 ≤ m ∧ m ≤ 9 ∧ s.1 9 p = nI m) ∧ (s.1 10 p = 0 ∨ s.1 10 p = 1)
def Je (s : MS) : Prop := (∀ row, row ∈ s.2 14 → 1 ≤ (row 0).toInt ∧ (row 0).toInt ≤ (s.1 817 0).toInt ∧ (row 4 = 0 ∨ row 4 = 1)) ∧ (s.2 14).Pairwise (fun r r' => ¬ r 0 = r' 0)
def J (N b z : Nat) (s : MS) : Prop := Ja N s ∧ Jt b z s ∧ Jq s ∧ Jf z s ∧ Jr s ∧ Je s
theorem jinc {x : Int32} (h0 : 0 ≤ x.toInt) (h : x.toInt ≤ 100000) : (x + 1).toInt = x.toInt + 1 := by
  rw [Int32.toInt_add, show (1 : Int32).toInt = 1 from rfl, Int.bmod_def]
  omega
theorem jne {x y : Int32} (h : ¬ x.toInt = y.toInt) : ¬ x = y := fun z => h (by rw [z])
theorem fOk_none {G G' : Int32} {hd hd' : Option (Nat → Int32)} {row : Nat → Int32} (h : fOk G hd row) (hG : G.toInt ≤ G'.toInt) (hh : hd' = none ∨ (¬ G = G' ∧ G.toInt < G'.toInt)) : fOk G' hd' row := by
  obtain ⟨f1, f2, f3, f4, f5, f6⟩ := h
  refine ⟨f1, f2, by omega, f4, f5, fun h0 hg w hw => ?_⟩
  rcases hh with e | ⟨-, e⟩
  · rw [e] at hw
    cases hw
  · rw [hg] at f3
    omega
section JS
variable {N b z t : Nat} {s s' : MS}
theorem J_up (h : J N b z s) : J (N + 1) b z s := by
  obtain ⟨⟨h1, h2⟩, h3⟩ := h
  refine ⟨⟨fun k hk => ?_, fun t ht => ?_⟩, h3⟩
  · have := h1 k hk
    omega
  · obtain ⟨a1, a2, a3⟩ := h2 t ht
    exact ⟨a1, by omega, a3⟩
/-- what J does not speak of -/
def Jno : List Nat := [3, 5, 11, 17, 18, 19, 20, 26, 804, 808]
theorem J_same (h1 : ∀ k, k ∉ Jno → s'.1 k = s.1 k) (h2 : s'.2 = s.2) (h : J N b z s) : J N b z s' := by
  obtain ⟨⟨a1, a2⟩, ht, ⟨q1, q2⟩, ⟨f1, f2⟩, hr, e1, e2⟩ := h
  have n3 : ∀ t, t < 3 → 300 + t ∉ Jno := fun t ht => by simp [Jno]; omega
  refine ⟨⟨fun k hk => ?_, fun t hl => ?_⟩, fun t hl hz => ?_, ⟨fun t hl => ?_, fun t u => ?_⟩, ⟨fun row hrow => ?_, fun t hl => ?_⟩, fun p hp => ?_, ⟨fun row hrow => ?_, ?_⟩⟩
  · have : k ∉ Jno := by
      have : ∀ k, k ∈ [805, 806, 817, 820] → k ∉ Jno := by decide
      exact this k hk
    rw [h1 k this]
    exact a1 k hk
  · rw [h1 24 (by decide), h1 29 (by decide), h1 27 (by decide), h1 28 (by decide)]
    exact a2 t hl
  · rw [h1 27 (by decide), h2, h1 805 (by decide), h1 25 (by decide)]
    exact ht t hl hz
  · rw [h2, h1 820 (by decide), h1 27 (by decide)]
    exact q1 t hl
  · rw [h2]
    exact q2 t u
  · rw [h2] at hrow
    unfold hdz
    rw [h2, h1 24 (by decide)]
    exact f1 row hrow
  · unfold hdz
    rw [h2, h1 24 (by decide), h1 29 (by decide), h1 _ (n3 t hl)]
    exact f2 t hl
  · rw [h1 8 (by decide), h1 9 (by decide), h1 10 (by decide), h1 806 (by decide)]
    exact hr p hp
  · rw [h2] at hrow
    rw [h1 817 (by decide)]
    exact e1 row hrow
  · rw [h2]
    exact e2
theorem J_rep (h : J N b z s) (r c t a w : Int32) : J N b z (m_rep s r c t a w) := J_same (fun k hk => m_rep_1 _ _ _ _ _ _ (fun x => hk (by
  have : ∀ k, k ∈ [17, 18, 19, 20] → k ∈ Jno := by decide
  exact this k x))) (m_rep_2 _ _ _ _ _ _) h
theorem J_no {k i : Nat} {x : Int32} (hk : k ∈ Jno) (h : J N b z s) : J N b z (cw s k i x) := J_same (fun j hj => cw_ne _ _ _ (fun e => hj (by rw [e]; exact hk))) rfl h
theorem J_nou {k : Nat} {X : Nat → Int32} (hk : k ∈ Jno) (h : J N b z s) : J N b z (cu s k X) := J_same (fun j hj => cu_ne _ _ (fun e => hj (by rw [e]; exact hk))) rfl h
theorem J_parse (h : J N b z s) (n : Nat) : J N b z (m_parse s n) := J_no (by decide) (J_nou (by decide) h)
theorem J_type (h : J N b z s) (n : Nat) (c : Int32) : J N b z (m_type s n c) := J_no (by decide) (J_no (by decide) h)
theorem J_next (h : J N b z s) (hN : N ≤ 1000) (hm : (s.1 820 0).toInt + 1 ≤ N) : J N b z (m_next s) := by
  unfold m_next
  refine J_rep ?_ _ _ _ _ _
  obtain ⟨⟨a1, a2⟩, ht, ⟨q1, q2⟩, hf, hr, he⟩ := h
  have m0 := a1 820 (by decide)
  have mi := jinc (x := s.1 820 0) (by omega) (by omega)
  have m1 : (cw s 820 0 (s.1 820 0 + 1)).1 820 0 = s.1 820 0 + 1 := by rw [cw_at]; exact if_pos rfl
  refine ⟨⟨fun k hk => ?_, a2⟩, ht, ⟨fun t hl => ?_, q2⟩, ⟨hf.1, fun t hl => ?_⟩, hr, he⟩
  · by_cases e : k = 820
    · subst e
      rw [m1, mi]
      omega
    · rw [cw_ne _ _ _ e]
      exact a1 k hk
  · obtain ⟨b1, b2, b3⟩ := q1 t hl
    refine ⟨fun w hw => ?_, b2, b3⟩
    obtain ⟨c1, c2, c3, c4, c5, c6⟩ := b1 w hw
    rw [m1]
    exact ⟨c1, c2, c3, c4, c5, by rw [mi]; omega⟩
  · rw [cw_ne _ _ _ (show 300 + t ≠ 820 by omega)]
    exact hf.2 t hl
theorem m_next_M : (m_next s).1 820 0 = s.1 820 0 + 1 := by
  unfold m_next
  rw [m_rep_1 _ _ _ _ _ _ (by decide), cw_at]
  exact if_pos rfl
/-- a row is sent -/
theorem J_send {row : Nat → Int32} (h : J N b z s) (hr : ∃ t, t < 3 ∧ row 0 = nI t ∧ fOk (s.1 24 t) (hdz s z t) row) : J N b z (tu s 31 (m_snd (s.2 31) row)) := by
  obtain ⟨ha, ht, ⟨q1, q2⟩, ⟨f1, f2⟩, hrr, he⟩ := h
  have hq : ∀ t, (tu s 31 (m_snd (s.2 31) row)).2 (100 + t) = s.2 (100 + t) := fun t => tu_ne _ _ (by omega)
  have hd : ∀ t, hdz (tu s 31 (m_snd (s.2 31) row)) z t = hdz s z t := fun t => by unfold hdz; rw [hq]
  refine ⟨ha, fun t => ?_, ⟨fun t => ?_, fun t u => ?_⟩, ⟨fun r hrow => ?_, fun t => ?_⟩, hrr, ?_⟩
  · rw [hq]; exact ht t
  · rw [hq]; exact q1 t
  · rw [hq, hq]; exact q2 t u
  · rw [tu_at] at hrow
    simp only [hd]
    unfold m_snd at hrow
    split at hrow
    · rcases List.mem_append.mp hrow with e | e
      · exact f1 r e
      · rw [List.mem_singleton] at e
        subst e
        exact hr
    · exact f1 r hrow
  · simp only [hd]; exact f2 t
  · unfold Je
    rw [tu_ne _ _ (by decide)]
    exact he
/-- fewer rows under way -/
theorem J_fly {L : List (Nat → Int32)} (h : J N b z s) (hL : ∀ r, r ∈ L → r ∈ s.2 31) : J N b z (tu s 31 L) := by
  obtain ⟨ha, ht, ⟨q1, q2⟩, ⟨f1, f2⟩, hrr, he⟩ := h
  have hq : ∀ t, (tu s 31 L).2 (100 + t) = s.2 (100 + t) := fun t => tu_ne _ _ (by omega)
  have hd : ∀ t, hdz (tu s 31 L) z t = hdz s z t := fun t => by unfold hdz; rw [hq]
  refine ⟨ha, fun t => ?_, ⟨fun t => ?_, fun t u => ?_⟩, ⟨fun r hrow => ?_, fun t => ?_⟩, hrr, ?_⟩
  · rw [hq]; exact ht t
  · rw [hq]; exact q1 t
  · rw [hq, hq]; exact q2 t u
  · rw [tu_at] at hrow
    simp only [hd]
    exact f1 r (hL r hrow)
  · simp only [hd]; exact f2 t
  · unfold Je
    rw [tu_ne _ _ (by decide)]
    exact he
/-- the store's rows -/
theorem J_ent {L : List (Nat → Int32)} (h : J N b z s) (h1 : ∀ row, row ∈ L → 1 ≤ (row 0).toInt ∧ (row 0).toInt ≤ (s.1 817 0).toInt ∧ (row 4 = 0 ∨ row 4 = 1)) (h2 : L.Pairwise (fun r r' => ¬ r 0 = r' 0)) : J N b z (tu s 14 L) := by
  obtain ⟨ha, ht, ⟨q1, q2⟩, ⟨f1, f2⟩, hrr, he⟩ := h
  have hq : ∀ t, (tu s 14 L).2 (100 + t) = s.2 (100 + t) := fun t => tu_ne _ _ (by omega)
  have hd : ∀ t, hdz (tu s 14 L) z t = hdz s z t := fun t => by unfold hdz; rw [hq]
  refine ⟨ha, fun t => ?_, ⟨fun t => ?_, fun t u => ?_⟩, ⟨fun r hrow => ?_, fun t => ?_⟩, hrr, ?_⟩
  · rw [hq]; exact ht t
  · rw [hq]; exact q1 t
  · rw [hq, hq]; exact q2 t u
  · rw [tu_ne _ _ (by decide)] at hrow
    simp only [hd]
    exact f1 r hrow
  · simp only [hd]; exact f2 t
  · unfold Je
    rw [tu_at]
    exact ⟨h1, h2⟩
/-- a connection is opened -/
theorem J_open (h : J N b 3 s) (t : Nat) : J N b t s := by
  obtain ⟨ha, ht, hq, ⟨f1, f2⟩, hr, he⟩ := h
  have hd : ∀ u, u < 3 → ∀ row, fOk (s.1 24 u) (hdz s 3 u) row → fOk (s.1 24 u) (hdz s t u) row := fun u hu row hf => by
    unfold hdz at hf ⊢
    by_cases e : u = t
    · rw [if_pos e]
      exact fOk_none hf (by omega) (Or.inl rfl)
    · rw [if_neg e]
      rw [if_neg (by omega)] at hf
      exact hf
  refine ⟨ha, fun u hu _ => ht u hu (by omega), hq, ⟨fun r hrow => ?_, fun u hu hn => ?_⟩, hr, he⟩
  · obtain ⟨u, g1, g2, g3⟩ := f1 r hrow
    exact ⟨u, g1, g2, hd u g1 r g3⟩
  · obtain ⟨g1, g2, g3, g4⟩ := f2 u hu hn
    exact ⟨g1, g2, g3, hd u hu _ g4⟩
/-- a queue is changed -/
theorem J_que {Q : List (Nat → Int32)} (h : J N b z s) (ht : t < 3) (h1 : ∀ w, w ∈ Q → rOk t (s.1 820 0) w) (h2 : Q.Pairwise (fun w w' => ¬ w 0 = w' 0)) (h3 : ¬ s.1 27 t = 0 → Q = []) (h4 : ∀ u, u < 3 → u ≠ t → ∀ w w', w ∈ Q → w' ∈ s.2 (100 + u) → ¬ w 0 = w' 0) (hz : t = z ∨ (Q.head? = (s.2 (100 + t)).head? ∧ ¬ s.2 (100 + t) = [])) : J N b z (tu s (100 + t) Q) := by
  obtain ⟨ha, htm, ⟨q1, q2⟩, ⟨f1, f2⟩, hr, he⟩ := h
  have hq : ∀ u, u ≠ t → (tu s (100 + t) Q).2 (100 + u) = s.2 (100 + u) := fun u hu => tu_ne _ _ (by omega)
  have hqt : (tu s (100 + t) Q).2 (100 + t) = Q := tu_at _ _ _
  have hd : ∀ u, hdz (tu s (100 + t) Q) z u = hdz s z u := fun u => by
    unfold hdz
    by_cases e : u = z
    · rw [if_pos e, if_pos e]
    · rw [if_neg e, if_neg e]
      by_cases e2 : u = t
      · subst e2
        rw [hqt]
        rcases hz with w | ⟨w, -⟩
        · exact absurd w e
        · exact w
      · rw [hq u e2]
  refine ⟨ha, fun u hu hzu => ?_, ⟨fun u hu => ?_, fun u v hu hv huv => ?_⟩, ⟨fun r hrow => ?_, fun u => ?_⟩, hr, ?_⟩
  · by_cases e2 : u = t
    · subst e2
      rcases hz with w | ⟨-, w⟩
      · exact absurd w hzu
      · intro a1 _
        exact htm u hu hzu a1 w
    · rw [hq u e2]
      exact htm u hu hzu
  · by_cases e : u = t
    · subst e
      rw [hqt]
      exact ⟨h1, h2, h3⟩
    · rw [hq u e]
      exact q1 u hu
  · by_cases e : u = t
    · subst e
      rw [hqt, hq v (Ne.symm huv)]
      exact fun w w' hw hw' => h4 v hv (Ne.symm huv) w w' hw hw'
    · rw [hq u e]
      by_cases e' : v = t
      · subst e'
        rw [hqt]
        exact fun w w' hw hw' z => h4 u hu e w' w hw' hw z.symm
      · rw [hq v e']
        exact q2 u v hu hv huv
  · rw [tu_ne _ _ (by omega)] at hrow
    simp only [hd]
    exact f1 r hrow
  · simp only [hd]
    exact f2 u
  · unfold Je
    rw [tu_ne _ _ (by omega)]
    exact he
end JS
