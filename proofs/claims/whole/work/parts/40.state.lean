/-! The state as both sides tell it: numbers by the reference's places, rows as lists -/
abbrev MS : Type := (Nat → Nat → Int32) × (Nat → List (Nat → Int32))
def cu (s : MS) (k : Nat) (X : Nat → Int32) : MS := (fun j => if j = k then X else s.1 j, s.2)
def cw (s : MS) (k i : Nat) (x : Int32) : MS := cu s k (upd1 (s.1 k) i x)
def tu (s : MS) (k : Nat) (L : List (Nat → Int32)) : MS := (s.1, fun j => if j = k then L else s.2 j)
theorem cu_at (s : MS) (k : Nat) (X : Nat → Int32) : (cu s k X).1 k = X := if_pos rfl
theorem cu_ne (s : MS) {k j : Nat} (X : Nat → Int32) (h : j ≠ k) : (cu s k X).1 j = s.1 j := if_neg h
theorem cw_at (s : MS) (k i : Nat) (x : Int32) : (cw s k i x).1 k = upd1 (s.1 k) i x := if_pos rfl
theorem cw_ne (s : MS) {k j : Nat} (i : Nat) (x : Int32) (h : j ≠ k) : (cw s k i x).1 j = s.1 j := if_neg h
theorem tu_at (s : MS) (k : Nat) (L : List (Nat → Int32)) : (tu s k L).2 k = L := if_pos rfl
theorem tu_ne (s : MS) {k j : Nat} (L : List (Nat → Int32)) (h : j ≠ k) : (tu s k L).2 j = s.2 j := if_neg h
def rrA : List Nat := [5, 8, 9, 10, 11, 17, 18, 19, 20, 24, 25, 26, 29]
def rrB : List Nat := [27, 28]
def rrS : List Nat := [804, 805, 806, 808, 817, 820]
def rr (I : ex_I) (m : Nat) (ad : Nat → Nat) (s : MS) : Prop :=
  (∀ k, k ∈ rrA → I 21 (ad k) = s.1 k) ∧ (∀ k, k ∈ rrB → I 23 (ad k) = s.1 k) ∧ (∀ g, g ∈ rrS → I g m 0 = s.1 g 0) ∧ I 22 (ad 3) = s.1 3 ∧ rt_ok I ad ∧ r_ent I m ad (s.2 14) ∧ r_fly I m ad (s.2 31) ∧ (∀ t, t < 3 → r_que I ad t (s.2 (100 + t))) ∧ ∀ t, t < 3 → ∀ j, j < 15 → I 21 (ad 31) (270 + 15 * t + j) = s.1 (300 + t) j
theorem rrA_ne {k : Nat} (h : k ∈ rrA) : k ≠ 14 ∧ k ≠ 15 ∧ k ≠ 21 ∧ k ≠ 22 ∧ k ≠ 23 ∧ k ≠ 31 ∧ k ≠ 3 ∧ k < 300 ∧ k ≠ 27 ∧ k ≠ 28 ∧ k ∉ rrS := by
  have t : ∀ k, k ∈ rrA → k ≠ 14 ∧ k ≠ 15 ∧ k ≠ 21 ∧ k ≠ 22 ∧ k ≠ 23 ∧ k ≠ 31 ∧ k ≠ 3 ∧ k < 300 ∧ k ≠ 27 ∧ k ≠ 28 ∧ k ∉ rrS := by decide
  exact t k h
theorem rrB_ne {k : Nat} (h : k ∈ rrB) : k ∉ rrA ∧ k ∉ rrS ∧ k ≠ 3 ∧ k < 300 := by
  have t : ∀ k, k ∈ rrB → k ∉ rrA ∧ k ∉ rrS ∧ k ≠ 3 ∧ k < 300 := by decide
  exact t k h
theorem rrS_ne {k : Nat} (h : k ∈ rrS) : k ∉ rrA ∧ k ∉ rrB ∧ k ≠ 3 ∧ 800 < k ∧ k ≠ 21 ∧ k ≠ 22 ∧ k ≠ 23 ∧ k ≠ 816 ∧ k ≠ 834 := by
  have t : ∀ k, k ∈ rrS → k ∉ rrA ∧ k ∉ rrB ∧ k ≠ 3 ∧ 800 < k ∧ k ≠ 21 ∧ k ≠ 22 ∧ k ≠ 23 ∧ k ≠ 816 ∧ k ≠ 834 := by decide
  exact t k h
/-- a write into an array of numbers -/
theorem rr_ua {K : ex_K} {F : ex_F} {I : ex_I} {m k i : Nat} {x : Int32} {ad : Nat → Nat} {s : MS} (hR : rf_ok K F m ad) (h : rr I m ad s) (hk : k ∈ rrA) : rr (ex_ui I 21 (ad k) i x) m ad (cw s k i x) := by
  obtain ⟨h1, h2, h3, h4, h5, h6, h7, h8, h9⟩ := h
  obtain ⟨a1, a2, a3, a4, a5, a6, a7, a8, a9, a10, a11⟩ := rrA_ne hk
  have n : ∀ j, j ≠ k → ad j ≠ ad k := fun j hj => rf_ne hR hj
  have hf : fr I (ex_ui I 21 (ad k) i x) ad [] [k] := fr_ua hR.2.1 (Or.inl rfl) (by simp)
  have nk : ∀ j, j ≠ k → j ∉ [k] := fun j hj => by simpa using hj
  refine ⟨fun j hj => ?_, fun j hj => ?_, fun g hg => ?_, ?_, ?_, r_ent_fr hf (by simp) (nk _ (Ne.symm a1)) (nk _ (Ne.symm a2)) h6, r_fly_fr hf (by simp) (nk _ (Ne.symm a6)) h7, fun t ht => r_que_fr hf (nk _ (Ne.symm a3)) (nk _ (Ne.symm a4)) (nk _ (Ne.symm a5)) (h8 t ht), fun t ht j hj => ?_⟩
  · by_cases e : j = k
    · subst e
      rw [ex_ui_at, cw_at, h1 j hj]
      rfl
    · rw [ex_ui_ne _ _ _ _ (n j e), cw_ne _ _ _ e, h1 j hj]
  · have e : j ≠ k := fun z => (rrB_ne hj).1 (by rw [z]; exact hk)
    rw [ex_ui_f _ _ _ _ (by decide), cw_ne _ _ _ e, h2 j hj]
  · have e : g ≠ k := fun z => (rrS_ne hg).1 (by rw [z]; exact hk)
    rw [ex_ui_f _ _ _ _ (rrS_ne hg).2.2.2.2.1, cw_ne _ _ _ e, h3 g hg]
  · rw [ex_ui_f _ _ _ _ (by decide), cw_ne _ _ _ (Ne.symm a7), h4]
  · exact rt_ui h5
  · rw [(hf.2 31 (nk _ (Ne.symm a6))).1, cw_ne _ _ _ (by omega), h9 t ht j hj]
/-- a write into an array of truths -/
theorem rr_ub {K : ex_K} {F : ex_F} {I : ex_I} {m k i : Nat} {x : Int32} {ad : Nat → Nat} {s : MS} (hR : rf_ok K F m ad) (h : rr I m ad s) (hk : k ∈ rrB) : rr (ex_ui I 23 (ad k) i x) m ad (cw s k i x) := by
  obtain ⟨h1, h2, h3, h4, h5, h6, h7, h8, h9⟩ := h
  obtain ⟨b1, b2, b3, b4⟩ := rrB_ne hk
  have n : ∀ j, j ≠ k → ad j ≠ ad k := fun j hj => rf_ne hR hj
  have e21 : ex_ui I 23 (ad k) i x 21 = I 21 := ex_ui_f _ _ _ _ (by decide)
  refine ⟨fun j hj => ?_, fun j hj => ?_, fun g hg => ?_, ?_, ?_, ?_, ?_, fun t ht => ?_, fun t ht j hj => ?_⟩
  · have e : j ≠ k := fun z => b1 (by rw [← z]; exact hj)
    rw [e21, cw_ne _ _ _ e, h1 j hj]
  · by_cases e : j = k
    · subst e
      rw [ex_ui_at, cw_at, h2 j hj]
      rfl
    · rw [ex_ui_ne _ _ _ _ (n j e), cw_ne _ _ _ e, h2 j hj]
  · have e : g ≠ k := fun z => b2 (by rw [← z]; exact hg)
    rw [ex_ui_f _ _ _ _ (rrS_ne hg).2.2.2.2.2.2.1, cw_ne _ _ _ e, h3 g hg]
  · rw [ex_ui_f _ _ _ _ (by decide), cw_ne _ _ _ (Ne.symm b3), h4]
  · unfold rt_ok
    rw [ex_ui_f _ _ _ _ (by decide)]
    exact h5
  · unfold r_ent
    rw [e21, ex_ui_f _ _ _ _ (by decide)]
    exact h6
  · unfold r_fly
    rw [e21, ex_ui_f _ _ _ _ (by decide)]
    exact h7
  · unfold r_que
    rw [e21]
    exact h8 t ht
  · rw [e21, cw_ne _ _ _ (by omega), h9 t ht j hj]
/-- a write of a number of the object -/
theorem rr_us {K : ex_K} {F : ex_F} {I : ex_I} {m g : Nat} {x : Int32} {ad : Nat → Nat} {s : MS} (h : rr I m ad s) (hg : g ∈ rrS) : rr (ex_ui I g m 0 x) m ad (cw s g 0 x) := by
  obtain ⟨h1, h2, h3, h4, h5, h6, h7, h8, h9⟩ := h
  obtain ⟨a1, a2, a3, a4, a5, a6, a7, a8, a9⟩ := rrS_ne hg
  have e21 : ex_ui I g m 0 x 21 = I 21 := ex_ui_f _ _ _ _ (Ne.symm a5)
  refine ⟨fun j hj => ?_, fun j hj => ?_, fun g' hg' => ?_, ?_, ?_, ?_, ?_, fun t ht => ?_, fun t ht j hj => ?_⟩
  · have e : j ≠ g := fun z => a1 (by rw [← z]; exact hj)
    rw [e21, cw_ne _ _ _ e, h1 j hj]
  · have e : j ≠ g := fun z => a2 (by rw [← z]; exact hj)
    rw [ex_ui_f _ _ _ _ (Ne.symm a7), cw_ne _ _ _ e, h2 j hj]
  · by_cases e : g' = g
    · subst e
      rw [ex_ui_eq, cw_at]
      rfl
    · rw [ex_ui_f _ _ _ _ e, cw_ne _ _ _ e, h3 g' hg']
  · rw [ex_ui_f _ _ _ _ (Ne.symm a6), cw_ne _ _ _ (Ne.symm a3), h4]
  · unfold rt_ok
    rw [ex_ui_f _ _ _ _ (Ne.symm a6)]
    exact h5
  · unfold r_ent
    rw [e21, ex_ui_f _ _ _ _ (Ne.symm a8)]
    exact h6
  · unfold r_fly
    rw [e21, ex_ui_f _ _ _ _ (Ne.symm a9)]
    exact h7
  · unfold r_que
    rw [e21]
    exact h8 t ht
  · rw [e21, cw_ne _ _ _ (by omega), h9 t ht j hj]
/-- the store's rows have changed -/
theorem rr_ent {K : ex_K} {F : ex_F} {I I' : ex_I} {m : Nat} {ad : Nat → Nat} {s : MS} {L : List (Nat → Int32)} (hR : rf_ok K F m ad) (h : rr I m ad s) (hf : e_fr I I' ad) (hL : r_ent I' m ad L) : rr I' m ad (tu s 14 L) := by
  obtain ⟨h1, h2, h3, h4, h5, h6, h7, h8, h9⟩ := h
  have f := fr_e hR.2.1 hf
  refine ⟨fun j hj => ?_, fun j hj => ?_, fun g hg => ?_, ?_, ?_, by rw [tu_at]; exact hL, ?_, fun t ht => ?_, fun t ht j hj => ?_⟩
  · obtain ⟨a1, a2, -⟩ := rrA_ne hj
    rw [(f.2 j (by simp [a1, a2])).1, h1 j hj]; rfl
  · have e : j ∉ [14, 15] := fun z => by
      have : ∀ k, k ∈ rrB → k ∉ [14, 15] := by decide
      exact this j hj z
    rw [(f.2 j e).2, h2 j hj]; rfl
  · rw [hf.1 g (rrS_ne hg).2.2.2.2.2.2.2.1 (rrS_ne hg).2.2.2.2.1, h3 g hg]; rfl
  · rw [hf.1 22 (by decide) (by decide), h4]; rfl
  · unfold rt_ok
    rw [hf.1 22 (by decide) (by decide)]
    exact h5
  · rw [tu_ne _ _ (by decide)]
    exact r_fly_fr f (by decide) (by decide) h7
  · rw [tu_ne _ _ (by omega)]
    exact r_que_fr f (by decide) (by decide) (by decide) (h8 t ht)
  · rw [(f.2 31 (by decide)).1, h9 t ht j hj]; rfl
/-- flights have changed -/
theorem rr_fly {K : ex_K} {F : ex_F} {I I' : ex_I} {m : Nat} {ad : Nat → Nat} {s : MS} {U : List (Nat → Int32)} (hR : rf_ok K F m ad) (h : rr I m ad s) (f : fr I I' ad [834] [31]) (hh : hi_same I I' ad) (hU : r_fly I' m ad U) : rr I' m ad (tu s 31 U) := by
  obtain ⟨h1, h2, h3, h4, h5, h6, h7, h8, h9⟩ := h
  refine ⟨fun j hj => ?_, fun j hj => ?_, fun g hg => ?_, ?_, ?_, ?_, by rw [tu_at]; exact hU, fun t ht => ?_, fun t ht j hj => ?_⟩
  · obtain ⟨a1, a2, a3, a4, a5, a6, -⟩ := rrA_ne hj
    rw [(f.2 j (by simp [a6])).1, h1 j hj]; rfl
  · have e : j ≠ 31 := fun z => by rw [z] at hj; exact absurd hj (by decide)
    rw [(f.2 j (by simp [e])).2, h2 j hj]; rfl
  · obtain ⟨b1, b2, b3, b4, b5, b6, b7, b8, b9⟩ := rrS_ne hg
    rw [f.1 g (by simp [b9]) b5 b7, h3 g hg]; rfl
  · rw [f.1 22 (by decide) (by decide) (by decide), h4]; rfl
  · unfold rt_ok
    rw [f.1 22 (by decide) (by decide) (by decide)]
    exact h5
  · rw [tu_ne _ _ (by decide)]
    exact r_ent_fr f (by decide) (by decide) (by decide) h6
  · rw [tu_ne _ _ (by omega)]
    exact r_que_fr f (by decide) (by decide) (by decide) (h8 t ht)
  · rw [hh _ (by omega) (by omega), h9 t ht j hj]; rfl
/-- a queue has changed -/
theorem rr_que {K : ex_K} {F : ex_F} {I I' : ex_I} {m t : Nat} {ad : Nat → Nat} {s : MS} {Q : List (Nat → Int32)} (hR : rf_ok K F m ad) (ht : t < 3) (h : rr I m ad s) (f : fr I I' ad [] [21, 22, 23]) (hQ : r_que I' ad t Q) (ho : ∀ t2 Q2, t2 ≠ t → t2 < 3 → r_que I ad t2 Q2 → r_que I' ad t2 Q2) : rr I' m ad (tu s (100 + t) Q) := by
  obtain ⟨h1, h2, h3, h4, h5, h6, h7, h8, h9⟩ := h
  refine ⟨fun j hj => ?_, fun j hj => ?_, fun g hg => ?_, ?_, ?_, ?_, ?_, fun t2 ht2 => ?_, fun t ht j hj => ?_⟩
  · obtain ⟨a1, a2, a3, a4, a5, a6, -⟩ := rrA_ne hj
    rw [(f.2 j (by simp [a3, a4, a5])).1, h1 j hj]; rfl
  · have e : j ∉ [21, 22, 23] := fun z => by
      have : ∀ k, k ∈ rrB → k ∉ [21, 22, 23] := by decide
      exact this j hj z
    rw [(f.2 j e).2, h2 j hj]; rfl
  · obtain ⟨b1, b2, b3, b4, b5, b6, b7, b8, b9⟩ := rrS_ne hg
    rw [f.1 g (by simp) b5 b7, h3 g hg]; rfl
  · rw [f.1 22 (by decide) (by decide) (by decide), h4]; rfl
  · unfold rt_ok
    rw [f.1 22 (by decide) (by decide) (by decide)]
    exact h5
  · rw [tu_ne _ _ (by omega)]
    exact r_ent_fr f (by decide) (by decide) (by decide) h6
  · rw [tu_ne _ _ (by omega)]
    exact r_fly_fr f (by decide) (by decide) h7
  · by_cases e : t2 = t
    · subst e
      rw [tu_at]
      exact hQ
    · rw [tu_ne _ _ (by omega)]
      exact ho t2 _ e ht2 (h8 t2 ht2)
  · rw [(f.2 31 (by decide)).1, h9 t ht j hj]; rfl
def m_rep (s : MS) (r c t a w : Int32) : MS := if s.1 820 0 - 16 < r then cw (cw (cw (cw s 17 (r &&& 15).toNatClampNeg c) 18 (r &&& 15).toNatClampNeg t) 19 (r &&& 15).toNatClampNeg a) 20 (r &&& 15).toNatClampNeg w else s
theorem rr_rep {K : ex_K} {F : ex_F} {I : ex_I} {m : Nat} {ad : Nat → Nat} {s : MS} (hR : rf_ok K F m ad) (h : rr I m ad s) (r c t a w : Int32) : rr (o_rep I m ad r c t a w) m ad (m_rep s r c t a w) := by
  unfold o_rep m_rep
  rw [h.2.2.1 _ (by decide)]
  split
  · exact rr_ua hR (rr_ua hR (rr_ua hR (rr_ua hR h (by decide)) (by decide)) (by decide)) (by decide)
  · exact h
def m_next (s : MS) : MS := m_rep (cw s 820 0 (s.1 820 0 + 1)) (s.1 820 0 + 1) 0 0 0 0
theorem rr_next {K : ex_K} {F : ex_F} {I : ex_I} {m : Nat} {ad : Nat → Nat} {s : MS} (hR : rf_ok K F m ad) (h : rr I m ad s) : rr (o_next I m ad) m ad (m_next s) := by
  unfold o_next m_next
  rw [h.2.2.1 _ (by decide)]
  exact rr_rep hR (rr_us (K := K) (F := F) h (by decide)) _ _ _ _ _
