theorem tx_char {c : Int32} (h1 : ¬ c < 32) (h2 : ¬ 126 < c) : vp_nar .char c = c := by
  have a1 : (32 : Int) ≤ c.toInt := by
    have := Int32.not_lt.mp h1
    simpa using Int32.le_iff_toInt_le.mp this
  have a2 : c.toInt ≤ 126 := by
    have := Int32.not_lt.mp h2
    simpa using Int32.le_iff_toInt_le.mp this
  obtain ⟨j, hj, e⟩ := nI_of (x := c) (fun z => by
    have := Int32.lt_iff_toInt_lt.mp z
    simp at this
    omega)
  subst e
  rw [nI_toInt hj] at a2
  have h3 := (pk_charN (q := j) (by omega)).1
  unfold vp_nar
  rw [h3]
theorem sp_append {Γ : ex_G} {d : Nat} {K : ex_K} {I : ex_I} {F : ex_F} {b : Nat} {dr tx n : Nat} {c : Int32} (hk : (K dr).1 = 3) (ht : F 228 dr 0 = some tx) (hkt : K tx = (22, 40)) (hl : I 229 dr 0 = nI n) (hn : n ≤ 40) :
    ex_E Γ d M_Drf_append 0 [some (.inr (some dr)), some (.inl c)] [] K I F b (fun r K' I' F' => K = K' ∧ F = F' ∧ (((c < 32 ∨ 126 < c ∨ 40 ≤ n) ∧ r = some (.inl 0) ∧ I' = I) ∨ ((¬ c < 32 ∧ ¬ 126 < c ∧ n < 40) ∧ r = some (.inl 1) ∧ I' = ex_ui (ex_ui I 22 tx n c) 229 dr 0 (nI (n + 1))))) := by
  have hk1 : (K tx).1 = 22 := by rw [hkt]
  have hk2 : (K tx).2 = 40 := by rw [hkt]
  refine s_Drf_append_0 ?_
  refine s_Drf_append_1 ?_
  refine s_Drf_append_3 (fun h3 => ?_) (fun h3 => ?_)
  · refine s_Drf_append_21 ?_
    refine s_Drf_append_22 (by first | rfl | decide | assumption) ?_
    exact ⟨rfl, rfl, Or.inl ⟨Or.inl h3, rfl, rfl⟩⟩
  · refine s_Drf_append_6 ?_
    refine s_Drf_append_7 ?_
    refine s_Drf_append_9 (fun h9 => ?_) (fun h9 => ?_)
    · refine s_Drf_append_21 ?_
      refine s_Drf_append_22 (by first | rfl | decide | assumption) ?_
      exact ⟨rfl, rfl, Or.inl ⟨Or.inr (Or.inl h9), rfl, rfl⟩⟩
    · refine s_Drf_append_12 ?_
      refine s_Drf_append_13 (by first | rfl | assumption | (simp [*]; done)) (by first | rfl | assumption | (simp [*]; done)) ?_
      refine s_Drf_append_16 ?_
      refine s_Drf_append_18 (fun h18 => ?_) (fun h18 => ?_)
      · refine s_Drf_append_23 ?_
        refine s_Drf_append_24 (by first | rfl | assumption | (simp [*]; done)) (by first | rfl | assumption | (simp [*]; done)) ?_
        refine s_Drf_append_27 ?_
        refine s_Drf_append_28 (by first | rfl | assumption | (simp [*]; done)) (by first | rfl | assumption | (simp [*]; done)) ?_
        refine s_Drf_append_31 ?_
        refine s_Drf_append_32 (by exact ht) (by exact hk1) (by rw [hk2, hl]; exact vp_in_nI (by rcases Nat.lt_or_ge n 40 with q | q; exact q; exact absurd h18 (by rw [hl]; exact nI_nlt (a := n) (b := 40) q (by omega))) (by omega)) ?_
        refine s_Drf_append_33 ?_
        refine s_Drf_append_34 ?_
        refine s_Drf_append_35 (by first | rfl | assumption | (simp [*]; done)) (by first | rfl | assumption | (simp [*]; done)) ?_
        refine s_Drf_append_38 ?_
        refine s_Drf_append_39 ?_
        refine s_Drf_append_40 (by first | rfl | assumption | (simp [*]; done)) (by first | rfl | assumption | (simp [*]; done)) ?_
        refine s_Drf_append_43 ?_
        refine s_Drf_append_44 (by first | rfl | decide | assumption) ?_
        have hlt : n < 40 := by
          rcases Nat.lt_or_ge n 40 with q | q
          · exact q
          · exact absurd h18 (by rw [hl]; exact nI_nlt (a := n) (b := 40) q (by omega))
        refine ⟨rfl, rfl, Or.inr ⟨⟨h3, h9, hlt⟩, rfl, ?_⟩⟩
        rw [tx_char h3 h9, hl, nI_clamp (by omega), ex_ui_f _ _ _ _ (by decide), hl, nI_1]
      · refine s_Drf_append_21 ?_
        refine s_Drf_append_22 (by first | rfl | decide | assumption) ?_
        refine ⟨rfl, rfl, Or.inl ⟨Or.inr (Or.inr ?_), rfl, rfl⟩⟩
        rcases Nat.lt_or_ge n 40 with q | q
        · exact absurd (show I 229 dr 0 < 40 by rw [hl]; exact nI_lt (a := n) (b := 40) q (by omega)) h18
        · exact q
