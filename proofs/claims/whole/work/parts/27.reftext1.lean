/-! The reference reads a text -/
def rn_N : List Int32 := [110, 111, 45, 99, 97, 99, 104, 101, 110, 111, 45, 115, 116, 111, 114, 101, 112, 114, 105, 118, 97, 116, 101, 109, 97, 120, 45, 97, 103, 101]
def rn_O : List Int32 := [111, 110, 108, 121, 45, 105, 102, 45, 99, 97, 99, 104, 101, 100, 115, 45, 109, 97, 120, 97, 103, 101, 109, 105, 110, 45, 102, 114, 101, 115, 104]
def ri_s : List Nat := [0, 0, 0, 1, 0, 1, 1]
def ri_a : List Nat := [0, 8, 16, 0, 23, 14, 22]
def rt_ok (I : ex_I) (ad : Nat → Nat) : Prop := (∀ k, k < 30 → I 22 (ad 6) k = rn_N.getD k 0) ∧ ∀ k, k < 31 → I 22 (ad 7) k = rn_O.getD k 0
theorem ri_ok : ∀ i, i < 7 → (tx_names.getD i []).length < 15 ∧ ((ri_s.getD i 0 = 0 ∧ ri_a.getD i 0 + (tx_names.getD i []).length ≤ 30 ∧ ∀ k, k < (tx_names.getD i []).length → rn_N.getD (ri_a.getD i 0 + k) 0 = (tx_names.getD i []).getD k 0) ∨ (ri_s.getD i 0 = 1 ∧ ri_a.getD i 0 + (tx_names.getD i []).length ≤ 31 ∧ ∀ k, k < (tx_names.getD i []).length → rn_O.getD (ri_a.getD i 0 + k) 0 = (tx_names.getD i []).getD k 0)) := by decide +kernel
theorem lp_is {Γ : ex_G} {d : Nat} {K : ex_K} {I : ex_I} {F : ex_F} {b : Nat} {m i a e : Nat} {ad : Nat → Nat} (hR : rf_ok K F m ad) (hT : rt_ok I ad) (hi : i < 7) (he : e = a + (tx_names.getD i []).length) (h40 : e ≤ 40) : ∀ n j, (tx_names.getD i []).length - j = n → j ≤ (tx_names.getD i []).length → (∀ q, q < j → I 22 (ad 3) (a + q) = (tx_names.getD i []).getD q 0) →
    ex_E Γ d M_Mdl_is 19 [some (.inr (some m)), some (.inl (nI (ri_s.getD i 0))), some (.inl (nI (ri_a.getD i 0))), some (.inl (nI (tx_names.getD i []).length)), some (.inl (nI a)), some (.inl (nI e)), some (.inl 1), some (.inl (nI j))] [] K I F b (fun r K' I' F' => r = some (.inl (if tx_is (I 22 (ad 3)) a e i = true then 1 else 0)) ∧ K = K' ∧ I = I' ∧ F = F') := by
  have m1 := hR.1
  obtain ⟨ho, hs⟩ := ri_ok i hi
  intro n
  induction n with
  | zero =>
    intro j hm h1 h2
    refine s_Mdl_is_19 ?_
    refine s_Mdl_is_21 ?_
    refine s_Mdl_is_22 (fun h22 => ?_) (fun h22 => absurd h22 (by exact fun q => q (nI_le (by omega) (by omega))))
    refine s_Mdl_is_81 ?_
    refine s_Mdl_is_83 (by decide) ?_
    rw [if_pos ((tx_is_iff _ _ _ _).mpr ⟨he, fun k hk => h2 k (by omega)⟩)]
    exact ⟨rfl, rfl, rfl, rfl⟩
  | succ n ih =>
    intro j hm h1 h2
    have fin : ∀ c : Int32, c = (tx_names.getD i []).getD j 0 → ex_E Γ d M_Mdl_is 65 [some (.inr (some m)), some (.inl (nI (ri_s.getD i 0))), some (.inl (nI (ri_a.getD i 0))), some (.inl (nI (tx_names.getD i []).length)), some (.inl (nI a)), some (.inl (nI e)), some (.inl 1), some (.inl (nI j))] [.inl c, .inl (I 22 (ad 3) (a + j))] K I F b (fun r K' I' F' => r = some (.inl (if tx_is (I 22 (ad 3)) a e i = true then 1 else 0)) ∧ K = K' ∧ I = I' ∧ F = F') := by
      intro c hc
      refine s_Mdl_is_65 (fun h65 => ?_) (fun h65 => ?_)
      · refine s_Mdl_is_72 ?_
        refine s_Mdl_is_73 ?_
        refine s_Mdl_is_75 ?_
        refine s_Mdl_is_78 ?_
        have z : ¬ tx_is (I 22 (ad 3)) a e i = true := by
          rw [tx_is_iff]
          exact fun w => h65 (by rw [hc]; exact w.2 j (by omega))
        rw [if_neg z]
        refine s_Mdl_is_19 ?_
        refine s_Mdl_is_21 ?_
        refine s_Mdl_is_22 (fun h22 => ?_) (fun h22 => ?_)
        · refine s_Mdl_is_81 ?_
          refine s_Mdl_is_83 (by decide) ?_
          exact ⟨rfl, rfl, rfl, rfl⟩
        · refine s_Mdl_is_25 ?_
          refine s_Mdl_is_27 (fun h27 => ?_) (fun h27 => absurd h27 (by exact fun q => q rfl))
          refine s_Mdl_is_81 ?_
          refine s_Mdl_is_83 (by decide) ?_
          exact ⟨rfl, rfl, rfl, rfl⟩
      · refine s_Mdl_is_68 ?_
        refine s_Mdl_is_69 ?_
        refine s_Mdl_is_73 ?_
        refine s_Mdl_is_75 ?_
        refine s_Mdl_is_78 ?_
        rw [nI_1]
        exact ih (j + 1) (by omega) (by omega) (fun q hq => by
          by_cases z : q = j
          · rw [z]; exact h65.trans hc
          · exact h2 q (by omega))
    rcases hs with ⟨s0, s1, s2⟩ | ⟨s0, s1, s2⟩
    · have fin0 := fin
      clear fin
      refine s_Mdl_is_19 ?_
      refine s_Mdl_is_21 ?_
      refine s_Mdl_is_22 (fun h22 => absurd h22 (by exact nI_ge (by omega) (by omega))) (fun h22 => ?_)
      refine s_Mdl_is_25 ?_
      refine s_Mdl_is_27 (fun h27 => absurd h27 (by decide)) (fun h27 => ?_)
      refine s_Mdl_is_30 ?_
      refine s_Mdl_is_31 (by first | rfl | assumption | (simp [*]; done)) (by first | rfl | assumption | (simp [*]; done)) ?_
      refine s_Mdl_is_34 ?_
      refine s_Mdl_is_36 ?_
      refine s_Mdl_is_38 ?_
      refine s_Mdl_is_39 (by first | exact rf_draft hR | rfl) (by exact rk_draft hR) (by rw [rn_draft hR]; exact n_in (a := (a + j)) (by first | rfl | (simp only [nl_1, nl_2, nl_3, nl_4, nl_5, nl_6, nl_7, nl_8, nl_9, nl_10, nl_11, nl_12, nl_13, nl_14, nl_15, nl_16, nl_32, nl_240, nl_250, nl_255, nl_265, nl_270, nl_0, nI_add, pk_mul]; done)) (by omega) (by omega)) ?_
      refine ex_ixl (q := (a + j)) (by first | rfl | (simp only [nl_1, nl_2, nl_3, nl_4, nl_5, nl_6, nl_7, nl_8, nl_9, nl_10, nl_11, nl_12, nl_13, nl_14, nl_15, nl_16, nl_32, nl_240, nl_250, nl_255, nl_265, nl_270, nl_0, nI_add, pk_mul]; done)) (by omega) ?_
      refine s_Mdl_is_40 ?_
      refine s_Mdl_is_41 (fun h41 => ?_) (fun h41 => absurd h41 (by rw [s0]; exact fun q => q rfl))
      refine s_Mdl_is_56 ?_
      refine s_Mdl_is_57 (by first | rfl | assumption | (simp [*]; done)) (by first | rfl | assumption | (simp [*]; done)) ?_
      refine s_Mdl_is_60 ?_
      refine s_Mdl_is_61 ?_
      refine s_Mdl_is_63 ?_
      refine s_Mdl_is_64 (by first | exact rf_names hR | rfl) (by exact rk_names hR) (by rw [rn_names hR]; exact n_in (a := ((ri_a.getD i 0) + j)) (by first | rfl | (simp only [nl_1, nl_2, nl_3, nl_4, nl_5, nl_6, nl_7, nl_8, nl_9, nl_10, nl_11, nl_12, nl_13, nl_14, nl_15, nl_16, nl_32, nl_240, nl_250, nl_255, nl_265, nl_270, nl_0, nI_add, pk_mul]; done)) (by omega) (by omega)) ?_
      refine ex_ixl (q := ((ri_a.getD i 0) + j)) (by first | rfl | (simp only [nl_1, nl_2, nl_3, nl_4, nl_5, nl_6, nl_7, nl_8, nl_9, nl_10, nl_11, nl_12, nl_13, nl_14, nl_15, nl_16, nl_32, nl_240, nl_250, nl_255, nl_265, nl_270, nl_0, nI_add, pk_mul]; done)) (by omega) ?_
      exact fin0 _ (by rw [hT.1 _ (by omega)]; exact s2 j (by omega))
    · skip
      refine s_Mdl_is_19 ?_
      refine s_Mdl_is_21 ?_
      refine s_Mdl_is_22 (fun h22 => absurd h22 (by exact nI_ge (by omega) (by omega))) (fun h22 => ?_)
      refine s_Mdl_is_25 ?_
      refine s_Mdl_is_27 (fun h27 => absurd h27 (by decide)) (fun h27 => ?_)
      refine s_Mdl_is_30 ?_
      refine s_Mdl_is_31 (by first | rfl | assumption | (simp [*]; done)) (by first | rfl | assumption | (simp [*]; done)) ?_
      refine s_Mdl_is_34 ?_
      refine s_Mdl_is_36 ?_
      refine s_Mdl_is_38 ?_
      refine s_Mdl_is_39 (by first | exact rf_draft hR | rfl) (by exact rk_draft hR) (by rw [rn_draft hR]; exact n_in (a := (a + j)) (by first | rfl | (simp only [nl_1, nl_2, nl_3, nl_4, nl_5, nl_6, nl_7, nl_8, nl_9, nl_10, nl_11, nl_12, nl_13, nl_14, nl_15, nl_16, nl_32, nl_240, nl_250, nl_255, nl_265, nl_270, nl_0, nI_add, pk_mul]; done)) (by omega) (by omega)) ?_
      refine ex_ixl (q := (a + j)) (by first | rfl | (simp only [nl_1, nl_2, nl_3, nl_4, nl_5, nl_6, nl_7, nl_8, nl_9, nl_10, nl_11, nl_12, nl_13, nl_14, nl_15, nl_16, nl_32, nl_240, nl_250, nl_255, nl_265, nl_270, nl_0, nI_add, pk_mul]; done)) (by omega) ?_
      refine s_Mdl_is_40 ?_
      refine s_Mdl_is_41 (fun h41 => absurd h41 (by rw [s0]; decide)) (fun h41 => ?_)
      refine s_Mdl_is_44 ?_
      refine s_Mdl_is_45 (by first | rfl | assumption | (simp [*]; done)) (by first | rfl | assumption | (simp [*]; done)) ?_
      refine s_Mdl_is_48 ?_
      refine s_Mdl_is_49 ?_
      refine s_Mdl_is_51 ?_
      refine s_Mdl_is_52 (by first | exact rf_others hR | rfl) (by exact rk_others hR) (by rw [rn_others hR]; exact n_in (a := ((ri_a.getD i 0) + j)) (by first | rfl | (simp only [nl_1, nl_2, nl_3, nl_4, nl_5, nl_6, nl_7, nl_8, nl_9, nl_10, nl_11, nl_12, nl_13, nl_14, nl_15, nl_16, nl_32, nl_240, nl_250, nl_255, nl_265, nl_270, nl_0, nI_add, pk_mul]; done)) (by omega) (by omega)) ?_
      refine ex_ixl (q := ((ri_a.getD i 0) + j)) (by first | rfl | (simp only [nl_1, nl_2, nl_3, nl_4, nl_5, nl_6, nl_7, nl_8, nl_9, nl_10, nl_11, nl_12, nl_13, nl_14, nl_15, nl_16, nl_32, nl_240, nl_250, nl_255, nl_265, nl_270, nl_0, nI_add, pk_mul]; done)) (by omega) ?_
      refine s_Mdl_is_53 ?_
      exact fin _ (by rw [hT.2 _ (by omega)]; exact s2 j (by omega))
theorem sp_is {Γ : ex_G} {d : Nat} {K : ex_K} {I : ex_I} {F : ex_F} {b : Nat} {m i a e : Nat} {ad : Nat → Nat} (hR : rf_ok K F m ad) (hT : rt_ok I ad) (hi : i < 7) (hae : a ≤ e) (h40 : e ≤ 40) {x0 x1 x2 : Int32} (e0 : x0 = nI (ri_s.getD i 0)) (e1 : x1 = nI (ri_a.getD i 0)) (e2 : x2 = nI (tx_names.getD i []).length) :
    ex_E Γ d M_Mdl_is 0 [some (.inr (some m)), some (.inl x0), some (.inl x1), some (.inl x2), some (.inl (nI a)), some (.inl (nI e)), none, none] [] K I F b (fun r K' I' F' => r = some (.inl (if tx_is (I 22 (ad 3)) a e i = true then 1 else 0)) ∧ K = K' ∧ I = I' ∧ F = F') := by
  subst e0 e1 e2
  have ho := (ri_ok i hi).1
  have es : nI e - nI a = nI (e - a) := pk_sub hae
  refine s_Mdl_is_0 ?_
  refine s_Mdl_is_2 ?_
  refine s_Mdl_is_4 ?_
  refine s_Mdl_is_5 ?_
  rw [es]
  refine s_Mdl_is_6 (fun h6 => ?_) (fun h6 => ?_)
  · refine s_Mdl_is_13 ?_
    refine s_Mdl_is_14 ?_
    refine s_Mdl_is_16 ?_
    refine s_Mdl_is_17 ?_
    have z : ¬ tx_is (I 22 (ad 3)) a e i = true := by
      rw [tx_is_iff]
      exact fun w => h6 (by congr 1; omega)
    rw [if_neg z]
    refine s_Mdl_is_19 ?_
    refine s_Mdl_is_21 ?_
    refine s_Mdl_is_22 (fun h22 => ?_) (fun h22 => ?_)
    · refine s_Mdl_is_81 ?_
      refine s_Mdl_is_83 (by decide) ?_
      exact ⟨rfl, rfl, rfl, rfl⟩
    · refine s_Mdl_is_25 ?_
      refine s_Mdl_is_27 (fun h27 => ?_) (fun h27 => absurd h27 (by exact fun q => q rfl))
      refine s_Mdl_is_81 ?_
      refine s_Mdl_is_83 (by decide) ?_
      exact ⟨rfl, rfl, rfl, rfl⟩
  · refine s_Mdl_is_9 ?_
    refine s_Mdl_is_10 ?_
    refine s_Mdl_is_14 ?_
    refine s_Mdl_is_16 ?_
    refine s_Mdl_is_17 ?_
    have z := (nI_eq (by omega) (by omega)).mp h6
    exact lp_is hR hT hi (by omega) h40 _ 0 rfl (by omega) (fun q hq => absurd hq (by omega))
