/-! Texts: names, elements, controls -/
theorem tx_sl : ∀ i, i < 7 → sl_len.getD i 0 = (tx_names.getD i []).length ∧ sl_len.getD i 0 < 20 ∧ ∀ k, k < 20 → ((sl_byt.getD i []).getD k 0) &&& 255 = (tx_names.getD i []).getD k 0 := by decide +kernel
theorem sp_slen {Γ : ex_G} {d : Nat} {K : ex_K} {I : ex_I} {F : ex_F} {b : Nat} {i : Nat} (hi : i < 7) : ex_E Γ (d + 1) M_Str_length 0 [some (.inr (some (Γ.2.2.2.1 i)))] [] K I F b (fun r K' I' F' => r = some (.inl (nI (tx_names.getD i []).length)) ∧ K = K' ∧ I = I' ∧ F = F') := by
  obtain ⟨h1, h2, -⟩ := tx_sl i hi
  refine s_Str_length_0 ?_
  refine s_Str_length_1 (by exact hi) ?_
  refine s_Str_length_4 (by exact hi) ?_
  refine s_Str_length_5 ?_
  refine s_Str_length_6 (b1 := 0) (b2 := _) (by exact hi) (Q1 := fun r K' I' F' => ex_E _ _ M_Str_length 9 _ (r.toList ++ _) K' I' F' _ _) ?_ (fun _ _ _ _ hq => hq) (Nat.le_of_eq (Nat.zero_add _))
  refine s_Str_coder_0 ?_
  refine s_Str_coder_3 (fun g3 => absurd g3 (by decide)) (fun g3 => ?_)
  refine s_Str_coder_6 ?_
  refine s_Str_coder_7 (by exact hi) ?_
  refine s_Str_coder_10 ?_
  refine s_Str_coder_14 (by first | rfl | decide | assumption) ?_
  dsimp only [Option.toList, List.cons_append, List.nil_append]
  refine s_Str_length_9 ?_
  refine s_Str_length_10 ?_
  rw [sc_shr0 (by omega), h1]
  exact ⟨rfl, rfl, rfl, rfl⟩
theorem sp_charAt {Γ : ex_G} {d : Nat} {K : ex_K} {I : ex_I} {F : ex_F} {b : Nat} {i k : Nat} (hi : i < 7) (hk : k < (tx_names.getD i []).length) : ex_E Γ (d + 3) M_Str_charAt 0 [some (.inr (some (Γ.2.2.2.1 i))), some (.inl (nI k))] [] K I F b (fun r K' I' F' => r = some (.inl ((tx_names.getD i []).getD k 0)) ∧ K = K' ∧ I = I' ∧ F = F') := by
  obtain ⟨h1, h2, h3⟩ := tx_sl i hi
  have e := h3 k (by omega)
  have n1 : narrow .char (.int ((((sl_byt.getD i []).getD (nI k).toNatClampNeg 0) &&& 255).toUInt32 % 65536).toInt32) = .int ((((sl_byt.getD i []).getD (nI k).toNatClampNeg 0) &&& 255).toUInt32 % 65536).toInt32 := by rw [sc_c2]; exact sc_nar _
  refine s_Str_charAt_0 ?_
  refine s_Str_charAt_1 (b1 := 0) (b2 := _) (by exact hi) (Q1 := fun r K' I' F' => ex_E _ _ M_Str_charAt 4 _ (r.toList ++ _) K' I' F' _ _) ?_ (fun _ _ _ _ hq => hq) (Nat.le_of_eq (Nat.zero_add _))
  refine s_Str_isLatin1_0 ?_
  refine s_Str_isLatin1_3 (fun g3 => absurd g3 (by decide)) (fun g3 => ?_)
  refine s_Str_isLatin1_6 ?_
  refine s_Str_isLatin1_7 (by exact hi) ?_
  refine s_Str_isLatin1_10 (fun g10 => absurd g10 (by exact fun q => q rfl)) (fun g10 => ?_)
  refine s_Str_isLatin1_13 ?_
  refine s_Str_isLatin1_14 ?_
  refine s_Str_isLatin1_18 (by first | rfl | decide | assumption) ?_
  dsimp only [Option.toList, List.cons_append, List.nil_append]
  refine s_Str_charAt_4 (fun h4 => absurd h4 (by decide)) (fun h4 => ?_)
  refine s_Str_charAt_7 ?_
  refine s_Str_charAt_8 (by exact hi) ?_
  refine s_Str_charAt_11 ?_
  refine s_Str_charAt_12 (b1 := 0) (b2 := _)  (Q1 := fun r K' I' F' => ex_E _ _ M_Str_charAt 15 _ (r.toList ++ _) K' I' F' _ _) ?_ (fun _ _ _ _ hq => hq) (Nat.le_of_eq (Nat.zero_add _))
  refine s_SL1_charAt_0 ?_
  refine s_SL1_charAt_1 ?_
  refine s_SL1_charAt_2 (by exact hi) ?_
  refine s_SL1_charAt_3 (b1 := 0) (b2 := _)  (Q1 := fun r K' I' F' => ex_E _ _ M_SL1_charAt 6 _ (r.toList ++ _) K' I' F' _ _) ?_ (fun _ _ _ _ hq => hq) (Nat.le_of_eq (Nat.zero_add _))
  refine s_Str_checkIndex_0 ?_
  refine s_Str_checkIndex_1 ?_
  refine s_Str_checkIndex_2 (fun rq => ?_)
  refine s_Str_checkIndex_5 (b1 := 0) (b2 := _)  (Q1 := fun r K' I' F' => ex_E _ _ M_Str_checkIndex 8 _ (r.toList ++ _) K' I' F' _ _) ?_ (fun _ _ _ _ hq => hq) (Nat.le_of_eq (Nat.zero_add _))
  refine s_Pre_checkIndex_0 ?_
  refine s_Pre_checkIndex_1 (fun e1 => absurd e1 (by exact nI_pos (by omega))) (fun e1 => ?_)
  refine s_Pre_checkIndex_4 ?_
  refine s_Pre_checkIndex_5 ?_
  refine s_Pre_checkIndex_6 (fun e6 => ?_) (fun e6 => absurd e6 (by exact fun q => q (nI_lt (by omega) (by omega))))
  refine s_Pre_checkIndex_16 ?_
  refine s_Pre_checkIndex_17 ?_
  dsimp only [Option.toList, List.cons_append, List.nil_append]
  refine s_Str_checkIndex_8 ?_
  refine s_Str_checkIndex_9 ?_
  dsimp only [Option.toList, List.cons_append, List.nil_append]
  refine s_SL1_charAt_6 ?_
  refine s_SL1_charAt_7 ?_
  refine s_SL1_charAt_8 (by exact hi) (by exact vp_in_nI (by omega) (by omega)) ?_
  refine s_SL1_charAt_9 ?_
  refine s_SL1_charAt_12 ?_
  refine s_SL1_charAt_13 ?_
  refine s_SL1_charAt_14 (by exact n1) ?_
  dsimp only [Option.toList, List.cons_append, List.nil_append]
  refine s_Str_charAt_15 (by exact n1) ?_
  rw [sc_c2, nI_clamp (by omega), e]
  exact ⟨rfl, rfl, rfl, rfl⟩
theorem sp_nameOf {Γ : ex_G} {d : Nat} {K : ex_K} {I : ex_I} {F : ex_F} {b : Nat} {j : Nat} (hj : j < 7) : ex_E Γ d M_Ctl_nameOf 0 [some (.inl (nI j))] [] K I F b (fun r K' I' F' => r = some (.inr (some (Γ.2.2.2.1 j))) ∧ K = K' ∧ I = I' ∧ F = F') := by
  refine s_Ctl_nameOf_0 ?_
  refine s_Ctl_nameOf_1 (fun h1 => ?_) (fun h1 => ?_) (fun h1 => ?_) (fun h1 => ?_) (fun h1 => ?_) (fun h1 => ?_) (fun h1_0 h1_1 h1_2 h1_3 h1_4 h1_5 => ?_)
  · refine s_Ctl_nameOf_40 ?_
    refine s_Ctl_nameOf_42 ?_
    have e : j = 0 := (n_eq (b := 0) rfl rfl (by omega) (by omega)).mp h1
    subst e
    exact ⟨rfl, rfl, rfl, rfl⟩
  · refine s_Ctl_nameOf_43 ?_
    refine s_Ctl_nameOf_45 ?_
    have e : j = 1 := (n_eq (b := 1) rfl rfl (by omega) (by omega)).mp h1
    subst e
    exact ⟨rfl, rfl, rfl, rfl⟩
  · refine s_Ctl_nameOf_46 ?_
    refine s_Ctl_nameOf_48 ?_
    have e : j = 2 := (n_eq (b := 2) rfl rfl (by omega) (by omega)).mp h1
    subst e
    exact ⟨rfl, rfl, rfl, rfl⟩
  · refine s_Ctl_nameOf_49 ?_
    refine s_Ctl_nameOf_51 ?_
    have e : j = 3 := (n_eq (b := 3) rfl rfl (by omega) (by omega)).mp h1
    subst e
    exact ⟨rfl, rfl, rfl, rfl⟩
  · refine s_Ctl_nameOf_52 ?_
    refine s_Ctl_nameOf_54 ?_
    have e : j = 4 := (n_eq (b := 4) rfl rfl (by omega) (by omega)).mp h1
    subst e
    exact ⟨rfl, rfl, rfl, rfl⟩
  · refine s_Ctl_nameOf_55 ?_
    refine s_Ctl_nameOf_57 ?_
    have e : j = 5 := (n_eq (b := 5) rfl rfl (by omega) (by omega)).mp h1
    subst e
    exact ⟨rfl, rfl, rfl, rfl⟩
  · refine s_Ctl_nameOf_58 ?_
    refine s_Ctl_nameOf_60 ?_
    have e : j = 6 := by
      have q : ∀ c, c < 7 → ¬ nI j = nI c → ¬ j = c := fun c hc h z => h (by rw [z])
      have q0 := q 0 (by omega) h1_0
      have q1 := q 1 (by omega) h1_1
      have q2 := q 2 (by omega) h1_2
      have q3 := q 3 (by omega) h1_3
      have q4 := q 4 (by omega) h1_4
      have q5 := q 5 (by omega) h1_5
      omega
    subst e
    exact ⟨rfl, rfl, rfl, rfl⟩
theorem tx_c_iff (c : Int32) : tx_c c = true ↔ ((¬ c < 97 ∧ c ≤ 122) ∨ c = 45) := by simp [tx_c, Int32.not_lt]
theorem sp_isOfName {Γ : ex_G} {d : Nat} {K : ex_K} {I : ex_I} {F : ex_F} {b : Nat} {c : Int32} : ex_E Γ d M_Drf_isOfName 0 [some (.inl c)] [] K I F b (fun r K' I' F' => r = some (.inl (if tx_c c = true then 1 else 0)) ∧ K = K' ∧ I = I' ∧ F = F') := by
  refine s_Drf_isOfName_0 ?_
  refine s_Drf_isOfName_1 ?_
  refine s_Drf_isOfName_3 (fun h3 => ?_) (fun h3 => ?_)
  · refine s_Drf_isOfName_12 ?_
    refine s_Drf_isOfName_13 ?_
    refine s_Drf_isOfName_15 (fun h15 => ?_) (fun h15 => ?_)
    · refine s_Drf_isOfName_22 ?_
      refine s_Drf_isOfName_23 (by first | rfl | decide | assumption) ?_
      rw [if_neg (by rw [tx_c_iff]; exact fun z => z.elim (fun w => w.1 h3) h15)]
      exact ⟨rfl, rfl, rfl, rfl⟩
    · refine s_Drf_isOfName_18 ?_
      refine s_Drf_isOfName_19 ?_
      refine s_Drf_isOfName_23 (by first | rfl | decide | assumption) ?_
      rw [if_pos (by rw [tx_c_iff]; exact Or.inr h15)]
      exact ⟨rfl, rfl, rfl, rfl⟩
  · refine s_Drf_isOfName_6 ?_
    refine s_Drf_isOfName_7 ?_
    refine s_Drf_isOfName_9 (fun h9 => ?_) (fun h9 => ?_)
    · refine s_Drf_isOfName_18 ?_
      refine s_Drf_isOfName_19 ?_
      refine s_Drf_isOfName_23 (by first | rfl | decide | assumption) ?_
      rw [if_pos (by rw [tx_c_iff]; exact Or.inl ⟨h3, h9⟩)]
      exact ⟨rfl, rfl, rfl, rfl⟩
    · refine s_Drf_isOfName_12 ?_
      refine s_Drf_isOfName_13 ?_
      refine s_Drf_isOfName_15 (fun h15 => ?_) (fun h15 => ?_)
      · refine s_Drf_isOfName_22 ?_
        refine s_Drf_isOfName_23 (by first | rfl | decide | assumption) ?_
        rw [if_neg (by rw [tx_c_iff]; exact fun z => z.elim (fun w => h9 w.2) h15)]
        exact ⟨rfl, rfl, rfl, rfl⟩
      · refine s_Drf_isOfName_18 ?_
        refine s_Drf_isOfName_19 ?_
        refine s_Drf_isOfName_23 (by first | rfl | decide | assumption) ?_
        rw [if_pos (by rw [tx_c_iff]; exact Or.inr h15)]
        exact ⟨rfl, rfl, rfl, rfl⟩
theorem tx_is_iff (f : Nat → Int32) (a e d : Nat) : tx_is f a e d = true ↔ (e = a + (tx_names.getD d []).length ∧ ∀ k, k < (tx_names.getD d []).length → f (a + k) = (tx_names.getD d []).getD k 0) := by
  unfold tx_is
  rw [Bool.and_eq_true, List.all_eq_true, decide_eq_true_iff]
  constructor
  · rintro ⟨h1, h2⟩
    exact ⟨h1, fun k hk => by simpa using h2 k (List.mem_range.mpr hk)⟩
  · rintro ⟨h1, h2⟩
    exact ⟨h1, fun k hk => by simpa using h2 k (List.mem_range.mp hk)⟩
def dr_ok (K : ex_K) (F : ex_F) (dr tx : Nat) : Prop := (K dr).1 = 3 ∧ F 228 dr 0 = some tx ∧ K tx = (22, 40)
theorem lp_stands {Γ : ex_G} {d : Nat} {K : ex_K} {I : ex_I} {F : ex_F} {b : Nat} {dr tx i a e : Nat} (hd : dr_ok K F dr tx) (hi : i < 7) (he : e = a + (tx_names.getD i []).length) (h40 : e ≤ 40) : ∀ m j, (tx_names.getD i []).length - j = m → j ≤ (tx_names.getD i []).length → (∀ q, q < j → I 22 tx (a + q) = (tx_names.getD i []).getD q 0) →
    ex_E Γ (d + 4) M_Drf_stands 15 [some (.inr (some dr)), some (.inr (some (Γ.2.2.2.1 i))), some (.inl (nI a)), some (.inl (nI e)), some (.inl (nI (a + j)))] [] K I F b (fun r K' I' F' => r = some (.inl (if tx_is (I 22 tx) a e i = true then 1 else 0)) ∧ K = K' ∧ I = I' ∧ F = F') := by
  obtain ⟨d1, d2, d3⟩ := hd
  have k1 : (K tx).1 = 22 := by rw [d3]
  have k2 : (K tx).2 = 40 := by rw [d3]
  intro m
  induction m with
  | zero =>
    intro j hm h1 h2
    have ej : j = (tx_names.getD i []).length := by omega
    refine s_Drf_stands_15 ?_
    refine s_Drf_stands_17 ?_
    refine s_Drf_stands_18 (fun h18 => ?_) (fun h18 => absurd h18 (by exact fun q => q (nI_le (by omega) (by omega))))
    refine s_Drf_stands_47 ?_
    refine s_Drf_stands_48 (by first | rfl | decide | assumption) ?_
    rw [if_pos ((tx_is_iff _ _ _ _).mpr ⟨he, fun k hk => h2 k (by omega)⟩)]
    exact ⟨rfl, rfl, rfl, rfl⟩
  | succ m ih =>
    intro j hm h1 h2
    refine s_Drf_stands_15 ?_
    refine s_Drf_stands_17 ?_
    refine s_Drf_stands_18 (fun h18 => absurd h18 (by exact nI_ge (by omega) (by omega))) (fun h18 => ?_)
    refine s_Drf_stands_21 ?_
    refine s_Drf_stands_22 (by first | rfl | assumption | (simp [*]; done)) (by first | rfl | assumption | (simp [*]; done)) ?_
    refine s_Drf_stands_25 ?_
    refine s_Drf_stands_27 (by exact d2) (by exact k1) (by rw [k2]; exact vp_in_nI (by omega) (by omega)) ?_
    refine s_Drf_stands_28 ?_
    refine s_Drf_stands_29 ?_
    refine s_Drf_stands_31 ?_
    refine s_Drf_stands_32 ?_
    rw [show nI (a + j) - nI a = nI j by rw [pk_sub (by omega)]; congr 1; omega]
    refine s_Drf_stands_33 (b1 := 0) (b2 := b) (by exact hi) (sp_charAt hi (by omega)) ?_ (by omega)
    rintro _ _ _ _ ⟨rfl, rfl, rfl, rfl⟩
    dsimp only [Option.toList, List.cons_append, List.nil_append]
    refine s_Drf_stands_36 (fun h36 => ?_) (fun h36 => ?_)
    · refine s_Drf_stands_41 ?_
      refine s_Drf_stands_44 ?_
      rw [nI_clamp (by omega)] at h36
      rw [show nI (a + j) + 1 = nI (a + (j + 1)) by rw [nI_1]; rfl]
      exact ih (j + 1) (by omega) (by omega) (fun q hq => by
        by_cases z : q = j
        · rw [z]; exact h36
        · exact h2 q (by omega))
    · refine s_Drf_stands_39 ?_
      refine s_Drf_stands_40 (by first | rfl | decide | assumption) ?_
      rw [nI_clamp (by omega)] at h36
      rw [if_neg (by rw [tx_is_iff]; exact fun z => h36 (z.2 j (by omega)))]
      exact ⟨rfl, rfl, rfl, rfl⟩
theorem sp_stands {Γ : ex_G} {d : Nat} {K : ex_K} {I : ex_I} {F : ex_F} {b : Nat} {dr tx i a e : Nat} (hd : dr_ok K F dr tx) (hi : i < 7) (hae : a ≤ e) (h40 : e ≤ 40) :
    ex_E Γ (d + 4) M_Drf_stands 0 [some (.inr (some dr)), some (.inr (some (Γ.2.2.2.1 i))), some (.inl (nI a)), some (.inl (nI e)), none] [] K I F b (fun r K' I' F' => r = some (.inl (if tx_is (I 22 tx) a e i = true then 1 else 0)) ∧ K = K' ∧ I = I' ∧ F = F') := by
  have h20 := (tx_sl i hi).2.1
  rw [(tx_sl i hi).1] at h20
  refine s_Drf_stands_0 ?_
  refine s_Drf_stands_1 (b1 := 0) (b2 := b) (by exact hi) (sp_slen hi) ?_ (by omega)
  rintro _ _ _ _ ⟨rfl, rfl, rfl, rfl⟩
  dsimp only [Option.toList, List.cons_append, List.nil_append]
  refine s_Drf_stands_4 ?_
  refine s_Drf_stands_5 ?_
  refine s_Drf_stands_6 ?_
  rw [pk_sub hae]
  refine s_Drf_stands_7 (fun h7 => ?_) (fun h7 => ?_)
  · refine s_Drf_stands_12 ?_
    refine s_Drf_stands_13 ?_
    have z := (nI_eq (by omega) (by omega)).mp h7
    exact lp_stands hd hi (by omega) h40 _ 0 rfl (by omega) (fun q hq => absurd hq (by omega))
  · refine s_Drf_stands_10 ?_
    refine s_Drf_stands_11 (by first | rfl | decide | assumption) ?_
    rw [if_neg (by rw [tx_is_iff]; exact fun z => h7 (by congr 1; omega))]
    exact ⟨rfl, rfl, rfl, rfl⟩
def tx_rd (d : Nat) : Int32 := if d = 7 then -1 else nI d
theorem lp_directiveAt {Γ : ex_G} {d : Nat} {K : ex_K} {I : ex_I} {F : ex_F} {b : Nat} {dr tx a e : Nat} (hd : dr_ok K F dr tx) (hae : a ≤ e) (h40 : e ≤ 40) : ∀ m j, 7 - j = m → j ≤ 7 →
    ex_E Γ (d + 5) M_Drf_directiveAt 2 [some (.inr (some dr)), some (.inl (nI a)), some (.inl (nI e)), some (.inl (nI j))] [] K I F b (fun r K' I' F' => r = some (.inl (tx_rd (tx_d (I 22 tx) a e m j))) ∧ K = K' ∧ I = I' ∧ F = F') := by
  have d1 := hd.1
  intro m
  induction m with
  | zero =>
    intro j hm h1
    have ej : j = 7 := by omega
    subst ej
    refine s_Drf_directiveAt_2 ?_
    refine s_Drf_directiveAt_3 ?_
    refine s_Drf_directiveAt_5 (fun h5 => ?_) (fun h5 => absurd h5 (by exact fun q => q (nI_le (a := 7) (b := 7) (by omega) (by omega))))
    refine s_Drf_directiveAt_29 ?_
    refine s_Drf_directiveAt_30 ?_
    exact ⟨rfl, rfl, rfl, rfl⟩
  | succ m ih =>
    intro j hm h1
    refine s_Drf_directiveAt_2 ?_
    refine s_Drf_directiveAt_3 ?_
    refine s_Drf_directiveAt_5 (fun h5 => absurd h5 (by exact nI_ge (a := j) (b := 7) (by omega) (by omega))) (fun h5 => ?_)
    refine s_Drf_directiveAt_8 ?_
    refine s_Drf_directiveAt_9 ?_
    refine s_Drf_directiveAt_10 (b1 := 0) (b2 := b)  (sp_nameOf (by omega)) ?_ (by omega)
    rintro _ _ _ _ ⟨rfl, rfl, rfl, rfl⟩
    dsimp only [Option.toList, List.cons_append, List.nil_append]
    refine s_Drf_directiveAt_13 ?_
    refine s_Drf_directiveAt_14 ?_
    refine s_Drf_directiveAt_15 (b1 := 0) (b2 := b) (by first | rfl | assumption | (simp [*]; done)) (by first | rfl | assumption | (simp [*]; done)) (sp_stands hd (by omega) hae h40) ?_ (by omega)
    rintro _ _ _ _ ⟨rfl, rfl, rfl, rfl⟩
    dsimp only [Option.toList, List.cons_append, List.nil_append]
    refine s_Drf_directiveAt_18 (fun h18 => ?_) (fun h18 => ?_)
    · refine s_Drf_directiveAt_23 ?_
      refine s_Drf_directiveAt_26 ?_
      have z : ¬ tx_is (I 22 tx) a e j = true := fun z => by rw [if_pos z] at h18; exact absurd h18 (by decide)
      rw [show tx_d (I 22 tx) a e (m + 1) j = tx_d (I 22 tx) a e m (j + 1) by rw [tx_d, if_neg z], nI_1]
      exact ih (j + 1) (by omega) (by omega)
    · refine s_Drf_directiveAt_21 ?_
      refine s_Drf_directiveAt_22 ?_
      have z : tx_is (I 22 tx) a e j = true := by
        by_cases z : tx_is (I 22 tx) a e j = true
        · exact z
        · exact absurd (if_neg z) h18
      rw [show tx_d (I 22 tx) a e (m + 1) j = j by rw [tx_d, if_pos z], tx_rd, if_neg (by omega)]
      exact ⟨rfl, rfl, rfl, rfl⟩
theorem sp_directiveAt {Γ : ex_G} {d : Nat} {K : ex_K} {I : ex_I} {F : ex_F} {b : Nat} {dr tx a e : Nat} (hd : dr_ok K F dr tx) (hae : a ≤ e) (h40 : e ≤ 40) :
    ex_E Γ (d + 5) M_Drf_directiveAt 0 [some (.inr (some dr)), some (.inl (nI a)), some (.inl (nI e)), none] [] K I F b (fun r K' I' F' => r = some (.inl (tx_rd (tx_d (I 22 tx) a e 7 0))) ∧ K = K' ∧ I = I' ∧ F = F') := by
  refine s_Drf_directiveAt_0 ?_
  refine s_Drf_directiveAt_1 ?_
  exact lp_directiveAt hd hae h40 7 0 rfl (by omega)
theorem lp_numberFrom {Γ : ex_G} {d : Nat} {K : ex_K} {I : ex_I} {F : ex_F} {b : Nat} {dr tx b' : Nat} {l1 l3 : Option ex_V} (hd : dr_ok K F dr tx) (h40 : b' ≤ 40) : ∀ m j v, b' - j = m → j ≤ b' →
    ex_E Γ d M_Drf_numberFrom 37 [some (.inr (some dr)), l1, some (.inl (nI b')), l3, some (.inl v), some (.inl (nI j))] [] K I F b (fun r K' I' F' => r = some (.inl (tx_v (I 22 tx) b' m j v)) ∧ K = K' ∧ I = I' ∧ F = F') := by
  obtain ⟨d1, d2, d3⟩ := hd
  have k1 : (K tx).1 = 22 := by rw [d3]
  have k2 : (K tx).2 = 40 := by rw [d3]
  intro m
  induction m with
  | zero =>
    intro j v hm h1
    have ej : j = b' := by omega
    subst ej
    refine s_Drf_numberFrom_37 ?_
    refine s_Drf_numberFrom_39 ?_
    refine s_Drf_numberFrom_40 (fun h40 => ?_) (fun h40 => absurd h40 (by exact fun q => q (nI_le (by omega) (by omega))))
    refine s_Drf_numberFrom_93 ?_
    refine s_Drf_numberFrom_95 ?_
    exact ⟨rfl, rfl, rfl, rfl⟩
  | succ m ih =>
    intro j v hm h1
    have hjb : j < b' := by omega
    refine s_Drf_numberFrom_37 ?_
    refine s_Drf_numberFrom_39 ?_
    refine s_Drf_numberFrom_40 (fun h40 => absurd h40 (by exact nI_ge (by omega) (by omega))) (fun h40 => ?_)
    refine s_Drf_numberFrom_43 ?_
    refine s_Drf_numberFrom_44 (by first | rfl | assumption | (simp [*]; done)) (by first | rfl | assumption | (simp [*]; done)) ?_
    refine s_Drf_numberFrom_47 ?_
    refine s_Drf_numberFrom_49 (by exact d2) (by exact k1) (by rw [k2]; exact vp_in_nI (by omega) (by omega)) ?_
    refine s_Drf_numberFrom_50 ?_
    refine s_Drf_numberFrom_52 (fun h52 => ?_) (fun h52 => ?_)
    · refine s_Drf_numberFrom_67 ?_
      refine s_Drf_numberFrom_68 ?_
      rw [nI_clamp (by omega)] at h52
      rw [tx_v, if_pos hjb, if_pos (Or.inl h52)]
      exact ⟨rfl, rfl, rfl, rfl⟩
    · refine s_Drf_numberFrom_55 ?_
      refine s_Drf_numberFrom_56 (by first | rfl | assumption | (simp [*]; done)) (by first | rfl | assumption | (simp [*]; done)) ?_
      refine s_Drf_numberFrom_59 ?_
      refine s_Drf_numberFrom_61 (by exact d2) (by exact k1) (by rw [k2]; exact vp_in_nI (by omega) (by omega)) ?_
      refine s_Drf_numberFrom_62 ?_
      refine s_Drf_numberFrom_64 (fun h64 => ?_) (fun h64 => ?_)
      · refine s_Drf_numberFrom_69 ?_
        refine s_Drf_numberFrom_71 ?_
        refine s_Drf_numberFrom_73 ?_
        refine s_Drf_numberFrom_74 ?_
        refine s_Drf_numberFrom_75 (by first | rfl | assumption | (simp [*]; done)) (by first | rfl | assumption | (simp [*]; done)) ?_
        refine s_Drf_numberFrom_78 ?_
        refine s_Drf_numberFrom_80 (by exact d2) (by exact k1) (by rw [k2]; exact vp_in_nI (by omega) (by omega)) ?_
        refine s_Drf_numberFrom_81 ?_
        refine s_Drf_numberFrom_83 ?_
        refine s_Drf_numberFrom_84 ?_
        refine s_Drf_numberFrom_85 ?_
        refine s_Drf_numberFrom_87 ?_
        refine s_Drf_numberFrom_90 ?_
        rw [nI_clamp (by omega)] at h52 h64
        rw [tx_v, if_pos hjb, if_neg (by rw [not_or]; exact ⟨h52, Int32.not_lt.mpr h64⟩), nI_clamp (by omega), nI_1]
        exact ih (j + 1) _ (by omega) (by omega)
      · refine s_Drf_numberFrom_67 ?_
        refine s_Drf_numberFrom_68 ?_
        rw [nI_clamp (by omega)] at h64
        rw [tx_v, if_pos hjb, if_pos (Or.inr (Int32.not_le.mp h64))]
        exact ⟨rfl, rfl, rfl, rfl⟩
theorem sp_numberFrom {Γ : ex_G} {d : Nat} {K : ex_K} {I : ex_I} {F : ex_F} {b : Nat} {dr tx e b' : Nat} (hd : dr_ok K F dr tx) (heb : e < b') (h40 : b' ≤ 40) :
    ex_E Γ d M_Drf_numberFrom 0 [some (.inr (some dr)), some (.inl (nI e)), some (.inl (nI b')), none, none, none] [] K I F b (fun r K' I' F' => r = some (.inl (tx_w (I 22 tx) e b')) ∧ K = K' ∧ I = I' ∧ F = F') := by
  have hd0 := hd
  obtain ⟨d1, d2, d3⟩ := hd
  have k1 : (K tx).1 = 22 := by rw [d3]
  have k2 : (K tx).2 = 40 := by rw [d3]
  have hdg : nI b' - nI e - 1 = nI (b' - e - 1) := by rw [pk_sub (by omega), show b' - e = (b' - e - 1) + 1 by omega, nI_pred]; rfl
  have e1 : (nI (b' - e - 1) < 1) ↔ b' - e - 1 < 1 := n_lt (b := 1) rfl rfl (by omega) (by omega)
  have e5 : (nI (b' - e - 1) ≤ 5) ↔ b' - e - 1 ≤ 5 := n_le (b := 5) rfl rfl (by omega) (by omega)
  refine s_Drf_numberFrom_0 ?_
  refine s_Drf_numberFrom_1 ?_
  refine s_Drf_numberFrom_2 ?_
  refine s_Drf_numberFrom_3 ?_
  refine s_Drf_numberFrom_4 ?_
  rw [hdg]
  refine s_Drf_numberFrom_5 ?_
  refine s_Drf_numberFrom_6 ?_
  refine s_Drf_numberFrom_7 (by first | rfl | assumption | (simp [*]; done)) (by first | rfl | assumption | (simp [*]; done)) ?_
  refine s_Drf_numberFrom_10 ?_
  refine s_Drf_numberFrom_11 (by exact d2) (by exact k1) (by rw [k2]; exact vp_in_nI (by omega) (by omega)) ?_
  refine s_Drf_numberFrom_12 ?_
  refine s_Drf_numberFrom_14 (fun h14 => ?_) (fun h14 => ?_)
  · refine s_Drf_numberFrom_27 ?_
    refine s_Drf_numberFrom_28 ?_
    rw [nI_clamp (by omega)] at h14
    rw [tx_w, if_neg (by omega), if_neg (fun z => h14 z.1)]
    exact ⟨rfl, rfl, rfl, rfl⟩
  · refine s_Drf_numberFrom_17 ?_
    refine s_Drf_numberFrom_18 ?_
    refine s_Drf_numberFrom_19 (fun h19 => ?_) (fun h19 => ?_)
    · refine s_Drf_numberFrom_27 ?_
      refine s_Drf_numberFrom_28 ?_
      rw [e1] at h19
      rw [tx_w, if_neg (by omega), if_neg (fun z => by omega)]
      exact ⟨rfl, rfl, rfl, rfl⟩
    · refine s_Drf_numberFrom_22 ?_
      refine s_Drf_numberFrom_23 ?_
      refine s_Drf_numberFrom_24 (fun h24 => ?_) (fun h24 => ?_)
      · refine s_Drf_numberFrom_29 ?_
        refine s_Drf_numberFrom_30 ?_
        refine s_Drf_numberFrom_32 ?_
        refine s_Drf_numberFrom_33 ?_
        refine s_Drf_numberFrom_34 ?_
        refine s_Drf_numberFrom_35 ?_
        rw [e1] at h19
        rw [e5] at h24
        rw [nI_clamp (by omega)] at h14
        rw [tx_w, if_neg (by omega), if_pos ⟨h14, by omega, by omega⟩, nI_1]
        exact lp_numberFrom hd0 h40 _ _ _ rfl (by omega)
      · refine s_Drf_numberFrom_27 ?_
        refine s_Drf_numberFrom_28 ?_
        rw [e5] at h24
        rw [tx_w, if_neg (by omega), if_neg (fun z => by omega)]
        exact ⟨rfl, rfl, rfl, rfl⟩
