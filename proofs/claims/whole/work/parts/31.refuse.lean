def swp (X : Nat → Int32) (a k d : Nat) : Nat → Int32 := fun c => if a ≤ c ∧ c < k then X (c + d) else if a + d ≤ c ∧ c < k + d then X (c - d) else X c
theorem swp_0 (X : Nat → Int32) (a d : Nat) : swp X a a d = X := by
  funext c
  unfold swp
  rw [if_neg (by omega), if_neg (by omega)]
theorem swp_s (X : Nat → Int32) {a k d : Nat} (h1 : a ≤ k) (h2 : k < a + d) : (fun c => if c = k + d then swp X a k d k else (if c = k then swp X a k d (k + d) else swp X a k d c)) = swp X a (k + 1) d := by
  funext c
  unfold swp
  by_cases e1 : c = k + d
  · rw [if_pos e1, if_neg (by omega), if_neg (by omega), if_neg (by omega), if_pos (by omega), e1, Nat.add_sub_cancel]
  · rw [if_neg e1]
    by_cases e2 : c = k
    · rw [if_pos e2, if_neg (by omega), if_neg (by omega), if_pos (by omega), e2]
    · rw [if_neg e2]
      by_cases e3 : a ≤ c ∧ c < k
      · rw [if_pos e3, if_pos (by omega)]
      · rw [if_neg e3]
        by_cases e4 : a + d ≤ c ∧ c < k + d
        · rw [if_pos e4, if_neg (by omega), if_pos (by omega)]
        · rw [if_neg e4, if_neg (by omega), if_neg (by omega)]
theorem lp_us1 {Γ : ex_G} {d : Nat} {K : ex_K} {I : ex_I} {F : ex_F} {b : Nat} {Q : Option ex_V → ex_K → ex_I → ex_F → Prop} {l1 : Option ex_V} {m q : Nat} {X : Nat → Int32} {ad : Nat → Nat} (hR : rf_ok K F m ad) (hq : q + 1 < 40) (kk : ∀ l3 l4, ex_E Γ d M_Mdl_use 68 [some (.inr (some m)), l1, some (.inl (nI q)), l3, l4] [] K (ex_wi I 21 (ad 14) (swp X (8 * q) (8 * q + 8) 8)) F b Q) : ∀ k c J l4, 8 * q + 8 - c = k → 8 * q ≤ c → c ≤ 8 * q + 8 → J = ex_wi I 21 (ad 14) (swp X (8 * q) c 8) →
    ex_E Γ d M_Mdl_use 17 [some (.inr (some m)), l1, some (.inl (nI q)), some (.inl (nI c)), l4] [] K J F b Q := by
  have m1 := hR.1
  have e8 : 8 * nI q + 8 = nI (8 * q + 8) := by rw [nl_8, pk_mul, nI_add]
  intro k
  induction k with
  | zero =>
    intro c J l4 hk h1 h2 hJ
    subst hJ
    have ec : c = 8 * q + 8 := by omega
    refine s_Mdl_use_17 ?_
    refine s_Mdl_use_18 ?_
    refine s_Mdl_use_20 ?_
    refine s_Mdl_use_21 ?_
    refine s_Mdl_use_22 ?_
    refine s_Mdl_use_24 ?_
    refine s_Mdl_use_25 (fun h25 => ?_) (fun h25 => absurd h25 (by rw [e8]; exact fun q => q (nI_le (by omega) (by omega))))
    rw [ec]
    exact kk _ _
  | succ k ih =>
    intro c J l4 hk h1 h2 hJ
    subst hJ
    refine s_Mdl_use_17 ?_
    refine s_Mdl_use_18 ?_
    refine s_Mdl_use_20 ?_
    refine s_Mdl_use_21 ?_
    refine s_Mdl_use_22 ?_
    refine s_Mdl_use_24 ?_
    refine s_Mdl_use_25 (fun h25 => absurd h25 (by rw [e8]; exact nI_ge (by omega) (by omega))) (fun h25 => ?_)
    refine s_Mdl_use_28 ?_
    refine s_Mdl_use_29 (by first | rfl | assumption | (simp [*]; done)) (by first | rfl | assumption | (simp [*]; done)) ?_
    refine s_Mdl_use_32 ?_
    refine s_Mdl_use_33 (by first | exact rf_entry hR | rfl) (by exact rk_entry hR) (by rw [rn_entry hR]; exact n_in (a := c) (by first | rfl | (simp only [nl_1, nl_2, nl_3, nl_4, nl_5, nl_6, nl_7, nl_8, nl_9, nl_10, nl_11, nl_12, nl_13, nl_14, nl_15, nl_16, nl_32, nl_240, nl_250, nl_255, nl_265, nl_270, nl_0, nI_add, pk_mul]; done)) (by omega) (by omega)) ?_
    refine ex_ixl (q := c) (by first | rfl | (simp only [nl_1, nl_2, nl_3, nl_4, nl_5, nl_6, nl_7, nl_8, nl_9, nl_10, nl_11, nl_12, nl_13, nl_14, nl_15, nl_16, nl_32, nl_240, nl_250, nl_255, nl_265, nl_270, nl_0, nI_add, pk_mul]; done)) (by omega) ?_
    refine s_Mdl_use_34 ?_
    refine s_Mdl_use_36 ?_
    refine s_Mdl_use_37 (by first | rfl | assumption | (simp [*]; done)) (by first | rfl | assumption | (simp [*]; done)) ?_
    refine s_Mdl_use_40 ?_
    refine s_Mdl_use_41 ?_
    refine s_Mdl_use_42 (by first | rfl | assumption | (simp [*]; done)) (by first | rfl | assumption | (simp [*]; done)) ?_
    refine s_Mdl_use_45 ?_
    refine s_Mdl_use_46 ?_
    refine s_Mdl_use_48 ?_
    refine s_Mdl_use_49 (by first | exact rf_entry hR | rfl) (by exact rk_entry hR) (by rw [rn_entry hR]; exact n_in (a := (c + 8)) (by first | rfl | (simp only [nl_1, nl_2, nl_3, nl_4, nl_5, nl_6, nl_7, nl_8, nl_9, nl_10, nl_11, nl_12, nl_13, nl_14, nl_15, nl_16, nl_32, nl_240, nl_250, nl_255, nl_265, nl_270, nl_0, nI_add, pk_mul]; done)) (by omega) (by omega)) ?_
    refine ex_ixl (q := (c + 8)) (by first | rfl | (simp only [nl_1, nl_2, nl_3, nl_4, nl_5, nl_6, nl_7, nl_8, nl_9, nl_10, nl_11, nl_12, nl_13, nl_14, nl_15, nl_16, nl_32, nl_240, nl_250, nl_255, nl_265, nl_270, nl_0, nI_add, pk_mul]; done)) (by omega) ?_
    refine s_Mdl_use_50 (by first | exact rf_entry hR | rfl) (by exact rk_entry hR) (by rw [rn_entry hR]; exact n_in (a := c) (by first | rfl | (simp only [nl_1, nl_2, nl_3, nl_4, nl_5, nl_6, nl_7, nl_8, nl_9, nl_10, nl_11, nl_12, nl_13, nl_14, nl_15, nl_16, nl_32, nl_240, nl_250, nl_255, nl_265, nl_270, nl_0, nI_add, pk_mul]; done)) (by omega) (by omega)) ?_
    refine ex_ixs (q := c) (by first | rfl | (simp only [nl_1, nl_2, nl_3, nl_4, nl_5, nl_6, nl_7, nl_8, nl_9, nl_10, nl_11, nl_12, nl_13, nl_14, nl_15, nl_16, nl_32, nl_240, nl_250, nl_255, nl_265, nl_270, nl_0, nI_add, pk_mul]; done)) (by omega) ?_
    refine s_Mdl_use_51 ?_
    refine s_Mdl_use_52 (by first | rfl | assumption | (simp [*]; done)) (by first | rfl | assumption | (simp [*]; done)) ?_
    refine s_Mdl_use_55 ?_
    refine s_Mdl_use_56 ?_
    refine s_Mdl_use_58 ?_
    refine s_Mdl_use_59 ?_
    refine s_Mdl_use_61 (by first | exact rf_entry hR | rfl) (by exact rk_entry hR) (by rw [rn_entry hR]; exact n_in (a := (c + 8)) (by first | rfl | (simp only [nl_1, nl_2, nl_3, nl_4, nl_5, nl_6, nl_7, nl_8, nl_9, nl_10, nl_11, nl_12, nl_13, nl_14, nl_15, nl_16, nl_32, nl_240, nl_250, nl_255, nl_265, nl_270, nl_0, nI_add, pk_mul]; done)) (by omega) (by omega)) ?_
    refine ex_ixs (q := (c + 8)) (by first | rfl | (simp only [nl_1, nl_2, nl_3, nl_4, nl_5, nl_6, nl_7, nl_8, nl_9, nl_10, nl_11, nl_12, nl_13, nl_14, nl_15, nl_16, nl_32, nl_240, nl_250, nl_255, nl_265, nl_270, nl_0, nI_add, pk_mul]; done)) (by omega) ?_
    refine s_Mdl_use_62 ?_
    refine s_Mdl_use_65 ?_
    rw [ex_wi_at, ex_wi_u, ex_wi_u, swp_s _ h1 (by omega), nI_1]
    exact ih (c + 1) _ _ (by omega) (by omega) (by omega) rfl
theorem lp_us2 {Γ : ex_G} {d : Nat} {K : ex_K} {I : ex_I} {F : ex_F} {b : Nat} {Q : Option ex_V → ex_K → ex_I → ex_F → Prop} {l1 : Option ex_V} {m q : Nat} {X : Nat → Int32} {ad : Nat → Nat} (hR : rf_ok K F m ad) (hq : q + 1 < 40) (kk : ∀ l3 l4, ex_E Γ d M_Mdl_use 119 [some (.inr (some m)), l1, some (.inl (nI q)), l3, l4] [] K (ex_wi I 21 (ad 15) (swp X (4 * q) (4 * q + 4) 4)) F b Q) : ∀ k c J l4, 4 * q + 4 - c = k → 4 * q ≤ c → c ≤ 4 * q + 4 → J = ex_wi I 21 (ad 15) (swp X (4 * q) c 4) →
    ex_E Γ d M_Mdl_use 72 [some (.inr (some m)), l1, some (.inl (nI q)), some (.inl (nI c)), l4] [] K J F b Q := by
  have m1 := hR.1
  have e8 : 4 * nI q + 4 = nI (4 * q + 4) := by rw [nl_4, pk_mul, nI_add]
  intro k
  induction k with
  | zero =>
    intro c J l4 hk h1 h2 hJ
    subst hJ
    have ec : c = 4 * q + 4 := by omega
    refine s_Mdl_use_72 ?_
    refine s_Mdl_use_73 ?_
    refine s_Mdl_use_74 ?_
    refine s_Mdl_use_75 ?_
    refine s_Mdl_use_76 ?_
    refine s_Mdl_use_77 ?_
    refine s_Mdl_use_78 (fun h78 => ?_) (fun h78 => absurd h78 (by rw [e8]; exact fun q => q (nI_le (by omega) (by omega))))
    rw [ec]
    exact kk _ _
  | succ k ih =>
    intro c J l4 hk h1 h2 hJ
    subst hJ
    refine s_Mdl_use_72 ?_
    refine s_Mdl_use_73 ?_
    refine s_Mdl_use_74 ?_
    refine s_Mdl_use_75 ?_
    refine s_Mdl_use_76 ?_
    refine s_Mdl_use_77 ?_
    refine s_Mdl_use_78 (fun h78 => absurd h78 (by rw [e8]; exact nI_ge (by omega) (by omega))) (fun h78 => ?_)
    refine s_Mdl_use_81 ?_
    refine s_Mdl_use_82 (by first | rfl | assumption | (simp [*]; done)) (by first | rfl | assumption | (simp [*]; done)) ?_
    refine s_Mdl_use_85 ?_
    refine s_Mdl_use_86 (by first | exact rf_rule hR | rfl) (by exact rk_rule hR) (by rw [rn_rule hR]; exact n_in (a := c) (by first | rfl | (simp only [nl_1, nl_2, nl_3, nl_4, nl_5, nl_6, nl_7, nl_8, nl_9, nl_10, nl_11, nl_12, nl_13, nl_14, nl_15, nl_16, nl_32, nl_240, nl_250, nl_255, nl_265, nl_270, nl_0, nI_add, pk_mul]; done)) (by omega) (by omega)) ?_
    refine ex_ixl (q := c) (by first | rfl | (simp only [nl_1, nl_2, nl_3, nl_4, nl_5, nl_6, nl_7, nl_8, nl_9, nl_10, nl_11, nl_12, nl_13, nl_14, nl_15, nl_16, nl_32, nl_240, nl_250, nl_255, nl_265, nl_270, nl_0, nI_add, pk_mul]; done)) (by omega) ?_
    refine s_Mdl_use_87 ?_
    refine s_Mdl_use_89 ?_
    refine s_Mdl_use_90 (by first | rfl | assumption | (simp [*]; done)) (by first | rfl | assumption | (simp [*]; done)) ?_
    refine s_Mdl_use_93 ?_
    refine s_Mdl_use_94 ?_
    refine s_Mdl_use_95 (by first | rfl | assumption | (simp [*]; done)) (by first | rfl | assumption | (simp [*]; done)) ?_
    refine s_Mdl_use_98 ?_
    refine s_Mdl_use_99 ?_
    refine s_Mdl_use_100 ?_
    refine s_Mdl_use_101 (by first | exact rf_rule hR | rfl) (by exact rk_rule hR) (by rw [rn_rule hR]; exact n_in (a := (c + 4)) (by first | rfl | (simp only [nl_1, nl_2, nl_3, nl_4, nl_5, nl_6, nl_7, nl_8, nl_9, nl_10, nl_11, nl_12, nl_13, nl_14, nl_15, nl_16, nl_32, nl_240, nl_250, nl_255, nl_265, nl_270, nl_0, nI_add, pk_mul]; done)) (by omega) (by omega)) ?_
    refine ex_ixl (q := (c + 4)) (by first | rfl | (simp only [nl_1, nl_2, nl_3, nl_4, nl_5, nl_6, nl_7, nl_8, nl_9, nl_10, nl_11, nl_12, nl_13, nl_14, nl_15, nl_16, nl_32, nl_240, nl_250, nl_255, nl_265, nl_270, nl_0, nI_add, pk_mul]; done)) (by omega) ?_
    refine s_Mdl_use_102 (by first | exact rf_rule hR | rfl) (by exact rk_rule hR) (by rw [rn_rule hR]; exact n_in (a := c) (by first | rfl | (simp only [nl_1, nl_2, nl_3, nl_4, nl_5, nl_6, nl_7, nl_8, nl_9, nl_10, nl_11, nl_12, nl_13, nl_14, nl_15, nl_16, nl_32, nl_240, nl_250, nl_255, nl_265, nl_270, nl_0, nI_add, pk_mul]; done)) (by omega) (by omega)) ?_
    refine ex_ixs (q := c) (by first | rfl | (simp only [nl_1, nl_2, nl_3, nl_4, nl_5, nl_6, nl_7, nl_8, nl_9, nl_10, nl_11, nl_12, nl_13, nl_14, nl_15, nl_16, nl_32, nl_240, nl_250, nl_255, nl_265, nl_270, nl_0, nI_add, pk_mul]; done)) (by omega) ?_
    refine s_Mdl_use_103 ?_
    refine s_Mdl_use_104 (by first | rfl | assumption | (simp [*]; done)) (by first | rfl | assumption | (simp [*]; done)) ?_
    refine s_Mdl_use_107 ?_
    refine s_Mdl_use_108 ?_
    refine s_Mdl_use_109 ?_
    refine s_Mdl_use_110 ?_
    refine s_Mdl_use_112 (by first | exact rf_rule hR | rfl) (by exact rk_rule hR) (by rw [rn_rule hR]; exact n_in (a := (c + 4)) (by first | rfl | (simp only [nl_1, nl_2, nl_3, nl_4, nl_5, nl_6, nl_7, nl_8, nl_9, nl_10, nl_11, nl_12, nl_13, nl_14, nl_15, nl_16, nl_32, nl_240, nl_250, nl_255, nl_265, nl_270, nl_0, nI_add, pk_mul]; done)) (by omega) (by omega)) ?_
    refine ex_ixs (q := (c + 4)) (by first | rfl | (simp only [nl_1, nl_2, nl_3, nl_4, nl_5, nl_6, nl_7, nl_8, nl_9, nl_10, nl_11, nl_12, nl_13, nl_14, nl_15, nl_16, nl_32, nl_240, nl_250, nl_255, nl_265, nl_270, nl_0, nI_add, pk_mul]; done)) (by omega) ?_
    refine s_Mdl_use_113 ?_
    refine s_Mdl_use_116 ?_
    rw [ex_wi_at, ex_wi_u, ex_wi_u, swp_s _ h1 (by omega), nI_1]
    exact ih (c + 1) _ _ (by omega) (by omega) (by omega) rfl
theorem swap_erase {α : Type} {L : List α} {q : Nat} {a c : α} (h1 : L[q]? = some a) (h2 : L[q + 1]? = some c) : ((L.set q c).set (q + 1) a).eraseIdx (q + 1) = L.eraseIdx q := by
  have hl := (List.getElem?_eq_some_iff.mp h2).1
  refine List.ext_getElem? (fun i => ?_)
  rw [List.getElem?_eraseIdx, List.getElem?_eraseIdx]
  by_cases e1 : i < q
  · rw [if_pos (by omega), if_pos e1, List.getElem?_set_ne (by omega), List.getElem?_set_ne (by omega)]
  · rw [if_neg e1]
    by_cases e2 : i = q
    · subst e2
      rw [if_pos (by omega), List.getElem?_set_ne (by omega), List.getElem?_set_self (by omega), h2]
    · rw [if_neg (by omega), List.getElem?_set_ne (by omega), List.getElem?_set_ne (by omega)]
theorem last_erase {α : Type} {L : List α} {q : Nat} {a : α} (h1 : L[q]? = some a) (h2 : q + 1 = L.length) : L.eraseIdx q ++ [a] = L := by
  obtain ⟨h3, h4⟩ := List.getElem?_eq_some_iff.mp h1
  rw [List.eraseIdx_eq_take_drop_succ, List.drop_eq_nil_of_le (by omega), List.append_nil]
  have := List.take_append_getElem (l := L) (i := q) h3
  rw [h4] at this
  rw [this, List.take_of_length_le (by omega)]
theorem lp_use {Γ : ex_G} {d : Nat} {K : ex_K} {F : ex_F} {b : Nat} {m : Nat} {l1 : Option ex_V} {I0 : ex_I} {a : Nat → Int32} {ad : Nat → Nat} (hR : rf_ok K F m ad) : ∀ n q L I l3 l4, L.length - (q + 1) = n → L[q]? = some a → r_ent I m ad L → e_fr I0 I ad →
    ex_E Γ d M_Mdl_use 2 [some (.inr (some m)), l1, some (.inl (nI q)), l3, l4] [] K I F b (fun r K' I' F' => r = none ∧ K = K' ∧ F = F' ∧ e_fr I0 I' ad ∧ r_ent I' m ad (L.eraseIdx q ++ [a])) := by
  have m1 := hR.1
  intro n
  induction n with
  | zero =>
    intro q L I l3 l4 hn hq hL hf
    have hlt := (List.getElem?_eq_some_iff.mp hq).1
    have l1' := hL.1
    have l2 := hL.2.1
    refine s_Mdl_use_2 ?_
    refine s_Mdl_use_3 ?_
    refine s_Mdl_use_4 ?_
    refine s_Mdl_use_5 ?_
    refine s_Mdl_use_6 (by first | rfl | assumption | (simp [*]; done)) (by first | rfl | assumption | (simp [*]; done)) ?_
    refine s_Mdl_use_9 (fun h9 => ?_) (fun h9 => absurd h9 (by rw [l1', nI_1]; exact fun z => z (nI_le (by omega) (by omega))))
    refine s_Mdl_use_125 ?_
    rw [last_erase hq (by omega)]
    exact ⟨rfl, rfl, rfl, hf, hL⟩
  | succ n ih =>
    intro q L I l3 l4 hn hq hL hf
    obtain ⟨l1', l2, l3'⟩ := hL
    have hg : L[q + 1]? = some L[q + 1] := List.getElem?_eq_getElem (by omega)
    have hne : ad 14 ≠ ad 15 := rf_ne hR (by decide)
    refine s_Mdl_use_2 ?_
    refine s_Mdl_use_3 ?_
    refine s_Mdl_use_4 ?_
    refine s_Mdl_use_5 ?_
    refine s_Mdl_use_6 (by first | rfl | assumption | (simp [*]; done)) (by first | rfl | assumption | (simp [*]; done)) ?_
    refine s_Mdl_use_9 (fun h9 => absurd h9 (by rw [l1', nI_1]; exact nI_ge (by omega) (by omega))) (fun h9 => ?_)
    refine s_Mdl_use_12 ?_
    refine s_Mdl_use_14 ?_
    refine s_Mdl_use_15 ?_
    refine s_Mdl_use_16 ?_
    rw [nl_8, pk_mul]
    refine lp_us1 (I := I) (q := q) (X := I 21 (ad 14)) hR (by omega) (fun l3 l4 => ?_) _ _ _ _ rfl (Nat.le_refl _) (by omega) (by rw [swp_0, ex_wi_id])
    refine s_Mdl_use_68 ?_
    refine s_Mdl_use_69 ?_
    refine s_Mdl_use_70 ?_
    refine s_Mdl_use_71 ?_
    rw [nl_4, pk_mul]
    refine lp_us2 (I := ex_wi I 21 (ad 14) (swp (I 21 (ad 14)) (8 * q) (8 * q + 8) 8)) (q := q) (X := I 21 (ad 15)) hR (by omega) (fun l3 l4 => ?_) _ _ _ _ rfl (Nat.le_refl _) (by omega) (by
      rw [swp_0]
      conv => lhs; rw [← ex_wi_id (ex_wi I 21 (ad 14) (swp (I 21 (ad 14)) (8 * q) (8 * q + 8) 8)) 21 (ad 15)]
      rw [ex_wi_ne _ _ _ (Ne.symm hne)])
    refine s_Mdl_use_119 ?_
    refine s_Mdl_use_122 ?_
    rw [nI_1, ← swap_erase hq hg]
    have hf2 : e_fr I (ex_wi (ex_wi I 21 (ad 14) (swp (I 21 (ad 14)) (8 * q) (8 * q + 8) 8)) 21 (ad 15) (swp (I 21 (ad 15)) (4 * q) (4 * q + 4) 4)) ad := ⟨fun g a c => by rw [ex_wi_f _ _ _ c, ex_wi_f _ _ _ c], fun a x y => by rw [ex_wi_ne _ _ _ y, ex_wi_ne _ _ _ x]⟩
    refine ih (q + 1) _ _ _ _ (by rw [List.length_set, List.length_set]; omega) (List.getElem?_set_self (by rw [List.length_set]; omega)) ⟨?_, by rw [List.length_set, List.length_set]; omega, fun e row he => ?_⟩ (e_fr_trans hf hf2)
    · rw [ex_wi_f _ _ _ (by decide), ex_wi_f _ _ _ (by decide), l1', List.length_set, List.length_set]
    · have c1 : ∀ c, ex_wi (ex_wi I 21 (ad 14) (swp (I 21 (ad 14)) (8 * q) (8 * q + 8) 8)) 21 (ad 15) (swp (I 21 (ad 15)) (4 * q) (4 * q + 4) 4) 21 (ad 14) c = swp (I 21 (ad 14)) (8 * q) (8 * q + 8) 8 c := fun c => by rw [ex_wi_ne _ _ _ hne, ex_wi_at]
      have c2 : ∀ c, ex_wi (ex_wi I 21 (ad 14) (swp (I 21 (ad 14)) (8 * q) (8 * q + 8) 8)) 21 (ad 15) (swp (I 21 (ad 15)) (4 * q) (4 * q + 4) 4) 21 (ad 15) c = swp (I 21 (ad 15)) (4 * q) (4 * q + 4) 4 c := fun c => by rw [ex_wi_at]
      by_cases z1 : e = q + 1
      · subst z1
        rw [List.getElem?_set_self (by rw [List.length_set]; omega)] at he
        cases he
        refine ⟨fun j hj => ?_, fun k hk => ?_⟩
        · rw [c1]
          unfold swp
          rw [if_neg (by omega), if_pos (by omega), show 8 * (q + 1) + j - 8 = 8 * q + j by omega]
          exact (l3' q _ hq).1 j hj
        · rw [c2]
          unfold swp
          rw [if_neg (by omega), if_pos (by omega), show 4 * (q + 1) + k - 4 = 4 * q + k by omega]
          exact (l3' q _ hq).2 k hk
      · rw [List.getElem?_set_ne (by omega)] at he
        by_cases z2 : e = q
        · subst z2
          rw [List.getElem?_set_self (by omega)] at he
          cases he
          refine ⟨fun j hj => ?_, fun k hk => ?_⟩
          · rw [c1]
            unfold swp
            rw [if_pos (by omega), show 8 * e + j + 8 = 8 * (e + 1) + j by omega]
            exact (l3' _ _ hg).1 j hj
          · rw [c2]
            unfold swp
            rw [if_pos (by omega), show 4 * e + k + 4 = 4 * (e + 1) + k by omega]
            exact (l3' _ _ hg).2 k hk
        · rw [List.getElem?_set_ne (by omega)] at he
          refine ⟨fun j hj => ?_, fun k hk => ?_⟩
          · rw [c1]
            unfold swp
            rw [if_neg (by omega), if_neg (by omega)]
            exact (l3' _ _ he).1 j hj
          · rw [c2]
            unfold swp
            rw [if_neg (by omega), if_neg (by omega)]
            exact (l3' _ _ he).2 k hk
theorem sp_use {Γ : ex_G} {d : Nat} {K : ex_K} {I : ex_I} {F : ex_F} {b : Nat} {m e : Nat} {a : Nat → Int32} {L : List (Nat → Int32)} {ad : Nat → Nat} (hR : rf_ok K F m ad) (hL : r_ent I m ad L) (he : L[e]? = some a) :
    ex_E Γ d M_Mdl_use 0 [some (.inr (some m)), some (.inl (nI e)), none, none, none] [] K I F b (fun r K' I' F' => r = none ∧ K = K' ∧ F = F' ∧ e_fr I I' ad ∧ r_ent I' m ad (L.eraseIdx e ++ [a])) := by
  refine s_Mdl_use_0 ?_
  refine s_Mdl_use_1 ?_
  exact lp_use hR _ e L I _ _ rfl he hL e_fr_rfl
