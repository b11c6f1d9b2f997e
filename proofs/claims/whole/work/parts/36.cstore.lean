/-! The class's store: find, places, removals -/
def mE (I : ex_I) (F : ex_F) (x v : Int32) (p : Nat) : Bool := decide (I 356 p 0 = x) && (decide (I 294 ((F 358 p 0).getD 0) 0 = 0) || decide (I 357 p 0 = v))
theorem mE_iff (I : ex_I) (F : ex_F) (x v : Int32) (p : Nat) : mE I F x v p = true ↔ (I 356 p 0 = x ∧ (I 294 ((F 358 p 0).getD 0) 0 = 0 ∨ I 357 p 0 = v)) := by simp [mE]
theorem mE_fr {I I' : ex_I} {F F' : ex_F} (h : st_fr I F I' F') (x v : Int32) : mE I' F' x v = mE I F x v := by
  funext p
  unfold mE
  rw [h.1 356 (by decide) (by decide), h.1 294 (by decide) (by decide), h.1 357 (by decide) (by decide), h.2 358 (by decide)]
theorem sp_ematches {Γ : ex_G} {d : Nat} {K : ex_K} {I : ex_I} {F : ex_F} {b : Nat} {p : Nat} {x v : Int32} (hp : ent_ok K I F p) :
    ex_E Γ d M_Ent_matches 0 [some (.inr (some p)), some (.inl x), some (.inl v)] [] K I F b (fun r K' I' F' => r = some (.inl (if mE I F x v p = true then 1 else 0)) ∧ K = K' ∧ I = I' ∧ F = F') := by
  obtain ⟨e1, q, n, e2, e3, e4, e5, e6⟩ := hp
  have g : (F 358 p 0).getD 0 = q := by rw [e2]; rfl
  refine s_Ent_matches_0 ?_
  refine s_Ent_matches_1 (by first | rfl | assumption | (simp [*]; done)) (by first | rfl | assumption | (simp [*]; done)) ?_
  refine s_Ent_matches_4 ?_
  refine s_Ent_matches_5 (fun h5 => ?_) (fun h5 => ?_)
  · refine s_Ent_matches_30 ?_
    refine s_Ent_matches_31 (by first | rfl | decide | assumption) ?_
    rw [if_neg (by rw [mE_iff]; exact fun z => h5 z.1)]
    exact ⟨rfl, rfl, rfl, rfl⟩
  · refine s_Ent_matches_8 ?_
    refine s_Ent_matches_9 (by first | rfl | assumption | (simp [*]; done)) (by first | rfl | assumption | (simp [*]; done)) ?_
    refine s_Ent_matches_12 (by exact e2) (by exact e3) ?_
    refine s_Ent_matches_15 (fun h15 => ?_) (fun h15 => ?_)
    · refine s_Ent_matches_26 ?_
      refine s_Ent_matches_27 ?_
      refine s_Ent_matches_31 (by first | rfl | decide | assumption) ?_
      rw [if_pos ((mE_iff _ _ _ _ _).mpr ⟨h5, Or.inl (by rw [g]; exact h15)⟩)]
      exact ⟨rfl, rfl, rfl, rfl⟩
    · refine s_Ent_matches_18 ?_
      refine s_Ent_matches_19 (by first | rfl | assumption | (simp [*]; done)) (by first | rfl | assumption | (simp [*]; done)) ?_
      refine s_Ent_matches_22 ?_
      refine s_Ent_matches_23 (fun h23 => ?_) (fun h23 => ?_)
      · refine s_Ent_matches_30 ?_
        refine s_Ent_matches_31 (by first | rfl | decide | assumption) ?_
        rw [if_neg (by rw [mE_iff, g]; exact fun z => z.2.elim h15 h23)]
        exact ⟨rfl, rfl, rfl, rfl⟩
      · refine s_Ent_matches_26 ?_
        refine s_Ent_matches_27 ?_
        refine s_Ent_matches_31 (by first | rfl | decide | assumption) ?_
        rw [if_pos ((mE_iff _ _ _ _ _).mpr ⟨h5, Or.inr h23⟩)]
        exact ⟨rfl, rfl, rfl, rfl⟩
theorem lp_cfind {Γ : ex_G} {d : Nat} {K : ex_K} {I : ex_I} {F : ex_F} {b : Nat} {s rw cap : Nat} {x v : Int32} {S : List Nat} (hs : st_rep K I F s rw cap S) : ∀ n j, S.length - j = n → j ≤ S.length →
    ex_E Γ (d + 1) M_Sto_find 2 [some (.inr (some s)), some (.inl x), some (.inl v), some (.inl (nI j))] [] K I F b (fun r K' I' F' => r = some (.inr ((S.drop j).find? (mE I F x v))) ∧ K = K' ∧ I = I' ∧ F = F') := by
  have hlen := st_len hs
  obtain ⟨u1, u2, u3, u4, u5, u6, u7, u8, u9, u10, u11⟩ := hs
  have k1 : (K rw).1 = 35 := by rw [u3]
  have k2 : (K rw).2 = cap := by rw [u3]
  intro n
  induction n with
  | zero =>
    intro j hn hj
    refine s_Sto_find_2 ?_
    refine s_Sto_find_3 ?_
    refine s_Sto_find_4 (by first | rfl | assumption | (simp [*]; done)) (by first | rfl | assumption | (simp [*]; done)) ?_
    refine s_Sto_find_7 (fun h7 => ?_) (fun h7 => absurd h7 (by rw [u6]; exact fun q => q (nI_le (by omega) (by omega))))
    refine s_Sto_find_37 ?_
    refine s_Sto_find_38 ?_
    rw [List.drop_eq_nil_of_le (by omega)]
    exact ⟨rfl, rfl, rfl, rfl⟩
  | succ n ih =>
    intro j hn hj
    have hlt : j < S.length := by omega
    have hg : S[j]? = some S[j] := List.getElem?_eq_getElem hlt
    have hrow : F 35 rw (nI j).toNatClampNeg = some S[j] := by rw [nI_clamp (by omega)]; exact u7 j _ hg
    have hok := u9 _ (List.mem_of_getElem? hg)
    rw [List.drop_eq_getElem_cons hlt]
    refine s_Sto_find_2 ?_
    refine s_Sto_find_3 ?_
    refine s_Sto_find_4 (by first | rfl | assumption | (simp [*]; done)) (by first | rfl | assumption | (simp [*]; done)) ?_
    refine s_Sto_find_7 (fun h7 => absurd h7 (by rw [u6]; exact nI_ge (by omega) (by omega))) (fun h7 => ?_)
    refine s_Sto_find_10 ?_
    refine s_Sto_find_11 (by first | rfl | assumption | (simp [*]; done)) (by first | rfl | assumption | (simp [*]; done)) ?_
    refine s_Sto_find_14 ?_
    refine s35_Sto_find_15 (by exact u2) (by exact k1) (by rw [k2]; exact vp_in_nI (by omega) (by omega)) ?_
    refine s_Sto_find_16 ?_
    refine s_Sto_find_17 ?_
    refine s_Sto_find_18 (b1 := 0) (b2 := b) (by exact hrow) (by exact hok.1) (sp_ematches hok) ?_ (by omega)
    rintro _ _ _ _ ⟨rfl, rfl, rfl, rfl⟩
    dsimp only [Option.toList, List.cons_append, List.nil_append]
    refine s_Sto_find_21 (fun h21 => ?_) (fun h21 => ?_)
    · refine s_Sto_find_31 ?_
      refine s_Sto_find_34 ?_
      have z : ¬ mE I F x v S[j] = true := fun z => by rw [if_pos z] at h21; exact absurd h21 (by decide)
      rw [List.find?_cons_of_neg z, nI_1]
      exact ih (j + 1) (by omega) (by omega)
    · refine s_Sto_find_24 ?_
      refine s_Sto_find_25 (by first | rfl | assumption | (simp [*]; done)) (by first | rfl | assumption | (simp [*]; done)) ?_
      refine s_Sto_find_28 ?_
      refine s35_Sto_find_29 (by exact u2) (by exact k1) (by rw [k2]; exact vp_in_nI (by omega) (by omega)) ?_
      refine s_Sto_find_30 ?_
      have z : mE I F x v S[j] = true := by
        by_cases z : mE I F x v S[j] = true
        · exact z
        · exact absurd (if_neg z) h21
      rw [List.find?_cons_of_pos z, hrow]
      exact ⟨rfl, rfl, rfl, rfl⟩
theorem sp_cfind {Γ : ex_G} {d : Nat} {K : ex_K} {I : ex_I} {F : ex_F} {b : Nat} {s rw cap : Nat} {x v : Int32} {S : List Nat} (hs : st_rep K I F s rw cap S) :
    ex_E Γ (d + 1) M_Sto_find 0 [some (.inr (some s)), some (.inl x), some (.inl v), none] [] K I F b (fun r K' I' F' => r = some (.inr (S.find? (mE I F x v))) ∧ K = K' ∧ I = I' ∧ F = F') := by
  refine s_Sto_find_0 ?_
  refine s_Sto_find_1 ?_
  exact lp_cfind hs _ 0 rfl (by omega)
theorem lp_placeOf {Γ : ex_G} {d : Nat} {K : ex_K} {I : ex_I} {F : ex_F} {b : Nat} {s rw cap e : Nat} {S : List Nat} (hs : st_rep K I F s rw cap S) : ∀ n j, S.length - j = n → j ≤ S.length →
    ex_E Γ d M_Sto_placeOf 2 [some (.inr (some s)), some (.inr (some e)), some (.inl (nI j))] [] K I F b (fun r K' I' F' => r = some (.inl (ixr (fix (fun p => decide (p = e)) (S.drop j) j))) ∧ K = K' ∧ I = I' ∧ F = F') := by
  have hlen := st_len hs
  obtain ⟨u1, u2, u3, u4, u5, u6, u7, u8, u9, u10, u11⟩ := hs
  have k1 : (K rw).1 = 35 := by rw [u3]
  have k2 : (K rw).2 = cap := by rw [u3]
  intro n
  induction n with
  | zero =>
    intro j hn hj
    refine s_Sto_placeOf_2 ?_
    refine s_Sto_placeOf_3 ?_
    refine s_Sto_placeOf_4 (by first | rfl | assumption | (simp [*]; done)) (by first | rfl | assumption | (simp [*]; done)) ?_
    refine s_Sto_placeOf_7 (fun h7 => ?_) (fun h7 => absurd h7 (by rw [u6]; exact fun q => q (nI_le (by omega) (by omega))))
    refine s_Sto_placeOf_28 ?_
    refine s_Sto_placeOf_29 ?_
    rw [fix_end _ _ (by omega)]
    exact ⟨rfl, rfl, rfl, rfl⟩
  | succ n ih =>
    intro j hn hj
    have hlt : j < S.length := by omega
    have hg : S[j]? = some S[j] := List.getElem?_eq_getElem hlt
    have hrow : F 35 rw (nI j).toNatClampNeg = some S[j] := by rw [nI_clamp (by omega)]; exact u7 j _ hg
    refine s_Sto_placeOf_2 ?_
    refine s_Sto_placeOf_3 ?_
    refine s_Sto_placeOf_4 (by first | rfl | assumption | (simp [*]; done)) (by first | rfl | assumption | (simp [*]; done)) ?_
    refine s_Sto_placeOf_7 (fun h7 => absurd h7 (by rw [u6]; exact nI_ge (by omega) (by omega))) (fun h7 => ?_)
    refine s_Sto_placeOf_10 ?_
    refine s_Sto_placeOf_11 (by first | rfl | assumption | (simp [*]; done)) (by first | rfl | assumption | (simp [*]; done)) ?_
    refine s_Sto_placeOf_14 ?_
    refine s35_Sto_placeOf_15 (by exact u2) (by exact k1) (by rw [k2]; exact vp_in_nI (by omega) (by omega)) ?_
    refine s_Sto_placeOf_16 ?_
    refine s_Sto_placeOf_17 (fun h17 => ?_) (fun h17 => ?_)
    · refine s_Sto_placeOf_22 ?_
      refine s_Sto_placeOf_25 ?_
      rw [hrow] at h17
      rw [fix_drop _ _ hg, if_neg (by simpa using h17), nI_1]
      exact ih (j + 1) (by omega) (by omega)
    · refine s_Sto_placeOf_20 ?_
      refine s_Sto_placeOf_21 ?_
      rw [hrow] at h17
      rw [fix_drop _ _ hg, if_pos (by simpa using h17)]
      exact ⟨rfl, rfl, rfl, rfl⟩
theorem sp_placeOf {Γ : ex_G} {d : Nat} {K : ex_K} {I : ex_I} {F : ex_F} {b : Nat} {s rw cap e : Nat} {S : List Nat} (hs : st_rep K I F s rw cap S) :
    ex_E Γ d M_Sto_placeOf 0 [some (.inr (some s)), some (.inr (some e)), none] [] K I F b (fun r K' I' F' => r = some (.inl (ixr (fix (fun p => decide (p = e)) S 0))) ∧ K = K' ∧ I = I' ∧ F = F') := by
  refine s_Sto_placeOf_0 ?_
  refine s_Sto_placeOf_1 ?_
  exact lp_placeOf hs _ 0 rfl (by omega)
theorem lp_removeMatching {Γ : ex_G} {d : Nat} {K : ex_K} {b : Nat} {s rw cap : Nat} {x v : Int32} {I0 : ex_I} {F0 : ex_F} : ∀ i S I F, i ≤ S.length → st_rep K I F s rw cap S → st_fr I0 F0 I F →
    ex_E Γ (d + 1) M_Sto_removeMatching 7 [some (.inr (some s)), some (.inl x), some (.inl v), some (.inl (nI i - 1))] [] K I F b (fun r K' I' F' => r = none ∧ K = K' ∧ st_fr I0 F0 I' F' ∧ st_rep K I' F' s rw cap (dl (mE I0 F0 x v) i S)) := by
  intro i
  induction i with
  | zero =>
    intro S I F hi hs hf
    have u1 := hs.1
    refine s_Sto_removeMatching_7 ?_
    refine s_Sto_removeMatching_8 (fun h8 => ?_) (fun h8 => absurd h8 (by decide))
    refine s_Sto_removeMatching_36 ?_
    exact ⟨rfl, rfl, hf, hs⟩
  | succ i ih =>
    intro S I F hi hs hf
    have hlen := st_len hs
    have hs0 := hs
    obtain ⟨u1, u2, u3, u4, u5, u6, u7, u8, u9, u10, u11⟩ := hs
    have k1 : (K rw).1 = 35 := by rw [u3]
    have k2 : (K rw).2 = cap := by rw [u3]
    have hg : S[i]? = some S[i] := List.getElem?_eq_getElem (by omega)
    have hrow : F 35 rw (nI i).toNatClampNeg = some S[i] := by rw [nI_clamp (by omega)]; exact u7 i _ hg
    have hok := u9 _ (List.mem_of_getElem? hg)
    rw [nI_pred]
    have hno : ¬ (mE I0 F0 x v) S[i] = true → ex_E Γ (d + 1) M_Sto_removeMatching 30 [some (.inr (some s)), some (.inl x), some (.inl v), some (.inl (nI i))] [] K I F b (fun r K' I' F' => r = none ∧ K = K' ∧ st_fr I0 F0 I' F' ∧ st_rep K I' F' s rw cap (dl (mE I0 F0 x v) (i + 1) S)) := by
      intro z
      rw [dl, hg, if_neg (by simpa using z)]
      refine s_Sto_removeMatching_30 ?_
      refine s_Sto_removeMatching_33 ?_
      rw [← Int32.sub_eq_add_neg]
      exact ih S I F (by omega) hs0 hf
    have hyes : (mE I0 F0 x v) S[i] = true → ex_E Γ (d + 1) M_Sto_removeMatching 25 [some (.inr (some s)), some (.inl x), some (.inl v), some (.inl (nI i))] [] K I F b (fun r K' I' F' => r = none ∧ K = K' ∧ st_fr I0 F0 I' F' ∧ st_rep K I' F' s rw cap (dl (mE I0 F0 x v) (i + 1) S)) := by
      intro z
      rw [dl, hg, if_pos (by simpa using z)]
      refine s_Sto_removeMatching_25 ?_
      refine s_Sto_removeMatching_26 ?_
      refine s_Sto_removeMatching_27 (b1 := 0) (b2 := b) (by first | rfl | assumption | (simp [*]; done)) (by first | rfl | assumption | (simp [*]; done)) (sp_removeAt hs0 hg) ?_ (by omega)
      rintro _ _ I2 F2 ⟨rfl, rfl, f2, g2⟩
      dsimp only [Option.toList, List.cons_append, List.nil_append]
      refine s_Sto_removeMatching_30 ?_
      refine s_Sto_removeMatching_33 ?_
      rw [← Int32.sub_eq_add_neg]
      exact ih _ I2 F2 (by rw [List.length_eraseIdx, if_pos (by omega)]; omega) g2 (st_fr_trans hf f2)
    refine s_Sto_removeMatching_7 ?_
    refine s_Sto_removeMatching_8 (fun h8 => absurd h8 (by exact nI_pos (by omega))) (fun h8 => ?_)
    refine s_Sto_removeMatching_11 ?_
    refine s_Sto_removeMatching_12 (by first | rfl | assumption | (simp [*]; done)) (by first | rfl | assumption | (simp [*]; done)) ?_
    refine s_Sto_removeMatching_15 ?_
    refine s35_Sto_removeMatching_16 (by exact u2) (by exact k1) (by rw [k2]; exact vp_in_nI (by omega) (by omega)) ?_
    refine s_Sto_removeMatching_17 ?_
    refine s_Sto_removeMatching_18 ?_
    refine s_Sto_removeMatching_19 (b1 := 0) (b2 := b) (by exact hrow) (by exact hok.1) (sp_ematches hok) ?_ (by omega)
    rintro _ _ _ _ ⟨rfl, rfl, rfl, rfl⟩
    dsimp only [Option.toList, List.cons_append, List.nil_append]
    refine s_Sto_removeMatching_22 (fun h22 => ?_) (fun h22 => ?_)
    · exact hno (fun z => by rw [← mE_fr hf] at z; rw [if_pos z] at h22; exact absurd h22 (by decide))
    · exact hyes (by
        rw [← mE_fr hf]
        by_cases z : mE I F x v S[i] = true
        · exact z
        · exact absurd (if_neg z) h22)
theorem lp_removePath {Γ : ex_G} {d : Nat} {K : ex_K} {b : Nat} {s rw cap : Nat} {x : Int32} {I0 : ex_I} {F0 : ex_F} : ∀ i S I F, i ≤ S.length → st_rep K I F s rw cap S → st_fr I0 F0 I F →
    ex_E Γ (d + 1) M_Sto_removePath 7 [some (.inr (some s)), some (.inl x), some (.inl (nI i - 1))] [] K I F b (fun r K' I' F' => r = none ∧ K = K' ∧ st_fr I0 F0 I' F' ∧ st_rep K I' F' s rw cap (dl (fun p => decide (I0 356 p 0 = x)) i S)) := by
  intro i
  induction i with
  | zero =>
    intro S I F hi hs hf
    have u1 := hs.1
    refine s_Sto_removePath_7 ?_
    refine s_Sto_removePath_8 (fun h8 => ?_) (fun h8 => absurd h8 (by decide))
    refine s_Sto_removePath_35 ?_
    exact ⟨rfl, rfl, hf, hs⟩
  | succ i ih =>
    intro S I F hi hs hf
    have hlen := st_len hs
    have hs0 := hs
    obtain ⟨u1, u2, u3, u4, u5, u6, u7, u8, u9, u10, u11⟩ := hs
    have k1 : (K rw).1 = 35 := by rw [u3]
    have k2 : (K rw).2 = cap := by rw [u3]
    have hg : S[i]? = some S[i] := List.getElem?_eq_getElem (by omega)
    have hrow : F 35 rw (nI i).toNatClampNeg = some S[i] := by rw [nI_clamp (by omega)]; exact u7 i _ hg
    have hok := u9 _ (List.mem_of_getElem? hg)
    rw [nI_pred]
    have hno : ¬ (fun p => decide (I0 356 p 0 = x)) S[i] = true → ex_E Γ (d + 1) M_Sto_removePath 29 [some (.inr (some s)), some (.inl x), some (.inl (nI i))] [] K I F b (fun r K' I' F' => r = none ∧ K = K' ∧ st_fr I0 F0 I' F' ∧ st_rep K I' F' s rw cap (dl (fun p => decide (I0 356 p 0 = x)) (i + 1) S)) := by
      intro z
      rw [dl, hg, if_neg (by simpa using z)]
      refine s_Sto_removePath_29 ?_
      refine s_Sto_removePath_32 ?_
      rw [← Int32.sub_eq_add_neg]
      exact ih S I F (by omega) hs0 hf
    have hyes : (fun p => decide (I0 356 p 0 = x)) S[i] = true → ex_E Γ (d + 1) M_Sto_removePath 24 [some (.inr (some s)), some (.inl x), some (.inl (nI i))] [] K I F b (fun r K' I' F' => r = none ∧ K = K' ∧ st_fr I0 F0 I' F' ∧ st_rep K I' F' s rw cap (dl (fun p => decide (I0 356 p 0 = x)) (i + 1) S)) := by
      intro z
      rw [dl, hg, if_pos (by simpa using z)]
      refine s_Sto_removePath_24 ?_
      refine s_Sto_removePath_25 ?_
      refine s_Sto_removePath_26 (b1 := 0) (b2 := b) (by first | rfl | assumption | (simp [*]; done)) (by first | rfl | assumption | (simp [*]; done)) (sp_removeAt hs0 hg) ?_ (by omega)
      rintro _ _ I2 F2 ⟨rfl, rfl, f2, g2⟩
      dsimp only [Option.toList, List.cons_append, List.nil_append]
      refine s_Sto_removePath_29 ?_
      refine s_Sto_removePath_32 ?_
      rw [← Int32.sub_eq_add_neg]
      exact ih _ I2 F2 (by rw [List.length_eraseIdx, if_pos (by omega)]; omega) g2 (st_fr_trans hf f2)
    refine s_Sto_removePath_7 ?_
    refine s_Sto_removePath_8 (fun h8 => absurd h8 (by exact nI_pos (by omega))) (fun h8 => ?_)
    refine s_Sto_removePath_11 ?_
    refine s_Sto_removePath_12 (by first | rfl | assumption | (simp [*]; done)) (by first | rfl | assumption | (simp [*]; done)) ?_
    refine s_Sto_removePath_15 ?_
    refine s35_Sto_removePath_16 (by exact u2) (by exact k1) (by rw [k2]; exact vp_in_nI (by omega) (by omega)) ?_
    refine s_Sto_removePath_17 (by exact hrow) (by exact hok.1) ?_
    refine s_Sto_removePath_20 ?_
    refine s_Sto_removePath_21 (fun h21 => ?_) (fun h21 => ?_)
    · exact hno (by simp only [decide_eq_true_eq]; rw [← hf.1 356 (by decide) (by decide)]; exact h21)
    · exact hyes (by simp only [decide_eq_true_eq]; rw [← hf.1 356 (by decide) (by decide)]; exact h21)
theorem sp_removeMatching {Γ : ex_G} {d : Nat} {K : ex_K} {I : ex_I} {F : ex_F} {b : Nat} {s rw cap : Nat} {x v : Int32} {S : List Nat} (hs : st_rep K I F s rw cap S) :
    ex_E Γ (d + 1) M_Sto_removeMatching 0 [some (.inr (some s)), some (.inl x), some (.inl v), none] [] K I F b (fun r K' I' F' => r = none ∧ K = K' ∧ st_fr I F I' F' ∧ st_rep K I' F' s rw cap (S.filter (fun p => !mE I F x v p))) := by
  have u1 := hs.1
  refine s_Sto_removeMatching_0 ?_
  refine s_Sto_removeMatching_1 (by first | rfl | assumption | (simp [*]; done)) (by first | rfl | assumption | (simp [*]; done)) ?_
  refine s_Sto_removeMatching_4 ?_
  refine s_Sto_removeMatching_5 ?_
  refine s_Sto_removeMatching_6 ?_
  rw [hs.2.2.2.2.2.1, ← dl_all]
  exact lp_removeMatching _ S I F (Nat.le_refl _) hs st_fr_rfl
theorem sp_removePath {Γ : ex_G} {d : Nat} {K : ex_K} {I : ex_I} {F : ex_F} {b : Nat} {s rw cap : Nat} {x : Int32} {S : List Nat} (hs : st_rep K I F s rw cap S) :
    ex_E Γ (d + 1) M_Sto_removePath 0 [some (.inr (some s)), some (.inl x), none] [] K I F b (fun r K' I' F' => r = none ∧ K = K' ∧ st_fr I F I' F' ∧ st_rep K I' F' s rw cap (S.filter (fun p => !decide (I 356 p 0 = x)))) := by
  have u1 := hs.1
  refine s_Sto_removePath_0 ?_
  refine s_Sto_removePath_1 (by first | rfl | assumption | (simp [*]; done)) (by first | rfl | assumption | (simp [*]; done)) ?_
  refine s_Sto_removePath_4 ?_
  refine s_Sto_removePath_5 ?_
  refine s_Sto_removePath_6 ?_
  rw [hs.2.2.2.2.2.1, ← dl_all (fun p => decide (I 356 p 0 = x))]
  exact lp_removePath _ S I F (Nat.le_refl _) hs st_fr_rfl
theorem sp_makeLatest {Γ : ex_G} {d : Nat} {K : ex_K} {I : ex_I} {F : ex_F} {b : Nat} {s rw cap e i : Nat} {S : List Nat} (hs : st_rep K I F s rw cap S) (hi : fix (fun p => decide (p = e)) S 0 = some i) :
    ex_E Γ (d + 1) M_Sto_makeLatest 0 [some (.inr (some s)), some (.inr (some e)), none] [] K I F b (fun r K' I' F' => r = none ∧ K = K' ∧ st_fr I F I' F' ∧ st_rep K I' F' s rw cap (S.eraseIdx i ++ [e])) := by
  have u1 := hs.1
  have hcap := hs.2.2.2.2.1
  have hlen := st_len hs
  obtain ⟨-, a, ha1, ha2⟩ := fix_some _ _ _ _ hi
  rw [Nat.sub_zero] at ha1
  have ea : a = e := by simpa using ha2
  subst ea
  have hlt := (List.getElem?_eq_some_iff.mp ha1).1
  have hok := hs.2.2.2.2.2.2.2.2.1 _ (List.mem_of_getElem? ha1)
  have hsum := sum_erase (g := szN I F) S ha1
  have htot := hs.2.2.2.2.2.2.2.2.2.2
  refine s_Sto_makeLatest_0 ?_
  refine s_Sto_makeLatest_1 ?_
  refine s_Sto_makeLatest_2 (b1 := 0) (b2 := b) (by first | rfl | assumption | (simp [*]; done)) (by first | rfl | assumption | (simp [*]; done)) (sp_placeOf hs) ?_ (by omega)
  rintro _ _ _ _ ⟨rfl, rfl, rfl, rfl⟩
  dsimp only [Option.toList, List.cons_append, List.nil_append]
  rw [hi, show ixr (some i) = nI i from rfl]
  refine s_Sto_makeLatest_5 ?_
  refine s_Sto_makeLatest_6 ?_
  refine s_Sto_makeLatest_7 ?_
  refine s_Sto_makeLatest_8 (fun h8 => absurd h8 (by exact nn_m1 (nI_pos (by omega)))) (fun h8 => ?_)
  refine s_Sto_makeLatest_11 ?_
  refine s_Sto_makeLatest_12 ?_
  refine s_Sto_makeLatest_13 (b1 := 0) (b2 := b) (by first | rfl | assumption | (simp [*]; done)) (by first | rfl | assumption | (simp [*]; done)) (sp_removeAt hs ha1) ?_ (by omega)
  rintro _ _ I2 F2 ⟨rfl, rfl, f2, g2⟩
  dsimp only [Option.toList, List.cons_append, List.nil_append]
  refine s_Sto_makeLatest_16 ?_
  refine s_Sto_makeLatest_17 ?_
  refine s_Sto_makeLatest_18 (b1 := 0) (b2 := b) (by first | rfl | assumption | (simp [*]; done)) (by first | rfl | assumption | (simp [*]; done)) (sp_sappend g2 (ent_ok_fr f2 hok) (by rw [szN_fr f2]; omega)) ?_ (by omega)
  rintro _ _ I3 F3 ⟨rfl, rfl, f3, g3⟩
  dsimp only [Option.toList, List.cons_append, List.nil_append]
  refine s_Sto_makeLatest_21 ?_
  exact ⟨rfl, rfl, st_fr_trans f2 f3, g3⟩
/-- the oldest go until there is room -/
def evi (g : Nat → Nat) (cap n : Nat) : List Nat → List Nat
  | [] => []
  | p :: S => if ((p :: S).map g).sum + n ≤ cap then p :: S else evi g cap n S
theorem evi_sum (g : Nat → Nat) (cap n : Nat) (h : n ≤ cap) : ∀ S, ((evi g cap n S).map g).sum + n ≤ cap := by
  intro S
  induction S with
  | nil => simpa [evi] using h
  | cons p S ih =>
    rw [evi]
    split
    · assumption
    · exact ih
theorem lp_add {Γ : ex_G} {d : Nat} {K : ex_K} {b : Nat} {s rw cap e n : Nat} {I0 : ex_I} {F0 : ex_F} (hn : n ≤ 9)
    (kk : ∀ S I F l3, st_rep K I F s rw cap S → st_fr I0 F0 I F → (S.map (szN I0 F0)).sum + n ≤ cap → ex_E Γ (d + 1) M_Sto_add 83 [some (.inr (some s)), some (.inr (some e)), some (.inl (nI n)), l3] [] K I F b (fun r K' I' F' => r = none ∧ K = K' ∧ st_fr I0 F0 I' F' ∧ st_rep K I' F' s rw cap (S ++ [e]))) (hnc : n ≤ cap) : ∀ S I F, st_rep K I F s rw cap S → st_fr I0 F0 I F →
    ex_E Γ (d + 1) M_Sto_add 55 [some (.inr (some s)), some (.inr (some e)), some (.inl (nI n)), some (.inl (nI S.length))] [] K I F b (fun r K' I' F' => r = none ∧ K = K' ∧ st_fr I0 F0 I' F' ∧ st_rep K I' F' s rw cap (evi (szN I0 F0) cap n S ++ [e])) := by
  intro S
  induction S with
  | nil =>
    intro I F hs hf
    have u1 := hs.1
    refine s_Sto_add_55 ?_
    refine s_Sto_add_56 (fun h56 => ?_) (fun h56 => absurd h56 (by exact fun q => q (by decide)))
    exact kk [] I F _ hs hf (by simpa using hnc)
  | cons p S ih =>
    intro I F hs hf
    have hlen := st_len hs
    have hs0 := hs
    obtain ⟨u1, u2, u3, u4, u5, u6, u7, u8, u9, u10, u11⟩ := hs
    have esz := szN_fr hf
    rw [evi]
    have ec : I 422 s 0 + nI n ≤ I 420 s 0 ↔ ((p :: S).map (szN I0 F0)).sum + n ≤ cap := by
      rw [u10, u4, nI_add, ← esz]
      exact nI_leI (by omega) (by omega)
    refine s_Sto_add_55 ?_
    refine s_Sto_add_56 (fun h56 => absurd h56 (by exact nI_nle (by simp) (by omega))) (fun h56 => ?_)
    refine s_Sto_add_59 ?_
    refine s_Sto_add_60 (by first | rfl | assumption | (simp [*]; done)) (by first | rfl | assumption | (simp [*]; done)) ?_
    refine s_Sto_add_63 ?_
    refine s_Sto_add_64 ?_
    refine s_Sto_add_65 ?_
    refine s_Sto_add_66 (by first | rfl | assumption | (simp [*]; done)) (by first | rfl | assumption | (simp [*]; done)) ?_
    refine s_Sto_add_69 (fun h69 => ?_) (fun h69 => ?_)
    · rw [ec] at h69
      rw [if_pos h69]
      exact kk _ I F _ hs0 hf h69
    · refine s_Sto_add_72 ?_
      refine s_Sto_add_73 ?_
      refine s_Sto_add_74 (b1 := 0) (b2 := b) (by first | rfl | assumption | (simp [*]; done)) (by first | rfl | assumption | (simp [*]; done)) (sp_removeAt (i := 0) hs0 rfl) ?_ (by omega)
      rintro _ _ I2 F2 ⟨rfl, rfl, f2, g2⟩
      dsimp only [Option.toList, List.cons_append, List.nil_append]
      refine s_Sto_add_77 ?_
      refine s_Sto_add_80 ?_
      rw [ec] at h69
      rw [if_neg h69, List.length_cons, show nI (S.length + 1) + (-1) = nI S.length from pk_m1 _]
      exact ih I2 F2 g2 (st_fr_trans hf f2)
theorem sp_sadd {Γ : ex_G} {d : Nat} {K : ex_K} {I : ex_I} {F : ex_F} {b : Nat} {s rw cap e n q : Nat} {S : List Nat} (hs : st_rep K I F s rw cap S) (he : ent_ok K I F e) (hq : F 358 e 0 = some q) (hv : I 294 q 0 = 0 ∨ I 294 q 0 = 1) (hn : szN I F e = n) :
    ex_E Γ (d + 2) M_Sto_add 0 [some (.inr (some s)), some (.inr (some e)), none, none] [] K I F b (fun r K' I' F' => r = none ∧ K = K' ∧ st_fr I F I' F' ∧ st_rep K I' F' s rw cap (if cap < n then S else evi (szN I F) cap n (if I 294 q 0 = 0 then S.filter (fun p => !decide (I 356 p 0 = I 356 e 0)) else S.filter (fun p => !mE I F (I 356 e 0) (I 357 e 0) p)) ++ [e])) := by
  have hs0 := hs
  have hsz := szN_at he hq
  have h9 := szN_ok he
  rw [hn] at hsz h9
  have he0 := he
  obtain ⟨e1, q', n', e2, e3, e4, e5, e6⟩ := he
  have eq : q' = q := by rw [hq] at e2; cases e2; rfl
  subst eq
  obtain ⟨u1, u2, u3, u4, u5, u6, u7, u8, u9, u10, u11⟩ := hs
  have ec : I 293 q' 0 ≤ I 420 s 0 ↔ n ≤ cap := by rw [hsz, u4]; exact nI_leI (by omega) (by omega)
  have fin : n ≤ cap → ∀ S2 I2 F2, st_rep K I2 F2 s rw cap S2 → st_fr I F I2 F2 → ex_E Γ (d + 2) M_Sto_add 50 [some (.inr (some s)), some (.inr (some e)), some (.inl (nI n)), none] [] K I2 F2 b (fun r K' I' F' => r = none ∧ K = K' ∧ st_fr I F I' F' ∧ st_rep K I' F' s rw cap (evi (szN I F) cap n S2 ++ [e])) := by
    intro hnc S2 I2 F2 g2 f2
    have v6 := g2.2.2.2.2.2.1
    refine s_Sto_add_50 ?_
    refine s_Sto_add_51 (by first | rfl | assumption | (simp [*]; done)) (by first | rfl | assumption | (simp [*]; done)) ?_
    refine s_Sto_add_54 ?_
    rw [v6]
    refine lp_add (by omega) (fun S3 I3 F3 l3 g3 f3 h3 => ?_) hnc S2 I2 F2 g2 f2
    refine s_Sto_add_83 ?_
    refine s_Sto_add_84 ?_
    refine s_Sto_add_85 (b1 := 0) (b2 := b) (by first | rfl | assumption | (simp [*]; done)) (by first | rfl | assumption | (simp [*]; done)) (sp_sappend g3 (ent_ok_fr f3 he0) (by rw [szN_fr f3, hn]; exact h3)) ?_ (by omega)
    rintro _ _ I4 F4 ⟨rfl, rfl, f4, g4⟩
    dsimp only [Option.toList, List.cons_append, List.nil_append]
    refine s_Sto_add_88 ?_
    exact ⟨rfl, rfl, st_fr_trans f3 f4, g4⟩
  refine s_Sto_add_0 ?_
  refine s_Sto_add_1 (by first | rfl | assumption | (simp [*]; done)) (by first | rfl | assumption | (simp [*]; done)) ?_
  refine s_Sto_add_4 (by exact hq) (by exact e3) ?_
  refine s_Sto_add_7 ?_
  refine s_Sto_add_8 ?_
  refine s_Sto_add_9 ?_
  refine s_Sto_add_10 (by first | rfl | assumption | (simp [*]; done)) (by first | rfl | assumption | (simp [*]; done)) ?_
  refine s_Sto_add_13 (fun h13 => ?_) (fun h13 => ?_)
  · refine s_Sto_add_17 ?_
    refine s_Sto_add_18 (by first | rfl | assumption | (simp [*]; done)) (by first | rfl | assumption | (simp [*]; done)) ?_
    refine s_Sto_add_21 (by exact hq) (by exact e3) ?_
    refine s_Sto_add_24 (fun h24 => ?_) (fun h24 => ?_)
    · refine s_Sto_add_42 ?_
      refine s_Sto_add_43 ?_
      refine s_Sto_add_44 (by first | rfl | assumption | (simp [*]; done)) (by first | rfl | assumption | (simp [*]; done)) ?_
      refine s_Sto_add_47 (b1 := 0) (b2 := b) (by first | rfl | assumption | (simp [*]; done)) (by first | rfl | assumption | (simp [*]; done)) (ex_up (by omega) (sp_removePath (d := d) hs0)) ?_ (by omega)
      rintro _ _ I2 F2 ⟨rfl, rfl, f2, g2⟩
      dsimp only [Option.toList, List.cons_append, List.nil_append]
      rw [ec] at h13
      rw [if_neg (by omega), if_pos h24, hsz]
      exact fin h13 _ I2 F2 g2 f2
    · refine s_Sto_add_27 ?_
      refine s_Sto_add_28 ?_
      refine s_Sto_add_29 (by first | rfl | assumption | (simp [*]; done)) (by first | rfl | assumption | (simp [*]; done)) ?_
      refine s_Sto_add_32 ?_
      refine s_Sto_add_33 (by first | rfl | assumption | (simp [*]; done)) (by first | rfl | assumption | (simp [*]; done)) ?_
      refine s_Sto_add_36 (b1 := 0) (b2 := b) (by first | rfl | assumption | (simp [*]; done)) (by first | rfl | assumption | (simp [*]; done)) (ex_up (by omega) (sp_removeMatching (d := d) hs0)) ?_ (by omega)
      rintro _ _ I2 F2 ⟨rfl, rfl, f2, g2⟩
      dsimp only [Option.toList, List.cons_append, List.nil_append]
      refine s_Sto_add_39 ?_
      rw [ec] at h13
      rw [if_neg (by omega), if_neg h24, hsz]
      exact fin h13 _ I2 F2 g2 f2
  · refine s_Sto_add_16 ?_
    rw [ec] at h13
    rw [if_pos (by omega)]
    exact ⟨rfl, rfl, st_fr_rfl, hs0⟩
