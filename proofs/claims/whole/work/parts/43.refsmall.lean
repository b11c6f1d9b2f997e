/-! Paths, origins, owners: both sides -/
def own (p : Nat) : Nat := [2, 0, 1, 0, 1, 0, 2, 1].getD p 0
theorem own_lt (p : Nat) : own p < 3 := by
  unfold own
  rcases Nat.lt_or_ge p 8 with h | h
  · have t : ∀ p, p < 8 → [2, 0, 1, 0, 1, 0, 2, 1].getD p 0 < 3 := by decide
    exact t p h
  · rw [List.getD_eq_getElem?_getD, List.getElem?_eq_none (by simpa using h)]
    decide
theorem sp_isPathMdl {Γ : ex_G} {d : Nat} {K : ex_K} {I : ex_I} {F : ex_F} {b : Nat} {p : Nat} (hp : p < 8) : ex_E Γ d M_Mdl_isPath 0 [some (.inl (nI p))] [] K I F b (fun r K' I' F' => r = some (.inl 1) ∧ K = K' ∧ I = I' ∧ F = F') := by
  refine s_Mdl_isPath_0 ?_
  refine s_Mdl_isPath_1 (fun h1 => absurd h1 (by exact nI_pos (by omega))) (fun h1 => ?_)
  refine s_Mdl_isPath_4 ?_
  refine s_Mdl_isPath_5 ?_
  refine s_Mdl_isPath_7 (fun h7 => absurd h7 (by exact nI_nlt (a := 7) (b := p) (by omega) (by omega))) (fun h7 => ?_)
  refine s_Mdl_isPath_10 ?_
  refine s_Mdl_isPath_11 ?_
  refine s_Mdl_isPath_15 (by first | rfl | decide | assumption) ?_
  exact ⟨rfl, rfl, rfl, rfl⟩
theorem sp_isPathMdl_no {Γ : ex_G} {d : Nat} {K : ex_K} {I : ex_I} {F : ex_F} {b : Nat} {x : Int32} (hx : x < 0 ∨ nI 8 ≤ x) : ex_E Γ d M_Mdl_isPath 0 [some (.inl x)] [] K I F b (fun r K' I' F' => r = some (.inl 0) ∧ K = K' ∧ I = I' ∧ F = F') := by
  refine s_Mdl_isPath_0 ?_
  refine s_Mdl_isPath_1 (fun h1 => ?_) (fun h1 => ?_)
  · refine s_Mdl_isPath_14 ?_
    refine s_Mdl_isPath_15 (by first | rfl | decide | assumption) ?_
    exact ⟨rfl, rfl, rfl, rfl⟩
  · refine s_Mdl_isPath_4 ?_
    refine s_Mdl_isPath_5 ?_
    refine s_Mdl_isPath_7 (fun h7 => ?_) (fun h7 => absurd h7 (by exact fun q => q (Int32.lt_of_lt_of_le (show (7 : Int32) < nI 8 by decide) (hx.resolve_left h1))))
    refine s_Mdl_isPath_14 ?_
    refine s_Mdl_isPath_15 (by first | rfl | decide | assumption) ?_
    exact ⟨rfl, rfl, rfl, rfl⟩
theorem sp_isOriginMdl {Γ : ex_G} {d : Nat} {K : ex_K} {I : ex_I} {F : ex_F} {b : Nat} {p : Nat} (hp : p < 3) : ex_E Γ d M_Mdl_isOrigin 0 [some (.inl (nI p))] [] K I F b (fun r K' I' F' => r = some (.inl 1) ∧ K = K' ∧ I = I' ∧ F = F') := by
  refine s_Mdl_isOrigin_0 ?_
  refine s_Mdl_isOrigin_1 (fun h1 => absurd h1 (by exact nI_pos (by omega))) (fun h1 => ?_)
  refine s_Mdl_isOrigin_4 ?_
  refine s_Mdl_isOrigin_5 ?_
  refine s_Mdl_isOrigin_6 (fun h6 => absurd h6 (by exact nI_nlt (a := 2) (b := p) (by omega) (by omega))) (fun h6 => ?_)
  refine s_Mdl_isOrigin_9 ?_
  refine s_Mdl_isOrigin_10 ?_
  refine s_Mdl_isOrigin_14 (by first | rfl | decide | assumption) ?_
  exact ⟨rfl, rfl, rfl, rfl⟩
theorem sp_isOriginMdl_no {Γ : ex_G} {d : Nat} {K : ex_K} {I : ex_I} {F : ex_F} {b : Nat} {x : Int32} (hx : x < 0 ∨ nI 3 ≤ x) : ex_E Γ d M_Mdl_isOrigin 0 [some (.inl x)] [] K I F b (fun r K' I' F' => r = some (.inl 0) ∧ K = K' ∧ I = I' ∧ F = F') := by
  refine s_Mdl_isOrigin_0 ?_
  refine s_Mdl_isOrigin_1 (fun h1 => ?_) (fun h1 => ?_)
  · refine s_Mdl_isOrigin_13 ?_
    refine s_Mdl_isOrigin_14 (by first | rfl | decide | assumption) ?_
    exact ⟨rfl, rfl, rfl, rfl⟩
  · refine s_Mdl_isOrigin_4 ?_
    refine s_Mdl_isOrigin_5 ?_
    refine s_Mdl_isOrigin_6 (fun h6 => ?_) (fun h6 => absurd h6 (by exact fun q => q (Int32.lt_of_lt_of_le (show (2 : Int32) < nI 3 by decide) (hx.resolve_left h1))))
    refine s_Mdl_isOrigin_13 ?_
    refine s_Mdl_isOrigin_14 (by first | rfl | decide | assumption) ?_
    exact ⟨rfl, rfl, rfl, rfl⟩
theorem sp_isPathFC {Γ : ex_G} {d : Nat} {K : ex_K} {I : ex_I} {F : ex_F} {b : Nat} {p : Nat} (hp : p < 8) : ex_E Γ d M_FC_isPath 0 [some (.inl (nI p))] [] K I F b (fun r K' I' F' => r = some (.inl 1) ∧ K = K' ∧ I = I' ∧ F = F') := by
  refine s_FC_isPath_0 ?_
  refine s_FC_isPath_1 (fun h1 => absurd h1 (by exact nI_pos (by omega))) (fun h1 => ?_)
  refine s_FC_isPath_4 ?_
  refine s_FC_isPath_5 ?_
  refine s_FC_isPath_7 (fun h7 => absurd h7 (by exact nI_ge (a := p) (b := 8) (by omega) (by omega))) (fun h7 => ?_)
  refine s_FC_isPath_10 ?_
  refine s_FC_isPath_11 ?_
  refine s_FC_isPath_15 (by first | rfl | decide | assumption) ?_
  exact ⟨rfl, rfl, rfl, rfl⟩
theorem sp_isPathFC_no {Γ : ex_G} {d : Nat} {K : ex_K} {I : ex_I} {F : ex_F} {b : Nat} {x : Int32} (hx : x < 0 ∨ nI 8 ≤ x) : ex_E Γ d M_FC_isPath 0 [some (.inl x)] [] K I F b (fun r K' I' F' => r = some (.inl 0) ∧ K = K' ∧ I = I' ∧ F = F') := by
  refine s_FC_isPath_0 ?_
  refine s_FC_isPath_1 (fun h1 => ?_) (fun h1 => ?_)
  · refine s_FC_isPath_14 ?_
    refine s_FC_isPath_15 (by first | rfl | decide | assumption) ?_
    exact ⟨rfl, rfl, rfl, rfl⟩
  · refine s_FC_isPath_4 ?_
    refine s_FC_isPath_5 ?_
    refine s_FC_isPath_7 (fun h7 => ?_) (fun h7 => absurd h7 (by exact fun q => q (hx.resolve_left h1)))
    refine s_FC_isPath_14 ?_
    refine s_FC_isPath_15 (by first | rfl | decide | assumption) ?_
    exact ⟨rfl, rfl, rfl, rfl⟩
theorem sp_isOriginFC {Γ : ex_G} {d : Nat} {K : ex_K} {I : ex_I} {F : ex_F} {b : Nat} {p : Nat} (hp : p < 3) : ex_E Γ d M_FC_isOrigin 0 [some (.inl (nI p))] [] K I F b (fun r K' I' F' => r = some (.inl 1) ∧ K = K' ∧ I = I' ∧ F = F') := by
  refine s_FC_isOrigin_0 ?_
  refine s_FC_isOrigin_1 (fun h1 => absurd h1 (by exact nI_pos (by omega))) (fun h1 => ?_)
  refine s_FC_isOrigin_4 ?_
  refine s_FC_isOrigin_5 ?_
  refine s_FC_isOrigin_6 (fun h6 => absurd h6 (by exact nI_ge (a := p) (b := 3) (by omega) (by omega))) (fun h6 => ?_)
  refine s_FC_isOrigin_9 ?_
  refine s_FC_isOrigin_10 ?_
  refine s_FC_isOrigin_14 (by first | rfl | decide | assumption) ?_
  exact ⟨rfl, rfl, rfl, rfl⟩
theorem sp_isOriginFC_no {Γ : ex_G} {d : Nat} {K : ex_K} {I : ex_I} {F : ex_F} {b : Nat} {x : Int32} (hx : x < 0 ∨ nI 3 ≤ x) : ex_E Γ d M_FC_isOrigin 0 [some (.inl x)] [] K I F b (fun r K' I' F' => r = some (.inl 0) ∧ K = K' ∧ I = I' ∧ F = F') := by
  refine s_FC_isOrigin_0 ?_
  refine s_FC_isOrigin_1 (fun h1 => ?_) (fun h1 => ?_)
  · refine s_FC_isOrigin_13 ?_
    refine s_FC_isOrigin_14 (by first | rfl | decide | assumption) ?_
    exact ⟨rfl, rfl, rfl, rfl⟩
  · refine s_FC_isOrigin_4 ?_
    refine s_FC_isOrigin_5 ?_
    refine s_FC_isOrigin_6 (fun h6 => ?_) (fun h6 => absurd h6 (by exact fun q => q (hx.resolve_left h1)))
    refine s_FC_isOrigin_13 ?_
    refine s_FC_isOrigin_14 (by first | rfl | decide | assumption) ?_
    exact ⟨rfl, rfl, rfl, rfl⟩
theorem sp_ownerR {Γ : ex_G} {d : Nat} {K : ex_K} {I : ex_I} {F : ex_F} {b : Nat} {m p : Nat} (hp : p < 8) : ex_E Γ (d + 1) M_Mdl_owner 0 [some (.inr (some m)), some (.inl (nI p)), none, none] [] K I F b (fun r K' I' F' => r = some (.inl (nI (own p))) ∧ K = K' ∧ I = I' ∧ F = F') := by
  rcases (by omega : p = 0 ∨ p = 1 ∨ p = 2 ∨ p = 3 ∨ p = 4 ∨ p = 5 ∨ p = 6 ∨ p = 7) with rfl | rfl | rfl | rfl | rfl | rfl | rfl | rfl
  · skip
    refine s_Mdl_owner_0 ?_
    refine s_Mdl_owner_1 (b1 := 0) (b2 := b)  (sp_isPathMdl (by decide)) ?_ (by omega)
    rintro _ _ _ _ ⟨rfl, rfl, rfl, rfl⟩
    dsimp only [Option.toList, List.cons_append, List.nil_append]
    refine s_Mdl_owner_4 (fun h4 => ?_) (fun h4 => absurd h4 (by decide))
    refine s_Mdl_owner_9 ?_
    refine s_Mdl_owner_10 ?_
    refine s_Mdl_owner_11 ?_
    refine s_Mdl_owner_12 ?_
    refine s_Mdl_owner_13 ?_
    refine s_Mdl_owner_14 ?_
    refine s_Mdl_owner_15 (fun h15 => absurd h15 (by decide)) (fun h15 => ?_)
    refine s_Mdl_owner_18 ?_
    refine s_Mdl_owner_19 ?_
    refine s_Mdl_owner_20 (b1 := 0) (b2 := _)  (Q1 := fun r K' I' F' => ex_E _ _ M_Mdl_owner 23 _ (r.toList ++ _) K' I' F' _ _) ?_ (fun _ _ _ _ hq => hq) (Nat.le_of_eq (Nat.zero_add _))
    refine s_Mdl_weight_0 ?_
    refine s_Mdl_weight_2 ?_
    refine s_Mdl_weight_3 ?_
    refine s_Mdl_weight_4 ?_
    refine s_Mdl_weight_6 ?_
    refine s_Mdl_weight_7 ?_
    refine s_Mdl_weight_8 ?_
    refine s_Mdl_weight_9 ?_
    refine s_Mdl_weight_10 ?_
    refine s_Mdl_weight_11 ?_
    refine s_Mdl_weight_12 ?_
    refine s_Mdl_weight_13 ?_
    refine s_Mdl_weight_14 ?_
    refine s_Mdl_weight_15 ?_
    refine s_Mdl_weight_16 ?_
    refine s_Mdl_weight_17 ?_
    refine s_Mdl_weight_19 (by decide) ?_
    refine s_Mdl_weight_20 ?_
    dsimp only [Option.toList, List.cons_append, List.nil_append]
    refine s_Mdl_owner_23 ?_
    refine s_Mdl_owner_24 ?_
    refine s_Mdl_owner_25 (b1 := 0) (b2 := _)  (Q1 := fun r K' I' F' => ex_E _ _ M_Mdl_owner 28 _ (r.toList ++ _) K' I' F' _ _) ?_ (fun _ _ _ _ hq => hq) (Nat.le_of_eq (Nat.zero_add _))
    refine s_Mdl_weight_0 ?_
    refine s_Mdl_weight_2 ?_
    refine s_Mdl_weight_3 ?_
    refine s_Mdl_weight_4 ?_
    refine s_Mdl_weight_6 ?_
    refine s_Mdl_weight_7 ?_
    refine s_Mdl_weight_8 ?_
    refine s_Mdl_weight_9 ?_
    refine s_Mdl_weight_10 ?_
    refine s_Mdl_weight_11 ?_
    refine s_Mdl_weight_12 ?_
    refine s_Mdl_weight_13 ?_
    refine s_Mdl_weight_14 ?_
    refine s_Mdl_weight_15 ?_
    refine s_Mdl_weight_16 ?_
    refine s_Mdl_weight_17 ?_
    refine s_Mdl_weight_19 (by decide) ?_
    refine s_Mdl_weight_20 ?_
    dsimp only [Option.toList, List.cons_append, List.nil_append]
    refine s_Mdl_owner_28 (fun h28 => ?_) (fun h28 => absurd h28 (by exact fun q => q (by decide)))
    refine s_Mdl_owner_35 ?_
    refine s_Mdl_owner_36 ?_
    refine s_Mdl_owner_37 ?_
    refine s_Mdl_owner_40 ?_
    refine s_Mdl_owner_13 ?_
    refine s_Mdl_owner_14 ?_
    refine s_Mdl_owner_15 (fun h15 => absurd h15 (by decide)) (fun h15 => ?_)
    refine s_Mdl_owner_18 ?_
    refine s_Mdl_owner_19 ?_
    refine s_Mdl_owner_20 (b1 := 0) (b2 := _)  (Q1 := fun r K' I' F' => ex_E _ _ M_Mdl_owner 23 _ (r.toList ++ _) K' I' F' _ _) ?_ (fun _ _ _ _ hq => hq) (Nat.le_of_eq (Nat.zero_add _))
    refine s_Mdl_weight_0 ?_
    refine s_Mdl_weight_2 ?_
    refine s_Mdl_weight_3 ?_
    refine s_Mdl_weight_4 ?_
    refine s_Mdl_weight_6 ?_
    refine s_Mdl_weight_7 ?_
    refine s_Mdl_weight_8 ?_
    refine s_Mdl_weight_9 ?_
    refine s_Mdl_weight_10 ?_
    refine s_Mdl_weight_11 ?_
    refine s_Mdl_weight_12 ?_
    refine s_Mdl_weight_13 ?_
    refine s_Mdl_weight_14 ?_
    refine s_Mdl_weight_15 ?_
    refine s_Mdl_weight_16 ?_
    refine s_Mdl_weight_17 ?_
    refine s_Mdl_weight_19 (by decide) ?_
    refine s_Mdl_weight_20 ?_
    dsimp only [Option.toList, List.cons_append, List.nil_append]
    refine s_Mdl_owner_23 ?_
    refine s_Mdl_owner_24 ?_
    refine s_Mdl_owner_25 (b1 := 0) (b2 := _)  (Q1 := fun r K' I' F' => ex_E _ _ M_Mdl_owner 28 _ (r.toList ++ _) K' I' F' _ _) ?_ (fun _ _ _ _ hq => hq) (Nat.le_of_eq (Nat.zero_add _))
    refine s_Mdl_weight_0 ?_
    refine s_Mdl_weight_2 ?_
    refine s_Mdl_weight_3 ?_
    refine s_Mdl_weight_4 ?_
    refine s_Mdl_weight_6 ?_
    refine s_Mdl_weight_7 ?_
    refine s_Mdl_weight_8 ?_
    refine s_Mdl_weight_9 ?_
    refine s_Mdl_weight_10 ?_
    refine s_Mdl_weight_11 ?_
    refine s_Mdl_weight_12 ?_
    refine s_Mdl_weight_13 ?_
    refine s_Mdl_weight_14 ?_
    refine s_Mdl_weight_15 ?_
    refine s_Mdl_weight_16 ?_
    refine s_Mdl_weight_17 ?_
    refine s_Mdl_weight_19 (by decide) ?_
    refine s_Mdl_weight_20 ?_
    dsimp only [Option.toList, List.cons_append, List.nil_append]
    refine s_Mdl_owner_28 (fun h28 => absurd h28 (by decide)) (fun h28 => ?_)
    refine s_Mdl_owner_31 ?_
    refine s_Mdl_owner_32 ?_
    refine s_Mdl_owner_36 ?_
    refine s_Mdl_owner_37 ?_
    refine s_Mdl_owner_40 ?_
    refine s_Mdl_owner_13 ?_
    refine s_Mdl_owner_14 ?_
    refine s_Mdl_owner_15 (fun h15 => ?_) (fun h15 => absurd h15 (by exact fun q => q (by decide)))
    refine s_Mdl_owner_43 ?_
    refine s_Mdl_owner_44 ?_
    exact ⟨by decide, rfl, rfl, rfl⟩
  · skip
    refine s_Mdl_owner_0 ?_
    refine s_Mdl_owner_1 (b1 := 0) (b2 := b)  (sp_isPathMdl (by decide)) ?_ (by omega)
    rintro _ _ _ _ ⟨rfl, rfl, rfl, rfl⟩
    dsimp only [Option.toList, List.cons_append, List.nil_append]
    refine s_Mdl_owner_4 (fun h4 => ?_) (fun h4 => absurd h4 (by decide))
    refine s_Mdl_owner_9 ?_
    refine s_Mdl_owner_10 ?_
    refine s_Mdl_owner_11 ?_
    refine s_Mdl_owner_12 ?_
    refine s_Mdl_owner_13 ?_
    refine s_Mdl_owner_14 ?_
    refine s_Mdl_owner_15 (fun h15 => absurd h15 (by decide)) (fun h15 => ?_)
    refine s_Mdl_owner_18 ?_
    refine s_Mdl_owner_19 ?_
    refine s_Mdl_owner_20 (b1 := 0) (b2 := _)  (Q1 := fun r K' I' F' => ex_E _ _ M_Mdl_owner 23 _ (r.toList ++ _) K' I' F' _ _) ?_ (fun _ _ _ _ hq => hq) (Nat.le_of_eq (Nat.zero_add _))
    refine s_Mdl_weight_0 ?_
    refine s_Mdl_weight_2 ?_
    refine s_Mdl_weight_3 ?_
    refine s_Mdl_weight_4 ?_
    refine s_Mdl_weight_6 ?_
    refine s_Mdl_weight_7 ?_
    refine s_Mdl_weight_8 ?_
    refine s_Mdl_weight_9 ?_
    refine s_Mdl_weight_10 ?_
    refine s_Mdl_weight_11 ?_
    refine s_Mdl_weight_12 ?_
    refine s_Mdl_weight_13 ?_
    refine s_Mdl_weight_14 ?_
    refine s_Mdl_weight_15 ?_
    refine s_Mdl_weight_16 ?_
    refine s_Mdl_weight_17 ?_
    refine s_Mdl_weight_19 (by decide) ?_
    refine s_Mdl_weight_20 ?_
    dsimp only [Option.toList, List.cons_append, List.nil_append]
    refine s_Mdl_owner_23 ?_
    refine s_Mdl_owner_24 ?_
    refine s_Mdl_owner_25 (b1 := 0) (b2 := _)  (Q1 := fun r K' I' F' => ex_E _ _ M_Mdl_owner 28 _ (r.toList ++ _) K' I' F' _ _) ?_ (fun _ _ _ _ hq => hq) (Nat.le_of_eq (Nat.zero_add _))
    refine s_Mdl_weight_0 ?_
    refine s_Mdl_weight_2 ?_
    refine s_Mdl_weight_3 ?_
    refine s_Mdl_weight_4 ?_
    refine s_Mdl_weight_6 ?_
    refine s_Mdl_weight_7 ?_
    refine s_Mdl_weight_8 ?_
    refine s_Mdl_weight_9 ?_
    refine s_Mdl_weight_10 ?_
    refine s_Mdl_weight_11 ?_
    refine s_Mdl_weight_12 ?_
    refine s_Mdl_weight_13 ?_
    refine s_Mdl_weight_14 ?_
    refine s_Mdl_weight_15 ?_
    refine s_Mdl_weight_16 ?_
    refine s_Mdl_weight_17 ?_
    refine s_Mdl_weight_19 (by decide) ?_
    refine s_Mdl_weight_20 ?_
    dsimp only [Option.toList, List.cons_append, List.nil_append]
    refine s_Mdl_owner_28 (fun h28 => ?_) (fun h28 => absurd h28 (by exact fun q => q (by decide)))
    refine s_Mdl_owner_35 ?_
    refine s_Mdl_owner_36 ?_
    refine s_Mdl_owner_37 ?_
    refine s_Mdl_owner_40 ?_
    refine s_Mdl_owner_13 ?_
    refine s_Mdl_owner_14 ?_
    refine s_Mdl_owner_15 (fun h15 => absurd h15 (by decide)) (fun h15 => ?_)
    refine s_Mdl_owner_18 ?_
    refine s_Mdl_owner_19 ?_
    refine s_Mdl_owner_20 (b1 := 0) (b2 := _)  (Q1 := fun r K' I' F' => ex_E _ _ M_Mdl_owner 23 _ (r.toList ++ _) K' I' F' _ _) ?_ (fun _ _ _ _ hq => hq) (Nat.le_of_eq (Nat.zero_add _))
    refine s_Mdl_weight_0 ?_
    refine s_Mdl_weight_2 ?_
    refine s_Mdl_weight_3 ?_
    refine s_Mdl_weight_4 ?_
    refine s_Mdl_weight_6 ?_
    refine s_Mdl_weight_7 ?_
    refine s_Mdl_weight_8 ?_
    refine s_Mdl_weight_9 ?_
    refine s_Mdl_weight_10 ?_
    refine s_Mdl_weight_11 ?_
    refine s_Mdl_weight_12 ?_
    refine s_Mdl_weight_13 ?_
    refine s_Mdl_weight_14 ?_
    refine s_Mdl_weight_15 ?_
    refine s_Mdl_weight_16 ?_
    refine s_Mdl_weight_17 ?_
    refine s_Mdl_weight_19 (by decide) ?_
    refine s_Mdl_weight_20 ?_
    dsimp only [Option.toList, List.cons_append, List.nil_append]
    refine s_Mdl_owner_23 ?_
    refine s_Mdl_owner_24 ?_
    refine s_Mdl_owner_25 (b1 := 0) (b2 := _)  (Q1 := fun r K' I' F' => ex_E _ _ M_Mdl_owner 28 _ (r.toList ++ _) K' I' F' _ _) ?_ (fun _ _ _ _ hq => hq) (Nat.le_of_eq (Nat.zero_add _))
    refine s_Mdl_weight_0 ?_
    refine s_Mdl_weight_2 ?_
    refine s_Mdl_weight_3 ?_
    refine s_Mdl_weight_4 ?_
    refine s_Mdl_weight_6 ?_
    refine s_Mdl_weight_7 ?_
    refine s_Mdl_weight_8 ?_
    refine s_Mdl_weight_9 ?_
    refine s_Mdl_weight_10 ?_
    refine s_Mdl_weight_11 ?_
    refine s_Mdl_weight_12 ?_
    refine s_Mdl_weight_13 ?_
    refine s_Mdl_weight_14 ?_
    refine s_Mdl_weight_15 ?_
    refine s_Mdl_weight_16 ?_
    refine s_Mdl_weight_17 ?_
    refine s_Mdl_weight_19 (by decide) ?_
    refine s_Mdl_weight_20 ?_
    dsimp only [Option.toList, List.cons_append, List.nil_append]
    refine s_Mdl_owner_28 (fun h28 => ?_) (fun h28 => absurd h28 (by exact fun q => q (by decide)))
    refine s_Mdl_owner_35 ?_
    refine s_Mdl_owner_36 ?_
    refine s_Mdl_owner_37 ?_
    refine s_Mdl_owner_40 ?_
    refine s_Mdl_owner_13 ?_
    refine s_Mdl_owner_14 ?_
    refine s_Mdl_owner_15 (fun h15 => ?_) (fun h15 => absurd h15 (by exact fun q => q (by decide)))
    refine s_Mdl_owner_43 ?_
    refine s_Mdl_owner_44 ?_
    exact ⟨by decide, rfl, rfl, rfl⟩
  · skip
    refine s_Mdl_owner_0 ?_
    refine s_Mdl_owner_1 (b1 := 0) (b2 := b)  (sp_isPathMdl (by decide)) ?_ (by omega)
    rintro _ _ _ _ ⟨rfl, rfl, rfl, rfl⟩
    dsimp only [Option.toList, List.cons_append, List.nil_append]
    refine s_Mdl_owner_4 (fun h4 => ?_) (fun h4 => absurd h4 (by decide))
    refine s_Mdl_owner_9 ?_
    refine s_Mdl_owner_10 ?_
    refine s_Mdl_owner_11 ?_
    refine s_Mdl_owner_12 ?_
    refine s_Mdl_owner_13 ?_
    refine s_Mdl_owner_14 ?_
    refine s_Mdl_owner_15 (fun h15 => absurd h15 (by decide)) (fun h15 => ?_)
    refine s_Mdl_owner_18 ?_
    refine s_Mdl_owner_19 ?_
    refine s_Mdl_owner_20 (b1 := 0) (b2 := _)  (Q1 := fun r K' I' F' => ex_E _ _ M_Mdl_owner 23 _ (r.toList ++ _) K' I' F' _ _) ?_ (fun _ _ _ _ hq => hq) (Nat.le_of_eq (Nat.zero_add _))
    refine s_Mdl_weight_0 ?_
    refine s_Mdl_weight_2 ?_
    refine s_Mdl_weight_3 ?_
    refine s_Mdl_weight_4 ?_
    refine s_Mdl_weight_6 ?_
    refine s_Mdl_weight_7 ?_
    refine s_Mdl_weight_8 ?_
    refine s_Mdl_weight_9 ?_
    refine s_Mdl_weight_10 ?_
    refine s_Mdl_weight_11 ?_
    refine s_Mdl_weight_12 ?_
    refine s_Mdl_weight_13 ?_
    refine s_Mdl_weight_14 ?_
    refine s_Mdl_weight_15 ?_
    refine s_Mdl_weight_16 ?_
    refine s_Mdl_weight_17 ?_
    refine s_Mdl_weight_19 (by decide) ?_
    refine s_Mdl_weight_20 ?_
    dsimp only [Option.toList, List.cons_append, List.nil_append]
    refine s_Mdl_owner_23 ?_
    refine s_Mdl_owner_24 ?_
    refine s_Mdl_owner_25 (b1 := 0) (b2 := _)  (Q1 := fun r K' I' F' => ex_E _ _ M_Mdl_owner 28 _ (r.toList ++ _) K' I' F' _ _) ?_ (fun _ _ _ _ hq => hq) (Nat.le_of_eq (Nat.zero_add _))
    refine s_Mdl_weight_0 ?_
    refine s_Mdl_weight_2 ?_
    refine s_Mdl_weight_3 ?_
    refine s_Mdl_weight_4 ?_
    refine s_Mdl_weight_6 ?_
    refine s_Mdl_weight_7 ?_
    refine s_Mdl_weight_8 ?_
    refine s_Mdl_weight_9 ?_
    refine s_Mdl_weight_10 ?_
    refine s_Mdl_weight_11 ?_
    refine s_Mdl_weight_12 ?_
    refine s_Mdl_weight_13 ?_
    refine s_Mdl_weight_14 ?_
    refine s_Mdl_weight_15 ?_
    refine s_Mdl_weight_16 ?_
    refine s_Mdl_weight_17 ?_
    refine s_Mdl_weight_19 (by decide) ?_
    refine s_Mdl_weight_20 ?_
    dsimp only [Option.toList, List.cons_append, List.nil_append]
    refine s_Mdl_owner_28 (fun h28 => absurd h28 (by decide)) (fun h28 => ?_)
    refine s_Mdl_owner_31 ?_
    refine s_Mdl_owner_32 ?_
    refine s_Mdl_owner_36 ?_
    refine s_Mdl_owner_37 ?_
    refine s_Mdl_owner_40 ?_
    refine s_Mdl_owner_13 ?_
    refine s_Mdl_owner_14 ?_
    refine s_Mdl_owner_15 (fun h15 => absurd h15 (by decide)) (fun h15 => ?_)
    refine s_Mdl_owner_18 ?_
    refine s_Mdl_owner_19 ?_
    refine s_Mdl_owner_20 (b1 := 0) (b2 := _)  (Q1 := fun r K' I' F' => ex_E _ _ M_Mdl_owner 23 _ (r.toList ++ _) K' I' F' _ _) ?_ (fun _ _ _ _ hq => hq) (Nat.le_of_eq (Nat.zero_add _))
    refine s_Mdl_weight_0 ?_
    refine s_Mdl_weight_2 ?_
    refine s_Mdl_weight_3 ?_
    refine s_Mdl_weight_4 ?_
    refine s_Mdl_weight_6 ?_
    refine s_Mdl_weight_7 ?_
    refine s_Mdl_weight_8 ?_
    refine s_Mdl_weight_9 ?_
    refine s_Mdl_weight_10 ?_
    refine s_Mdl_weight_11 ?_
    refine s_Mdl_weight_12 ?_
    refine s_Mdl_weight_13 ?_
    refine s_Mdl_weight_14 ?_
    refine s_Mdl_weight_15 ?_
    refine s_Mdl_weight_16 ?_
    refine s_Mdl_weight_17 ?_
    refine s_Mdl_weight_19 (by decide) ?_
    refine s_Mdl_weight_20 ?_
    dsimp only [Option.toList, List.cons_append, List.nil_append]
    refine s_Mdl_owner_23 ?_
    refine s_Mdl_owner_24 ?_
    refine s_Mdl_owner_25 (b1 := 0) (b2 := _)  (Q1 := fun r K' I' F' => ex_E _ _ M_Mdl_owner 28 _ (r.toList ++ _) K' I' F' _ _) ?_ (fun _ _ _ _ hq => hq) (Nat.le_of_eq (Nat.zero_add _))
    refine s_Mdl_weight_0 ?_
    refine s_Mdl_weight_2 ?_
    refine s_Mdl_weight_3 ?_
    refine s_Mdl_weight_4 ?_
    refine s_Mdl_weight_6 ?_
    refine s_Mdl_weight_7 ?_
    refine s_Mdl_weight_8 ?_
    refine s_Mdl_weight_9 ?_
    refine s_Mdl_weight_10 ?_
    refine s_Mdl_weight_11 ?_
    refine s_Mdl_weight_12 ?_
    refine s_Mdl_weight_13 ?_
    refine s_Mdl_weight_14 ?_
    refine s_Mdl_weight_15 ?_
    refine s_Mdl_weight_16 ?_
    refine s_Mdl_weight_17 ?_
    refine s_Mdl_weight_19 (by decide) ?_
    refine s_Mdl_weight_20 ?_
    dsimp only [Option.toList, List.cons_append, List.nil_append]
    refine s_Mdl_owner_28 (fun h28 => ?_) (fun h28 => absurd h28 (by exact fun q => q (by decide)))
    refine s_Mdl_owner_35 ?_
    refine s_Mdl_owner_36 ?_
    refine s_Mdl_owner_37 ?_
    refine s_Mdl_owner_40 ?_
    refine s_Mdl_owner_13 ?_
    refine s_Mdl_owner_14 ?_
    refine s_Mdl_owner_15 (fun h15 => ?_) (fun h15 => absurd h15 (by exact fun q => q (by decide)))
    refine s_Mdl_owner_43 ?_
    refine s_Mdl_owner_44 ?_
    exact ⟨by decide, rfl, rfl, rfl⟩
  · skip
    refine s_Mdl_owner_0 ?_
    refine s_Mdl_owner_1 (b1 := 0) (b2 := b)  (sp_isPathMdl (by decide)) ?_ (by omega)
    rintro _ _ _ _ ⟨rfl, rfl, rfl, rfl⟩
    dsimp only [Option.toList, List.cons_append, List.nil_append]
    refine s_Mdl_owner_4 (fun h4 => ?_) (fun h4 => absurd h4 (by decide))
    refine s_Mdl_owner_9 ?_
    refine s_Mdl_owner_10 ?_
    refine s_Mdl_owner_11 ?_
    refine s_Mdl_owner_12 ?_
    refine s_Mdl_owner_13 ?_
    refine s_Mdl_owner_14 ?_
    refine s_Mdl_owner_15 (fun h15 => absurd h15 (by decide)) (fun h15 => ?_)
    refine s_Mdl_owner_18 ?_
    refine s_Mdl_owner_19 ?_
    refine s_Mdl_owner_20 (b1 := 0) (b2 := _)  (Q1 := fun r K' I' F' => ex_E _ _ M_Mdl_owner 23 _ (r.toList ++ _) K' I' F' _ _) ?_ (fun _ _ _ _ hq => hq) (Nat.le_of_eq (Nat.zero_add _))
    refine s_Mdl_weight_0 ?_
    refine s_Mdl_weight_2 ?_
    refine s_Mdl_weight_3 ?_
    refine s_Mdl_weight_4 ?_
    refine s_Mdl_weight_6 ?_
    refine s_Mdl_weight_7 ?_
    refine s_Mdl_weight_8 ?_
    refine s_Mdl_weight_9 ?_
    refine s_Mdl_weight_10 ?_
    refine s_Mdl_weight_11 ?_
    refine s_Mdl_weight_12 ?_
    refine s_Mdl_weight_13 ?_
    refine s_Mdl_weight_14 ?_
    refine s_Mdl_weight_15 ?_
    refine s_Mdl_weight_16 ?_
    refine s_Mdl_weight_17 ?_
    refine s_Mdl_weight_19 (by decide) ?_
    refine s_Mdl_weight_20 ?_
    dsimp only [Option.toList, List.cons_append, List.nil_append]
    refine s_Mdl_owner_23 ?_
    refine s_Mdl_owner_24 ?_
    refine s_Mdl_owner_25 (b1 := 0) (b2 := _)  (Q1 := fun r K' I' F' => ex_E _ _ M_Mdl_owner 28 _ (r.toList ++ _) K' I' F' _ _) ?_ (fun _ _ _ _ hq => hq) (Nat.le_of_eq (Nat.zero_add _))
    refine s_Mdl_weight_0 ?_
    refine s_Mdl_weight_2 ?_
    refine s_Mdl_weight_3 ?_
    refine s_Mdl_weight_4 ?_
    refine s_Mdl_weight_6 ?_
    refine s_Mdl_weight_7 ?_
    refine s_Mdl_weight_8 ?_
    refine s_Mdl_weight_9 ?_
    refine s_Mdl_weight_10 ?_
    refine s_Mdl_weight_11 ?_
    refine s_Mdl_weight_12 ?_
    refine s_Mdl_weight_13 ?_
    refine s_Mdl_weight_14 ?_
    refine s_Mdl_weight_15 ?_
    refine s_Mdl_weight_16 ?_
    refine s_Mdl_weight_17 ?_
    refine s_Mdl_weight_19 (by decide) ?_
    refine s_Mdl_weight_20 ?_
    dsimp only [Option.toList, List.cons_append, List.nil_append]
    refine s_Mdl_owner_28 (fun h28 => ?_) (fun h28 => absurd h28 (by exact fun q => q (by decide)))
    refine s_Mdl_owner_35 ?_
    refine s_Mdl_owner_36 ?_
    refine s_Mdl_owner_37 ?_
    refine s_Mdl_owner_40 ?_
    refine s_Mdl_owner_13 ?_
    refine s_Mdl_owner_14 ?_
    refine s_Mdl_owner_15 (fun h15 => absurd h15 (by decide)) (fun h15 => ?_)
    refine s_Mdl_owner_18 ?_
    refine s_Mdl_owner_19 ?_
    refine s_Mdl_owner_20 (b1 := 0) (b2 := _)  (Q1 := fun r K' I' F' => ex_E _ _ M_Mdl_owner 23 _ (r.toList ++ _) K' I' F' _ _) ?_ (fun _ _ _ _ hq => hq) (Nat.le_of_eq (Nat.zero_add _))
    refine s_Mdl_weight_0 ?_
    refine s_Mdl_weight_2 ?_
    refine s_Mdl_weight_3 ?_
    refine s_Mdl_weight_4 ?_
    refine s_Mdl_weight_6 ?_
    refine s_Mdl_weight_7 ?_
    refine s_Mdl_weight_8 ?_
    refine s_Mdl_weight_9 ?_
    refine s_Mdl_weight_10 ?_
    refine s_Mdl_weight_11 ?_
    refine s_Mdl_weight_12 ?_
    refine s_Mdl_weight_13 ?_
    refine s_Mdl_weight_14 ?_
    refine s_Mdl_weight_15 ?_
    refine s_Mdl_weight_16 ?_
    refine s_Mdl_weight_17 ?_
    refine s_Mdl_weight_19 (by decide) ?_
    refine s_Mdl_weight_20 ?_
    dsimp only [Option.toList, List.cons_append, List.nil_append]
    refine s_Mdl_owner_23 ?_
    refine s_Mdl_owner_24 ?_
    refine s_Mdl_owner_25 (b1 := 0) (b2 := _)  (Q1 := fun r K' I' F' => ex_E _ _ M_Mdl_owner 28 _ (r.toList ++ _) K' I' F' _ _) ?_ (fun _ _ _ _ hq => hq) (Nat.le_of_eq (Nat.zero_add _))
    refine s_Mdl_weight_0 ?_
    refine s_Mdl_weight_2 ?_
    refine s_Mdl_weight_3 ?_
    refine s_Mdl_weight_4 ?_
    refine s_Mdl_weight_6 ?_
    refine s_Mdl_weight_7 ?_
    refine s_Mdl_weight_8 ?_
    refine s_Mdl_weight_9 ?_
    refine s_Mdl_weight_10 ?_
    refine s_Mdl_weight_11 ?_
    refine s_Mdl_weight_12 ?_
    refine s_Mdl_weight_13 ?_
    refine s_Mdl_weight_14 ?_
    refine s_Mdl_weight_15 ?_
    refine s_Mdl_weight_16 ?_
    refine s_Mdl_weight_17 ?_
    refine s_Mdl_weight_19 (by decide) ?_
    refine s_Mdl_weight_20 ?_
    dsimp only [Option.toList, List.cons_append, List.nil_append]
    refine s_Mdl_owner_28 (fun h28 => ?_) (fun h28 => absurd h28 (by exact fun q => q (by decide)))
    refine s_Mdl_owner_35 ?_
    refine s_Mdl_owner_36 ?_
    refine s_Mdl_owner_37 ?_
    refine s_Mdl_owner_40 ?_
    refine s_Mdl_owner_13 ?_
    refine s_Mdl_owner_14 ?_
    refine s_Mdl_owner_15 (fun h15 => ?_) (fun h15 => absurd h15 (by exact fun q => q (by decide)))
    refine s_Mdl_owner_43 ?_
    refine s_Mdl_owner_44 ?_
    exact ⟨by decide, rfl, rfl, rfl⟩
  · skip
    refine s_Mdl_owner_0 ?_
    refine s_Mdl_owner_1 (b1 := 0) (b2 := b)  (sp_isPathMdl (by decide)) ?_ (by omega)
    rintro _ _ _ _ ⟨rfl, rfl, rfl, rfl⟩
    dsimp only [Option.toList, List.cons_append, List.nil_append]
    refine s_Mdl_owner_4 (fun h4 => ?_) (fun h4 => absurd h4 (by decide))
    refine s_Mdl_owner_9 ?_
    refine s_Mdl_owner_10 ?_
    refine s_Mdl_owner_11 ?_
    refine s_Mdl_owner_12 ?_
    refine s_Mdl_owner_13 ?_
    refine s_Mdl_owner_14 ?_
    refine s_Mdl_owner_15 (fun h15 => absurd h15 (by decide)) (fun h15 => ?_)
    refine s_Mdl_owner_18 ?_
    refine s_Mdl_owner_19 ?_
    refine s_Mdl_owner_20 (b1 := 0) (b2 := _)  (Q1 := fun r K' I' F' => ex_E _ _ M_Mdl_owner 23 _ (r.toList ++ _) K' I' F' _ _) ?_ (fun _ _ _ _ hq => hq) (Nat.le_of_eq (Nat.zero_add _))
    refine s_Mdl_weight_0 ?_
    refine s_Mdl_weight_2 ?_
    refine s_Mdl_weight_3 ?_
    refine s_Mdl_weight_4 ?_
    refine s_Mdl_weight_6 ?_
    refine s_Mdl_weight_7 ?_
    refine s_Mdl_weight_8 ?_
    refine s_Mdl_weight_9 ?_
    refine s_Mdl_weight_10 ?_
    refine s_Mdl_weight_11 ?_
    refine s_Mdl_weight_12 ?_
    refine s_Mdl_weight_13 ?_
    refine s_Mdl_weight_14 ?_
    refine s_Mdl_weight_15 ?_
    refine s_Mdl_weight_16 ?_
    refine s_Mdl_weight_17 ?_
    refine s_Mdl_weight_19 (by decide) ?_
    refine s_Mdl_weight_20 ?_
    dsimp only [Option.toList, List.cons_append, List.nil_append]
    refine s_Mdl_owner_23 ?_
    refine s_Mdl_owner_24 ?_
    refine s_Mdl_owner_25 (b1 := 0) (b2 := _)  (Q1 := fun r K' I' F' => ex_E _ _ M_Mdl_owner 28 _ (r.toList ++ _) K' I' F' _ _) ?_ (fun _ _ _ _ hq => hq) (Nat.le_of_eq (Nat.zero_add _))
    refine s_Mdl_weight_0 ?_
    refine s_Mdl_weight_2 ?_
    refine s_Mdl_weight_3 ?_
    refine s_Mdl_weight_4 ?_
    refine s_Mdl_weight_6 ?_
    refine s_Mdl_weight_7 ?_
    refine s_Mdl_weight_8 ?_
    refine s_Mdl_weight_9 ?_
    refine s_Mdl_weight_10 ?_
    refine s_Mdl_weight_11 ?_
    refine s_Mdl_weight_12 ?_
    refine s_Mdl_weight_13 ?_
    refine s_Mdl_weight_14 ?_
    refine s_Mdl_weight_15 ?_
    refine s_Mdl_weight_16 ?_
    refine s_Mdl_weight_17 ?_
    refine s_Mdl_weight_19 (by decide) ?_
    refine s_Mdl_weight_20 ?_
    dsimp only [Option.toList, List.cons_append, List.nil_append]
    refine s_Mdl_owner_28 (fun h28 => absurd h28 (by decide)) (fun h28 => ?_)
    refine s_Mdl_owner_31 ?_
    refine s_Mdl_owner_32 ?_
    refine s_Mdl_owner_36 ?_
    refine s_Mdl_owner_37 ?_
    refine s_Mdl_owner_40 ?_
    refine s_Mdl_owner_13 ?_
    refine s_Mdl_owner_14 ?_
    refine s_Mdl_owner_15 (fun h15 => absurd h15 (by decide)) (fun h15 => ?_)
    refine s_Mdl_owner_18 ?_
    refine s_Mdl_owner_19 ?_
    refine s_Mdl_owner_20 (b1 := 0) (b2 := _)  (Q1 := fun r K' I' F' => ex_E _ _ M_Mdl_owner 23 _ (r.toList ++ _) K' I' F' _ _) ?_ (fun _ _ _ _ hq => hq) (Nat.le_of_eq (Nat.zero_add _))
    refine s_Mdl_weight_0 ?_
    refine s_Mdl_weight_2 ?_
    refine s_Mdl_weight_3 ?_
    refine s_Mdl_weight_4 ?_
    refine s_Mdl_weight_6 ?_
    refine s_Mdl_weight_7 ?_
    refine s_Mdl_weight_8 ?_
    refine s_Mdl_weight_9 ?_
    refine s_Mdl_weight_10 ?_
    refine s_Mdl_weight_11 ?_
    refine s_Mdl_weight_12 ?_
    refine s_Mdl_weight_13 ?_
    refine s_Mdl_weight_14 ?_
    refine s_Mdl_weight_15 ?_
    refine s_Mdl_weight_16 ?_
    refine s_Mdl_weight_17 ?_
    refine s_Mdl_weight_19 (by decide) ?_
    refine s_Mdl_weight_20 ?_
    dsimp only [Option.toList, List.cons_append, List.nil_append]
    refine s_Mdl_owner_23 ?_
    refine s_Mdl_owner_24 ?_
    refine s_Mdl_owner_25 (b1 := 0) (b2 := _)  (Q1 := fun r K' I' F' => ex_E _ _ M_Mdl_owner 28 _ (r.toList ++ _) K' I' F' _ _) ?_ (fun _ _ _ _ hq => hq) (Nat.le_of_eq (Nat.zero_add _))
    refine s_Mdl_weight_0 ?_
    refine s_Mdl_weight_2 ?_
    refine s_Mdl_weight_3 ?_
    refine s_Mdl_weight_4 ?_
    refine s_Mdl_weight_6 ?_
    refine s_Mdl_weight_7 ?_
    refine s_Mdl_weight_8 ?_
    refine s_Mdl_weight_9 ?_
    refine s_Mdl_weight_10 ?_
    refine s_Mdl_weight_11 ?_
    refine s_Mdl_weight_12 ?_
    refine s_Mdl_weight_13 ?_
    refine s_Mdl_weight_14 ?_
    refine s_Mdl_weight_15 ?_
    refine s_Mdl_weight_16 ?_
    refine s_Mdl_weight_17 ?_
    refine s_Mdl_weight_19 (by decide) ?_
    refine s_Mdl_weight_20 ?_
    dsimp only [Option.toList, List.cons_append, List.nil_append]
    refine s_Mdl_owner_28 (fun h28 => ?_) (fun h28 => absurd h28 (by exact fun q => q (by decide)))
    refine s_Mdl_owner_35 ?_
    refine s_Mdl_owner_36 ?_
    refine s_Mdl_owner_37 ?_
    refine s_Mdl_owner_40 ?_
    refine s_Mdl_owner_13 ?_
    refine s_Mdl_owner_14 ?_
    refine s_Mdl_owner_15 (fun h15 => ?_) (fun h15 => absurd h15 (by exact fun q => q (by decide)))
    refine s_Mdl_owner_43 ?_
    refine s_Mdl_owner_44 ?_
    exact ⟨by decide, rfl, rfl, rfl⟩
  · skip
    refine s_Mdl_owner_0 ?_
    refine s_Mdl_owner_1 (b1 := 0) (b2 := b)  (sp_isPathMdl (by decide)) ?_ (by omega)
    rintro _ _ _ _ ⟨rfl, rfl, rfl, rfl⟩
    dsimp only [Option.toList, List.cons_append, List.nil_append]
    refine s_Mdl_owner_4 (fun h4 => ?_) (fun h4 => absurd h4 (by decide))
    refine s_Mdl_owner_9 ?_
    refine s_Mdl_owner_10 ?_
    refine s_Mdl_owner_11 ?_
    refine s_Mdl_owner_12 ?_
    refine s_Mdl_owner_13 ?_
    refine s_Mdl_owner_14 ?_
    refine s_Mdl_owner_15 (fun h15 => absurd h15 (by decide)) (fun h15 => ?_)
    refine s_Mdl_owner_18 ?_
    refine s_Mdl_owner_19 ?_
    refine s_Mdl_owner_20 (b1 := 0) (b2 := _)  (Q1 := fun r K' I' F' => ex_E _ _ M_Mdl_owner 23 _ (r.toList ++ _) K' I' F' _ _) ?_ (fun _ _ _ _ hq => hq) (Nat.le_of_eq (Nat.zero_add _))
    refine s_Mdl_weight_0 ?_
    refine s_Mdl_weight_2 ?_
    refine s_Mdl_weight_3 ?_
    refine s_Mdl_weight_4 ?_
    refine s_Mdl_weight_6 ?_
    refine s_Mdl_weight_7 ?_
    refine s_Mdl_weight_8 ?_
    refine s_Mdl_weight_9 ?_
    refine s_Mdl_weight_10 ?_
    refine s_Mdl_weight_11 ?_
    refine s_Mdl_weight_12 ?_
    refine s_Mdl_weight_13 ?_
    refine s_Mdl_weight_14 ?_
    refine s_Mdl_weight_15 ?_
    refine s_Mdl_weight_16 ?_
    refine s_Mdl_weight_17 ?_
    refine s_Mdl_weight_19 (by decide) ?_
    refine s_Mdl_weight_20 ?_
    dsimp only [Option.toList, List.cons_append, List.nil_append]
    refine s_Mdl_owner_23 ?_
    refine s_Mdl_owner_24 ?_
    refine s_Mdl_owner_25 (b1 := 0) (b2 := _)  (Q1 := fun r K' I' F' => ex_E _ _ M_Mdl_owner 28 _ (r.toList ++ _) K' I' F' _ _) ?_ (fun _ _ _ _ hq => hq) (Nat.le_of_eq (Nat.zero_add _))
    refine s_Mdl_weight_0 ?_
    refine s_Mdl_weight_2 ?_
    refine s_Mdl_weight_3 ?_
    refine s_Mdl_weight_4 ?_
    refine s_Mdl_weight_6 ?_
    refine s_Mdl_weight_7 ?_
    refine s_Mdl_weight_8 ?_
    refine s_Mdl_weight_9 ?_
    refine s_Mdl_weight_10 ?_
    refine s_Mdl_weight_11 ?_
    refine s_Mdl_weight_12 ?_
    refine s_Mdl_weight_13 ?_
    refine s_Mdl_weight_14 ?_
    refine s_Mdl_weight_15 ?_
    refine s_Mdl_weight_16 ?_
    refine s_Mdl_weight_17 ?_
    refine s_Mdl_weight_19 (by decide) ?_
    refine s_Mdl_weight_20 ?_
    dsimp only [Option.toList, List.cons_append, List.nil_append]
    refine s_Mdl_owner_28 (fun h28 => ?_) (fun h28 => absurd h28 (by exact fun q => q (by decide)))
    refine s_Mdl_owner_35 ?_
    refine s_Mdl_owner_36 ?_
    refine s_Mdl_owner_37 ?_
    refine s_Mdl_owner_40 ?_
    refine s_Mdl_owner_13 ?_
    refine s_Mdl_owner_14 ?_
    refine s_Mdl_owner_15 (fun h15 => absurd h15 (by decide)) (fun h15 => ?_)
    refine s_Mdl_owner_18 ?_
    refine s_Mdl_owner_19 ?_
    refine s_Mdl_owner_20 (b1 := 0) (b2 := _)  (Q1 := fun r K' I' F' => ex_E _ _ M_Mdl_owner 23 _ (r.toList ++ _) K' I' F' _ _) ?_ (fun _ _ _ _ hq => hq) (Nat.le_of_eq (Nat.zero_add _))
    refine s_Mdl_weight_0 ?_
    refine s_Mdl_weight_2 ?_
    refine s_Mdl_weight_3 ?_
    refine s_Mdl_weight_4 ?_
    refine s_Mdl_weight_6 ?_
    refine s_Mdl_weight_7 ?_
    refine s_Mdl_weight_8 ?_
    refine s_Mdl_weight_9 ?_
    refine s_Mdl_weight_10 ?_
    refine s_Mdl_weight_11 ?_
    refine s_Mdl_weight_12 ?_
    refine s_Mdl_weight_13 ?_
    refine s_Mdl_weight_14 ?_
    refine s_Mdl_weight_15 ?_
    refine s_Mdl_weight_16 ?_
    refine s_Mdl_weight_17 ?_
    refine s_Mdl_weight_19 (by decide) ?_
    refine s_Mdl_weight_20 ?_
    dsimp only [Option.toList, List.cons_append, List.nil_append]
    refine s_Mdl_owner_23 ?_
    refine s_Mdl_owner_24 ?_
    refine s_Mdl_owner_25 (b1 := 0) (b2 := _)  (Q1 := fun r K' I' F' => ex_E _ _ M_Mdl_owner 28 _ (r.toList ++ _) K' I' F' _ _) ?_ (fun _ _ _ _ hq => hq) (Nat.le_of_eq (Nat.zero_add _))
    refine s_Mdl_weight_0 ?_
    refine s_Mdl_weight_2 ?_
    refine s_Mdl_weight_3 ?_
    refine s_Mdl_weight_4 ?_
    refine s_Mdl_weight_6 ?_
    refine s_Mdl_weight_7 ?_
    refine s_Mdl_weight_8 ?_
    refine s_Mdl_weight_9 ?_
    refine s_Mdl_weight_10 ?_
    refine s_Mdl_weight_11 ?_
    refine s_Mdl_weight_12 ?_
    refine s_Mdl_weight_13 ?_
    refine s_Mdl_weight_14 ?_
    refine s_Mdl_weight_15 ?_
    refine s_Mdl_weight_16 ?_
    refine s_Mdl_weight_17 ?_
    refine s_Mdl_weight_19 (by decide) ?_
    refine s_Mdl_weight_20 ?_
    dsimp only [Option.toList, List.cons_append, List.nil_append]
    refine s_Mdl_owner_28 (fun h28 => ?_) (fun h28 => absurd h28 (by exact fun q => q (by decide)))
    refine s_Mdl_owner_35 ?_
    refine s_Mdl_owner_36 ?_
    refine s_Mdl_owner_37 ?_
    refine s_Mdl_owner_40 ?_
    refine s_Mdl_owner_13 ?_
    refine s_Mdl_owner_14 ?_
    refine s_Mdl_owner_15 (fun h15 => ?_) (fun h15 => absurd h15 (by exact fun q => q (by decide)))
    refine s_Mdl_owner_43 ?_
    refine s_Mdl_owner_44 ?_
    exact ⟨by decide, rfl, rfl, rfl⟩
  · skip
    refine s_Mdl_owner_0 ?_
    refine s_Mdl_owner_1 (b1 := 0) (b2 := b)  (sp_isPathMdl (by decide)) ?_ (by omega)
    rintro _ _ _ _ ⟨rfl, rfl, rfl, rfl⟩
    dsimp only [Option.toList, List.cons_append, List.nil_append]
    refine s_Mdl_owner_4 (fun h4 => ?_) (fun h4 => absurd h4 (by decide))
    refine s_Mdl_owner_9 ?_
    refine s_Mdl_owner_10 ?_
    refine s_Mdl_owner_11 ?_
    refine s_Mdl_owner_12 ?_
    refine s_Mdl_owner_13 ?_
    refine s_Mdl_owner_14 ?_
    refine s_Mdl_owner_15 (fun h15 => absurd h15 (by decide)) (fun h15 => ?_)
    refine s_Mdl_owner_18 ?_
    refine s_Mdl_owner_19 ?_
    refine s_Mdl_owner_20 (b1 := 0) (b2 := _)  (Q1 := fun r K' I' F' => ex_E _ _ M_Mdl_owner 23 _ (r.toList ++ _) K' I' F' _ _) ?_ (fun _ _ _ _ hq => hq) (Nat.le_of_eq (Nat.zero_add _))
    refine s_Mdl_weight_0 ?_
    refine s_Mdl_weight_2 ?_
    refine s_Mdl_weight_3 ?_
    refine s_Mdl_weight_4 ?_
    refine s_Mdl_weight_6 ?_
    refine s_Mdl_weight_7 ?_
    refine s_Mdl_weight_8 ?_
    refine s_Mdl_weight_9 ?_
    refine s_Mdl_weight_10 ?_
    refine s_Mdl_weight_11 ?_
    refine s_Mdl_weight_12 ?_
    refine s_Mdl_weight_13 ?_
    refine s_Mdl_weight_14 ?_
    refine s_Mdl_weight_15 ?_
    refine s_Mdl_weight_16 ?_
    refine s_Mdl_weight_17 ?_
    refine s_Mdl_weight_19 (by decide) ?_
    refine s_Mdl_weight_20 ?_
    dsimp only [Option.toList, List.cons_append, List.nil_append]
    refine s_Mdl_owner_23 ?_
    refine s_Mdl_owner_24 ?_
    refine s_Mdl_owner_25 (b1 := 0) (b2 := _)  (Q1 := fun r K' I' F' => ex_E _ _ M_Mdl_owner 28 _ (r.toList ++ _) K' I' F' _ _) ?_ (fun _ _ _ _ hq => hq) (Nat.le_of_eq (Nat.zero_add _))
    refine s_Mdl_weight_0 ?_
    refine s_Mdl_weight_2 ?_
    refine s_Mdl_weight_3 ?_
    refine s_Mdl_weight_4 ?_
    refine s_Mdl_weight_6 ?_
    refine s_Mdl_weight_7 ?_
    refine s_Mdl_weight_8 ?_
    refine s_Mdl_weight_9 ?_
    refine s_Mdl_weight_10 ?_
    refine s_Mdl_weight_11 ?_
    refine s_Mdl_weight_12 ?_
    refine s_Mdl_weight_13 ?_
    refine s_Mdl_weight_14 ?_
    refine s_Mdl_weight_15 ?_
    refine s_Mdl_weight_16 ?_
    refine s_Mdl_weight_17 ?_
    refine s_Mdl_weight_19 (by decide) ?_
    refine s_Mdl_weight_20 ?_
    dsimp only [Option.toList, List.cons_append, List.nil_append]
    refine s_Mdl_owner_28 (fun h28 => absurd h28 (by decide)) (fun h28 => ?_)
    refine s_Mdl_owner_31 ?_
    refine s_Mdl_owner_32 ?_
    refine s_Mdl_owner_36 ?_
    refine s_Mdl_owner_37 ?_
    refine s_Mdl_owner_40 ?_
    refine s_Mdl_owner_13 ?_
    refine s_Mdl_owner_14 ?_
    refine s_Mdl_owner_15 (fun h15 => absurd h15 (by decide)) (fun h15 => ?_)
    refine s_Mdl_owner_18 ?_
    refine s_Mdl_owner_19 ?_
    refine s_Mdl_owner_20 (b1 := 0) (b2 := _)  (Q1 := fun r K' I' F' => ex_E _ _ M_Mdl_owner 23 _ (r.toList ++ _) K' I' F' _ _) ?_ (fun _ _ _ _ hq => hq) (Nat.le_of_eq (Nat.zero_add _))
    refine s_Mdl_weight_0 ?_
    refine s_Mdl_weight_2 ?_
    refine s_Mdl_weight_3 ?_
    refine s_Mdl_weight_4 ?_
    refine s_Mdl_weight_6 ?_
    refine s_Mdl_weight_7 ?_
    refine s_Mdl_weight_8 ?_
    refine s_Mdl_weight_9 ?_
    refine s_Mdl_weight_10 ?_
    refine s_Mdl_weight_11 ?_
    refine s_Mdl_weight_12 ?_
    refine s_Mdl_weight_13 ?_
    refine s_Mdl_weight_14 ?_
    refine s_Mdl_weight_15 ?_
    refine s_Mdl_weight_16 ?_
    refine s_Mdl_weight_17 ?_
    refine s_Mdl_weight_19 (by decide) ?_
    refine s_Mdl_weight_20 ?_
    dsimp only [Option.toList, List.cons_append, List.nil_append]
    refine s_Mdl_owner_23 ?_
    refine s_Mdl_owner_24 ?_
    refine s_Mdl_owner_25 (b1 := 0) (b2 := _)  (Q1 := fun r K' I' F' => ex_E _ _ M_Mdl_owner 28 _ (r.toList ++ _) K' I' F' _ _) ?_ (fun _ _ _ _ hq => hq) (Nat.le_of_eq (Nat.zero_add _))
    refine s_Mdl_weight_0 ?_
    refine s_Mdl_weight_2 ?_
    refine s_Mdl_weight_3 ?_
    refine s_Mdl_weight_4 ?_
    refine s_Mdl_weight_6 ?_
    refine s_Mdl_weight_7 ?_
    refine s_Mdl_weight_8 ?_
    refine s_Mdl_weight_9 ?_
    refine s_Mdl_weight_10 ?_
    refine s_Mdl_weight_11 ?_
    refine s_Mdl_weight_12 ?_
    refine s_Mdl_weight_13 ?_
    refine s_Mdl_weight_14 ?_
    refine s_Mdl_weight_15 ?_
    refine s_Mdl_weight_16 ?_
    refine s_Mdl_weight_17 ?_
    refine s_Mdl_weight_19 (by decide) ?_
    refine s_Mdl_weight_20 ?_
    dsimp only [Option.toList, List.cons_append, List.nil_append]
    refine s_Mdl_owner_28 (fun h28 => absurd h28 (by decide)) (fun h28 => ?_)
    refine s_Mdl_owner_31 ?_
    refine s_Mdl_owner_32 ?_
    refine s_Mdl_owner_36 ?_
    refine s_Mdl_owner_37 ?_
    refine s_Mdl_owner_40 ?_
    refine s_Mdl_owner_13 ?_
    refine s_Mdl_owner_14 ?_
    refine s_Mdl_owner_15 (fun h15 => ?_) (fun h15 => absurd h15 (by exact fun q => q (by decide)))
    refine s_Mdl_owner_43 ?_
    refine s_Mdl_owner_44 ?_
    exact ⟨by decide, rfl, rfl, rfl⟩
  · skip
    refine s_Mdl_owner_0 ?_
    refine s_Mdl_owner_1 (b1 := 0) (b2 := b)  (sp_isPathMdl (by decide)) ?_ (by omega)
    rintro _ _ _ _ ⟨rfl, rfl, rfl, rfl⟩
    dsimp only [Option.toList, List.cons_append, List.nil_append]
    refine s_Mdl_owner_4 (fun h4 => ?_) (fun h4 => absurd h4 (by decide))
    refine s_Mdl_owner_9 ?_
    refine s_Mdl_owner_10 ?_
    refine s_Mdl_owner_11 ?_
    refine s_Mdl_owner_12 ?_
    refine s_Mdl_owner_13 ?_
    refine s_Mdl_owner_14 ?_
    refine s_Mdl_owner_15 (fun h15 => absurd h15 (by decide)) (fun h15 => ?_)
    refine s_Mdl_owner_18 ?_
    refine s_Mdl_owner_19 ?_
    refine s_Mdl_owner_20 (b1 := 0) (b2 := _)  (Q1 := fun r K' I' F' => ex_E _ _ M_Mdl_owner 23 _ (r.toList ++ _) K' I' F' _ _) ?_ (fun _ _ _ _ hq => hq) (Nat.le_of_eq (Nat.zero_add _))
    refine s_Mdl_weight_0 ?_
    refine s_Mdl_weight_2 ?_
    refine s_Mdl_weight_3 ?_
    refine s_Mdl_weight_4 ?_
    refine s_Mdl_weight_6 ?_
    refine s_Mdl_weight_7 ?_
    refine s_Mdl_weight_8 ?_
    refine s_Mdl_weight_9 ?_
    refine s_Mdl_weight_10 ?_
    refine s_Mdl_weight_11 ?_
    refine s_Mdl_weight_12 ?_
    refine s_Mdl_weight_13 ?_
    refine s_Mdl_weight_14 ?_
    refine s_Mdl_weight_15 ?_
    refine s_Mdl_weight_16 ?_
    refine s_Mdl_weight_17 ?_
    refine s_Mdl_weight_19 (by decide) ?_
    refine s_Mdl_weight_20 ?_
    dsimp only [Option.toList, List.cons_append, List.nil_append]
    refine s_Mdl_owner_23 ?_
    refine s_Mdl_owner_24 ?_
    refine s_Mdl_owner_25 (b1 := 0) (b2 := _)  (Q1 := fun r K' I' F' => ex_E _ _ M_Mdl_owner 28 _ (r.toList ++ _) K' I' F' _ _) ?_ (fun _ _ _ _ hq => hq) (Nat.le_of_eq (Nat.zero_add _))
    refine s_Mdl_weight_0 ?_
    refine s_Mdl_weight_2 ?_
    refine s_Mdl_weight_3 ?_
    refine s_Mdl_weight_4 ?_
    refine s_Mdl_weight_6 ?_
    refine s_Mdl_weight_7 ?_
    refine s_Mdl_weight_8 ?_
    refine s_Mdl_weight_9 ?_
    refine s_Mdl_weight_10 ?_
    refine s_Mdl_weight_11 ?_
    refine s_Mdl_weight_12 ?_
    refine s_Mdl_weight_13 ?_
    refine s_Mdl_weight_14 ?_
    refine s_Mdl_weight_15 ?_
    refine s_Mdl_weight_16 ?_
    refine s_Mdl_weight_17 ?_
    refine s_Mdl_weight_19 (by decide) ?_
    refine s_Mdl_weight_20 ?_
    dsimp only [Option.toList, List.cons_append, List.nil_append]
    refine s_Mdl_owner_28 (fun h28 => absurd h28 (by decide)) (fun h28 => ?_)
    refine s_Mdl_owner_31 ?_
    refine s_Mdl_owner_32 ?_
    refine s_Mdl_owner_36 ?_
    refine s_Mdl_owner_37 ?_
    refine s_Mdl_owner_40 ?_
    refine s_Mdl_owner_13 ?_
    refine s_Mdl_owner_14 ?_
    refine s_Mdl_owner_15 (fun h15 => absurd h15 (by decide)) (fun h15 => ?_)
    refine s_Mdl_owner_18 ?_
    refine s_Mdl_owner_19 ?_
    refine s_Mdl_owner_20 (b1 := 0) (b2 := _)  (Q1 := fun r K' I' F' => ex_E _ _ M_Mdl_owner 23 _ (r.toList ++ _) K' I' F' _ _) ?_ (fun _ _ _ _ hq => hq) (Nat.le_of_eq (Nat.zero_add _))
    refine s_Mdl_weight_0 ?_
    refine s_Mdl_weight_2 ?_
    refine s_Mdl_weight_3 ?_
    refine s_Mdl_weight_4 ?_
    refine s_Mdl_weight_6 ?_
    refine s_Mdl_weight_7 ?_
    refine s_Mdl_weight_8 ?_
    refine s_Mdl_weight_9 ?_
    refine s_Mdl_weight_10 ?_
    refine s_Mdl_weight_11 ?_
    refine s_Mdl_weight_12 ?_
    refine s_Mdl_weight_13 ?_
    refine s_Mdl_weight_14 ?_
    refine s_Mdl_weight_15 ?_
    refine s_Mdl_weight_16 ?_
    refine s_Mdl_weight_17 ?_
    refine s_Mdl_weight_19 (by decide) ?_
    refine s_Mdl_weight_20 ?_
    dsimp only [Option.toList, List.cons_append, List.nil_append]
    refine s_Mdl_owner_23 ?_
    refine s_Mdl_owner_24 ?_
    refine s_Mdl_owner_25 (b1 := 0) (b2 := _)  (Q1 := fun r K' I' F' => ex_E _ _ M_Mdl_owner 28 _ (r.toList ++ _) K' I' F' _ _) ?_ (fun _ _ _ _ hq => hq) (Nat.le_of_eq (Nat.zero_add _))
    refine s_Mdl_weight_0 ?_
    refine s_Mdl_weight_2 ?_
    refine s_Mdl_weight_3 ?_
    refine s_Mdl_weight_4 ?_
    refine s_Mdl_weight_6 ?_
    refine s_Mdl_weight_7 ?_
    refine s_Mdl_weight_8 ?_
    refine s_Mdl_weight_9 ?_
    refine s_Mdl_weight_10 ?_
    refine s_Mdl_weight_11 ?_
    refine s_Mdl_weight_12 ?_
    refine s_Mdl_weight_13 ?_
    refine s_Mdl_weight_14 ?_
    refine s_Mdl_weight_15 ?_
    refine s_Mdl_weight_16 ?_
    refine s_Mdl_weight_17 ?_
    refine s_Mdl_weight_19 (by decide) ?_
    refine s_Mdl_weight_20 ?_
    dsimp only [Option.toList, List.cons_append, List.nil_append]
    refine s_Mdl_owner_28 (fun h28 => ?_) (fun h28 => absurd h28 (by exact fun q => q (by decide)))
    refine s_Mdl_owner_35 ?_
    refine s_Mdl_owner_36 ?_
    refine s_Mdl_owner_37 ?_
    refine s_Mdl_owner_40 ?_
    refine s_Mdl_owner_13 ?_
    refine s_Mdl_owner_14 ?_
    refine s_Mdl_owner_15 (fun h15 => ?_) (fun h15 => absurd h15 (by exact fun q => q (by decide)))
    refine s_Mdl_owner_43 ?_
    refine s_Mdl_owner_44 ?_
    exact ⟨by decide, rfl, rfl, rfl⟩
theorem sp_ownerOf {Γ : ex_G} {d : Nat} {K : ex_K} {I : ex_I} {F : ex_F} {b : Nat} {p : Nat} (hp : p < 8) : ex_E Γ d M_FC_ownerOf 0 [some (.inl (nI p)), none, none, none, none] [] K I F b (fun r K' I' F' => r = some (.inl (nI (own p))) ∧ K = K' ∧ I = I' ∧ F = F') := by
  rcases (by omega : p = 0 ∨ p = 1 ∨ p = 2 ∨ p = 3 ∨ p = 4 ∨ p = 5 ∨ p = 6 ∨ p = 7) with rfl | rfl | rfl | rfl | rfl | rfl | rfl | rfl
  · skip
    refine s_FC_ownerOf_0 ?_
    refine s_FC_ownerOf_1 ?_
    refine s_FC_ownerOf_2 ?_
    refine s_FC_ownerOf_3 ?_
    refine s_FC_ownerOf_4 ?_
    refine s_FC_ownerOf_5 ?_
    refine s_FC_ownerOf_6 ?_
    refine s_FC_ownerOf_7 ?_
    refine s_FC_ownerOf_8 (fun h8 => absurd h8 (by decide)) (fun h8 => ?_)
    refine s_FC_ownerOf_11 ?_
    refine s_FC_ownerOf_13 ?_
    refine s_FC_ownerOf_14 ?_
    refine s_FC_ownerOf_15 ?_
    refine s_FC_ownerOf_17 ?_
    refine s_FC_ownerOf_18 ?_
    refine s_FC_ownerOf_19 ?_
    refine s_FC_ownerOf_20 ?_
    refine s_FC_ownerOf_21 ?_
    refine s_FC_ownerOf_22 ?_
    refine s_FC_ownerOf_23 ?_
    refine s_FC_ownerOf_24 ?_
    refine s_FC_ownerOf_25 ?_
    refine s_FC_ownerOf_26 ?_
    refine s_FC_ownerOf_27 ?_
    refine s_FC_ownerOf_28 ?_
    refine s_FC_ownerOf_30 (by decide) ?_
    refine s_FC_ownerOf_31 ?_
    refine s_FC_ownerOf_33 ?_
    refine s_FC_ownerOf_35 ?_
    refine s_FC_ownerOf_36 (fun h36 => absurd h36 (by decide)) (fun h36 => ?_)
    refine s_FC_ownerOf_39 ?_
    refine s_FC_ownerOf_40 ?_
    refine s_FC_ownerOf_41 ?_
    refine s_FC_ownerOf_43 ?_
    refine s_FC_ownerOf_44 ?_
    refine s_FC_ownerOf_47 ?_
    refine s_FC_ownerOf_6 ?_
    refine s_FC_ownerOf_7 ?_
    refine s_FC_ownerOf_8 (fun h8 => absurd h8 (by decide)) (fun h8 => ?_)
    refine s_FC_ownerOf_11 ?_
    refine s_FC_ownerOf_13 ?_
    refine s_FC_ownerOf_14 ?_
    refine s_FC_ownerOf_15 ?_
    refine s_FC_ownerOf_17 ?_
    refine s_FC_ownerOf_18 ?_
    refine s_FC_ownerOf_19 ?_
    refine s_FC_ownerOf_20 ?_
    refine s_FC_ownerOf_21 ?_
    refine s_FC_ownerOf_22 ?_
    refine s_FC_ownerOf_23 ?_
    refine s_FC_ownerOf_24 ?_
    refine s_FC_ownerOf_25 ?_
    refine s_FC_ownerOf_26 ?_
    refine s_FC_ownerOf_27 ?_
    refine s_FC_ownerOf_28 ?_
    refine s_FC_ownerOf_30 (by decide) ?_
    refine s_FC_ownerOf_31 ?_
    refine s_FC_ownerOf_33 ?_
    refine s_FC_ownerOf_35 ?_
    refine s_FC_ownerOf_36 (fun h36 => ?_) (fun h36 => absurd h36 (by exact fun q => q (by decide)))
    refine s_FC_ownerOf_44 ?_
    refine s_FC_ownerOf_47 ?_
    refine s_FC_ownerOf_6 ?_
    refine s_FC_ownerOf_7 ?_
    refine s_FC_ownerOf_8 (fun h8 => absurd h8 (by decide)) (fun h8 => ?_)
    refine s_FC_ownerOf_11 ?_
    refine s_FC_ownerOf_13 ?_
    refine s_FC_ownerOf_14 ?_
    refine s_FC_ownerOf_15 ?_
    refine s_FC_ownerOf_17 ?_
    refine s_FC_ownerOf_18 ?_
    refine s_FC_ownerOf_19 ?_
    refine s_FC_ownerOf_20 ?_
    refine s_FC_ownerOf_21 ?_
    refine s_FC_ownerOf_22 ?_
    refine s_FC_ownerOf_23 ?_
    refine s_FC_ownerOf_24 ?_
    refine s_FC_ownerOf_25 ?_
    refine s_FC_ownerOf_26 ?_
    refine s_FC_ownerOf_27 ?_
    refine s_FC_ownerOf_28 ?_
    refine s_FC_ownerOf_30 (by decide) ?_
    refine s_FC_ownerOf_31 ?_
    refine s_FC_ownerOf_33 ?_
    refine s_FC_ownerOf_35 ?_
    refine s_FC_ownerOf_36 (fun h36 => absurd h36 (by decide)) (fun h36 => ?_)
    refine s_FC_ownerOf_39 ?_
    refine s_FC_ownerOf_40 ?_
    refine s_FC_ownerOf_41 ?_
    refine s_FC_ownerOf_43 ?_
    refine s_FC_ownerOf_44 ?_
    refine s_FC_ownerOf_47 ?_
    refine s_FC_ownerOf_6 ?_
    refine s_FC_ownerOf_7 ?_
    refine s_FC_ownerOf_8 (fun h8 => ?_) (fun h8 => absurd h8 (by exact fun q => q (by decide)))
    refine s_FC_ownerOf_50 ?_
    refine s_FC_ownerOf_51 ?_
    exact ⟨by decide, rfl, rfl, rfl⟩
  · skip
    refine s_FC_ownerOf_0 ?_
    refine s_FC_ownerOf_1 ?_
    refine s_FC_ownerOf_2 ?_
    refine s_FC_ownerOf_3 ?_
    refine s_FC_ownerOf_4 ?_
    refine s_FC_ownerOf_5 ?_
    refine s_FC_ownerOf_6 ?_
    refine s_FC_ownerOf_7 ?_
    refine s_FC_ownerOf_8 (fun h8 => absurd h8 (by decide)) (fun h8 => ?_)
    refine s_FC_ownerOf_11 ?_
    refine s_FC_ownerOf_13 ?_
    refine s_FC_ownerOf_14 ?_
    refine s_FC_ownerOf_15 ?_
    refine s_FC_ownerOf_17 ?_
    refine s_FC_ownerOf_18 ?_
    refine s_FC_ownerOf_19 ?_
    refine s_FC_ownerOf_20 ?_
    refine s_FC_ownerOf_21 ?_
    refine s_FC_ownerOf_22 ?_
    refine s_FC_ownerOf_23 ?_
    refine s_FC_ownerOf_24 ?_
    refine s_FC_ownerOf_25 ?_
    refine s_FC_ownerOf_26 ?_
    refine s_FC_ownerOf_27 ?_
    refine s_FC_ownerOf_28 ?_
    refine s_FC_ownerOf_30 (by decide) ?_
    refine s_FC_ownerOf_31 ?_
    refine s_FC_ownerOf_33 ?_
    refine s_FC_ownerOf_35 ?_
    refine s_FC_ownerOf_36 (fun h36 => absurd h36 (by decide)) (fun h36 => ?_)
    refine s_FC_ownerOf_39 ?_
    refine s_FC_ownerOf_40 ?_
    refine s_FC_ownerOf_41 ?_
    refine s_FC_ownerOf_43 ?_
    refine s_FC_ownerOf_44 ?_
    refine s_FC_ownerOf_47 ?_
    refine s_FC_ownerOf_6 ?_
    refine s_FC_ownerOf_7 ?_
    refine s_FC_ownerOf_8 (fun h8 => absurd h8 (by decide)) (fun h8 => ?_)
    refine s_FC_ownerOf_11 ?_
    refine s_FC_ownerOf_13 ?_
    refine s_FC_ownerOf_14 ?_
    refine s_FC_ownerOf_15 ?_
    refine s_FC_ownerOf_17 ?_
    refine s_FC_ownerOf_18 ?_
    refine s_FC_ownerOf_19 ?_
    refine s_FC_ownerOf_20 ?_
    refine s_FC_ownerOf_21 ?_
    refine s_FC_ownerOf_22 ?_
    refine s_FC_ownerOf_23 ?_
    refine s_FC_ownerOf_24 ?_
    refine s_FC_ownerOf_25 ?_
    refine s_FC_ownerOf_26 ?_
    refine s_FC_ownerOf_27 ?_
    refine s_FC_ownerOf_28 ?_
    refine s_FC_ownerOf_30 (by decide) ?_
    refine s_FC_ownerOf_31 ?_
    refine s_FC_ownerOf_33 ?_
    refine s_FC_ownerOf_35 ?_
    refine s_FC_ownerOf_36 (fun h36 => ?_) (fun h36 => absurd h36 (by exact fun q => q (by decide)))
    refine s_FC_ownerOf_44 ?_
    refine s_FC_ownerOf_47 ?_
    refine s_FC_ownerOf_6 ?_
    refine s_FC_ownerOf_7 ?_
    refine s_FC_ownerOf_8 (fun h8 => absurd h8 (by decide)) (fun h8 => ?_)
    refine s_FC_ownerOf_11 ?_
    refine s_FC_ownerOf_13 ?_
    refine s_FC_ownerOf_14 ?_
    refine s_FC_ownerOf_15 ?_
    refine s_FC_ownerOf_17 ?_
    refine s_FC_ownerOf_18 ?_
    refine s_FC_ownerOf_19 ?_
    refine s_FC_ownerOf_20 ?_
    refine s_FC_ownerOf_21 ?_
    refine s_FC_ownerOf_22 ?_
    refine s_FC_ownerOf_23 ?_
    refine s_FC_ownerOf_24 ?_
    refine s_FC_ownerOf_25 ?_
    refine s_FC_ownerOf_26 ?_
    refine s_FC_ownerOf_27 ?_
    refine s_FC_ownerOf_28 ?_
    refine s_FC_ownerOf_30 (by decide) ?_
    refine s_FC_ownerOf_31 ?_
    refine s_FC_ownerOf_33 ?_
    refine s_FC_ownerOf_35 ?_
    refine s_FC_ownerOf_36 (fun h36 => ?_) (fun h36 => absurd h36 (by exact fun q => q (by decide)))
    refine s_FC_ownerOf_44 ?_
    refine s_FC_ownerOf_47 ?_
    refine s_FC_ownerOf_6 ?_
    refine s_FC_ownerOf_7 ?_
    refine s_FC_ownerOf_8 (fun h8 => ?_) (fun h8 => absurd h8 (by exact fun q => q (by decide)))
    refine s_FC_ownerOf_50 ?_
    refine s_FC_ownerOf_51 ?_
    exact ⟨by decide, rfl, rfl, rfl⟩
  · skip
    refine s_FC_ownerOf_0 ?_
    refine s_FC_ownerOf_1 ?_
    refine s_FC_ownerOf_2 ?_
    refine s_FC_ownerOf_3 ?_
    refine s_FC_ownerOf_4 ?_
    refine s_FC_ownerOf_5 ?_
    refine s_FC_ownerOf_6 ?_
    refine s_FC_ownerOf_7 ?_
    refine s_FC_ownerOf_8 (fun h8 => absurd h8 (by decide)) (fun h8 => ?_)
    refine s_FC_ownerOf_11 ?_
    refine s_FC_ownerOf_13 ?_
    refine s_FC_ownerOf_14 ?_
    refine s_FC_ownerOf_15 ?_
    refine s_FC_ownerOf_17 ?_
    refine s_FC_ownerOf_18 ?_
    refine s_FC_ownerOf_19 ?_
    refine s_FC_ownerOf_20 ?_
    refine s_FC_ownerOf_21 ?_
    refine s_FC_ownerOf_22 ?_
    refine s_FC_ownerOf_23 ?_
    refine s_FC_ownerOf_24 ?_
    refine s_FC_ownerOf_25 ?_
    refine s_FC_ownerOf_26 ?_
    refine s_FC_ownerOf_27 ?_
    refine s_FC_ownerOf_28 ?_
    refine s_FC_ownerOf_30 (by decide) ?_
    refine s_FC_ownerOf_31 ?_
    refine s_FC_ownerOf_33 ?_
    refine s_FC_ownerOf_35 ?_
    refine s_FC_ownerOf_36 (fun h36 => absurd h36 (by decide)) (fun h36 => ?_)
    refine s_FC_ownerOf_39 ?_
    refine s_FC_ownerOf_40 ?_
    refine s_FC_ownerOf_41 ?_
    refine s_FC_ownerOf_43 ?_
    refine s_FC_ownerOf_44 ?_
    refine s_FC_ownerOf_47 ?_
    refine s_FC_ownerOf_6 ?_
    refine s_FC_ownerOf_7 ?_
    refine s_FC_ownerOf_8 (fun h8 => absurd h8 (by decide)) (fun h8 => ?_)
    refine s_FC_ownerOf_11 ?_
    refine s_FC_ownerOf_13 ?_
    refine s_FC_ownerOf_14 ?_
    refine s_FC_ownerOf_15 ?_
    refine s_FC_ownerOf_17 ?_
    refine s_FC_ownerOf_18 ?_
    refine s_FC_ownerOf_19 ?_
    refine s_FC_ownerOf_20 ?_
    refine s_FC_ownerOf_21 ?_
    refine s_FC_ownerOf_22 ?_
    refine s_FC_ownerOf_23 ?_
    refine s_FC_ownerOf_24 ?_
    refine s_FC_ownerOf_25 ?_
    refine s_FC_ownerOf_26 ?_
    refine s_FC_ownerOf_27 ?_
    refine s_FC_ownerOf_28 ?_
    refine s_FC_ownerOf_30 (by decide) ?_
    refine s_FC_ownerOf_31 ?_
    refine s_FC_ownerOf_33 ?_
    refine s_FC_ownerOf_35 ?_
    refine s_FC_ownerOf_36 (fun h36 => absurd h36 (by decide)) (fun h36 => ?_)
    refine s_FC_ownerOf_39 ?_
    refine s_FC_ownerOf_40 ?_
    refine s_FC_ownerOf_41 ?_
    refine s_FC_ownerOf_43 ?_
    refine s_FC_ownerOf_44 ?_
    refine s_FC_ownerOf_47 ?_
    refine s_FC_ownerOf_6 ?_
    refine s_FC_ownerOf_7 ?_
    refine s_FC_ownerOf_8 (fun h8 => absurd h8 (by decide)) (fun h8 => ?_)
    refine s_FC_ownerOf_11 ?_
    refine s_FC_ownerOf_13 ?_
    refine s_FC_ownerOf_14 ?_
    refine s_FC_ownerOf_15 ?_
    refine s_FC_ownerOf_17 ?_
    refine s_FC_ownerOf_18 ?_
    refine s_FC_ownerOf_19 ?_
    refine s_FC_ownerOf_20 ?_
    refine s_FC_ownerOf_21 ?_
    refine s_FC_ownerOf_22 ?_
    refine s_FC_ownerOf_23 ?_
    refine s_FC_ownerOf_24 ?_
    refine s_FC_ownerOf_25 ?_
    refine s_FC_ownerOf_26 ?_
    refine s_FC_ownerOf_27 ?_
    refine s_FC_ownerOf_28 ?_
    refine s_FC_ownerOf_30 (by decide) ?_
    refine s_FC_ownerOf_31 ?_
    refine s_FC_ownerOf_33 ?_
    refine s_FC_ownerOf_35 ?_
    refine s_FC_ownerOf_36 (fun h36 => ?_) (fun h36 => absurd h36 (by exact fun q => q (by decide)))
    refine s_FC_ownerOf_44 ?_
    refine s_FC_ownerOf_47 ?_
    refine s_FC_ownerOf_6 ?_
    refine s_FC_ownerOf_7 ?_
    refine s_FC_ownerOf_8 (fun h8 => ?_) (fun h8 => absurd h8 (by exact fun q => q (by decide)))
    refine s_FC_ownerOf_50 ?_
    refine s_FC_ownerOf_51 ?_
    exact ⟨by decide, rfl, rfl, rfl⟩
  · skip
    refine s_FC_ownerOf_0 ?_
    refine s_FC_ownerOf_1 ?_
    refine s_FC_ownerOf_2 ?_
    refine s_FC_ownerOf_3 ?_
    refine s_FC_ownerOf_4 ?_
    refine s_FC_ownerOf_5 ?_
    refine s_FC_ownerOf_6 ?_
    refine s_FC_ownerOf_7 ?_
    refine s_FC_ownerOf_8 (fun h8 => absurd h8 (by decide)) (fun h8 => ?_)
    refine s_FC_ownerOf_11 ?_
    refine s_FC_ownerOf_13 ?_
    refine s_FC_ownerOf_14 ?_
    refine s_FC_ownerOf_15 ?_
    refine s_FC_ownerOf_17 ?_
    refine s_FC_ownerOf_18 ?_
    refine s_FC_ownerOf_19 ?_
    refine s_FC_ownerOf_20 ?_
    refine s_FC_ownerOf_21 ?_
    refine s_FC_ownerOf_22 ?_
    refine s_FC_ownerOf_23 ?_
    refine s_FC_ownerOf_24 ?_
    refine s_FC_ownerOf_25 ?_
    refine s_FC_ownerOf_26 ?_
    refine s_FC_ownerOf_27 ?_
    refine s_FC_ownerOf_28 ?_
    refine s_FC_ownerOf_30 (by decide) ?_
    refine s_FC_ownerOf_31 ?_
    refine s_FC_ownerOf_33 ?_
    refine s_FC_ownerOf_35 ?_
    refine s_FC_ownerOf_36 (fun h36 => absurd h36 (by decide)) (fun h36 => ?_)
    refine s_FC_ownerOf_39 ?_
    refine s_FC_ownerOf_40 ?_
    refine s_FC_ownerOf_41 ?_
    refine s_FC_ownerOf_43 ?_
    refine s_FC_ownerOf_44 ?_
    refine s_FC_ownerOf_47 ?_
    refine s_FC_ownerOf_6 ?_
    refine s_FC_ownerOf_7 ?_
    refine s_FC_ownerOf_8 (fun h8 => absurd h8 (by decide)) (fun h8 => ?_)
    refine s_FC_ownerOf_11 ?_
    refine s_FC_ownerOf_13 ?_
    refine s_FC_ownerOf_14 ?_
    refine s_FC_ownerOf_15 ?_
    refine s_FC_ownerOf_17 ?_
    refine s_FC_ownerOf_18 ?_
    refine s_FC_ownerOf_19 ?_
    refine s_FC_ownerOf_20 ?_
    refine s_FC_ownerOf_21 ?_
    refine s_FC_ownerOf_22 ?_
    refine s_FC_ownerOf_23 ?_
    refine s_FC_ownerOf_24 ?_
    refine s_FC_ownerOf_25 ?_
    refine s_FC_ownerOf_26 ?_
    refine s_FC_ownerOf_27 ?_
    refine s_FC_ownerOf_28 ?_
    refine s_FC_ownerOf_30 (by decide) ?_
    refine s_FC_ownerOf_31 ?_
    refine s_FC_ownerOf_33 ?_
    refine s_FC_ownerOf_35 ?_
    refine s_FC_ownerOf_36 (fun h36 => ?_) (fun h36 => absurd h36 (by exact fun q => q (by decide)))
    refine s_FC_ownerOf_44 ?_
    refine s_FC_ownerOf_47 ?_
    refine s_FC_ownerOf_6 ?_
    refine s_FC_ownerOf_7 ?_
    refine s_FC_ownerOf_8 (fun h8 => absurd h8 (by decide)) (fun h8 => ?_)
    refine s_FC_ownerOf_11 ?_
    refine s_FC_ownerOf_13 ?_
    refine s_FC_ownerOf_14 ?_
    refine s_FC_ownerOf_15 ?_
    refine s_FC_ownerOf_17 ?_
    refine s_FC_ownerOf_18 ?_
    refine s_FC_ownerOf_19 ?_
    refine s_FC_ownerOf_20 ?_
    refine s_FC_ownerOf_21 ?_
    refine s_FC_ownerOf_22 ?_
    refine s_FC_ownerOf_23 ?_
    refine s_FC_ownerOf_24 ?_
    refine s_FC_ownerOf_25 ?_
    refine s_FC_ownerOf_26 ?_
    refine s_FC_ownerOf_27 ?_
    refine s_FC_ownerOf_28 ?_
    refine s_FC_ownerOf_30 (by decide) ?_
    refine s_FC_ownerOf_31 ?_
    refine s_FC_ownerOf_33 ?_
    refine s_FC_ownerOf_35 ?_
    refine s_FC_ownerOf_36 (fun h36 => ?_) (fun h36 => absurd h36 (by exact fun q => q (by decide)))
    refine s_FC_ownerOf_44 ?_
    refine s_FC_ownerOf_47 ?_
    refine s_FC_ownerOf_6 ?_
    refine s_FC_ownerOf_7 ?_
    refine s_FC_ownerOf_8 (fun h8 => ?_) (fun h8 => absurd h8 (by exact fun q => q (by decide)))
    refine s_FC_ownerOf_50 ?_
    refine s_FC_ownerOf_51 ?_
    exact ⟨by decide, rfl, rfl, rfl⟩
  · skip
    refine s_FC_ownerOf_0 ?_
    refine s_FC_ownerOf_1 ?_
    refine s_FC_ownerOf_2 ?_
    refine s_FC_ownerOf_3 ?_
    refine s_FC_ownerOf_4 ?_
    refine s_FC_ownerOf_5 ?_
    refine s_FC_ownerOf_6 ?_
    refine s_FC_ownerOf_7 ?_
    refine s_FC_ownerOf_8 (fun h8 => absurd h8 (by decide)) (fun h8 => ?_)
    refine s_FC_ownerOf_11 ?_
    refine s_FC_ownerOf_13 ?_
    refine s_FC_ownerOf_14 ?_
    refine s_FC_ownerOf_15 ?_
    refine s_FC_ownerOf_17 ?_
    refine s_FC_ownerOf_18 ?_
    refine s_FC_ownerOf_19 ?_
    refine s_FC_ownerOf_20 ?_
    refine s_FC_ownerOf_21 ?_
    refine s_FC_ownerOf_22 ?_
    refine s_FC_ownerOf_23 ?_
    refine s_FC_ownerOf_24 ?_
    refine s_FC_ownerOf_25 ?_
    refine s_FC_ownerOf_26 ?_
    refine s_FC_ownerOf_27 ?_
    refine s_FC_ownerOf_28 ?_
    refine s_FC_ownerOf_30 (by decide) ?_
    refine s_FC_ownerOf_31 ?_
    refine s_FC_ownerOf_33 ?_
    refine s_FC_ownerOf_35 ?_
    refine s_FC_ownerOf_36 (fun h36 => absurd h36 (by decide)) (fun h36 => ?_)
    refine s_FC_ownerOf_39 ?_
    refine s_FC_ownerOf_40 ?_
    refine s_FC_ownerOf_41 ?_
    refine s_FC_ownerOf_43 ?_
    refine s_FC_ownerOf_44 ?_
    refine s_FC_ownerOf_47 ?_
    refine s_FC_ownerOf_6 ?_
    refine s_FC_ownerOf_7 ?_
    refine s_FC_ownerOf_8 (fun h8 => absurd h8 (by decide)) (fun h8 => ?_)
    refine s_FC_ownerOf_11 ?_
    refine s_FC_ownerOf_13 ?_
    refine s_FC_ownerOf_14 ?_
    refine s_FC_ownerOf_15 ?_
    refine s_FC_ownerOf_17 ?_
    refine s_FC_ownerOf_18 ?_
    refine s_FC_ownerOf_19 ?_
    refine s_FC_ownerOf_20 ?_
    refine s_FC_ownerOf_21 ?_
    refine s_FC_ownerOf_22 ?_
    refine s_FC_ownerOf_23 ?_
    refine s_FC_ownerOf_24 ?_
    refine s_FC_ownerOf_25 ?_
    refine s_FC_ownerOf_26 ?_
    refine s_FC_ownerOf_27 ?_
    refine s_FC_ownerOf_28 ?_
    refine s_FC_ownerOf_30 (by decide) ?_
    refine s_FC_ownerOf_31 ?_
    refine s_FC_ownerOf_33 ?_
    refine s_FC_ownerOf_35 ?_
    refine s_FC_ownerOf_36 (fun h36 => absurd h36 (by decide)) (fun h36 => ?_)
    refine s_FC_ownerOf_39 ?_
    refine s_FC_ownerOf_40 ?_
    refine s_FC_ownerOf_41 ?_
    refine s_FC_ownerOf_43 ?_
    refine s_FC_ownerOf_44 ?_
    refine s_FC_ownerOf_47 ?_
    refine s_FC_ownerOf_6 ?_
    refine s_FC_ownerOf_7 ?_
    refine s_FC_ownerOf_8 (fun h8 => absurd h8 (by decide)) (fun h8 => ?_)
    refine s_FC_ownerOf_11 ?_
    refine s_FC_ownerOf_13 ?_
    refine s_FC_ownerOf_14 ?_
    refine s_FC_ownerOf_15 ?_
    refine s_FC_ownerOf_17 ?_
    refine s_FC_ownerOf_18 ?_
    refine s_FC_ownerOf_19 ?_
    refine s_FC_ownerOf_20 ?_
    refine s_FC_ownerOf_21 ?_
    refine s_FC_ownerOf_22 ?_
    refine s_FC_ownerOf_23 ?_
    refine s_FC_ownerOf_24 ?_
    refine s_FC_ownerOf_25 ?_
    refine s_FC_ownerOf_26 ?_
    refine s_FC_ownerOf_27 ?_
    refine s_FC_ownerOf_28 ?_
    refine s_FC_ownerOf_30 (by decide) ?_
    refine s_FC_ownerOf_31 ?_
    refine s_FC_ownerOf_33 ?_
    refine s_FC_ownerOf_35 ?_
    refine s_FC_ownerOf_36 (fun h36 => ?_) (fun h36 => absurd h36 (by exact fun q => q (by decide)))
    refine s_FC_ownerOf_44 ?_
    refine s_FC_ownerOf_47 ?_
    refine s_FC_ownerOf_6 ?_
    refine s_FC_ownerOf_7 ?_
    refine s_FC_ownerOf_8 (fun h8 => ?_) (fun h8 => absurd h8 (by exact fun q => q (by decide)))
    refine s_FC_ownerOf_50 ?_
    refine s_FC_ownerOf_51 ?_
    exact ⟨by decide, rfl, rfl, rfl⟩
  · skip
    refine s_FC_ownerOf_0 ?_
    refine s_FC_ownerOf_1 ?_
    refine s_FC_ownerOf_2 ?_
    refine s_FC_ownerOf_3 ?_
    refine s_FC_ownerOf_4 ?_
    refine s_FC_ownerOf_5 ?_
    refine s_FC_ownerOf_6 ?_
    refine s_FC_ownerOf_7 ?_
    refine s_FC_ownerOf_8 (fun h8 => absurd h8 (by decide)) (fun h8 => ?_)
    refine s_FC_ownerOf_11 ?_
    refine s_FC_ownerOf_13 ?_
    refine s_FC_ownerOf_14 ?_
    refine s_FC_ownerOf_15 ?_
    refine s_FC_ownerOf_17 ?_
    refine s_FC_ownerOf_18 ?_
    refine s_FC_ownerOf_19 ?_
    refine s_FC_ownerOf_20 ?_
    refine s_FC_ownerOf_21 ?_
    refine s_FC_ownerOf_22 ?_
    refine s_FC_ownerOf_23 ?_
    refine s_FC_ownerOf_24 ?_
    refine s_FC_ownerOf_25 ?_
    refine s_FC_ownerOf_26 ?_
    refine s_FC_ownerOf_27 ?_
    refine s_FC_ownerOf_28 ?_
    refine s_FC_ownerOf_30 (by decide) ?_
    refine s_FC_ownerOf_31 ?_
    refine s_FC_ownerOf_33 ?_
    refine s_FC_ownerOf_35 ?_
    refine s_FC_ownerOf_36 (fun h36 => absurd h36 (by decide)) (fun h36 => ?_)
    refine s_FC_ownerOf_39 ?_
    refine s_FC_ownerOf_40 ?_
    refine s_FC_ownerOf_41 ?_
    refine s_FC_ownerOf_43 ?_
    refine s_FC_ownerOf_44 ?_
    refine s_FC_ownerOf_47 ?_
    refine s_FC_ownerOf_6 ?_
    refine s_FC_ownerOf_7 ?_
    refine s_FC_ownerOf_8 (fun h8 => absurd h8 (by decide)) (fun h8 => ?_)
    refine s_FC_ownerOf_11 ?_
    refine s_FC_ownerOf_13 ?_
    refine s_FC_ownerOf_14 ?_
    refine s_FC_ownerOf_15 ?_
    refine s_FC_ownerOf_17 ?_
    refine s_FC_ownerOf_18 ?_
    refine s_FC_ownerOf_19 ?_
    refine s_FC_ownerOf_20 ?_
    refine s_FC_ownerOf_21 ?_
    refine s_FC_ownerOf_22 ?_
    refine s_FC_ownerOf_23 ?_
    refine s_FC_ownerOf_24 ?_
    refine s_FC_ownerOf_25 ?_
    refine s_FC_ownerOf_26 ?_
    refine s_FC_ownerOf_27 ?_
    refine s_FC_ownerOf_28 ?_
    refine s_FC_ownerOf_30 (by decide) ?_
    refine s_FC_ownerOf_31 ?_
    refine s_FC_ownerOf_33 ?_
    refine s_FC_ownerOf_35 ?_
    refine s_FC_ownerOf_36 (fun h36 => ?_) (fun h36 => absurd h36 (by exact fun q => q (by decide)))
    refine s_FC_ownerOf_44 ?_
    refine s_FC_ownerOf_47 ?_
    refine s_FC_ownerOf_6 ?_
    refine s_FC_ownerOf_7 ?_
    refine s_FC_ownerOf_8 (fun h8 => absurd h8 (by decide)) (fun h8 => ?_)
    refine s_FC_ownerOf_11 ?_
    refine s_FC_ownerOf_13 ?_
    refine s_FC_ownerOf_14 ?_
    refine s_FC_ownerOf_15 ?_
    refine s_FC_ownerOf_17 ?_
    refine s_FC_ownerOf_18 ?_
    refine s_FC_ownerOf_19 ?_
    refine s_FC_ownerOf_20 ?_
    refine s_FC_ownerOf_21 ?_
    refine s_FC_ownerOf_22 ?_
    refine s_FC_ownerOf_23 ?_
    refine s_FC_ownerOf_24 ?_
    refine s_FC_ownerOf_25 ?_
    refine s_FC_ownerOf_26 ?_
    refine s_FC_ownerOf_27 ?_
    refine s_FC_ownerOf_28 ?_
    refine s_FC_ownerOf_30 (by decide) ?_
    refine s_FC_ownerOf_31 ?_
    refine s_FC_ownerOf_33 ?_
    refine s_FC_ownerOf_35 ?_
    refine s_FC_ownerOf_36 (fun h36 => ?_) (fun h36 => absurd h36 (by exact fun q => q (by decide)))
    refine s_FC_ownerOf_44 ?_
    refine s_FC_ownerOf_47 ?_
    refine s_FC_ownerOf_6 ?_
    refine s_FC_ownerOf_7 ?_
    refine s_FC_ownerOf_8 (fun h8 => ?_) (fun h8 => absurd h8 (by exact fun q => q (by decide)))
    refine s_FC_ownerOf_50 ?_
    refine s_FC_ownerOf_51 ?_
    exact ⟨by decide, rfl, rfl, rfl⟩
  · skip
    refine s_FC_ownerOf_0 ?_
    refine s_FC_ownerOf_1 ?_
    refine s_FC_ownerOf_2 ?_
    refine s_FC_ownerOf_3 ?_
    refine s_FC_ownerOf_4 ?_
    refine s_FC_ownerOf_5 ?_
    refine s_FC_ownerOf_6 ?_
    refine s_FC_ownerOf_7 ?_
    refine s_FC_ownerOf_8 (fun h8 => absurd h8 (by decide)) (fun h8 => ?_)
    refine s_FC_ownerOf_11 ?_
    refine s_FC_ownerOf_13 ?_
    refine s_FC_ownerOf_14 ?_
    refine s_FC_ownerOf_15 ?_
    refine s_FC_ownerOf_17 ?_
    refine s_FC_ownerOf_18 ?_
    refine s_FC_ownerOf_19 ?_
    refine s_FC_ownerOf_20 ?_
    refine s_FC_ownerOf_21 ?_
    refine s_FC_ownerOf_22 ?_
    refine s_FC_ownerOf_23 ?_
    refine s_FC_ownerOf_24 ?_
    refine s_FC_ownerOf_25 ?_
    refine s_FC_ownerOf_26 ?_
    refine s_FC_ownerOf_27 ?_
    refine s_FC_ownerOf_28 ?_
    refine s_FC_ownerOf_30 (by decide) ?_
    refine s_FC_ownerOf_31 ?_
    refine s_FC_ownerOf_33 ?_
    refine s_FC_ownerOf_35 ?_
    refine s_FC_ownerOf_36 (fun h36 => absurd h36 (by decide)) (fun h36 => ?_)
    refine s_FC_ownerOf_39 ?_
    refine s_FC_ownerOf_40 ?_
    refine s_FC_ownerOf_41 ?_
    refine s_FC_ownerOf_43 ?_
    refine s_FC_ownerOf_44 ?_
    refine s_FC_ownerOf_47 ?_
    refine s_FC_ownerOf_6 ?_
    refine s_FC_ownerOf_7 ?_
    refine s_FC_ownerOf_8 (fun h8 => absurd h8 (by decide)) (fun h8 => ?_)
    refine s_FC_ownerOf_11 ?_
    refine s_FC_ownerOf_13 ?_
    refine s_FC_ownerOf_14 ?_
    refine s_FC_ownerOf_15 ?_
    refine s_FC_ownerOf_17 ?_
    refine s_FC_ownerOf_18 ?_
    refine s_FC_ownerOf_19 ?_
    refine s_FC_ownerOf_20 ?_
    refine s_FC_ownerOf_21 ?_
    refine s_FC_ownerOf_22 ?_
    refine s_FC_ownerOf_23 ?_
    refine s_FC_ownerOf_24 ?_
    refine s_FC_ownerOf_25 ?_
    refine s_FC_ownerOf_26 ?_
    refine s_FC_ownerOf_27 ?_
    refine s_FC_ownerOf_28 ?_
    refine s_FC_ownerOf_30 (by decide) ?_
    refine s_FC_ownerOf_31 ?_
    refine s_FC_ownerOf_33 ?_
    refine s_FC_ownerOf_35 ?_
    refine s_FC_ownerOf_36 (fun h36 => absurd h36 (by decide)) (fun h36 => ?_)
    refine s_FC_ownerOf_39 ?_
    refine s_FC_ownerOf_40 ?_
    refine s_FC_ownerOf_41 ?_
    refine s_FC_ownerOf_43 ?_
    refine s_FC_ownerOf_44 ?_
    refine s_FC_ownerOf_47 ?_
    refine s_FC_ownerOf_6 ?_
    refine s_FC_ownerOf_7 ?_
    refine s_FC_ownerOf_8 (fun h8 => absurd h8 (by decide)) (fun h8 => ?_)
    refine s_FC_ownerOf_11 ?_
    refine s_FC_ownerOf_13 ?_
    refine s_FC_ownerOf_14 ?_
    refine s_FC_ownerOf_15 ?_
    refine s_FC_ownerOf_17 ?_
    refine s_FC_ownerOf_18 ?_
    refine s_FC_ownerOf_19 ?_
    refine s_FC_ownerOf_20 ?_
    refine s_FC_ownerOf_21 ?_
    refine s_FC_ownerOf_22 ?_
    refine s_FC_ownerOf_23 ?_
    refine s_FC_ownerOf_24 ?_
    refine s_FC_ownerOf_25 ?_
    refine s_FC_ownerOf_26 ?_
    refine s_FC_ownerOf_27 ?_
    refine s_FC_ownerOf_28 ?_
    refine s_FC_ownerOf_30 (by decide) ?_
    refine s_FC_ownerOf_31 ?_
    refine s_FC_ownerOf_33 ?_
    refine s_FC_ownerOf_35 ?_
    refine s_FC_ownerOf_36 (fun h36 => absurd h36 (by decide)) (fun h36 => ?_)
    refine s_FC_ownerOf_39 ?_
    refine s_FC_ownerOf_40 ?_
    refine s_FC_ownerOf_41 ?_
    refine s_FC_ownerOf_43 ?_
    refine s_FC_ownerOf_44 ?_
    refine s_FC_ownerOf_47 ?_
    refine s_FC_ownerOf_6 ?_
    refine s_FC_ownerOf_7 ?_
    refine s_FC_ownerOf_8 (fun h8 => ?_) (fun h8 => absurd h8 (by exact fun q => q (by decide)))
    refine s_FC_ownerOf_50 ?_
    refine s_FC_ownerOf_51 ?_
    exact ⟨by decide, rfl, rfl, rfl⟩
  · skip
    refine s_FC_ownerOf_0 ?_
    refine s_FC_ownerOf_1 ?_
    refine s_FC_ownerOf_2 ?_
    refine s_FC_ownerOf_3 ?_
    refine s_FC_ownerOf_4 ?_
    refine s_FC_ownerOf_5 ?_
    refine s_FC_ownerOf_6 ?_
    refine s_FC_ownerOf_7 ?_
    refine s_FC_ownerOf_8 (fun h8 => absurd h8 (by decide)) (fun h8 => ?_)
    refine s_FC_ownerOf_11 ?_
    refine s_FC_ownerOf_13 ?_
    refine s_FC_ownerOf_14 ?_
    refine s_FC_ownerOf_15 ?_
    refine s_FC_ownerOf_17 ?_
    refine s_FC_ownerOf_18 ?_
    refine s_FC_ownerOf_19 ?_
    refine s_FC_ownerOf_20 ?_
    refine s_FC_ownerOf_21 ?_
    refine s_FC_ownerOf_22 ?_
    refine s_FC_ownerOf_23 ?_
    refine s_FC_ownerOf_24 ?_
    refine s_FC_ownerOf_25 ?_
    refine s_FC_ownerOf_26 ?_
    refine s_FC_ownerOf_27 ?_
    refine s_FC_ownerOf_28 ?_
    refine s_FC_ownerOf_30 (by decide) ?_
    refine s_FC_ownerOf_31 ?_
    refine s_FC_ownerOf_33 ?_
    refine s_FC_ownerOf_35 ?_
    refine s_FC_ownerOf_36 (fun h36 => absurd h36 (by decide)) (fun h36 => ?_)
    refine s_FC_ownerOf_39 ?_
    refine s_FC_ownerOf_40 ?_
    refine s_FC_ownerOf_41 ?_
    refine s_FC_ownerOf_43 ?_
    refine s_FC_ownerOf_44 ?_
    refine s_FC_ownerOf_47 ?_
    refine s_FC_ownerOf_6 ?_
    refine s_FC_ownerOf_7 ?_
    refine s_FC_ownerOf_8 (fun h8 => absurd h8 (by decide)) (fun h8 => ?_)
    refine s_FC_ownerOf_11 ?_
    refine s_FC_ownerOf_13 ?_
    refine s_FC_ownerOf_14 ?_
    refine s_FC_ownerOf_15 ?_
    refine s_FC_ownerOf_17 ?_
    refine s_FC_ownerOf_18 ?_
    refine s_FC_ownerOf_19 ?_
    refine s_FC_ownerOf_20 ?_
    refine s_FC_ownerOf_21 ?_
    refine s_FC_ownerOf_22 ?_
    refine s_FC_ownerOf_23 ?_
    refine s_FC_ownerOf_24 ?_
    refine s_FC_ownerOf_25 ?_
    refine s_FC_ownerOf_26 ?_
    refine s_FC_ownerOf_27 ?_
    refine s_FC_ownerOf_28 ?_
    refine s_FC_ownerOf_30 (by decide) ?_
    refine s_FC_ownerOf_31 ?_
    refine s_FC_ownerOf_33 ?_
    refine s_FC_ownerOf_35 ?_
    refine s_FC_ownerOf_36 (fun h36 => absurd h36 (by decide)) (fun h36 => ?_)
    refine s_FC_ownerOf_39 ?_
    refine s_FC_ownerOf_40 ?_
    refine s_FC_ownerOf_41 ?_
    refine s_FC_ownerOf_43 ?_
    refine s_FC_ownerOf_44 ?_
    refine s_FC_ownerOf_47 ?_
    refine s_FC_ownerOf_6 ?_
    refine s_FC_ownerOf_7 ?_
    refine s_FC_ownerOf_8 (fun h8 => absurd h8 (by decide)) (fun h8 => ?_)
    refine s_FC_ownerOf_11 ?_
    refine s_FC_ownerOf_13 ?_
    refine s_FC_ownerOf_14 ?_
    refine s_FC_ownerOf_15 ?_
    refine s_FC_ownerOf_17 ?_
    refine s_FC_ownerOf_18 ?_
    refine s_FC_ownerOf_19 ?_
    refine s_FC_ownerOf_20 ?_
    refine s_FC_ownerOf_21 ?_
    refine s_FC_ownerOf_22 ?_
    refine s_FC_ownerOf_23 ?_
    refine s_FC_ownerOf_24 ?_
    refine s_FC_ownerOf_25 ?_
    refine s_FC_ownerOf_26 ?_
    refine s_FC_ownerOf_27 ?_
    refine s_FC_ownerOf_28 ?_
    refine s_FC_ownerOf_30 (by decide) ?_
    refine s_FC_ownerOf_31 ?_
    refine s_FC_ownerOf_33 ?_
    refine s_FC_ownerOf_35 ?_
    refine s_FC_ownerOf_36 (fun h36 => ?_) (fun h36 => absurd h36 (by exact fun q => q (by decide)))
    refine s_FC_ownerOf_44 ?_
    refine s_FC_ownerOf_47 ?_
    refine s_FC_ownerOf_6 ?_
    refine s_FC_ownerOf_7 ?_
    refine s_FC_ownerOf_8 (fun h8 => ?_) (fun h8 => absurd h8 (by exact fun q => q (by decide)))
    refine s_FC_ownerOf_50 ?_
    refine s_FC_ownerOf_51 ?_
    exact ⟨by decide, rfl, rfl, rfl⟩
theorem sp_ownerR_no {Γ : ex_G} {d : Nat} {K : ex_K} {I : ex_I} {F : ex_F} {b : Nat} {m : Nat} {x : Int32} (hx : x < 0 ∨ nI 8 ≤ x) : ex_E Γ (d + 1) M_Mdl_owner 0 [some (.inr (some m)), some (.inl x), none, none] [] K I F b (fun r K' I' F' => r = some (.inl (-1)) ∧ K = K' ∧ I = I' ∧ F = F') := by
  refine s_Mdl_owner_0 ?_
  refine s_Mdl_owner_1 (b1 := 0) (b2 := b)  (sp_isPathMdl_no hx) ?_ (by omega)
  rintro _ _ _ _ ⟨rfl, rfl, rfl, rfl⟩
  dsimp only [Option.toList, List.cons_append, List.nil_append]
  refine s_Mdl_owner_4 (fun h4 => absurd h4 (by exact fun q => q rfl)) (fun h4 => ?_)
  refine s_Mdl_owner_7 ?_
  refine s_Mdl_owner_8 ?_
  exact ⟨rfl, rfl, rfl, rfl⟩
theorem sp_versionR {Γ : ex_G} {d : Nat} {K : ex_K} {I : ex_I} {F : ex_F} {b : Nat} {m : Nat} {ad : Nat → Nat} {s : MS} (hR : rf_ok K F m ad) (h : rr I m ad s) {p : Nat} (hp : p < 8) : ex_E Γ (d + 1) M_Mdl_version 0 [some (.inr (some m)), some (.inl (nI p))] [] K I F b (fun x K' I' F' => x = some (.inl (s.1 8 p)) ∧ K = K' ∧ F = F' ∧ rr I' m ad (s)) := by
  have m1 := hR.1
  refine s_Mdl_version_0 ?_
  refine s_Mdl_version_1 (b1 := 0) (b2 := b)  (sp_isPathMdl hp) ?_ (by omega)
  rintro _ _ _ _ ⟨rfl, rfl, rfl, rfl⟩
  dsimp only [Option.toList, List.cons_append, List.nil_append]
  refine s_Mdl_version_4 (fun h4 => absurd h4 (by decide)) (fun h4 => ?_)
  refine s_Mdl_version_7 ?_
  refine s_Mdl_version_8 (by first | rfl | assumption | (simp [*]; done)) (by first | rfl | assumption | (simp [*]; done)) ?_
  refine s_Mdl_version_11 ?_
  refine s_Mdl_version_12 (by first | exact rf_version hR | rfl) (by exact rk_version hR) (by rw [rn_version hR]; exact n_in (a := p) (by first | rfl | (simp only [nl_1, nl_2, nl_3, nl_4, nl_5, nl_6, nl_7, nl_8, nl_9, nl_10, nl_11, nl_12, nl_13, nl_14, nl_15, nl_16, nl_32, nl_240, nl_250, nl_255, nl_265, nl_270, nl_0, nI_add, pk_mul]; done)) (by omega) (by omega)) ?_
  refine ex_ixl (q := p) (by first | rfl | (simp only [nl_1, nl_2, nl_3, nl_4, nl_5, nl_6, nl_7, nl_8, nl_9, nl_10, nl_11, nl_12, nl_13, nl_14, nl_15, nl_16, nl_32, nl_240, nl_250, nl_255, nl_265, nl_270, nl_0, nI_add, pk_mul]; done)) (by omega) ?_
  refine s_Mdl_version_13 ?_
  refine s_Mdl_version_17 ?_
  rw [h.1 8 (by decide)]
  exact ⟨rfl, rfl, rfl, h⟩
theorem sp_versionR_no {Γ : ex_G} {d : Nat} {K : ex_K} {I : ex_I} {F : ex_F} {b : Nat} {m : Nat} {ad : Nat → Nat} {s : MS} (hR : rf_ok K F m ad) (h : rr I m ad s) {x : Int32} (hx : x < 0 ∨ nI 8 ≤ x) : ex_E Γ (d + 1) M_Mdl_version 0 [some (.inr (some m)), some (.inl x)] [] K I F b (fun x K' I' F' => x = some (.inl (0)) ∧ K = K' ∧ F = F' ∧ rr I' m ad (s)) := by
  have m1 := hR.1
  refine s_Mdl_version_0 ?_
  refine s_Mdl_version_1 (b1 := 0) (b2 := b)  (sp_isPathMdl_no hx) ?_ (by omega)
  rintro _ _ _ _ ⟨rfl, rfl, rfl, rfl⟩
  dsimp only [Option.toList, List.cons_append, List.nil_append]
  refine s_Mdl_version_4 (fun h4 => ?_) (fun h4 => absurd h4 (by exact fun q => q rfl))
  refine s_Mdl_version_16 ?_
  refine s_Mdl_version_17 ?_
  exact ⟨rfl, rfl, rfl, h⟩
theorem sp_withdrawR {Γ : ex_G} {d : Nat} {K : ex_K} {I : ex_I} {F : ex_F} {b : Nat} {m : Nat} {ad : Nat → Nat} {s : MS} (hR : rf_ok K F m ad) (h : rr I m ad s) {p : Nat} (hp : p < 8) : ex_E Γ (d + 1) M_Mdl_withdraw 0 [some (.inr (some m)), some (.inl (nI p))] [] K I F b (fun x K' I' F' => x = some (.inl (if s.1 8 p = 0 then 0 else 1)) ∧ K = K' ∧ F = F' ∧ rr I' m ad (if s.1 8 p = 0 then s else cw s 8 p 0)) := by
  have m1 := hR.1
  refine s_Mdl_withdraw_0 ?_
  refine s_Mdl_withdraw_1 (b1 := 0) (b2 := b)  (sp_isPathMdl hp) ?_ (by omega)
  rintro _ _ _ _ ⟨rfl, rfl, rfl, rfl⟩
  dsimp only [Option.toList, List.cons_append, List.nil_append]
  refine s_Mdl_withdraw_4 (fun h4 => absurd h4 (by decide)) (fun h4 => ?_)
  refine s_Mdl_withdraw_7 ?_
  refine s_Mdl_withdraw_8 (by first | rfl | assumption | (simp [*]; done)) (by first | rfl | assumption | (simp [*]; done)) ?_
  refine s_Mdl_withdraw_11 ?_
  refine s_Mdl_withdraw_12 (by first | exact rf_version hR | rfl) (by exact rk_version hR) (by rw [rn_version hR]; exact n_in (a := p) (by first | rfl | (simp only [nl_1, nl_2, nl_3, nl_4, nl_5, nl_6, nl_7, nl_8, nl_9, nl_10, nl_11, nl_12, nl_13, nl_14, nl_15, nl_16, nl_32, nl_240, nl_250, nl_255, nl_265, nl_270, nl_0, nI_add, pk_mul]; done)) (by omega) (by omega)) ?_
  refine ex_ixl (q := p) (by first | rfl | (simp only [nl_1, nl_2, nl_3, nl_4, nl_5, nl_6, nl_7, nl_8, nl_9, nl_10, nl_11, nl_12, nl_13, nl_14, nl_15, nl_16, nl_32, nl_240, nl_250, nl_255, nl_265, nl_270, nl_0, nI_add, pk_mul]; done)) (by omega) ?_
  rw [h.1 8 (by decide)]
  refine s_Mdl_withdraw_13 (fun h13 => ?_) (fun h13 => ?_)
  · refine s_Mdl_withdraw_18 ?_
    refine s_Mdl_withdraw_19 (by first | rfl | assumption | (simp [*]; done)) (by first | rfl | assumption | (simp [*]; done)) ?_
    refine s_Mdl_withdraw_22 ?_
    refine s_Mdl_withdraw_23 ?_
    refine s_Mdl_withdraw_24 (by first | exact rf_version hR | rfl) (by exact rk_version hR) (by rw [rn_version hR]; exact n_in (a := p) (by first | rfl | (simp only [nl_1, nl_2, nl_3, nl_4, nl_5, nl_6, nl_7, nl_8, nl_9, nl_10, nl_11, nl_12, nl_13, nl_14, nl_15, nl_16, nl_32, nl_240, nl_250, nl_255, nl_265, nl_270, nl_0, nI_add, pk_mul]; done)) (by omega) (by omega)) ?_
    refine ex_ixs (q := p) (by first | rfl | (simp only [nl_1, nl_2, nl_3, nl_4, nl_5, nl_6, nl_7, nl_8, nl_9, nl_10, nl_11, nl_12, nl_13, nl_14, nl_15, nl_16, nl_32, nl_240, nl_250, nl_255, nl_265, nl_270, nl_0, nI_add, pk_mul]; done)) (by omega) ?_
    refine s_Mdl_withdraw_25 ?_
    refine s_Mdl_withdraw_26 (by first | rfl | decide | assumption) ?_
    rw [if_neg h13, if_neg h13]
    exact ⟨rfl, rfl, rfl, rr_ua hR h (by decide)⟩
  · refine s_Mdl_withdraw_16 ?_
    refine s_Mdl_withdraw_17 (by first | rfl | decide | assumption) ?_
    rw [if_pos h13, if_pos h13]
    exact ⟨rfl, rfl, rfl, h⟩
theorem sp_withdrawR_no {Γ : ex_G} {d : Nat} {K : ex_K} {I : ex_I} {F : ex_F} {b : Nat} {m : Nat} {ad : Nat → Nat} {s : MS} (hR : rf_ok K F m ad) (h : rr I m ad s) {x : Int32} (hx : x < 0 ∨ nI 8 ≤ x) : ex_E Γ (d + 1) M_Mdl_withdraw 0 [some (.inr (some m)), some (.inl x)] [] K I F b (fun x K' I' F' => x = some (.inl (0)) ∧ K = K' ∧ F = F' ∧ rr I' m ad (s)) := by
  have m1 := hR.1
  refine s_Mdl_withdraw_0 ?_
  refine s_Mdl_withdraw_1 (b1 := 0) (b2 := b)  (sp_isPathMdl_no hx) ?_ (by omega)
  rintro _ _ _ _ ⟨rfl, rfl, rfl, rfl⟩
  dsimp only [Option.toList, List.cons_append, List.nil_append]
  refine s_Mdl_withdraw_4 (fun h4 => ?_) (fun h4 => absurd h4 (by exact fun q => q rfl))
  refine s_Mdl_withdraw_16 ?_
  refine s_Mdl_withdraw_17 (by first | rfl | decide | assumption) ?_
  exact ⟨rfl, rfl, rfl, h⟩
theorem sp_powerR {Γ : ex_G} {d : Nat} {K : ex_K} {I : ex_I} {F : ex_F} {b : Nat} {m : Nat} {ad : Nat → Nat} {s : MS} (hR : rf_ok K F m ad) (h : rr I m ad s) {p : Nat} {y : Int32} (hp : p < 3) (hy : y = 0 ∨ y = 1) : ex_E Γ (d + 1) M_Mdl_power 0 [some (.inr (some m)), some (.inl (nI p)), some (.inl y)] [] K I F b (fun x K' I' F' => x = some (.inl (if s.1 28 p = y then 1 else 0)) ∧ K = K' ∧ F = F' ∧ rr I' m ad (if s.1 28 p = y then cw s 28 p (1 - y) else s)) := by
  have m1 := hR.1
  have b0 : vp_nar .boolean 0 = 0 := by decide
  have b1 : vp_nar .boolean 1 = 1 := by decide
  refine s_Mdl_power_0 ?_
  refine s_Mdl_power_1 (b1 := 0) (b2 := b)  (sp_isOriginMdl hp) ?_ (by omega)
  rintro _ _ _ _ ⟨rfl, rfl, rfl, rfl⟩
  dsimp only [Option.toList, List.cons_append, List.nil_append]
  refine s_Mdl_power_4 (fun h4 => absurd h4 (by decide)) (fun h4 => ?_)
  refine s_Mdl_power_7 ?_
  refine s_Mdl_power_8 (by first | rfl | assumption | (simp [*]; done)) (by first | rfl | assumption | (simp [*]; done)) ?_
  refine s_Mdl_power_11 ?_
  refine s_Mdl_power_12 (by first | exact rf_stopped hR | rfl) (by exact rk_stopped hR) (by rw [rn_stopped hR]; exact n_in (a := p) (by first | rfl | (simp only [nl_1, nl_2, nl_3, nl_4, nl_5, nl_6, nl_7, nl_8, nl_9, nl_10, nl_11, nl_12, nl_13, nl_14, nl_15, nl_16, nl_32, nl_240, nl_250, nl_255, nl_265, nl_270, nl_0, nI_add, pk_mul]; done)) (by omega) (by omega)) ?_
  refine ex_ixl (q := p) (by first | rfl | (simp only [nl_1, nl_2, nl_3, nl_4, nl_5, nl_6, nl_7, nl_8, nl_9, nl_10, nl_11, nl_12, nl_13, nl_14, nl_15, nl_16, nl_32, nl_240, nl_250, nl_255, nl_265, nl_270, nl_0, nI_add, pk_mul]; done)) (by omega) ?_
  refine s_Mdl_power_13 ?_
  rw [h.2.1 28 (by decide)]
  refine s_Mdl_power_14 (fun h14 => ?_) (fun h14 => ?_)
  · refine s_Mdl_power_19 ?_
    refine s_Mdl_power_20 (by first | rfl | assumption | (simp [*]; done)) (by first | rfl | assumption | (simp [*]; done)) ?_
    refine s_Mdl_power_23 ?_
    refine s_Mdl_power_24 ?_
    refine s_Mdl_power_25 (fun h25 => ?_) (fun h25 => ?_)
    · refine s_Mdl_power_32 ?_
      refine s_Mdl_power_33 (by first | exact rf_stopped hR | rfl) (by exact rk_stopped hR) (by rw [rn_stopped hR]; exact n_in (a := p) (by first | rfl | (simp only [nl_1, nl_2, nl_3, nl_4, nl_5, nl_6, nl_7, nl_8, nl_9, nl_10, nl_11, nl_12, nl_13, nl_14, nl_15, nl_16, nl_32, nl_240, nl_250, nl_255, nl_265, nl_270, nl_0, nI_add, pk_mul]; done)) (by omega) (by omega)) ?_
      refine ex_ixs (q := p) (by first | rfl | (simp only [nl_1, nl_2, nl_3, nl_4, nl_5, nl_6, nl_7, nl_8, nl_9, nl_10, nl_11, nl_12, nl_13, nl_14, nl_15, nl_16, nl_32, nl_240, nl_250, nl_255, nl_265, nl_270, nl_0, nI_add, pk_mul]; done)) (by omega) ?_
      refine s_Mdl_power_34 ?_
      refine s_Mdl_power_35 (by first | rfl | decide | assumption) ?_
      have e : y = 1 := hy.resolve_left h25
      subst e
      rw [if_pos h14, if_pos h14, b0]
      exact ⟨rfl, rfl, rfl, rr_ub hR h (by decide)⟩
    · refine s_Mdl_power_28 ?_
      refine s_Mdl_power_29 ?_
      refine s_Mdl_power_33 (by first | exact rf_stopped hR | rfl) (by exact rk_stopped hR) (by rw [rn_stopped hR]; exact n_in (a := p) (by first | rfl | (simp only [nl_1, nl_2, nl_3, nl_4, nl_5, nl_6, nl_7, nl_8, nl_9, nl_10, nl_11, nl_12, nl_13, nl_14, nl_15, nl_16, nl_32, nl_240, nl_250, nl_255, nl_265, nl_270, nl_0, nI_add, pk_mul]; done)) (by omega) (by omega)) ?_
      refine ex_ixs (q := p) (by first | rfl | (simp only [nl_1, nl_2, nl_3, nl_4, nl_5, nl_6, nl_7, nl_8, nl_9, nl_10, nl_11, nl_12, nl_13, nl_14, nl_15, nl_16, nl_32, nl_240, nl_250, nl_255, nl_265, nl_270, nl_0, nI_add, pk_mul]; done)) (by omega) ?_
      refine s_Mdl_power_34 ?_
      refine s_Mdl_power_35 (by first | rfl | decide | assumption) ?_
      subst h25
      rw [if_pos h14, if_pos h14, b1]
      exact ⟨rfl, rfl, rfl, rr_ub hR h (by decide)⟩
  · refine s_Mdl_power_17 ?_
    refine s_Mdl_power_18 (by first | rfl | decide | assumption) ?_
    rw [if_neg h14, if_neg h14]
    exact ⟨rfl, rfl, rfl, h⟩
theorem sp_powerR_no {Γ : ex_G} {d : Nat} {K : ex_K} {I : ex_I} {F : ex_F} {b : Nat} {m : Nat} {ad : Nat → Nat} {s : MS} (hR : rf_ok K F m ad) (h : rr I m ad s) {x y : Int32} (hx : x < 0 ∨ nI 3 ≤ x) : ex_E Γ (d + 1) M_Mdl_power 0 [some (.inr (some m)), some (.inl x), some (.inl y)] [] K I F b (fun x K' I' F' => x = some (.inl (0)) ∧ K = K' ∧ F = F' ∧ rr I' m ad (s)) := by
  have m1 := hR.1
  refine s_Mdl_power_0 ?_
  refine s_Mdl_power_1 (b1 := 0) (b2 := b)  (sp_isOriginMdl_no hx) ?_ (by omega)
  rintro _ _ _ _ ⟨rfl, rfl, rfl, rfl⟩
  dsimp only [Option.toList, List.cons_append, List.nil_append]
  refine s_Mdl_power_4 (fun h4 => ?_) (fun h4 => absurd h4 (by exact fun q => q rfl))
  refine s_Mdl_power_17 ?_
  refine s_Mdl_power_18 (by first | rfl | decide | assumption) ?_
  exact ⟨rfl, rfl, rfl, h⟩
theorem sp_waitingR {Γ : ex_G} {d : Nat} {K : ex_K} {I : ex_I} {F : ex_F} {b : Nat} {m : Nat} {ad : Nat → Nat} {s : MS} (hR : rf_ok K F m ad) (h : rr I m ad s) {p : Nat} (hp : p < 3) : ex_E Γ (d + 1) M_Mdl_waiting 0 [some (.inr (some m)), some (.inl (nI p))] [] K I F b (fun x K' I' F' => x = some (.inl (if s.1 27 p = 0 then nI (s.2 (100 + p)).length else -1)) ∧ K = K' ∧ F = F' ∧ rr I' m ad (s)) := by
  have m1 := hR.1
  have hq := h.2.2.2.2.2.2.2.1 p hp
  refine s_Mdl_waiting_0 ?_
  refine s_Mdl_waiting_1 (b1 := 0) (b2 := b)  (sp_isOriginMdl hp) ?_ (by omega)
  rintro _ _ _ _ ⟨rfl, rfl, rfl, rfl⟩
  dsimp only [Option.toList, List.cons_append, List.nil_append]
  refine s_Mdl_waiting_4 (fun h4 => absurd h4 (by decide)) (fun h4 => ?_)
  refine s_Mdl_waiting_7 ?_
  refine s_Mdl_waiting_8 (by first | rfl | assumption | (simp [*]; done)) (by first | rfl | assumption | (simp [*]; done)) ?_
  refine s_Mdl_waiting_11 ?_
  refine s_Mdl_waiting_12 (by first | exact rf_down hR | rfl) (by exact rk_down hR) (by rw [rn_down hR]; exact n_in (a := p) (by first | rfl | (simp only [nl_1, nl_2, nl_3, nl_4, nl_5, nl_6, nl_7, nl_8, nl_9, nl_10, nl_11, nl_12, nl_13, nl_14, nl_15, nl_16, nl_32, nl_240, nl_250, nl_255, nl_265, nl_270, nl_0, nI_add, pk_mul]; done)) (by omega) (by omega)) ?_
  refine ex_ixl (q := p) (by first | rfl | (simp only [nl_1, nl_2, nl_3, nl_4, nl_5, nl_6, nl_7, nl_8, nl_9, nl_10, nl_11, nl_12, nl_13, nl_14, nl_15, nl_16, nl_32, nl_240, nl_250, nl_255, nl_265, nl_270, nl_0, nI_add, pk_mul]; done)) (by omega) ?_
  rw [h.2.1 27 (by decide)]
  refine s_Mdl_waiting_13 (fun h13 => ?_) (fun h13 => ?_)
  · refine s_Mdl_waiting_20 ?_
    refine s_Mdl_waiting_21 (by first | rfl | assumption | (simp [*]; done)) (by first | rfl | assumption | (simp [*]; done)) ?_
    refine s_Mdl_waiting_24 ?_
    refine s_Mdl_waiting_25 (by first | exact rf_count hR | rfl) (by exact rk_count hR) (by rw [rn_count hR]; exact n_in (a := p) (by first | rfl | (simp only [nl_1, nl_2, nl_3, nl_4, nl_5, nl_6, nl_7, nl_8, nl_9, nl_10, nl_11, nl_12, nl_13, nl_14, nl_15, nl_16, nl_32, nl_240, nl_250, nl_255, nl_265, nl_270, nl_0, nI_add, pk_mul]; done)) (by omega) (by omega)) ?_
    refine ex_ixl (q := p) (by first | rfl | (simp only [nl_1, nl_2, nl_3, nl_4, nl_5, nl_6, nl_7, nl_8, nl_9, nl_10, nl_11, nl_12, nl_13, nl_14, nl_15, nl_16, nl_32, nl_240, nl_250, nl_255, nl_265, nl_270, nl_0, nI_add, pk_mul]; done)) (by omega) ?_
    refine s_Mdl_waiting_26 ?_
    rw [if_pos h13, hq.1]
    exact ⟨rfl, rfl, rfl, h⟩
  · refine s_Mdl_waiting_16 ?_
    refine s_Mdl_waiting_17 ?_
    refine s_Mdl_waiting_26 ?_
    rw [if_neg h13]
    exact ⟨rfl, rfl, rfl, h⟩
theorem sp_waitingR_no {Γ : ex_G} {d : Nat} {K : ex_K} {I : ex_I} {F : ex_F} {b : Nat} {m : Nat} {ad : Nat → Nat} {s : MS} (hR : rf_ok K F m ad) (h : rr I m ad s) {x : Int32} (hx : x < 0 ∨ nI 3 ≤ x) : ex_E Γ (d + 1) M_Mdl_waiting 0 [some (.inr (some m)), some (.inl x)] [] K I F b (fun x K' I' F' => x = some (.inl (-1)) ∧ K = K' ∧ F = F' ∧ rr I' m ad (s)) := by
  have m1 := hR.1
  refine s_Mdl_waiting_0 ?_
  refine s_Mdl_waiting_1 (b1 := 0) (b2 := b)  (sp_isOriginMdl_no hx) ?_ (by omega)
  rintro _ _ _ _ ⟨rfl, rfl, rfl, rfl⟩
  dsimp only [Option.toList, List.cons_append, List.nil_append]
  refine s_Mdl_waiting_4 (fun h4 => ?_) (fun h4 => absurd h4 (by exact fun q => q rfl))
  refine s_Mdl_waiting_16 ?_
  refine s_Mdl_waiting_17 ?_
  refine s_Mdl_waiting_26 ?_
  exact ⟨rfl, rfl, rfl, h⟩
theorem sp_flightsR {Γ : ex_G} {d : Nat} {K : ex_K} {I : ex_I} {F : ex_F} {b : Nat} {m : Nat} {ad : Nat → Nat} {s : MS} (hR : rf_ok K F m ad) (h : rr I m ad s) : ex_E Γ d M_Mdl_flights 0 [some (.inr (some m))] [] K I F b (fun x K' I' F' => x = some (.inl (nI (s.2 31).length)) ∧ K = K' ∧ F = F' ∧ rr I' m ad (s)) := by
  have m1 := hR.1
  refine s_Mdl_flights_0 ?_
  refine s_Mdl_flights_1 (by first | rfl | assumption | (simp [*]; done)) (by first | rfl | assumption | (simp [*]; done)) ?_
  refine s_Mdl_flights_4 ?_
  rw [h.2.2.2.2.2.2.1.1]
  exact ⟨rfl, rfl, rfl, h⟩
theorem sp_entriesR {Γ : ex_G} {d : Nat} {K : ex_K} {I : ex_I} {F : ex_F} {b : Nat} {m : Nat} {ad : Nat → Nat} {s : MS} (hR : rf_ok K F m ad) (h : rr I m ad s) : ex_E Γ d M_Mdl_entries 0 [some (.inr (some m))] [] K I F b (fun x K' I' F' => x = some (.inl (nI (s.2 14).length)) ∧ K = K' ∧ F = F' ∧ rr I' m ad (s)) := by
  have m1 := hR.1
  refine s_Mdl_entries_0 ?_
  refine s_Mdl_entries_1 (by first | rfl | assumption | (simp [*]; done)) (by first | rfl | assumption | (simp [*]; done)) ?_
  refine s_Mdl_entries_4 ?_
  rw [h.2.2.2.2.2.1.1]
  exact ⟨rfl, rfl, rfl, h⟩
