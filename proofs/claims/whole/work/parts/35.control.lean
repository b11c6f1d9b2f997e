/-! Controls: what they answer -/
def life (N : Nat → Int32) : Int32 := if N 5 = -1 then N 4 else N 5
def alw (N : Nat → Int32) : Bool := decide (¬ life N = -1) && (decide (N 1 = -1) && decide (N 2 = -1))
theorem sp_has {Γ : ex_G} {d : Nat} {K : ex_K} {I : ex_I} {F : ex_F} {b : Nat} {z y j : Nat} (hz : ct_ok K F z y) (hj : j < 7) :
    ex_E Γ d M_Ctl_has 0 [some (.inr (some z)), some (.inl (nI j))] [] K I F b (fun r K' I' F' => r = some (.inl (if I 21 y j = -1 then 0 else 1)) ∧ K = K' ∧ I = I' ∧ F = F') := by
  obtain ⟨d1, d2, d3⟩ := hz
  have k1 : (K y).1 = 21 := by rw [d3]
  have k2 : (K y).2 = 7 := by rw [d3]
  refine s_Ctl_has_0 ?_
  refine s_Ctl_has_1 (by first | rfl | assumption | (simp [*]; done)) (by first | rfl | assumption | (simp [*]; done)) ?_
  refine s_Ctl_has_4 ?_
  refine s_Ctl_has_5 (by exact d2) (by exact k1) (by rw [k2]; exact vp_in_nI (by omega) (by omega)) ?_
  refine s_Ctl_has_6 ?_
  refine s_Ctl_has_7 (fun h7 => ?_) (fun h7 => ?_)
  · refine s_Ctl_has_14 ?_
    refine s_Ctl_has_15 (by first | rfl | decide | assumption) ?_
    rw [nI_clamp (by omega)] at h7
    rw [if_pos h7]
    exact ⟨rfl, rfl, rfl, rfl⟩
  · refine s_Ctl_has_10 ?_
    refine s_Ctl_has_11 ?_
    refine s_Ctl_has_15 (by first | rfl | decide | assumption) ?_
    rw [nI_clamp (by omega)] at h7
    rw [if_neg h7]
    exact ⟨rfl, rfl, rfl, rfl⟩
theorem sp_has2 {Γ : ex_G} {d : Nat} {K : ex_K} {I : ex_I} {F : ex_F} {b : Nat} {z y : Nat} {x : Int32} (j : Nat) (hx : x = nI j) (hz : ct_ok K F z y) (hj : j < 7) :
    ex_E Γ d M_Ctl_has 0 [some (.inr (some z)), some (.inl x)] [] K I F b (fun r K' I' F' => r = some (.inl (if I 21 y j = -1 then 0 else 1)) ∧ K = K' ∧ I = I' ∧ F = F') := by
  subst hx
  exact sp_has hz hj
theorem sp_number2 {Γ : ex_G} {d : Nat} {K : ex_K} {I : ex_I} {F : ex_F} {b : Nat} {z y : Nat} {x : Int32} (j : Nat) (hx : x = nI j) (hz : ct_ok K F z y) (hj : j < 7) :
    ex_E Γ d M_Ctl_number 0 [some (.inr (some z)), some (.inl x)] [] K I F b (fun r K' I' F' => r = some (.inl (I 21 y j)) ∧ K = K' ∧ I = I' ∧ F = F') := by
  subst hx
  obtain ⟨d1, d2, d3⟩ := hz
  have k1 : (K y).1 = 21 := by rw [d3]
  have k2 : (K y).2 = 7 := by rw [d3]
  refine s_Ctl_number_0 ?_
  refine s_Ctl_number_1 (by first | rfl | assumption | (simp [*]; done)) (by first | rfl | assumption | (simp [*]; done)) ?_
  refine s_Ctl_number_4 ?_
  refine s_Ctl_number_5 (by exact d2) (by exact k1) (by rw [k2]; exact vp_in_nI (by omega) (by omega)) ?_
  refine s_Ctl_number_6 ?_
  rw [nI_clamp (by omega)]
  exact ⟨rfl, rfl, rfl, rfl⟩
theorem sp_lifetime {Γ : ex_G} {d : Nat} {K : ex_K} {I : ex_I} {F : ex_F} {b : Nat} {z y : Nat} (hz : ct_ok K F z y) :
    ex_E Γ (d + 1) M_Ctl_lifetime 0 [some (.inr (some z))] [] K I F b (fun r K' I' F' => r = some (.inl (life (I 21 y))) ∧ K = K' ∧ I = I' ∧ F = F') := by
  have d1 := hz.1
  refine s_Ctl_lifetime_0 ?_
  refine s_Ctl_lifetime_1 ?_
  refine s_Ctl_lifetime_2 (b1 := 0) (b2 := b) (by first | rfl | assumption | (simp [*]; done)) (by first | rfl | assumption | (simp [*]; done)) (sp_has2 5 rfl hz (by decide)) ?_ (by omega)
  rintro _ _ _ _ ⟨rfl, rfl, rfl, rfl⟩
  dsimp only [Option.toList, List.cons_append, List.nil_append]
  refine s_Ctl_lifetime_5 (fun h5 => ?_) (fun h5 => ?_)
  · refine s_Ctl_lifetime_16 ?_
    refine s_Ctl_lifetime_17 ?_
    refine s_Ctl_lifetime_18 (b1 := 0) (b2 := b) (by first | rfl | assumption | (simp [*]; done)) (by first | rfl | assumption | (simp [*]; done)) (sp_number2 4 rfl hz (by decide)) ?_ (by omega)
    rintro _ _ _ _ ⟨rfl, rfl, rfl, rfl⟩
    dsimp only [Option.toList, List.cons_append, List.nil_append]
    refine s_Ctl_lifetime_21 ?_
    have z5 : I 21 y 5 = -1 := by
      by_cases q : I 21 y 5 = -1
      · exact q
      · rw [if_neg q] at h5; exact absurd h5 (by decide)
    rw [life, if_pos z5]
    exact ⟨rfl, rfl, rfl, rfl⟩
  · refine s_Ctl_lifetime_8 ?_
    refine s_Ctl_lifetime_9 ?_
    refine s_Ctl_lifetime_10 (b1 := 0) (b2 := b) (by first | rfl | assumption | (simp [*]; done)) (by first | rfl | assumption | (simp [*]; done)) (sp_number2 5 rfl hz (by decide)) ?_ (by omega)
    rintro _ _ _ _ ⟨rfl, rfl, rfl, rfl⟩
    dsimp only [Option.toList, List.cons_append, List.nil_append]
    refine s_Ctl_lifetime_13 ?_
    refine s_Ctl_lifetime_21 ?_
    have z5 : ¬ I 21 y 5 = -1 := fun q => h5 (if_pos q)
    rw [life, if_neg z5]
    exact ⟨rfl, rfl, rfl, rfl⟩
theorem sp_hasLifetime {Γ : ex_G} {d : Nat} {K : ex_K} {I : ex_I} {F : ex_F} {b : Nat} {z y : Nat} (hz : ct_ok K F z y) :
    ex_E Γ (d + 2) M_Ctl_hasLifetime 0 [some (.inr (some z))] [] K I F b (fun r K' I' F' => r = some (.inl (if life (I 21 y) = -1 then 0 else 1)) ∧ K = K' ∧ I = I' ∧ F = F') := by
  have d1 := hz.1
  refine s_Ctl_hasLifetime_0 ?_
  refine s_Ctl_hasLifetime_1 (b1 := 0) (b2 := b) (by first | rfl | assumption | (simp [*]; done)) (by first | rfl | assumption | (simp [*]; done)) (sp_lifetime hz) ?_ (by omega)
  rintro _ _ _ _ ⟨rfl, rfl, rfl, rfl⟩
  dsimp only [Option.toList, List.cons_append, List.nil_append]
  refine s_Ctl_hasLifetime_4 ?_
  refine s_Ctl_hasLifetime_5 (fun h5 => ?_) (fun h5 => ?_)
  · refine s_Ctl_hasLifetime_12 ?_
    refine s_Ctl_hasLifetime_13 (by first | rfl | decide | assumption) ?_
    rw [if_pos h5]
    exact ⟨rfl, rfl, rfl, rfl⟩
  · refine s_Ctl_hasLifetime_8 ?_
    refine s_Ctl_hasLifetime_9 ?_
    refine s_Ctl_hasLifetime_13 (by first | rfl | decide | assumption) ?_
    rw [if_neg h5]
    exact ⟨rfl, rfl, rfl, rfl⟩
theorem sp_allows {Γ : ex_G} {d : Nat} {K : ex_K} {I : ex_I} {F : ex_F} {b : Nat} {z y : Nat} (hz : ct_ok K F z y) :
    ex_E Γ (d + 3) M_Ctl_allowsStoring 0 [some (.inr (some z))] [] K I F b (fun r K' I' F' => r = some (.inl (if alw (I 21 y) = true then 1 else 0)) ∧ K = K' ∧ I = I' ∧ F = F') := by
  have d1 := hz.1
  have e01 : ∀ x : Int32, ((if x = -1 then (0 : Int32) else 1) = 0) ↔ x = -1 := fun x => by
    by_cases q : x = -1
    · rw [if_pos q]; exact ⟨fun _ => q, fun _ => rfl⟩
    · rw [if_neg q]; exact ⟨fun w => absurd w (by decide), fun w => absurd w q⟩
  refine s_Ctl_allowsStoring_0 ?_
  refine s_Ctl_allowsStoring_1 (b1 := 0) (b2 := b) (by first | rfl | assumption | (simp [*]; done)) (by first | rfl | assumption | (simp [*]; done)) (sp_hasLifetime hz) ?_ (by omega)
  rintro _ _ _ _ ⟨rfl, rfl, rfl, rfl⟩
  dsimp only [Option.toList, List.cons_append, List.nil_append]
  refine s_Ctl_allowsStoring_4 (fun h4 => ?_) (fun h4 => ?_)
  · refine s_Ctl_allowsStoring_27 ?_
    refine s_Ctl_allowsStoring_28 (by first | rfl | decide | assumption) ?_
    rw [e01] at h4
    rw [if_neg (by simp [alw, h4])]
    exact ⟨rfl, rfl, rfl, rfl⟩
  · refine s_Ctl_allowsStoring_7 ?_
    refine s_Ctl_allowsStoring_8 ?_
    refine s_Ctl_allowsStoring_9 (b1 := 0) (b2 := b) (by first | rfl | assumption | (simp [*]; done)) (by first | rfl | assumption | (simp [*]; done)) (ex_up (by omega) (sp_has2 (d := d) 1 rfl hz (by decide))) ?_ (by omega)
    rintro _ _ _ _ ⟨rfl, rfl, rfl, rfl⟩
    dsimp only [Option.toList, List.cons_append, List.nil_append]
    refine s_Ctl_allowsStoring_12 (fun h12 => ?_) (fun h12 => ?_)
    · refine s_Ctl_allowsStoring_27 ?_
      refine s_Ctl_allowsStoring_28 (by first | rfl | decide | assumption) ?_
      rw [e01] at h12
      rw [if_neg (by simp [alw, h12])]
      exact ⟨rfl, rfl, rfl, rfl⟩
    · refine s_Ctl_allowsStoring_15 ?_
      refine s_Ctl_allowsStoring_16 ?_
      refine s_Ctl_allowsStoring_17 (b1 := 0) (b2 := b) (by first | rfl | assumption | (simp [*]; done)) (by first | rfl | assumption | (simp [*]; done)) (ex_up (by omega) (sp_has2 (d := d) 2 rfl hz (by decide))) ?_ (by omega)
      rintro _ _ _ _ ⟨rfl, rfl, rfl, rfl⟩
      dsimp only [Option.toList, List.cons_append, List.nil_append]
      refine s_Ctl_allowsStoring_20 (fun h20 => ?_) (fun h20 => ?_)
      · refine s_Ctl_allowsStoring_27 ?_
        refine s_Ctl_allowsStoring_28 (by first | rfl | decide | assumption) ?_
        rw [e01] at h20
        rw [if_neg (by simp [alw, h20])]
        exact ⟨rfl, rfl, rfl, rfl⟩
      · refine s_Ctl_allowsStoring_23 ?_
        refine s_Ctl_allowsStoring_24 ?_
        refine s_Ctl_allowsStoring_28 (by first | rfl | decide | assumption) ?_
        rw [e01] at h4 h12 h20
        rw [if_pos (by simp [alw, h4, h12, h20])]
        exact ⟨rfl, rfl, rfl, rfl⟩
