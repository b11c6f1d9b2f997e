/-! The messages under way: their rows are a list of Message cells -/
def uw_rep (K : ex_K) (I : ex_I) (F : ex_F) (u ms : Nat) (U : List Nat) : Prop :=
  (K u).1 = 9 ∧ F 612 u 0 = some ms ∧ K ms = (36, 16) ∧ I 613 u 0 = nI U.length ∧ U.length ≤ 16 ∧ (∀ i p, U[i]? = some p → F 36 ms i = some p) ∧ ∀ j y, F 36 ms j = some y → (K y).1 = 8
theorem sp_at_in {Γ : ex_G} {d : Nat} {K : ex_K} {I : ex_I} {F : ex_F} {b : Nat} {u ms i p : Nat} {U : List Nat} (hu : uw_rep K I F u ms U) (hp : U[i]? = some p) :
    ex_E Γ d M_UW_at 0 [some (.inr (some u)), some (.inl (nI i))] [] K I F b (fun r K' I' F' => r = some (.inr (some p)) ∧ K = K' ∧ I = I' ∧ F = F') := by
  obtain ⟨u1, u2, u3, u4, u5, u6, u7⟩ := hu
  have hi : i < U.length := (List.getElem?_eq_some_iff.mp hp).1
  have k1 : (K ms).1 = 36 := by rw [u3]
  have k2 : (K ms).2 = 16 := by rw [u3]
  refine s_UW_at_0 ?_
  refine s_UW_at_1 (fun h1 => absurd h1 (by exact nI_pos (by omega))) (fun h1 => ?_)
  refine s_UW_at_4 ?_
  refine s_UW_at_5 ?_
  refine s_UW_at_6 (by first | rfl | assumption | (simp [*]; done)) (by first | rfl | assumption | (simp [*]; done)) ?_
  refine s_UW_at_9 (fun h9 => absurd h9 (by rw [u4]; exact nI_ge hi (by omega))) (fun h9 => ?_)
  refine s_UW_at_12 ?_
  refine s_UW_at_13 (by first | rfl | assumption | (simp [*]; done)) (by first | rfl | assumption | (simp [*]; done)) ?_
  refine s_UW_at_16 ?_
  refine s36_UW_at_17 (by exact u2) (by exact k1) (by rw [k2]; exact vp_in_nI (by omega) (by omega)) ?_
  refine s_UW_at_18 ?_
  refine s_UW_at_22 ?_
  exact ⟨by rw [nI_clamp (by omega), u6 i p hp], rfl, rfl, rfl⟩
theorem sp_at_out {Γ : ex_G} {d : Nat} {K : ex_K} {I : ex_I} {F : ex_F} {b : Nat} {u ms : Nat} {x : Int32} {U : List Nat} (hu : uw_rep K I F u ms U) (hx : x < 0 ∨ nI U.length ≤ x) :
    ex_E Γ d M_UW_at 0 [some (.inr (some u)), some (.inl x)] [] K I F b (fun r K' I' F' => r = some (.inr none) ∧ K = K' ∧ I = I' ∧ F = F') := by
  obtain ⟨u1, u2, u3, u4, u5, u6, u7⟩ := hu
  refine s_UW_at_0 ?_
  refine s_UW_at_1 (fun h1 => ?_) (fun h1 => ?_)
  · refine s_UW_at_21 ?_
    refine s_UW_at_22 ?_
    exact ⟨rfl, rfl, rfl, rfl⟩
  · refine s_UW_at_4 ?_
    refine s_UW_at_5 ?_
    refine s_UW_at_6 (by first | rfl | assumption | (simp [*]; done)) (by first | rfl | assumption | (simp [*]; done)) ?_
    refine s_UW_at_9 (fun h9 => ?_) (fun h9 => absurd h9 (by rw [u4]; exact fun q => q (hx.resolve_left h1)))
    refine s_UW_at_21 ?_
    refine s_UW_at_22 ?_
    exact ⟨rfl, rfl, rfl, rfl⟩
theorem sp_send_no {Γ : ex_G} {d : Nat} {K : ex_K} {I : ex_I} {F : ex_F} {b : Nat} {u ms : Nat} {x : Option Nat} {U : List Nat} (hu : uw_rep K I F u ms U) (hf : U.length = 16) :
    ex_E Γ d M_UW_send 0 [some (.inr (some u)), some (.inr x)] [] K I F b (fun r K' I' F' => r = some (.inl 0) ∧ K = K' ∧ I = I' ∧ F = F') := by
  obtain ⟨u1, u2, u3, u4, u5, u6, u7⟩ := hu
  refine s_UW_send_0 ?_
  refine s_UW_send_1 (by first | rfl | assumption | (simp [*]; done)) (by first | rfl | assumption | (simp [*]; done)) ?_
  refine s_UW_send_4 ?_
  refine s_UW_send_6 (fun h6 => absurd h6 (by rw [u4, hf]; decide)) (fun h6 => ?_)
  refine s_UW_send_9 ?_
  refine s_UW_send_10 (by first | rfl | decide | assumption) ?_
  exact ⟨rfl, rfl, rfl, rfl⟩
theorem sp_send {Γ : ex_G} {d : Nat} {K : ex_K} {I : ex_I} {F : ex_F} {b : Nat} {u ms p : Nat} {U : List Nat} (hu : uw_rep K I F u ms U) (hf : U.length < 16) (hp : (K p).1 = 8) :
    ex_E Γ d M_UW_send 0 [some (.inr (some u)), some (.inr (some p))] [] K I F b (fun r K' I' F' => r = some (.inl 1) ∧ K = K' ∧ ex_ui I 613 u 0 (nI (U.length + 1)) = I' ∧ ex_uf F 36 ms U.length (some p) = F') := by
  obtain ⟨u1, u2, u3, u4, u5, u6, u7⟩ := hu
  have k1 : (K ms).1 = 36 := by rw [u3]
  have k2 : (K ms).2 = 16 := by rw [u3]
  refine s_UW_send_0 ?_
  refine s_UW_send_1 (by first | rfl | assumption | (simp [*]; done)) (by first | rfl | assumption | (simp [*]; done)) ?_
  refine s_UW_send_4 ?_
  refine s_UW_send_6 (fun h6 => ?_) (fun h6 => absurd h6 (by rw [u4]; exact fun q => q (nI_lt (a := U.length) (b := 16) hf (by omega))))
  refine s_UW_send_11 ?_
  refine s_UW_send_12 (by first | rfl | assumption | (simp [*]; done)) (by first | rfl | assumption | (simp [*]; done)) ?_
  refine s_UW_send_15 ?_
  refine s_UW_send_16 (by first | rfl | assumption | (simp [*]; done)) (by first | rfl | assumption | (simp [*]; done)) ?_
  refine s_UW_send_19 ?_
  refine s36_UW_send_20 (by exact u2) (by exact k1) (by intro y hy; cases hy; exact hp) (by rw [k2, u4]; exact vp_in_nI hf (by omega)) ?_
  refine s_UW_send_21 ?_
  refine s_UW_send_22 ?_
  refine s_UW_send_23 (by first | rfl | assumption | (simp [*]; done)) (by first | rfl | assumption | (simp [*]; done)) ?_
  refine s_UW_send_26 ?_
  refine s_UW_send_27 ?_
  refine s_UW_send_28 (by first | rfl | assumption | (simp [*]; done)) (by first | rfl | assumption | (simp [*]; done)) ?_
  refine s_UW_send_31 ?_
  refine s_UW_send_32 (by first | rfl | decide | assumption) ?_
  exact ⟨rfl, rfl, by rw [u4, nI_1], by rw [u4, nI_clamp (by omega)]⟩
theorem uw_sent {K : ex_K} {I : ex_I} {F : ex_F} {u ms p : Nat} {U : List Nat} (hu : uw_rep K I F u ms U) (hf : U.length < 16) (hp : (K p).1 = 8) : uw_rep K (ex_ui I 613 u 0 (nI (U.length + 1))) (ex_uf F 36 ms U.length (some p)) u ms (U ++ [p]) := by
  obtain ⟨u1, u2, u3, u4, u5, u6, u7⟩ := hu
  refine ⟨u1, by rw [ex_uf_f _ _ _ _ (by decide)]; exact u2, u3, by rw [ex_ui_eq, List.length_append]; rfl, by simp; omega, fun i q hq => ?_, fun j y hy => ?_⟩
  · rw [ex_uf_at]
    by_cases e : i = U.length
    · subst e
      simp at hq
      simp [hq]
    · simp only [if_neg e]
      rw [List.getElem?_append] at hq
      by_cases z : i < U.length
      · rw [if_pos z] at hq
        exact u6 i q hq
      · rw [if_neg z, List.getElem?_eq_none (by simp; omega)] at hq
        cases hq
  · rw [ex_uf_at] at hy
    by_cases e : j = U.length
    · simp only [if_pos e] at hy
      cases hy
      exact hp
    · simp only [if_neg e] at hy
      exact u7 j y hy
theorem lp_takeOut {Γ : ex_G} {d : Nat} {K : ex_K} {I : ex_I} {F : ex_F} {b : Nat} {Q : Option ex_V → ex_K → ex_I → ex_F → Prop} {l1 l2 : Option ex_V} {u ms n i : Nat} {X : Nat → Option Nat} (u1 : (K u).1 = 9) (u2 : F 612 u 0 = some ms) (u3 : K ms = (36, 16)) (u4 : I 613 u 0 = nI n) (hn : n < 16) (hX : ∀ j y, X j = some y → (K y).1 = 8)
    (kk : ex_E Γ d M_UW_takeOut 52 [some (.inr (some u)), l1, l2, some (.inl (nI n))] [] K I (ex_wf F 36 ms (shf X i n 1)) b Q) :
    ∀ m j F', n - j = m → i ≤ j → j ≤ n → F' = ex_wf F 36 ms (shf X i j 1) → ex_E Γ d M_UW_takeOut 24 [some (.inr (some u)), l1, l2, some (.inl (nI j))] [] K I F' b Q := by
  have k1 : (K ms).1 = 36 := by rw [u3]
  have k2 : (K ms).2 = 16 := by rw [u3]
  have g2 : ∀ Y, ex_wf F 36 ms Y 612 u 0 = some ms := fun Y => by rw [ex_wf_f _ _ _ (by decide)]; exact u2
  intro m
  induction m with
  | zero =>
    intro j F' hm h1 h2 hF
    subst hF
    have e : j = n := by omega
    subst e
    refine s_UW_takeOut_24 ?_
    refine s_UW_takeOut_25 ?_
    refine s_UW_takeOut_26 (by first | rfl | assumption | (simp [*]; done)) (by first | rfl | assumption | (simp [*]; done)) ?_
    refine s_UW_takeOut_29 (fun h29 => ?_) (fun h29 => absurd h29 (by rw [u4]; exact fun q => q (nI_le (Nat.le_refl _) (by omega))))
    exact kk
  | succ m ih =>
    intro j F' hm h1 h2 hF
    subst hF
    refine s_UW_takeOut_24 ?_
    refine s_UW_takeOut_25 ?_
    refine s_UW_takeOut_26 (by first | rfl | assumption | (simp [*]; done)) (by first | rfl | assumption | (simp [*]; done)) ?_
    refine s_UW_takeOut_29 (fun h29 => absurd h29 (by rw [u4]; exact nI_ge (by omega) (by omega))) (fun h29 => ?_)
    refine s_UW_takeOut_32 ?_
    refine s_UW_takeOut_33 (by first | rfl | assumption | (simp [*]; done)) (by first | rfl | assumption | (simp [*]; done)) ?_
    refine s_UW_takeOut_36 ?_
    refine s_UW_takeOut_37 ?_
    refine s_UW_takeOut_38 (by first | rfl | assumption | (simp [*]; done)) (by first | rfl | assumption | (simp [*]; done)) ?_
    refine s_UW_takeOut_41 ?_
    refine s_UW_takeOut_42 ?_
    refine s_UW_takeOut_43 ?_
    refine s36_UW_takeOut_44 (by exact g2 _) (by exact k1) (by rw [k2, nI_1]; exact vp_in_nI (by omega) (by omega)) ?_
    refine s36_UW_takeOut_45 (by exact g2 _) (by exact k1) (by intro y hy; rw [ex_wf_at, nI_1, nI_clamp (by omega), shf_up _ _ _ (by omega)] at hy; exact hX _ y hy) (by rw [k2]; exact vp_in_nI (by omega) (by omega)) ?_
    refine s_UW_takeOut_46 ?_
    refine s_UW_takeOut_49 ?_
    have e : ex_uf (ex_wf F 36 ms (shf X i j 1)) 36 ms (nI j).toNatClampNeg (ex_wf F 36 ms (shf X i j 1) 36 ms (nI j + 1).toNatClampNeg) = ex_wf F 36 ms (shf X i (j + 1) 1) := by
      rw [ex_wf_u, ex_wf_at, nI_1, nI_clamp (by omega), nI_clamp (by omega), shf_up _ _ _ (by omega), shf_s _ _ h1]
    rw [e, nI_1]
    exact ih (j + 1) _ (by omega) (by omega) (by omega) rfl
theorem sp_takeOut {Γ : ex_G} {d : Nat} {K : ex_K} {I : ex_I} {F : ex_F} {b : Nat} {u ms i p : Nat} {U : List Nat} (hu : uw_rep K I F u ms U) (hp : U[i]? = some p) :
    ex_E Γ (d + 1) M_UW_takeOut 0 [some (.inr (some u)), some (.inl (nI i)), none, none] [] K I F b (fun r K' I' F' => r = some (.inr (some p)) ∧ K = K' ∧ ex_ui I 613 u 0 (nI (U.length - 1)) = I' ∧ (∃ X, ex_wf F 36 ms X = F') ∧ uw_rep K I' F' u ms (U.eraseIdx i)) := by
  have hu0 := hu
  obtain ⟨u1, u2, u3, u4, u5, u6, u7⟩ := hu
  have hi : i < U.length := (List.getElem?_eq_some_iff.mp hp).1
  have k1 : (K ms).1 = 36 := by rw [u3]
  have k2 : (K ms).2 = 16 := by rw [u3]
  have c1 : ex_ui I 613 u 0 (nI (U.length - 1)) 613 u 0 = nI (U.length - 1) := ex_ui_eq _ _ _ _ _
  refine s_UW_takeOut_0 ?_
  refine s_UW_takeOut_1 ?_
  refine s_UW_takeOut_2 (b1 := 0) (b2 := b) (by first | rfl | assumption | (simp [*]; done)) (by first | rfl | assumption | (simp [*]; done)) (sp_at_in hu0 hp) ?_ (by omega)
  rintro _ _ _ _ ⟨rfl, rfl, rfl, rfl⟩
  dsimp only [Option.toList, List.cons_append, List.nil_append]
  refine s_UW_takeOut_5 ?_
  refine s_UW_takeOut_6 ?_
  refine s_UW_takeOut_7 (fun ah7 h7 => ?_) (fun h7 => absurd h7 (by intro z; cases z))
  refine s_UW_takeOut_12 ?_
  refine s_UW_takeOut_13 ?_
  refine s_UW_takeOut_14 (by first | rfl | assumption | (simp [*]; done)) (by first | rfl | assumption | (simp [*]; done)) ?_
  refine s_UW_takeOut_17 ?_
  refine s_UW_takeOut_18 ?_
  refine s_UW_takeOut_19 (by first | rfl | assumption | (simp [*]; done)) (by first | rfl | assumption | (simp [*]; done)) ?_
  refine s_UW_takeOut_22 ?_
  refine s_UW_takeOut_23 ?_
  rw [show I 613 u 0 - 1 = nI (U.length - 1) by rw [u4, show U.length = (U.length - 1) + 1 by omega, nI_pred]; rfl]
  refine lp_takeOut (n := U.length - 1) (X := F 36 ms) u1 u2 u3 c1 (by omega) u7 ?_ _ i _ rfl (Nat.le_refl _) (by omega) (by rw [shf_0, ex_wf_id])
  refine s_UW_takeOut_52 ?_
  refine s_UW_takeOut_53 (by first | rfl | assumption | (simp [*]; done)) (by first | rfl | assumption | (simp [*]; done)) ?_
  refine s_UW_takeOut_56 ?_
  refine s_UW_takeOut_57 (by first | rfl | assumption | (simp [*]; done)) (by first | rfl | assumption | (simp [*]; done)) ?_
  refine s_UW_takeOut_60 ?_
  refine s36_UW_takeOut_61 (by rw [ex_wf_f _ _ _ (by decide)]; exact u2) (by exact k1) (by intro y hy; cases hy) (by rw [k2, c1]; exact vp_in_nI (by omega) (by omega)) ?_
  refine s_UW_takeOut_62 ?_
  refine s_UW_takeOut_63 ?_
  rw [c1, nI_clamp (by omega), ex_wf_u]
  refine ⟨rfl, rfl, rfl, ⟨_, rfl⟩, u1, by rw [ex_wf_f _ _ _ (by decide)]; exact u2, u3, by rw [c1, List.length_eraseIdx, if_pos hi], by rw [List.length_eraseIdx, if_pos hi]; omega, fun j q hq => ?_, fun j y hy => ?_⟩
  · rw [ex_wf_at]
    have hj := (List.getElem?_eq_some_iff.mp hq).1
    rw [List.length_eraseIdx, if_pos hi] at hj
    simp only [if_neg (show ¬ j = U.length - 1 by omega)]
    exact shf_erase hi u6 j q hq
  · rw [ex_wf_at] at hy
    by_cases e : j = U.length - 1
    · simp only [if_pos e] at hy
      cases hy
    · simp only [if_neg e] at hy
      unfold shf at hy
      split at hy
      · exact u7 _ y hy
      · exact u7 _ y hy
theorem sp_takeOut_no {Γ : ex_G} {d : Nat} {K : ex_K} {I : ex_I} {F : ex_F} {b : Nat} {u ms : Nat} {x : Int32} {U : List Nat} (hu : uw_rep K I F u ms U) (hx : x < 0 ∨ nI U.length ≤ x) :
    ex_E Γ (d + 1) M_UW_takeOut 0 [some (.inr (some u)), some (.inl x), none, none] [] K I F b (fun r K' I' F' => r = some (.inr none) ∧ K = K' ∧ I = I' ∧ F = F') := by
  have u1 := hu.1
  refine s_UW_takeOut_0 ?_
  refine s_UW_takeOut_1 ?_
  refine s_UW_takeOut_2 (b1 := 0) (b2 := b) (by first | rfl | assumption | (simp [*]; done)) (by first | rfl | assumption | (simp [*]; done)) (sp_at_out hu hx) ?_ (by omega)
  rintro _ _ _ _ ⟨rfl, rfl, rfl, rfl⟩
  dsimp only [Option.toList, List.cons_append, List.nil_append]
  refine s_UW_takeOut_5 ?_
  refine s_UW_takeOut_6 ?_
  refine s_UW_takeOut_7 (fun _ h7 => absurd h7 (by intro z; cases z)) (fun h7 => ?_)
  refine s_UW_takeOut_10 ?_
  refine s_UW_takeOut_11 ?_
  exact ⟨rfl, rfl, rfl, rfl⟩
