/-! The store: its rows are a list of Entry cells -/
def szN (I : ex_I) (F : ex_F) (p : Nat) : Nat := (I 293 ((F 358 p 0).getD 0) 0).toNatClampNeg
def ent_ok (K : ex_K) (I : ex_I) (F : ex_F) (p : Nat) : Prop := (K p).1 = 5 ∧ ∃ q n, F 358 p 0 = some q ∧ (K q).1 = 4 ∧ I 293 q 0 = nI n ∧ 1 ≤ n ∧ n ≤ 9
def st_rep (K : ex_K) (I : ex_I) (F : ex_F) (s rw cap : Nat) (S : List Nat) : Prop :=
  (K s).1 = 6 ∧ F 421 s 0 = some rw ∧ K rw = (35, cap) ∧ I 420 s 0 = nI cap ∧ cap ≤ 40 ∧ I 423 s 0 = nI S.length ∧ (∀ i p, S[i]? = some p → F 35 rw i = some p) ∧ (∀ j y, F 35 rw j = some y → (K y).1 = 5) ∧ (∀ p, p ∈ S → ent_ok K I F p) ∧ I 422 s 0 = nI (S.map (szN I F)).sum ∧ (S.map (szN I F)).sum ≤ cap
def st_fr (I : ex_I) (F : ex_F) (I' : ex_I) (F' : ex_F) : Prop := (∀ g, g ≠ 422 → g ≠ 423 → I' g = I g) ∧ ∀ g, g ≠ 35 → F' g = F g
theorem st_fr_rfl {I : ex_I} {F : ex_F} : st_fr I F I F := ⟨fun _ _ _ => rfl, fun _ _ => rfl⟩
theorem st_fr_trans {I I' I'' : ex_I} {F F' F'' : ex_F} (h : st_fr I F I' F') (h' : st_fr I' F' I'' F'') : st_fr I F I'' F'' := ⟨fun g a b => (h'.1 g a b).trans (h.1 g a b), fun g a => (h'.2 g a).trans (h.2 g a)⟩
theorem szN_fr {I I' : ex_I} {F F' : ex_F} (h : st_fr I F I' F') : szN I' F' = szN I F := by
  funext p
  unfold szN
  rw [h.1 293 (by decide) (by decide), h.2 358 (by decide)]
theorem ent_ok_fr {K : ex_K} {I I' : ex_I} {F F' : ex_F} {p : Nat} (h : st_fr I F I' F') (he : ent_ok K I F p) : ent_ok K I' F' p := by
  obtain ⟨h1, q, n, h2, h3, h4, h5⟩ := he
  exact ⟨h1, q, n, by rw [h.2 358 (by decide)]; exact h2, h3, by rw [h.1 293 (by decide) (by decide)]; exact h4, h5⟩
theorem szN_ok {K : ex_K} {I : ex_I} {F : ex_F} {p : Nat} (he : ent_ok K I F p) : 1 ≤ szN I F p ∧ szN I F p ≤ 9 := by
  obtain ⟨h1, q, n, h2, h3, h4, h5⟩ := he
  have e : szN I F p = n := by
    unfold szN
    rw [h2, Option.getD_some, h4, nI_clamp (by omega)]
  omega
theorem szN_at {K : ex_K} {I : ex_I} {F : ex_F} {p q : Nat} (he : ent_ok K I F p) (hq : F 358 p 0 = some q) : I 293 q 0 = nI (szN I F p) := by
  obtain ⟨h1, q', n, h2, h3, h4, h5⟩ := he
  rw [hq] at h2
  cases h2
  have e : szN I F p = n := by
    unfold szN
    rw [hq, Option.getD_some, h4, nI_clamp (by omega)]
  rw [e, h4]
theorem sum_len {g : Nat → Nat} : ∀ S : List Nat, (∀ p, p ∈ S → 1 ≤ g p) → S.length ≤ (S.map g).sum := by
  intro S
  induction S with
  | nil => intro _; simp
  | cons a S ih =>
    intro h
    have h1 := h a List.mem_cons_self
    have h2 := ih (fun p hp => h p (List.mem_cons_of_mem _ hp))
    simp only [List.length_cons, List.map_cons, List.sum_cons]
    omega
theorem sum_erase {g : Nat → Nat} : ∀ (S : List Nat) {i p : Nat}, S[i]? = some p → ((S.eraseIdx i).map g).sum + g p = (S.map g).sum := by
  intro S
  induction S with
  | nil => intro i p h; simp at h
  | cons a S ih =>
    intro i p h
    cases i with
    | zero =>
      have e : a = p := by simpa using h
      subst e
      simp only [List.eraseIdx_cons_zero, List.map_cons, List.sum_cons]
      omega
    | succ i =>
      have h1 := ih (i := i) (p := p) (by simpa using h)
      simp only [List.eraseIdx_cons_succ, List.map_cons, List.sum_cons]
      omega
theorem st_len {K : ex_K} {I : ex_I} {F : ex_F} {s rw cap : Nat} {S : List Nat} (h : st_rep K I F s rw cap S) : S.length ≤ cap := by
  obtain ⟨h1, h2, h3, h4, h5, h6, h7, h8, h9, h10, h11⟩ := h
  have := sum_len S (fun p hp => (szN_ok (h9 p hp)).1)
  omega
theorem lp_removeAt {Γ : ex_G} {d : Nat} {K : ex_K} {I : ex_I} {F : ex_F} {b : Nat} {Q : Option ex_V → ex_K → ex_I → ex_F → Prop} {l1 : Option ex_V} {s rw cap n i : Nat} {X : Nat → Option Nat} (u1 : (K s).1 = 6) (u2 : F 421 s 0 = some rw) (u3 : K rw = (35, cap)) (hcap : cap ≤ 40) (u4 : I 423 s 0 = nI n) (hn : n < cap) (hX : ∀ j y, X j = some y → (K y).1 = 5)
    (kk : ex_E Γ d M_Sto_removeAt 61 [some (.inr (some s)), l1, some (.inl (nI n))] [] K I (ex_wf F 35 rw (shf X i n 1)) b Q) :
    ∀ m j F', n - j = m → i ≤ j → j ≤ n → F' = ex_wf F 35 rw (shf X i j 1) → ex_E Γ d M_Sto_removeAt 33 [some (.inr (some s)), l1, some (.inl (nI j))] [] K I F' b Q := by
  have k1 : (K rw).1 = 35 := by rw [u3]
  have k2 : (K rw).2 = cap := by rw [u3]
  have g2 : ∀ Y, ex_wf F 35 rw Y 421 s 0 = some rw := fun Y => by rw [ex_wf_f _ _ _ (by decide)]; exact u2
  intro m
  induction m with
  | zero =>
    intro j F' hm h1 h2 hF
    subst hF
    have e : j = n := by omega
    subst e
    refine s_Sto_removeAt_33 ?_
    refine s_Sto_removeAt_34 ?_
    refine s_Sto_removeAt_35 (by first | rfl | assumption | (simp [*]; done)) (by first | rfl | assumption | (simp [*]; done)) ?_
    refine s_Sto_removeAt_38 (fun h38 => ?_) (fun h38 => absurd h38 (by rw [u4]; exact fun q => q (nI_le (Nat.le_refl _) (by omega))))
    exact kk
  | succ m ih =>
    intro j F' hm h1 h2 hF
    subst hF
    refine s_Sto_removeAt_33 ?_
    refine s_Sto_removeAt_34 ?_
    refine s_Sto_removeAt_35 (by first | rfl | assumption | (simp [*]; done)) (by first | rfl | assumption | (simp [*]; done)) ?_
    refine s_Sto_removeAt_38 (fun h38 => absurd h38 (by rw [u4]; exact nI_ge (by omega) (by omega))) (fun h38 => ?_)
    refine s_Sto_removeAt_41 ?_
    refine s_Sto_removeAt_42 (by first | rfl | assumption | (simp [*]; done)) (by first | rfl | assumption | (simp [*]; done)) ?_
    refine s_Sto_removeAt_45 ?_
    refine s_Sto_removeAt_46 ?_
    refine s_Sto_removeAt_47 (by first | rfl | assumption | (simp [*]; done)) (by first | rfl | assumption | (simp [*]; done)) ?_
    refine s_Sto_removeAt_50 ?_
    refine s_Sto_removeAt_51 ?_
    refine s_Sto_removeAt_52 ?_
    refine s35_Sto_removeAt_53 (by exact g2 _) (by exact k1) (by rw [k2, nI_1]; exact vp_in_nI (by omega) (by omega)) ?_
    refine s35_Sto_removeAt_54 (by exact g2 _) (by exact k1) (by intro y hy; rw [ex_wf_at, nI_1, nI_clamp (by omega), shf_up _ _ _ (by omega)] at hy; exact hX _ y hy) (by rw [k2]; exact vp_in_nI (by omega) (by omega)) ?_
    refine s_Sto_removeAt_55 ?_
    refine s_Sto_removeAt_58 ?_
    have e : ex_uf (ex_wf F 35 rw (shf X i j 1)) 35 rw (nI j).toNatClampNeg (ex_wf F 35 rw (shf X i j 1) 35 rw (nI j + 1).toNatClampNeg) = ex_wf F 35 rw (shf X i (j + 1) 1) := by
      rw [ex_wf_u, ex_wf_at, nI_1, nI_clamp (by omega), nI_clamp (by omega), shf_up _ _ _ (by omega), shf_s _ _ h1]
    rw [e, nI_1]
    exact ih (j + 1) _ (by omega) (by omega) (by omega) rfl
theorem sp_removeAt {Γ : ex_G} {d : Nat} {K : ex_K} {I : ex_I} {F : ex_F} {b : Nat} {s rw cap i p : Nat} {S : List Nat} (hs : st_rep K I F s rw cap S) (hp : S[i]? = some p) :
    ex_E Γ d M_Sto_removeAt 0 [some (.inr (some s)), some (.inl (nI i)), none] [] K I F b (fun r K' I' F' => r = none ∧ K = K' ∧ st_fr I F I' F' ∧ st_rep K I' F' s rw cap (S.eraseIdx i)) := by
  have hlen := st_len hs
  obtain ⟨u1, u2, u3, u4, u5, u6, u7, u8, u9, u10, u11⟩ := hs
  have hi : i < S.length := (List.getElem?_eq_some_iff.mp hp).1
  have k1 : (K rw).1 = 35 := by rw [u3]
  have k2 : (K rw).2 = cap := by rw [u3]
  have hpe := u9 p (List.mem_of_getElem? hp)
  have hpe0 := hpe
  obtain ⟨e1, q, n, e2, e3, e4, e5, e6⟩ := hpe
  have hrow : F 35 rw (nI i).toNatClampNeg = some p := by rw [nI_clamp (by omega)]; exact u7 i p hp
  have hsum := sum_erase (g := szN I F) S hp
  have hsz := szN_at hpe0 e2
  refine s_Sto_removeAt_0 ?_
  refine s_Sto_removeAt_1 ?_
  refine s_Sto_removeAt_2 (by first | rfl | assumption | (simp [*]; done)) (by first | rfl | assumption | (simp [*]; done)) ?_
  refine s_Sto_removeAt_5 ?_
  refine s_Sto_removeAt_6 (by first | rfl | assumption | (simp [*]; done)) (by first | rfl | assumption | (simp [*]; done)) ?_
  refine s_Sto_removeAt_9 ?_
  refine s35_Sto_removeAt_10 (by exact u2) (by exact k1) (by rw [k2]; exact vp_in_nI (by omega) (by omega)) ?_
  refine s_Sto_removeAt_11 (by exact hrow) (by exact e1) ?_
  refine s_Sto_removeAt_14 (by exact e2) (by exact e3) ?_
  refine s_Sto_removeAt_17 ?_
  refine s_Sto_removeAt_18 (by first | rfl | assumption | (simp [*]; done)) (by first | rfl | assumption | (simp [*]; done)) ?_
  refine s_Sto_removeAt_21 ?_
  refine s_Sto_removeAt_22 ?_
  refine s_Sto_removeAt_23 (by first | rfl | assumption | (simp [*]; done)) (by first | rfl | assumption | (simp [*]; done)) ?_
  refine s_Sto_removeAt_26 ?_
  refine s_Sto_removeAt_27 ?_
  refine s_Sto_removeAt_28 (by first | rfl | assumption | (simp [*]; done)) (by first | rfl | assumption | (simp [*]; done)) ?_
  refine s_Sto_removeAt_31 ?_
  refine s_Sto_removeAt_32 ?_
  have c0 : ex_ui I 422 s 0 (I 422 s 0 - I 293 q 0) 423 s 0 - 1 = nI (S.length - 1) := by
    rw [ex_ui_f _ _ _ _ (by decide), u6, show S.length = (S.length - 1) + 1 by omega, nI_pred]; rfl
  have c1 : I 422 s 0 - I 293 q 0 = nI ((S.eraseIdx i).map (szN I F)).sum := by
    rw [u10, hsz, pk_sub (by omega)]
    congr 1
    omega
  rw [c0, c1]
  generalize hJ : ex_ui (ex_ui I 422 s 0 (nI ((S.eraseIdx i).map (szN I F)).sum)) 423 s 0 (nI (S.length - 1)) = J
  have j1 : J 423 s 0 = nI (S.length - 1) := by rw [← hJ]; exact ex_ui_eq _ _ _ _ _
  have j2 : J 422 s 0 = nI ((S.eraseIdx i).map (szN I F)).sum := by rw [← hJ, ex_ui_f _ _ _ _ (by decide)]; exact ex_ui_eq _ _ _ _ _
  have j3 : ∀ g, g ≠ 422 → g ≠ 423 → J g = I g := fun g a b => by rw [← hJ, ex_ui_f _ _ _ _ b, ex_ui_f _ _ _ _ a]
  refine lp_removeAt (n := S.length - 1) (X := F 35 rw) u1 u2 u3 u5 j1 (by omega) u8 ?_ _ i _ rfl (Nat.le_refl _) (by omega) (by rw [shf_0, ex_wf_id])
  refine s_Sto_removeAt_61 ?_
  refine s_Sto_removeAt_62 (by first | rfl | assumption | (simp [*]; done)) (by first | rfl | assumption | (simp [*]; done)) ?_
  refine s_Sto_removeAt_65 ?_
  refine s_Sto_removeAt_66 (by first | rfl | assumption | (simp [*]; done)) (by first | rfl | assumption | (simp [*]; done)) ?_
  refine s_Sto_removeAt_69 ?_
  refine s35_Sto_removeAt_70 (by rw [ex_wf_f _ _ _ (by decide)]; exact u2) (by exact k1) (by intro y hy; cases hy) (by rw [k2, j1]; exact vp_in_nI (by omega) (by omega)) ?_
  refine s_Sto_removeAt_71 ?_
  rw [j1, nI_clamp (by omega), ex_wf_u]
  have hfr : st_fr I F J (ex_wf F 35 rw (fun j => if j = S.length - 1 then none else shf (F 35 rw) i (S.length - 1) 1 j)) := ⟨j3, fun g hg => ex_wf_f _ _ _ hg⟩
  refine ⟨rfl, rfl, hfr, u1, by rw [ex_wf_f _ _ _ (by decide)]; exact u2, u3, by rw [j3 _ (by decide) (by decide)]; exact u4, u5, by rw [j1, List.length_eraseIdx, if_pos hi], fun j q hq => ?_, fun j y hy => ?_, fun z hz => ent_ok_fr hfr (u9 z (List.mem_of_mem_eraseIdx hz)), by rw [j2, szN_fr hfr], by rw [szN_fr hfr]; omega⟩
  · rw [ex_wf_at]
    have hj := (List.getElem?_eq_some_iff.mp hq).1
    rw [List.length_eraseIdx, if_pos hi] at hj
    simp only [if_neg (show ¬ j = S.length - 1 by omega)]
    exact shf_erase hi u7 j q hq
  · rw [ex_wf_at] at hy
    by_cases e : j = S.length - 1
    · simp only [if_pos e] at hy
      cases hy
    · simp only [if_neg e] at hy
      unfold shf at hy
      split at hy
      · exact u8 _ y hy
      · exact u8 _ y hy
theorem sp_sappend {Γ : ex_G} {d : Nat} {K : ex_K} {I : ex_I} {F : ex_F} {b : Nat} {s rw cap p : Nat} {S : List Nat} (hs : st_rep K I F s rw cap S) (hp : ent_ok K I F p) (hc : (S.map (szN I F)).sum + szN I F p ≤ cap) :
    ex_E Γ d M_Sto_append 0 [some (.inr (some s)), some (.inr (some p))] [] K I F b (fun r K' I' F' => r = none ∧ K = K' ∧ st_fr I F I' F' ∧ st_rep K I' F' s rw cap (S ++ [p])) := by
  have hlen := sum_len S (fun p hp => (szN_ok (hs.2.2.2.2.2.2.2.2.1 p hp)).1)
  obtain ⟨u1, u2, u3, u4, u5, u6, u7, u8, u9, u10, u11⟩ := hs
  have hz := szN_ok hp
  have k1 : (K rw).1 = 35 := by rw [u3]
  have k2 : (K rw).2 = cap := by rw [u3]
  have hp0 := hp
  obtain ⟨e1, q, n, e2, e3, e4, e5, e6⟩ := hp
  have hsz := szN_at hp0 e2
  refine s_Sto_append_0 ?_
  refine s_Sto_append_1 (by first | rfl | assumption | (simp [*]; done)) (by first | rfl | assumption | (simp [*]; done)) ?_
  refine s_Sto_append_4 ?_
  refine s_Sto_append_5 (by first | rfl | assumption | (simp [*]; done)) (by first | rfl | assumption | (simp [*]; done)) ?_
  refine s_Sto_append_8 ?_
  refine s35_Sto_append_9 (by exact u2) (by exact k1) (by intro y hy; cases hy; exact e1) (by rw [k2, u6]; exact vp_in_nI (by omega) (by omega)) ?_
  refine s_Sto_append_10 ?_
  refine s_Sto_append_11 ?_
  refine s_Sto_append_12 (by first | rfl | assumption | (simp [*]; done)) (by first | rfl | assumption | (simp [*]; done)) ?_
  refine s_Sto_append_15 ?_
  refine s_Sto_append_16 ?_
  refine s_Sto_append_17 (by first | rfl | assumption | (simp [*]; done)) (by first | rfl | assumption | (simp [*]; done)) ?_
  refine s_Sto_append_20 ?_
  refine s_Sto_append_21 ?_
  refine s_Sto_append_22 (by first | rfl | assumption | (simp [*]; done)) (by first | rfl | assumption | (simp [*]; done)) ?_
  refine s_Sto_append_25 ?_
  refine s_Sto_append_26 (by first | rfl | assumption | (simp [*]; done)) (by first | rfl | assumption | (simp [*]; done)) ?_
  refine s_Sto_append_29 (by rw [ex_uf_f _ _ _ _ (by decide)]; exact e2) (by exact e3) ?_
  refine s_Sto_append_32 ?_
  refine s_Sto_append_33 (by first | rfl | assumption | (simp [*]; done)) (by first | rfl | assumption | (simp [*]; done)) ?_
  refine s_Sto_append_36 ?_
  have hfr : st_fr I F (ex_ui (ex_ui I 423 s 0 (I 423 s 0 + 1)) 422 s 0 (ex_ui I 423 s 0 (I 423 s 0 + 1) 422 s 0 + ex_ui I 423 s 0 (I 423 s 0 + 1) 293 q 0)) (ex_uf F 35 rw (I 423 s 0).toNatClampNeg (some p)) := ⟨fun g a b => by rw [ex_ui_f _ _ _ _ a, ex_ui_f _ _ _ _ b], fun g hg => ex_uf_f _ _ _ _ hg⟩
  refine ⟨rfl, rfl, hfr, u1, by rw [ex_uf_f _ _ _ _ (by decide)]; exact u2, u3, by rw [hfr.1 _ (by decide) (by decide)]; exact u4, u5, ?_, fun i q hq => ?_, fun j y hy => ?_, fun z hz => ?_, ?_, ?_⟩
  · rw [ex_ui_f _ _ _ _ (by decide), ex_ui_eq, u6, nI_1, List.length_append]; rfl
  · rw [ex_uf_at, u6, nI_clamp (by omega)]
    by_cases e : i = S.length
    · subst e
      simp at hq
      simp [hq]
    · simp only [if_neg e]
      rw [List.getElem?_append] at hq
      by_cases z : i < S.length
      · rw [if_pos z] at hq
        exact u7 i q hq
      · rw [if_neg z, List.getElem?_eq_none (by simp; omega)] at hq
        cases hq
  · rw [ex_uf_at] at hy
    by_cases e : j = (I 423 s 0).toNatClampNeg
    · simp only [if_pos e] at hy
      cases hy
      exact e1
    · simp only [if_neg e] at hy
      exact u8 j y hy
  · rcases List.mem_append.mp hz with h | h
    · exact ent_ok_fr hfr (u9 z h)
    · rw [List.mem_singleton.mp h]
      exact ent_ok_fr hfr hp0
  · rw [ex_ui_eq, szN_fr hfr, ex_ui_f _ _ _ _ (by decide), ex_ui_f _ _ _ _ (by decide), u10, hsz, nI_add, List.map_append, List.sum_append]
    simp
  · rw [szN_fr hfr, List.map_append, List.sum_append]
    simpa using hc
