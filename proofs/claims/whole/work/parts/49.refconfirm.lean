/-! The reference: store, confirm -/
theorem cm_e {I I' : ex_I} {ad : Nat → Nat} {cm : Nat → Int32} (hi : ∀ i j, ad i = ad j → i = j) (hf : e_fr I I' ad) (hm : cm_ok I ad cm) : cm_ok I' ad cm := by
  intro j hj
  rw [hf.2 (ad 31) (fun z => absurd (hi _ _ z) (by decide)) (fun z => absurd (hi _ _ z) (by decide))]
  exact hm j hj
def m_dr (s : MS) (p v a : Int32) : MS := tu s 14 ((s.2 14).filter (fun row => !drb p v a row))
def m_ev (s : MS) (n : Int32) : MS := tu s 14 (evr (s.1 804 0) n (s.2 14))
def m_store (s : MS) (p v : Int32) (cm : Nat → Int32) : MS := m_add (m_ev (m_dr s p v (if cm 8 = 0 then 1 else 0)) (cm 7)) p v cm
theorem tu_tu (s : MS) (k : Nat) (L L' : List (Nat → Int32)) : tu (tu s k L) k L' = tu s k L' := by
  unfold tu
  congr 1
  funext j
  by_cases e : j = k
  · simp only [e, if_true]
  · simp only [if_neg e]
theorem lp_st {Γ : ex_G} {d : Nat} {K : ex_K} {I : ex_I} {F : ex_F} {b : Nat} {m : Nat} {ad : Nat → Nat} {s : MS} (hR : rf_ok K F m ad) (h : rr I m ad s) {cm : Nat → Int32} {p v a : Int32} (hm : cm_ok I ad cm) (hl : ((m_ev (m_dr s p v a) (cm 7)).2 14).length < 40) : ex_E Γ (d + 3) M_Mdl_store 28 [some (.inr (some m)), some (.inl p), some (.inl v), some (.inl (cm 7)), none, none] [.inl a, .inl v, .inl p, .inr (some m)] K I F b (fun x K' I' F' => x = none ∧ K = K' ∧ F = F' ∧ rr I' m ad (m_add (m_ev (m_dr s p v a) (cm 7)) p v cm)) := by
  have m1 := hR.1
  refine s_Mdl_store_28 (b1 := 0) (b2 := b) (by first | rfl | assumption | (simp [*]; done)) (by first | rfl | assumption | (simp [*]; done)) (sp_drop (d := d) hR h.2.2.2.2.2.1) ?_ (by omega)
  rintro _ _ I1 _ ⟨rfl, rfl, rfl, q1, q2⟩
  dsimp only [Option.toList, List.cons_append, List.nil_append]
  refine lp_ev (I := I) (d := d + 1) (cap := s.1 804 0) hR (by rw [q1.1 _ (by decide) (by decide)]; exact h.2.2.1 804 (by decide)) _ I1 q2 e_fr_rfl (fun I2 w1 w2 => ?_)
  have k1 : rr I2 m ad (m_ev (m_dr s p v a) (cm 7)) := by
    unfold m_ev m_dr
    rw [tu_tu, tu_at]
    exact rr_ent hR h (e_fr_trans q1 w2) w1
  exact lp_radd hR k1 (cm_e hR.2.1 (e_fr_trans q1 w2) hm) hl
theorem sp_storeR {Γ : ex_G} {d : Nat} {K : ex_K} {I : ex_I} {F : ex_F} {b : Nat} {m : Nat} {ad : Nat → Nat} {s : MS} (hR : rf_ok K F m ad) (h : rr I m ad s) {cm : Nat → Int32} {p v : Int32} (hm : cm_ok I ad cm) (hl : ((m_ev (m_dr s p v (if cm 8 = 0 then 1 else 0)) (cm 7)).2 14).length < 40) : ex_E Γ (d + 3) M_Mdl_store 0 [some (.inr (some m)), some (.inl p), some (.inl v), none, none, none] [] K I F b (fun x K' I' F' => x = none ∧ K = K' ∧ F = F' ∧ rr I' m ad (m_store s p v cm)) := by
  have m1 := hR.1
  have c7 : I 21 (ad 31) 247 = cm 7 := hm 7 (by decide)
  have c8 : I 21 (ad 31) 248 = cm 8 := hm 8 (by decide)
  unfold m_store
  refine s_Mdl_store_0 ?_
  refine s_Mdl_store_1 (by first | rfl | assumption | (simp [*]; done)) (by first | rfl | assumption | (simp [*]; done)) ?_
  refine s_Mdl_store_4 ?_
  refine s_Mdl_store_7 (by first | exact rf_row hR | rfl) (by exact rk_row hR) (by rw [rn_row hR]; exact n_in (a := 247) (by first | rfl | (simp only [nl_1, nl_2, nl_3, nl_4, nl_5, nl_6, nl_7, nl_8, nl_9, nl_10, nl_11, nl_12, nl_13, nl_14, nl_15, nl_16, nl_32, nl_240, nl_250, nl_255, nl_265, nl_270, nl_0, nI_add, pk_mul]; done)) (by omega) (by omega)) ?_
  refine ex_ixl (q := 247) (by first | rfl | (simp only [nl_1, nl_2, nl_3, nl_4, nl_5, nl_6, nl_7, nl_8, nl_9, nl_10, nl_11, nl_12, nl_13, nl_14, nl_15, nl_16, nl_32, nl_240, nl_250, nl_255, nl_265, nl_270, nl_0, nI_add, pk_mul]; done)) (by omega) ?_
  rw [c7]
  refine s_Mdl_store_8 ?_
  refine s_Mdl_store_9 ?_
  refine s_Mdl_store_10 ?_
  refine s_Mdl_store_11 ?_
  refine s_Mdl_store_12 ?_
  refine s_Mdl_store_13 (by first | rfl | assumption | (simp [*]; done)) (by first | rfl | assumption | (simp [*]; done)) ?_
  refine s_Mdl_store_16 ?_
  refine s_Mdl_store_19 (by first | exact rf_row hR | rfl) (by exact rk_row hR) (by rw [rn_row hR]; exact n_in (a := 248) (by first | rfl | (simp only [nl_1, nl_2, nl_3, nl_4, nl_5, nl_6, nl_7, nl_8, nl_9, nl_10, nl_11, nl_12, nl_13, nl_14, nl_15, nl_16, nl_32, nl_240, nl_250, nl_255, nl_265, nl_270, nl_0, nI_add, pk_mul]; done)) (by omega) (by omega)) ?_
  refine ex_ixl (q := 248) (by first | rfl | (simp only [nl_1, nl_2, nl_3, nl_4, nl_5, nl_6, nl_7, nl_8, nl_9, nl_10, nl_11, nl_12, nl_13, nl_14, nl_15, nl_16, nl_32, nl_240, nl_250, nl_255, nl_265, nl_270, nl_0, nI_add, pk_mul]; done)) (by omega) ?_
  rw [c8]
  refine s_Mdl_store_20 (fun h20 => ?_) (fun h20 => ?_)
  · refine s_Mdl_store_27 ?_
    rw [if_neg h20] at hl ⊢
    exact lp_st hR h hm hl
  · refine s_Mdl_store_23 ?_
    refine s_Mdl_store_24 ?_
    rw [if_pos h20] at hl ⊢
    exact lp_st hR h hm hl
def crw (row cm : Nat → Int32) : Nat → Int32 := fun j => match j with
  | 6 => cm 14
  | 8 => cm 10
  | 9 => cm 11
  | 10 => cm 12
  | 11 => cm 13
  | j => row j
theorem r_ent_set {I J : ex_I} {m e : Nat} {ad : Nat → Nat} {L : List (Nat → Int32)} {row w : Nat → Int32} (hL : r_ent I m ad L) (he : L[e]? = some row) (h1 : J 816 m 0 = I 816 m 0)
    (h2 : ∀ k, (k < 8 * e ∨ 8 * e + 8 ≤ k) → J 21 (ad 14) k = I 21 (ad 14) k) (h3 : ∀ j, j < 7 → J 21 (ad 14) (8 * e + j) = w j)
    (h4 : ∀ k, (k < 4 * e ∨ 4 * e + 4 ≤ k) → J 21 (ad 15) k = I 21 (ad 15) k) (h5 : ∀ j, j < 4 → J 21 (ad 15) (4 * e + j) = w (8 + j)) : r_ent J m ad (L.set e w) := by
  obtain ⟨q1, q2, q3⟩ := hL
  have le := (List.getElem?_eq_some_iff.mp he).1
  refine ⟨by rw [h1, q1, List.length_set], by rw [List.length_set]; exact q2, fun f r hf => ?_⟩
  by_cases c : e = f
  · subst c
    rw [List.getElem?_set_self le] at hf
    have e1 : w = r := Option.some.inj hf
    subst e1
    exact ⟨h3, h5⟩
  · rw [List.getElem?_set_ne c] at hf
    obtain ⟨r1, r2⟩ := q3 f r hf
    refine ⟨fun j hj => ?_, fun j hj => ?_⟩
    · rw [h2 _ (by omega), r1 j hj]
    · rw [h4 _ (by omega), r2 j hj]
def m_conf (s : MS) (x : Option Nat) (may : Int32) (cm : Nat → Int32) : MS := match x with
  | none => s
  | some e => match (s.2 14)[e]? with
    | none => s
    | some row => tu s 14 (if may = 0 then (s.2 14).eraseIdx e else (s.2 14).eraseIdx e ++ [crw row cm])
theorem set_erase {α : Type} (L : List α) (e : Nat) (a : α) : (L.set e a).eraseIdx e = L.eraseIdx e := by
  apply List.ext_getElem?
  intro j
  rw [List.getElem?_eraseIdx, List.getElem?_eraseIdx]
  by_cases c : j < e
  · rw [if_pos c, if_pos c, List.getElem?_set_ne (by omega)]
  · rw [if_neg c, if_neg c, List.getElem?_set_ne (by omega)]
theorem sp_confirmR {Γ : ex_G} {d : Nat} {K : ex_K} {I : ex_I} {F : ex_F} {b : Nat} {m : Nat} {ad : Nat → Nat} {s : MS} (hR : rf_ok K F m ad) (h : rr I m ad s) {e : Nat} {row cm : Nat → Int32} {may : Int32} (hm : cm_ok I ad cm) (he : (s.2 14)[e]? = some row) : ex_E Γ (d + 1) M_Mdl_confirm 0 [some (.inr (some m)), some (.inl (nI e)), some (.inl may), none] [] K I F b (fun x K' I' F' => x = none ∧ K = K' ∧ F = F' ∧ rr I' m ad (m_conf s (some e) may cm)) := by
  have m1 := hR.1
  have hL := h.2.2.2.2.2.1
  unfold m_conf
  dsimp only
  rw [he]
  dsimp only
  generalize hQ : s.2 14 = L at *
  have le := (List.getElem?_eq_some_iff.mp he).1
  obtain ⟨l1, l2, l3⟩ := hL
  obtain ⟨r1, r2⟩ := l3 e row he
  have n314 : ad 31 ≠ ad 14 := rf_ne hR (by decide)
  have n315 : ad 31 ≠ ad 15 := rf_ne hR (by decide)
  have n154 : ad 15 ≠ ad 14 := rf_ne hR (by decide)
  have n145 : ad 14 ≠ ad 15 := rf_ne hR (by decide)
  have c14 : I 21 (ad 31) 254 = cm 14 := hm 14 (by decide)
  have cc : ∀ j, j < 4 → I 21 (ad 31) (250 + j) = cm (10 + j) := fun j hj => by
    have z := hm (10 + j) (by omega)
    rw [← z]
    congr 1
    omega
  have fin : ∀ J, J = ex_wi (ex_ui I 21 (ad 14) (8 * e + 6) (cm 14)) 21 (ad 15) (fun j => if j = 4 * e + 3 then cm 13 else if j = 4 * e + 2 then cm 12 else if j = 4 * e + 1 then cm 11 else if j = 4 * e then cm 10 else I 21 (ad 15) j) → e_fr I J ad ∧ r_ent J m ad (L.set e (crw row cm)) := by
    intro J hJ
    refine ⟨⟨fun g a1 a2 => ?_, fun a a1 a2 => ?_⟩, r_ent_set ⟨l1, l2, l3⟩ he ?_ (fun k hk => ?_) (fun j hj => ?_) (fun k hk => ?_) (fun j hj => ?_)⟩
    · rw [hJ, ex_wi_f _ _ _ a2, ex_ui_f _ _ _ _ a2]
    · rw [hJ, ex_wi_ne _ _ _ a2, ex_ui_ne _ _ _ _ a1]
    · rw [hJ, ex_wi_f _ _ _ (by decide), ex_ui_f _ _ _ _ (by decide)]
    · rw [hJ, ex_wi_ne _ _ _ n145, ex_ui_at]
      dsimp only
      rw [if_neg (by omega)]
    · rw [hJ, ex_wi_ne _ _ _ n145, ex_ui_at]
      dsimp only
      by_cases z : j = 6
      · subst z
        rw [if_pos rfl]
        rfl
      · rw [if_neg (by omega), r1 j hj]
        rcases (by omega : j = 0 ∨ j = 1 ∨ j = 2 ∨ j = 3 ∨ j = 4 ∨ j = 5) with rfl | rfl | rfl | rfl | rfl | rfl
        all_goals rfl
    · rw [hJ, ex_wi_at]
      repeat rw [if_neg (by omega)]
    · rw [hJ, ex_wi_at]
      rcases (by omega : j = 0 ∨ j = 1 ∨ j = 2 ∨ j = 3) with rfl | rfl | rfl | rfl
      all_goals
        repeat rw [if_neg (by omega)]
        rw [if_pos (by omega)]
        rfl
  refine s_Mdl_confirm_0 ?_
  refine s_Mdl_confirm_1 (fun h1 => ?_) (fun h1 => absurd h1 (by exact fun q => q (Int32.not_lt.mp (nI_pos (by omega)))))
  refine s_Mdl_confirm_5 ?_
  refine s_Mdl_confirm_6 (by first | rfl | assumption | (simp [*]; done)) (by first | rfl | assumption | (simp [*]; done)) ?_
  refine s_Mdl_confirm_9 ?_
  refine s_Mdl_confirm_11 ?_
  refine s_Mdl_confirm_12 ?_
  refine s_Mdl_confirm_13 ?_
  refine s_Mdl_confirm_15 ?_
  refine s_Mdl_confirm_16 ?_
  refine s_Mdl_confirm_17 (by first | rfl | assumption | (simp [*]; done)) (by first | rfl | assumption | (simp [*]; done)) ?_
  refine s_Mdl_confirm_20 ?_
  refine s_Mdl_confirm_23 (by first | exact rf_row hR | rfl) (by exact rk_row hR) (by rw [rn_row hR]; exact n_in (a := 254) (by first | rfl | (simp only [nl_1, nl_2, nl_3, nl_4, nl_5, nl_6, nl_7, nl_8, nl_9, nl_10, nl_11, nl_12, nl_13, nl_14, nl_15, nl_16, nl_32, nl_240, nl_250, nl_255, nl_265, nl_270, nl_0, nI_add, pk_mul]; done)) (by omega) (by omega)) ?_
  refine ex_ixl (q := 254) (by first | rfl | (simp only [nl_1, nl_2, nl_3, nl_4, nl_5, nl_6, nl_7, nl_8, nl_9, nl_10, nl_11, nl_12, nl_13, nl_14, nl_15, nl_16, nl_32, nl_240, nl_250, nl_255, nl_265, nl_270, nl_0, nI_add, pk_mul]; done)) (by omega) ?_
  rw [c14]
  refine s_Mdl_confirm_24 (by first | exact rf_entry hR | rfl) (by exact rk_entry hR) (by rw [rn_entry hR]; exact n_in (a := ((8 * e) + 6)) (by first | rfl | (simp only [nl_1, nl_2, nl_3, nl_4, nl_5, nl_6, nl_7, nl_8, nl_9, nl_10, nl_11, nl_12, nl_13, nl_14, nl_15, nl_16, nl_32, nl_240, nl_250, nl_255, nl_265, nl_270, nl_0, nI_add, pk_mul]; done)) (by omega) (by omega)) ?_
  refine ex_ixs (q := ((8 * e) + 6)) (by first | rfl | (simp only [nl_1, nl_2, nl_3, nl_4, nl_5, nl_6, nl_7, nl_8, nl_9, nl_10, nl_11, nl_12, nl_13, nl_14, nl_15, nl_16, nl_32, nl_240, nl_250, nl_255, nl_265, nl_270, nl_0, nI_add, pk_mul]; done)) (by omega) ?_
  refine s_Mdl_confirm_25 ?_
  refine s_Mdl_confirm_26 ?_
  refine s_Mdl_confirm_27 ?_
  refine s_Mdl_confirm_28 ?_
  refine s_Mdl_confirm_29 (fun h29 => absurd h29 (by decide)) (fun h29 => ?_)
  refine s_Mdl_confirm_32 ?_
  refine s_Mdl_confirm_33 (by first | rfl | assumption | (simp [*]; done)) (by first | rfl | assumption | (simp [*]; done)) ?_
  refine s_Mdl_confirm_36 ?_
  refine s_Mdl_confirm_37 ?_
  refine s_Mdl_confirm_38 ?_
  refine s_Mdl_confirm_39 ?_
  refine s_Mdl_confirm_40 ?_
  refine s_Mdl_confirm_41 ?_
  refine s_Mdl_confirm_42 (by first | rfl | assumption | (simp [*]; done)) (by first | rfl | assumption | (simp [*]; done)) ?_
  refine s_Mdl_confirm_45 ?_
  refine s_Mdl_confirm_48 ?_
  refine s_Mdl_confirm_49 ?_
  refine s_Mdl_confirm_50 (by first | exact rf_row hR | rfl) (by exact rk_row hR) (by rw [rn_row hR]; exact n_in (a := (250 + 0)) (by first | rfl | (simp only [nl_1, nl_2, nl_3, nl_4, nl_5, nl_6, nl_7, nl_8, nl_9, nl_10, nl_11, nl_12, nl_13, nl_14, nl_15, nl_16, nl_32, nl_240, nl_250, nl_255, nl_265, nl_270, nl_0, nI_add, pk_mul]; done)) (by omega) (by omega)) ?_
  refine ex_ixl (q := (250 + 0)) (by first | rfl | (simp only [nl_1, nl_2, nl_3, nl_4, nl_5, nl_6, nl_7, nl_8, nl_9, nl_10, nl_11, nl_12, nl_13, nl_14, nl_15, nl_16, nl_32, nl_240, nl_250, nl_255, nl_265, nl_270, nl_0, nI_add, pk_mul]; done)) (by omega) ?_
  try simp only [ex_ui_ne _ _ _ _ n315]
  rw [ex_ui_ne _ _ _ _ n314, cc _ (by decide)]
  refine s_Mdl_confirm_51 (by first | exact rf_rule hR | rfl) (by exact rk_rule hR) (by rw [rn_rule hR]; exact n_in (a := ((4 * e) + 0)) (by first | rfl | (simp only [nl_1, nl_2, nl_3, nl_4, nl_5, nl_6, nl_7, nl_8, nl_9, nl_10, nl_11, nl_12, nl_13, nl_14, nl_15, nl_16, nl_32, nl_240, nl_250, nl_255, nl_265, nl_270, nl_0, nI_add, pk_mul]; done)) (by omega) (by omega)) ?_
  refine ex_ixs (q := ((4 * e) + 0)) (by first | rfl | (simp only [nl_1, nl_2, nl_3, nl_4, nl_5, nl_6, nl_7, nl_8, nl_9, nl_10, nl_11, nl_12, nl_13, nl_14, nl_15, nl_16, nl_32, nl_240, nl_250, nl_255, nl_265, nl_270, nl_0, nI_add, pk_mul]; done)) (by omega) ?_
  refine s_Mdl_confirm_52 ?_
  refine s_Mdl_confirm_55 ?_
  refine s_Mdl_confirm_27 ?_
  refine s_Mdl_confirm_28 ?_
  refine s_Mdl_confirm_29 (fun h29 => absurd h29 (by decide)) (fun h29 => ?_)
  refine s_Mdl_confirm_32 ?_
  refine s_Mdl_confirm_33 (by first | rfl | assumption | (simp [*]; done)) (by first | rfl | assumption | (simp [*]; done)) ?_
  refine s_Mdl_confirm_36 ?_
  refine s_Mdl_confirm_37 ?_
  refine s_Mdl_confirm_38 ?_
  refine s_Mdl_confirm_39 ?_
  refine s_Mdl_confirm_40 ?_
  refine s_Mdl_confirm_41 ?_
  refine s_Mdl_confirm_42 (by first | rfl | assumption | (simp [*]; done)) (by first | rfl | assumption | (simp [*]; done)) ?_
  refine s_Mdl_confirm_45 ?_
  refine s_Mdl_confirm_48 ?_
  refine s_Mdl_confirm_49 ?_
  refine s_Mdl_confirm_50 (by first | exact rf_row hR | rfl) (by exact rk_row hR) (by rw [rn_row hR]; exact n_in (a := (250 + (0 + 1))) (by first | rfl | (simp only [nl_1, nl_2, nl_3, nl_4, nl_5, nl_6, nl_7, nl_8, nl_9, nl_10, nl_11, nl_12, nl_13, nl_14, nl_15, nl_16, nl_32, nl_240, nl_250, nl_255, nl_265, nl_270, nl_0, nI_add, pk_mul]; done)) (by omega) (by omega)) ?_
  refine ex_ixl (q := (250 + (0 + 1))) (by first | rfl | (simp only [nl_1, nl_2, nl_3, nl_4, nl_5, nl_6, nl_7, nl_8, nl_9, nl_10, nl_11, nl_12, nl_13, nl_14, nl_15, nl_16, nl_32, nl_240, nl_250, nl_255, nl_265, nl_270, nl_0, nI_add, pk_mul]; done)) (by omega) ?_
  try simp only [ex_ui_ne _ _ _ _ n315]
  rw [ex_ui_ne _ _ _ _ n314, cc _ (by decide)]
  refine s_Mdl_confirm_51 (by first | exact rf_rule hR | rfl) (by exact rk_rule hR) (by rw [rn_rule hR]; exact n_in (a := ((4 * e) + (0 + 1))) (by first | rfl | (simp only [nl_1, nl_2, nl_3, nl_4, nl_5, nl_6, nl_7, nl_8, nl_9, nl_10, nl_11, nl_12, nl_13, nl_14, nl_15, nl_16, nl_32, nl_240, nl_250, nl_255, nl_265, nl_270, nl_0, nI_add, pk_mul]; done)) (by omega) (by omega)) ?_
  refine ex_ixs (q := ((4 * e) + (0 + 1))) (by first | rfl | (simp only [nl_1, nl_2, nl_3, nl_4, nl_5, nl_6, nl_7, nl_8, nl_9, nl_10, nl_11, nl_12, nl_13, nl_14, nl_15, nl_16, nl_32, nl_240, nl_250, nl_255, nl_265, nl_270, nl_0, nI_add, pk_mul]; done)) (by omega) ?_
  refine s_Mdl_confirm_52 ?_
  refine s_Mdl_confirm_55 ?_
  refine s_Mdl_confirm_27 ?_
  refine s_Mdl_confirm_28 ?_
  refine s_Mdl_confirm_29 (fun h29 => absurd h29 (by decide)) (fun h29 => ?_)
  refine s_Mdl_confirm_32 ?_
  refine s_Mdl_confirm_33 (by first | rfl | assumption | (simp [*]; done)) (by first | rfl | assumption | (simp [*]; done)) ?_
  refine s_Mdl_confirm_36 ?_
  refine s_Mdl_confirm_37 ?_
  refine s_Mdl_confirm_38 ?_
  refine s_Mdl_confirm_39 ?_
  refine s_Mdl_confirm_40 ?_
  refine s_Mdl_confirm_41 ?_
  refine s_Mdl_confirm_42 (by first | rfl | assumption | (simp [*]; done)) (by first | rfl | assumption | (simp [*]; done)) ?_
  refine s_Mdl_confirm_45 ?_
  refine s_Mdl_confirm_48 ?_
  refine s_Mdl_confirm_49 ?_
  refine s_Mdl_confirm_50 (by first | exact rf_row hR | rfl) (by exact rk_row hR) (by rw [rn_row hR]; exact n_in (a := (250 + ((0 + 1) + 1))) (by first | rfl | (simp only [nl_1, nl_2, nl_3, nl_4, nl_5, nl_6, nl_7, nl_8, nl_9, nl_10, nl_11, nl_12, nl_13, nl_14, nl_15, nl_16, nl_32, nl_240, nl_250, nl_255, nl_265, nl_270, nl_0, nI_add, pk_mul]; done)) (by omega) (by omega)) ?_
  refine ex_ixl (q := (250 + ((0 + 1) + 1))) (by first | rfl | (simp only [nl_1, nl_2, nl_3, nl_4, nl_5, nl_6, nl_7, nl_8, nl_9, nl_10, nl_11, nl_12, nl_13, nl_14, nl_15, nl_16, nl_32, nl_240, nl_250, nl_255, nl_265, nl_270, nl_0, nI_add, pk_mul]; done)) (by omega) ?_
  try simp only [ex_ui_ne _ _ _ _ n315]
  rw [ex_ui_ne _ _ _ _ n314, cc _ (by decide)]
  refine s_Mdl_confirm_51 (by first | exact rf_rule hR | rfl) (by exact rk_rule hR) (by rw [rn_rule hR]; exact n_in (a := ((4 * e) + ((0 + 1) + 1))) (by first | rfl | (simp only [nl_1, nl_2, nl_3, nl_4, nl_5, nl_6, nl_7, nl_8, nl_9, nl_10, nl_11, nl_12, nl_13, nl_14, nl_15, nl_16, nl_32, nl_240, nl_250, nl_255, nl_265, nl_270, nl_0, nI_add, pk_mul]; done)) (by omega) (by omega)) ?_
  refine ex_ixs (q := ((4 * e) + ((0 + 1) + 1))) (by first | rfl | (simp only [nl_1, nl_2, nl_3, nl_4, nl_5, nl_6, nl_7, nl_8, nl_9, nl_10, nl_11, nl_12, nl_13, nl_14, nl_15, nl_16, nl_32, nl_240, nl_250, nl_255, nl_265, nl_270, nl_0, nI_add, pk_mul]; done)) (by omega) ?_
  refine s_Mdl_confirm_52 ?_
  refine s_Mdl_confirm_55 ?_
  refine s_Mdl_confirm_27 ?_
  refine s_Mdl_confirm_28 ?_
  refine s_Mdl_confirm_29 (fun h29 => absurd h29 (by decide)) (fun h29 => ?_)
  refine s_Mdl_confirm_32 ?_
  refine s_Mdl_confirm_33 (by first | rfl | assumption | (simp [*]; done)) (by first | rfl | assumption | (simp [*]; done)) ?_
  refine s_Mdl_confirm_36 ?_
  refine s_Mdl_confirm_37 ?_
  refine s_Mdl_confirm_38 ?_
  refine s_Mdl_confirm_39 ?_
  refine s_Mdl_confirm_40 ?_
  refine s_Mdl_confirm_41 ?_
  refine s_Mdl_confirm_42 (by first | rfl | assumption | (simp [*]; done)) (by first | rfl | assumption | (simp [*]; done)) ?_
  refine s_Mdl_confirm_45 ?_
  refine s_Mdl_confirm_48 ?_
  refine s_Mdl_confirm_49 ?_
  refine s_Mdl_confirm_50 (by first | exact rf_row hR | rfl) (by exact rk_row hR) (by rw [rn_row hR]; exact n_in (a := (250 + (((0 + 1) + 1) + 1))) (by first | rfl | (simp only [nl_1, nl_2, nl_3, nl_4, nl_5, nl_6, nl_7, nl_8, nl_9, nl_10, nl_11, nl_12, nl_13, nl_14, nl_15, nl_16, nl_32, nl_240, nl_250, nl_255, nl_265, nl_270, nl_0, nI_add, pk_mul]; done)) (by omega) (by omega)) ?_
  refine ex_ixl (q := (250 + (((0 + 1) + 1) + 1))) (by first | rfl | (simp only [nl_1, nl_2, nl_3, nl_4, nl_5, nl_6, nl_7, nl_8, nl_9, nl_10, nl_11, nl_12, nl_13, nl_14, nl_15, nl_16, nl_32, nl_240, nl_250, nl_255, nl_265, nl_270, nl_0, nI_add, pk_mul]; done)) (by omega) ?_
  try simp only [ex_ui_ne _ _ _ _ n315]
  rw [ex_ui_ne _ _ _ _ n314, cc _ (by decide)]
  refine s_Mdl_confirm_51 (by first | exact rf_rule hR | rfl) (by exact rk_rule hR) (by rw [rn_rule hR]; exact n_in (a := ((4 * e) + (((0 + 1) + 1) + 1))) (by first | rfl | (simp only [nl_1, nl_2, nl_3, nl_4, nl_5, nl_6, nl_7, nl_8, nl_9, nl_10, nl_11, nl_12, nl_13, nl_14, nl_15, nl_16, nl_32, nl_240, nl_250, nl_255, nl_265, nl_270, nl_0, nI_add, pk_mul]; done)) (by omega) (by omega)) ?_
  refine ex_ixs (q := ((4 * e) + (((0 + 1) + 1) + 1))) (by first | rfl | (simp only [nl_1, nl_2, nl_3, nl_4, nl_5, nl_6, nl_7, nl_8, nl_9, nl_10, nl_11, nl_12, nl_13, nl_14, nl_15, nl_16, nl_32, nl_240, nl_250, nl_255, nl_265, nl_270, nl_0, nI_add, pk_mul]; done)) (by omega) ?_
  refine s_Mdl_confirm_52 ?_
  refine s_Mdl_confirm_55 ?_
  refine s_Mdl_confirm_27 ?_
  refine s_Mdl_confirm_28 ?_
  refine s_Mdl_confirm_29 (fun h29 => ?_) (fun h29 => absurd h29 (by exact fun q => q (by decide)))
  rw [ex_ui_w (ex_ui I 21 (ad 14) _ _) 21 (ad 15), ex_wi_u, ex_wi_u, ex_wi_u, ex_ui_ne _ _ _ _ n154]
  obtain ⟨f1, f2⟩ := fin _ rfl
  generalize hJ : ex_wi (ex_ui I 21 (ad 14) _ _) 21 (ad 15) _ = J at f1 f2 ⊢
  refine s_Mdl_confirm_58 ?_
  refine s_Mdl_confirm_59 (fun h59 => ?_) (fun h59 => ?_)
  · refine s_Mdl_confirm_70 ?_
    refine s_Mdl_confirm_71 ?_
    refine s_Mdl_confirm_72 (b1 := b) (b2 := 0) (by first | rfl | assumption | (simp [*]; done)) (by first | rfl | assumption | (simp [*]; done)) (sp_takeAway hR f2 (by rw [List.length_set]; exact le)) ?_ (by omega)
    rintro _ _ _ _ ⟨rfl, rfl, rfl, q1, q2⟩
    dsimp only [Option.toList, List.cons_append, List.nil_append]
    refine s_Mdl_confirm_75 ?_
    rw [set_erase] at q2
    rw [if_pos h59]
    exact ⟨rfl, rfl, rfl, rr_ent hR h (e_fr_trans f1 q1) q2⟩
  · refine s_Mdl_confirm_62 ?_
    refine s_Mdl_confirm_63 ?_
    refine s_Mdl_confirm_64 (b1 := b) (b2 := 0) (by first | rfl | assumption | (simp [*]; done)) (by first | rfl | assumption | (simp [*]; done)) (sp_use (a := crw row cm) hR f2 (List.getElem?_set_self le)) ?_ (by omega)
    rintro _ _ _ _ ⟨rfl, rfl, rfl, q1, q2⟩
    dsimp only [Option.toList, List.cons_append, List.nil_append]
    refine s_Mdl_confirm_67 ?_
    refine s_Mdl_confirm_75 ?_
    rw [set_erase] at q2
    rw [if_neg h59]
    exact ⟨rfl, rfl, rfl, rr_ent hR h (e_fr_trans f1 q1) q2⟩
theorem sp_confirmR_no {Γ : ex_G} {d : Nat} {K : ex_K} {I : ex_I} {F : ex_F} {b : Nat} {m : Nat} {ad : Nat → Nat} {s : MS} (hR : rf_ok K F m ad) (h : rr I m ad s) {cm : Nat → Int32} {may : Int32} : ex_E Γ (d + 1) M_Mdl_confirm 0 [some (.inr (some m)), some (.inl (-1)), some (.inl may), none] [] K I F b (fun x K' I' F' => x = none ∧ K = K' ∧ F = F' ∧ rr I' m ad (m_conf s none may cm)) := by
  refine s_Mdl_confirm_0 ?_
  refine s_Mdl_confirm_1 (fun h1 => absurd h1 (by decide)) (fun h1 => ?_)
  refine s_Mdl_confirm_4 ?_
  exact ⟨rfl, rfl, rfl, h⟩
