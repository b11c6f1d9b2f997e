/-! The reference: connections and ticks -/
def m_sf (s : MS) (t : Nat) : MS := match s.2 (100 + t) with
  | [] => s
  | w :: _ => tu s 31 (m_snd (s.2 31) (rqr (nI t) (s.1 24 t) w))
theorem sp_sfR {Γ : ex_G} {d : Nat} {K : ex_K} {I : ex_I} {F : ex_F} {b : Nat} {m t : Nat} {ad : Nat → Nat} {s : MS} (hR : rf_ok K F m ad) (h : rr I m ad s) (ht : t < 3) {w : Nat → Int32} {Q : List (Nat → Int32)} (hQ : s.2 (100 + t) = w :: Q) :
    ex_E Γ (d + 1) M_Mdl_sendFirst 0 [some (.inr (some m)), some (.inl (nI t)), none] [] K I F b (fun x K' I' F' => x = none ∧ K = K' ∧ F = F' ∧ rr I' m ad (m_sf s t)) := by
  have hq := h.2.2.2.2.2.2.2.1 t ht
  rw [hQ] at hq
  refine ex_post (fun x K' I' F' z => ?_) (sp_sendFirst hR ht hq h.2.2.2.2.2.2.1)
  obtain ⟨z1, z2, z3, z4, z5, z6⟩ := z
  refine ⟨z1, z2, z3, ?_⟩
  unfold m_sf
  rw [hQ]
  rw [h.1 24 (by decide)] at z6
  exact rr_fly hR h z4 z5 z6
def m_beg (s : MS) (t : Nat) : MS := match s.2 (100 + t) with
  | [] => s
  | _ :: _ => m_sf (cw (cw s 24 t (s.1 24 t + 1)) 25 t (s.1 805 0)) t
theorem sp_begR {Γ : ex_G} {d : Nat} {K : ex_K} {I : ex_I} {F : ex_F} {b : Nat} {m t : Nat} {ad : Nat → Nat} {s : MS} (hR : rf_ok K F m ad) (h : rr I m ad s) (ht : t < 3) :
    ex_E Γ (d + 2) M_Mdl_begin 0 [some (.inr (some m)), some (.inl (nI t))] [] K I F b (fun x K' I' F' => x = none ∧ K = K' ∧ F = F' ∧ rr I' m ad (m_beg s t)) := by
  have m1 := hR.1
  have hq := h.2.2.2.2.2.2.2.1 t ht
  unfold m_beg
  cases hQ : s.2 (100 + t) with
  | nil =>
    rw [hQ] at hq
    refine ex_up (by omega) (ex_post (fun x K' I' F' z => ?_) (sp_begin_no (d := d) hR ht (by rw [hq.1]; rfl)))
    obtain ⟨z1, z2, z3, z4⟩ := z
    exact ⟨z1, z2, z3, by rw [← z4]; exact h⟩
  | cons w Q =>
    rw [hQ] at hq
    have hl := hq.2.1
    have hne : ¬ I 21 (ad 21) t = 0 := by rw [hq.1]; exact nI_ne0 (by simp) (by omega)
    refine s_Mdl_begin_0 ?_
    refine s_Mdl_begin_1 (by first | rfl | assumption | (simp [*]; done)) (by first | rfl | assumption | (simp [*]; done)) ?_
    refine s_Mdl_begin_4 ?_
    refine s_Mdl_begin_5 (by first | exact rf_count hR | rfl) (by exact rk_count hR) (by rw [rn_count hR]; exact n_in (a := t) (by first | rfl | (simp only [nl_1, nl_2, nl_3, nl_4, nl_5, nl_6, nl_7, nl_8, nl_9, nl_10, nl_11, nl_12, nl_13, nl_14, nl_15, nl_16, nl_32, nl_240, nl_250, nl_255, nl_265, nl_270, nl_0, nI_add, pk_mul]; done)) (by omega) (by omega)) ?_
    refine ex_ixl (q := t) (by first | rfl | (simp only [nl_1, nl_2, nl_3, nl_4, nl_5, nl_6, nl_7, nl_8, nl_9, nl_10, nl_11, nl_12, nl_13, nl_14, nl_15, nl_16, nl_32, nl_240, nl_250, nl_255, nl_265, nl_270, nl_0, nI_add, pk_mul]; done)) (by omega) ?_
    refine s_Mdl_begin_6 (fun h6 => ?_) (fun h6 => absurd h6 (by exact hne))
    refine s_Mdl_begin_10 ?_
    refine s_Mdl_begin_11 (by first | rfl | assumption | (simp [*]; done)) (by first | rfl | assumption | (simp [*]; done)) ?_
    refine s_Mdl_begin_14 ?_
    refine s_Mdl_begin_15 ?_
    refine s_Mdl_begin_16 (by first | exact rf_given hR | rfl) (by exact rk_given hR) (by rw [rn_given hR]; exact n_in (a := t) (by first | rfl | (simp only [nl_1, nl_2, nl_3, nl_4, nl_5, nl_6, nl_7, nl_8, nl_9, nl_10, nl_11, nl_12, nl_13, nl_14, nl_15, nl_16, nl_32, nl_240, nl_250, nl_255, nl_265, nl_270, nl_0, nI_add, pk_mul]; done)) (by omega) (by omega)) ?_
    refine ex_ixl (q := t) (by first | rfl | (simp only [nl_1, nl_2, nl_3, nl_4, nl_5, nl_6, nl_7, nl_8, nl_9, nl_10, nl_11, nl_12, nl_13, nl_14, nl_15, nl_16, nl_32, nl_240, nl_250, nl_255, nl_265, nl_270, nl_0, nI_add, pk_mul]; done)) (by omega) ?_
    refine s_Mdl_begin_17 ?_
    refine s_Mdl_begin_18 ?_
    refine s_Mdl_begin_19 (by first | exact rf_given hR | rfl) (by exact rk_given hR) (by rw [rn_given hR]; exact n_in (a := t) (by first | rfl | (simp only [nl_1, nl_2, nl_3, nl_4, nl_5, nl_6, nl_7, nl_8, nl_9, nl_10, nl_11, nl_12, nl_13, nl_14, nl_15, nl_16, nl_32, nl_240, nl_250, nl_255, nl_265, nl_270, nl_0, nI_add, pk_mul]; done)) (by omega) (by omega)) ?_
    refine ex_ixs (q := t) (by first | rfl | (simp only [nl_1, nl_2, nl_3, nl_4, nl_5, nl_6, nl_7, nl_8, nl_9, nl_10, nl_11, nl_12, nl_13, nl_14, nl_15, nl_16, nl_32, nl_240, nl_250, nl_255, nl_265, nl_270, nl_0, nI_add, pk_mul]; done)) (by omega) ?_
    refine s_Mdl_begin_20 ?_
    refine s_Mdl_begin_21 (by first | rfl | assumption | (simp [*]; done)) (by first | rfl | assumption | (simp [*]; done)) ?_
    refine s_Mdl_begin_24 ?_
    refine s_Mdl_begin_25 ?_
    refine s_Mdl_begin_26 (by first | rfl | assumption | (simp [*]; done)) (by first | rfl | assumption | (simp [*]; done)) ?_
    refine s_Mdl_begin_29 (by first | exact rf_since hR | rfl) (by exact rk_since hR) (by rw [rn_since hR]; exact n_in (a := t) (by first | rfl | (simp only [nl_1, nl_2, nl_3, nl_4, nl_5, nl_6, nl_7, nl_8, nl_9, nl_10, nl_11, nl_12, nl_13, nl_14, nl_15, nl_16, nl_32, nl_240, nl_250, nl_255, nl_265, nl_270, nl_0, nI_add, pk_mul]; done)) (by omega) (by omega)) ?_
    refine ex_ixs (q := t) (by first | rfl | (simp only [nl_1, nl_2, nl_3, nl_4, nl_5, nl_6, nl_7, nl_8, nl_9, nl_10, nl_11, nl_12, nl_13, nl_14, nl_15, nl_16, nl_32, nl_240, nl_250, nl_255, nl_265, nl_270, nl_0, nI_add, pk_mul]; done)) (by omega) ?_
    rw [ex_ui_f _ _ _ _ (by decide), h.2.2.1 805 (by decide), h.1 24 (by decide)]
    have h2 := rr_ua (i := t) (x := s.1 805 0) hR (rr_ua (i := t) (x := s.1 24 t + 1) hR h (k := 24) (by decide)) (k := 25) (by decide)
    refine s_Mdl_begin_30 ?_
    refine s_Mdl_begin_31 ?_
    refine s_Mdl_begin_32 (b1 := 0) (b2 := b) (by first | rfl | assumption | (simp [*]; done)) (by first | rfl | assumption | (simp [*]; done)) (sp_sfR hR h2 ht (w := w) (Q := Q) hQ) ?_ (by omega)
    rintro _ _ I2 _ ⟨rfl, rfl, rfl, r2⟩
    dsimp only [Option.toList, List.cons_append, List.nil_append]
    refine s_Mdl_begin_35 ?_
    exact ⟨rfl, rfl, rfl, r2⟩
theorem sp_shiftR {Γ : ex_G} {d : Nat} {K : ex_K} {I : ex_I} {F : ex_F} {b : Nat} {m t : Nat} {ad : Nat → Nat} {s : MS} (hR : rf_ok K F m ad) (h : rr I m ad s) (ht : t < 3) {w : Nat → Int32} {Q : List (Nat → Int32)} (hQ : s.2 (100 + t) = w :: Q) :
    ex_E Γ d M_Mdl_shift 0 [some (.inr (some m)), some (.inl (nI t)), none] [] K I F b (fun x K' I' F' => x = none ∧ K = K' ∧ F = F' ∧ rr I' m ad (tu s (100 + t) Q)) := by
  have hq := h.2.2.2.2.2.2.2.1 t ht
  rw [hQ] at hq
  refine ex_post (fun x K' I' F' z => ?_) (sp_shift hR ht hq)
  obtain ⟨z1, z2, z3, z4, z5, z6⟩ := z
  exact ⟨z1, z2, z3, rr_que hR ht h z4 z5 z6⟩
theorem sp_repR {Γ : ex_G} {d : Nat} {K : ex_K} {I : ex_I} {F : ex_F} {b : Nat} {m : Nat} {r c t a w : Int32} {ad : Nat → Nat} {s : MS} (hR : rf_ok K F m ad) (h : rr I m ad s) :
    ex_E Γ d M_Mdl_reply 0 [some (.inr (some m)), some (.inl r), some (.inl c), some (.inl t), some (.inl a), some (.inl w)] [] K I F b (fun x K' I' F' => x = none ∧ K = K' ∧ F = F' ∧ rr I' m ad (m_rep s r c t a w)) := by
  refine ex_post (fun x K' I' F' z => ?_) (sp_reply hR)
  obtain ⟨z1, z2, z3, z4⟩ := z
  exact ⟨z1, z2, z3, by rw [← z4]; exact rr_rep hR h _ _ _ _ _⟩
theorem m_rep_2 (s : MS) (r c t a w : Int32) : (m_rep s r c t a w).2 = s.2 := by
  unfold m_rep
  split <;> rfl
theorem m_rep_1 (s : MS) (r c t a w : Int32) {k : Nat} (h : k ∉ [17, 18, 19, 20]) : (m_rep s r c t a w).1 k = s.1 k := by
  simp at h
  unfold m_rep
  split
  · rw [cw_ne _ _ _ h.2.2.2, cw_ne _ _ _ h.2.2.1, cw_ne _ _ _ h.2.1, cw_ne _ _ _ h.1]
  · rfl
def m_reps (t : Nat) : List (Nat → Int32) → MS → MS
  | [], s => s
  | w :: Q, s => m_reps t Q (tu (m_rep s (w 0) 502 0 0 0) (100 + t) Q)
theorem lp_reps {Γ : ex_G} {d : Nat} {K : ex_K} {F : ex_F} {b : Nat} {m t : Nat} {ad : Nat → Nat} (hR : rf_ok K F m ad) (ht : t < 3) : ∀ (Q : List (Nat → Int32)) (s : MS) (I : ex_I), rr I m ad s → s.2 (100 + t) = Q →
    ex_E Γ (d + 1) M_Mdl_giveUp 74 [some (.inr (some m)), some (.inl (nI t))] [] K I F b (fun x K' I' F' => x = none ∧ K = K' ∧ F = F' ∧ rr I' m ad (m_reps t Q s)) := by
  have m1 := hR.1
  intro Q
  induction Q with
  | nil =>
    intro s I h hQ
    have hq := h.2.2.2.2.2.2.2.1 t ht
    rw [hQ] at hq
    have h0 : I 21 (ad 21) t = 0 := by rw [hq.1]; rfl
    refine s_Mdl_giveUp_74 ?_
    refine s_Mdl_giveUp_75 (by first | rfl | assumption | (simp [*]; done)) (by first | rfl | assumption | (simp [*]; done)) ?_
    refine s_Mdl_giveUp_78 ?_
    refine s_Mdl_giveUp_79 (by first | exact rf_count hR | rfl) (by exact rk_count hR) (by rw [rn_count hR]; exact n_in (a := t) (by first | rfl | (simp only [nl_1, nl_2, nl_3, nl_4, nl_5, nl_6, nl_7, nl_8, nl_9, nl_10, nl_11, nl_12, nl_13, nl_14, nl_15, nl_16, nl_32, nl_240, nl_250, nl_255, nl_265, nl_270, nl_0, nI_add, pk_mul]; done)) (by omega) (by omega)) ?_
    refine ex_ixl (q := t) (by first | rfl | (simp only [nl_1, nl_2, nl_3, nl_4, nl_5, nl_6, nl_7, nl_8, nl_9, nl_10, nl_11, nl_12, nl_13, nl_14, nl_15, nl_16, nl_32, nl_240, nl_250, nl_255, nl_265, nl_270, nl_0, nI_add, pk_mul]; done)) (by omega) ?_
    refine s_Mdl_giveUp_80 (fun h80 => ?_) (fun h80 => absurd h80 (by rw [h0]; exact fun q => q (by decide)))
    refine s_Mdl_giveUp_110 ?_
    exact ⟨rfl, rfl, rfl, h⟩
  | cons w Q ih =>
    intro s I h hQ
    have hq := h.2.2.2.2.2.2.2.1 t ht
    rw [hQ] at hq
    have hl := hq.2.1
    have w0 : I 21 (ad 22) (32 * t) = w 0 := by simpa using (hq.2.2 0 w rfl).1 0 (by decide)
    refine s_Mdl_giveUp_74 ?_
    refine s_Mdl_giveUp_75 (by first | rfl | assumption | (simp [*]; done)) (by first | rfl | assumption | (simp [*]; done)) ?_
    refine s_Mdl_giveUp_78 ?_
    refine s_Mdl_giveUp_79 (by first | exact rf_count hR | rfl) (by exact rk_count hR) (by rw [rn_count hR]; exact n_in (a := t) (by first | rfl | (simp only [nl_1, nl_2, nl_3, nl_4, nl_5, nl_6, nl_7, nl_8, nl_9, nl_10, nl_11, nl_12, nl_13, nl_14, nl_15, nl_16, nl_32, nl_240, nl_250, nl_255, nl_265, nl_270, nl_0, nI_add, pk_mul]; done)) (by omega) (by omega)) ?_
    refine ex_ixl (q := t) (by first | rfl | (simp only [nl_1, nl_2, nl_3, nl_4, nl_5, nl_6, nl_7, nl_8, nl_9, nl_10, nl_11, nl_12, nl_13, nl_14, nl_15, nl_16, nl_32, nl_240, nl_250, nl_255, nl_265, nl_270, nl_0, nI_add, pk_mul]; done)) (by omega) ?_
    refine s_Mdl_giveUp_80 (fun h80 => absurd h80 (by rw [hq.1]; exact nI_nle (by simp) (by omega))) (fun h80 => ?_)
    refine s_Mdl_giveUp_83 ?_
    refine s_Mdl_giveUp_84 ?_
    refine s_Mdl_giveUp_85 (by first | rfl | assumption | (simp [*]; done)) (by first | rfl | assumption | (simp [*]; done)) ?_
    refine s_Mdl_giveUp_88 ?_
    refine s_Mdl_giveUp_90 ?_
    refine s_Mdl_giveUp_91 ?_
    refine s_Mdl_giveUp_92 (by first | exact rf_wait hR | rfl) (by exact rk_wait hR) (by rw [rn_wait hR]; exact n_in (a := (32 * t)) (by first | rfl | (simp only [nl_1, nl_2, nl_3, nl_4, nl_5, nl_6, nl_7, nl_8, nl_9, nl_10, nl_11, nl_12, nl_13, nl_14, nl_15, nl_16, nl_32, nl_240, nl_250, nl_255, nl_265, nl_270, nl_0, nI_add, pk_mul]; done)) (by omega) (by omega)) ?_
    refine ex_ixl (q := (32 * t)) (by first | rfl | (simp only [nl_1, nl_2, nl_3, nl_4, nl_5, nl_6, nl_7, nl_8, nl_9, nl_10, nl_11, nl_12, nl_13, nl_14, nl_15, nl_16, nl_32, nl_240, nl_250, nl_255, nl_265, nl_270, nl_0, nI_add, pk_mul]; done)) (by omega) ?_
    rw [w0]
    refine s_Mdl_giveUp_93 ?_
    refine s_Mdl_giveUp_96 ?_
    refine s_Mdl_giveUp_97 ?_
    refine s_Mdl_giveUp_98 ?_
    refine s_Mdl_giveUp_99 (b1 := 0) (b2 := b) (by first | rfl | assumption | (simp [*]; done)) (by first | rfl | assumption | (simp [*]; done)) (ex_up (by omega) (sp_repR (d := d) hR h)) ?_ (by omega)
    rintro _ _ I2 _ ⟨rfl, rfl, rfl, r2⟩
    dsimp only [Option.toList, List.cons_append, List.nil_append]
    refine s_Mdl_giveUp_102 ?_
    refine s_Mdl_giveUp_103 ?_
    refine s_Mdl_giveUp_104 (b1 := 0) (b2 := b) (by first | rfl | assumption | (simp [*]; done)) (by first | rfl | assumption | (simp [*]; done)) (ex_up (by omega) (sp_shiftR (d := d) hR r2 ht (w := w) (Q := Q) (by rw [m_rep_2]; exact hQ))) ?_ (by omega)
    rintro _ _ I3 _ ⟨rfl, rfl, rfl, r3⟩
    dsimp only [Option.toList, List.cons_append, List.nil_append]
    refine s_Mdl_giveUp_107 ?_
    exact ih _ I3 r3 (tu_at _ _ _)
def m_gu (s : MS) (t : Nat) : MS := match s.2 (100 + t) with
  | [] => s
  | w :: Q =>
    if 2 ≤ (cw (tu (m_rep s (w 0) 504 0 0 0) (100 + t) Q) 26 t ((tu (m_rep s (w 0) 504 0 0 0) (100 + t) Q).1 26 t + 1)).1 26 t then m_reps t Q (cw (cw (cw (cw (tu (m_rep s (w 0) 504 0 0 0) (100 + t) Q) 26 t ((tu (m_rep s (w 0) 504 0 0 0) (100 + t) Q).1 26 t + 1)) 27 t 1) 26 t 0) 25 t (s.1 805 0))
    else m_beg (cw (tu (m_rep s (w 0) 504 0 0 0) (100 + t) Q) 26 t ((tu (m_rep s (w 0) 504 0 0 0) (100 + t) Q).1 26 t + 1)) t
theorem sp_guR {Γ : ex_G} {d : Nat} {K : ex_K} {I : ex_I} {F : ex_F} {b : Nat} {m t : Nat} {ad : Nat → Nat} {s : MS} (hR : rf_ok K F m ad) (h : rr I m ad s) (ht : t < 3) {w : Nat → Int32} {Q : List (Nat → Int32)} (hQ : s.2 (100 + t) = w :: Q) :
    ex_E Γ (d + 3) M_Mdl_giveUp 0 [some (.inr (some m)), some (.inl (nI t))] [] K I F b (fun x K' I' F' => x = none ∧ K = K' ∧ F = F' ∧ rr I' m ad (m_gu s t)) := by
  have m1 := hR.1
  have hq := h.2.2.2.2.2.2.2.1 t ht
  rw [hQ] at hq
  have hl := hq.2.1
  have w0 : I 21 (ad 22) (32 * t) = w 0 := by simpa using (hq.2.2 0 w rfl).1 0 (by decide)
  have b1 : vp_nar .boolean 1 = 1 := by decide
  unfold m_gu
  rw [hQ]
  simp only []
  refine s_Mdl_giveUp_0 ?_
  refine s_Mdl_giveUp_1 ?_
  refine s_Mdl_giveUp_2 (by first | rfl | assumption | (simp [*]; done)) (by first | rfl | assumption | (simp [*]; done)) ?_
  refine s_Mdl_giveUp_5 ?_
  refine s_Mdl_giveUp_7 ?_
  refine s_Mdl_giveUp_8 ?_
  refine s_Mdl_giveUp_9 (by first | exact rf_wait hR | rfl) (by exact rk_wait hR) (by rw [rn_wait hR]; exact n_in (a := (32 * t)) (by first | rfl | (simp only [nl_1, nl_2, nl_3, nl_4, nl_5, nl_6, nl_7, nl_8, nl_9, nl_10, nl_11, nl_12, nl_13, nl_14, nl_15, nl_16, nl_32, nl_240, nl_250, nl_255, nl_265, nl_270, nl_0, nI_add, pk_mul]; done)) (by omega) (by omega)) ?_
  refine ex_ixl (q := (32 * t)) (by first | rfl | (simp only [nl_1, nl_2, nl_3, nl_4, nl_5, nl_6, nl_7, nl_8, nl_9, nl_10, nl_11, nl_12, nl_13, nl_14, nl_15, nl_16, nl_32, nl_240, nl_250, nl_255, nl_265, nl_270, nl_0, nI_add, pk_mul]; done)) (by omega) ?_
  rw [w0]
  refine s_Mdl_giveUp_10 ?_
  refine s_Mdl_giveUp_13 ?_
  refine s_Mdl_giveUp_14 ?_
  refine s_Mdl_giveUp_15 ?_
  refine s_Mdl_giveUp_16 (b1 := 0) (b2 := b) (by first | rfl | assumption | (simp [*]; done)) (by first | rfl | assumption | (simp [*]; done)) (ex_up (by omega) (sp_repR (d := d) hR h)) ?_ (by omega)
  rintro _ _ I2 _ ⟨rfl, rfl, rfl, r2⟩
  dsimp only [Option.toList, List.cons_append, List.nil_append]
  refine s_Mdl_giveUp_19 ?_
  refine s_Mdl_giveUp_20 ?_
  refine s_Mdl_giveUp_21 (b1 := 0) (b2 := b) (by first | rfl | assumption | (simp [*]; done)) (by first | rfl | assumption | (simp [*]; done)) (ex_up (by omega) (sp_shiftR (d := d) hR r2 ht (w := w) (Q := Q) (by rw [m_rep_2]; exact hQ))) ?_ (by omega)
  rintro _ _ I3 _ ⟨rfl, rfl, rfl, r3⟩
  dsimp only [Option.toList, List.cons_append, List.nil_append]
  refine s_Mdl_giveUp_24 ?_
  refine s_Mdl_giveUp_25 (by first | rfl | assumption | (simp [*]; done)) (by first | rfl | assumption | (simp [*]; done)) ?_
  refine s_Mdl_giveUp_28 ?_
  refine s_Mdl_giveUp_29 ?_
  refine s_Mdl_giveUp_30 (by first | exact rf_lost hR | rfl) (by exact rk_lost hR) (by rw [rn_lost hR]; exact n_in (a := t) (by first | rfl | (simp only [nl_1, nl_2, nl_3, nl_4, nl_5, nl_6, nl_7, nl_8, nl_9, nl_10, nl_11, nl_12, nl_13, nl_14, nl_15, nl_16, nl_32, nl_240, nl_250, nl_255, nl_265, nl_270, nl_0, nI_add, pk_mul]; done)) (by omega) (by omega)) ?_
  refine ex_ixl (q := t) (by first | rfl | (simp only [nl_1, nl_2, nl_3, nl_4, nl_5, nl_6, nl_7, nl_8, nl_9, nl_10, nl_11, nl_12, nl_13, nl_14, nl_15, nl_16, nl_32, nl_240, nl_250, nl_255, nl_265, nl_270, nl_0, nI_add, pk_mul]; done)) (by omega) ?_
  refine s_Mdl_giveUp_31 ?_
  refine s_Mdl_giveUp_32 ?_
  refine s_Mdl_giveUp_33 (by first | exact rf_lost hR | rfl) (by exact rk_lost hR) (by rw [rn_lost hR]; exact n_in (a := t) (by first | rfl | (simp only [nl_1, nl_2, nl_3, nl_4, nl_5, nl_6, nl_7, nl_8, nl_9, nl_10, nl_11, nl_12, nl_13, nl_14, nl_15, nl_16, nl_32, nl_240, nl_250, nl_255, nl_265, nl_270, nl_0, nI_add, pk_mul]; done)) (by omega) (by omega)) ?_
  refine ex_ixs (q := t) (by first | rfl | (simp only [nl_1, nl_2, nl_3, nl_4, nl_5, nl_6, nl_7, nl_8, nl_9, nl_10, nl_11, nl_12, nl_13, nl_14, nl_15, nl_16, nl_32, nl_240, nl_250, nl_255, nl_265, nl_270, nl_0, nI_add, pk_mul]; done)) (by omega) ?_
  have r4 := rr_ua (i := t) (x := I3 21 (ad 26) t + 1) hR r3 (k := 26) (by decide)
  rw [r3.1 26 (by decide)] at r4 ⊢
  generalize hs4 : cw (tu (m_rep s (w 0) 504 0 0 0) (100 + t) Q) 26 t ((tu (m_rep s (w 0) 504 0 0 0) (100 + t) Q).1 26 t + 1) = s4 at r4 ⊢
  have hQ4 : s4.2 (100 + t) = Q := by rw [← hs4]; exact tu_at _ _ _
  have ht4 : s4.1 805 0 = s.1 805 0 := by rw [← hs4, cw_ne _ _ _ (by decide)]; show (m_rep s (w 0) 504 0 0 0).1 805 0 = _; rw [m_rep_1 _ _ _ _ _ _ (by decide)]
  generalize hI4 : ex_ui I3 21 (ad 26) t ((tu (m_rep s (w 0) 504 0 0 0) (100 + t) Q).1 26 t + 1) = I4 at r4 ⊢
  refine s_Mdl_giveUp_34 ?_
  refine s_Mdl_giveUp_35 (by first | rfl | assumption | (simp [*]; done)) (by first | rfl | assumption | (simp [*]; done)) ?_
  refine s_Mdl_giveUp_38 ?_
  refine s_Mdl_giveUp_39 (by first | exact rf_lost hR | rfl) (by exact rk_lost hR) (by rw [rn_lost hR]; exact n_in (a := t) (by first | rfl | (simp only [nl_1, nl_2, nl_3, nl_4, nl_5, nl_6, nl_7, nl_8, nl_9, nl_10, nl_11, nl_12, nl_13, nl_14, nl_15, nl_16, nl_32, nl_240, nl_250, nl_255, nl_265, nl_270, nl_0, nI_add, pk_mul]; done)) (by omega) (by omega)) ?_
  refine ex_ixl (q := t) (by first | rfl | (simp only [nl_1, nl_2, nl_3, nl_4, nl_5, nl_6, nl_7, nl_8, nl_9, nl_10, nl_11, nl_12, nl_13, nl_14, nl_15, nl_16, nl_32, nl_240, nl_250, nl_255, nl_265, nl_270, nl_0, nI_add, pk_mul]; done)) (by omega) ?_
  refine s_Mdl_giveUp_40 ?_
  refine s_Mdl_giveUp_41 (fun h41 => ?_) (fun h41 => ?_)
  · refine s_Mdl_giveUp_50 ?_
    refine s_Mdl_giveUp_51 (by first | rfl | assumption | (simp [*]; done)) (by first | rfl | assumption | (simp [*]; done)) ?_
    refine s_Mdl_giveUp_54 ?_
    refine s_Mdl_giveUp_55 ?_
    refine s_Mdl_giveUp_56 (by first | exact rf_down hR | rfl) (by exact rk_down hR) (by rw [rn_down hR]; exact n_in (a := t) (by first | rfl | (simp only [nl_1, nl_2, nl_3, nl_4, nl_5, nl_6, nl_7, nl_8, nl_9, nl_10, nl_11, nl_12, nl_13, nl_14, nl_15, nl_16, nl_32, nl_240, nl_250, nl_255, nl_265, nl_270, nl_0, nI_add, pk_mul]; done)) (by omega) (by omega)) ?_
    refine ex_ixs (q := t) (by first | rfl | (simp only [nl_1, nl_2, nl_3, nl_4, nl_5, nl_6, nl_7, nl_8, nl_9, nl_10, nl_11, nl_12, nl_13, nl_14, nl_15, nl_16, nl_32, nl_240, nl_250, nl_255, nl_265, nl_270, nl_0, nI_add, pk_mul]; done)) (by omega) ?_
    refine s_Mdl_giveUp_57 ?_
    refine s_Mdl_giveUp_58 (by first | rfl | assumption | (simp [*]; done)) (by first | rfl | assumption | (simp [*]; done)) ?_
    refine s_Mdl_giveUp_61 ?_
    refine s_Mdl_giveUp_62 ?_
    refine s_Mdl_giveUp_63 (by first | exact rf_lost hR | rfl) (by exact rk_lost hR) (by rw [rn_lost hR]; exact n_in (a := t) (by first | rfl | (simp only [nl_1, nl_2, nl_3, nl_4, nl_5, nl_6, nl_7, nl_8, nl_9, nl_10, nl_11, nl_12, nl_13, nl_14, nl_15, nl_16, nl_32, nl_240, nl_250, nl_255, nl_265, nl_270, nl_0, nI_add, pk_mul]; done)) (by omega) (by omega)) ?_
    refine ex_ixs (q := t) (by first | rfl | (simp only [nl_1, nl_2, nl_3, nl_4, nl_5, nl_6, nl_7, nl_8, nl_9, nl_10, nl_11, nl_12, nl_13, nl_14, nl_15, nl_16, nl_32, nl_240, nl_250, nl_255, nl_265, nl_270, nl_0, nI_add, pk_mul]; done)) (by omega) ?_
    refine s_Mdl_giveUp_64 ?_
    refine s_Mdl_giveUp_65 (by first | rfl | assumption | (simp [*]; done)) (by first | rfl | assumption | (simp [*]; done)) ?_
    refine s_Mdl_giveUp_68 ?_
    refine s_Mdl_giveUp_69 ?_
    refine s_Mdl_giveUp_70 (by first | rfl | assumption | (simp [*]; done)) (by first | rfl | assumption | (simp [*]; done)) ?_
    refine s_Mdl_giveUp_73 (by first | exact rf_since hR | rfl) (by exact rk_since hR) (by rw [rn_since hR]; exact n_in (a := t) (by first | rfl | (simp only [nl_1, nl_2, nl_3, nl_4, nl_5, nl_6, nl_7, nl_8, nl_9, nl_10, nl_11, nl_12, nl_13, nl_14, nl_15, nl_16, nl_32, nl_240, nl_250, nl_255, nl_265, nl_270, nl_0, nI_add, pk_mul]; done)) (by omega) (by omega)) ?_
    refine ex_ixs (q := t) (by first | rfl | (simp only [nl_1, nl_2, nl_3, nl_4, nl_5, nl_6, nl_7, nl_8, nl_9, nl_10, nl_11, nl_12, nl_13, nl_14, nl_15, nl_16, nl_32, nl_240, nl_250, nl_255, nl_265, nl_270, nl_0, nI_add, pk_mul]; done)) (by omega) ?_
    rw [r4.1 26 (by decide)] at h41
    rw [if_pos h41, b1, ex_ui_f _ _ _ _ (by decide), ex_ui_f _ _ _ _ (by decide), r4.2.2.1 805 (by decide), ht4]
    have r5 := rr_ua (i := t) (x := s.1 805 0) hR (rr_ua (i := t) (x := 0) hR (rr_ub (i := t) (x := 1) hR r4 (k := 27) (by decide)) (k := 26) (by decide)) (k := 25) (by decide)
    exact ex_up (by omega) (lp_reps (d := d) hR ht Q _ _ r5 hQ4)
  · refine s_Mdl_giveUp_44 ?_
    refine s_Mdl_giveUp_45 ?_
    refine s_Mdl_giveUp_46 (b1 := 0) (b2 := b) (by first | rfl | assumption | (simp [*]; done)) (by first | rfl | assumption | (simp [*]; done)) (sp_begR hR r4 ht) ?_ (by omega)
    rintro _ _ I5 _ ⟨rfl, rfl, rfl, r5⟩
    dsimp only [Option.toList, List.cons_append, List.nil_append]
    refine s_Mdl_giveUp_49 ?_
    rw [r4.1 26 (by decide)] at h41
    rw [if_neg h41]
    exact ⟨rfl, rfl, rfl, r5⟩
def prow (t : Int32) : Nat → Int32 := fun j => match j with
  | 0 => t
  | _ => 0
theorem rr_bl {K : ex_K} {F : ex_F} {I : ex_I} {m : Nat} {ad : Nat → Nat} {s : MS} {X : Nat → Int32} (hR : rf_ok K F m ad) (h : rr I m ad s) (hX : ∀ c, (c < 255 ∨ 270 ≤ c) → X c = I 21 (ad 31) c) : rr (ex_wi I 21 (ad 31) X) m ad s := by
  have f : fr I (ex_wi I 21 (ad 31) X) ad [834] [31] := fr_wa hR.2.1 (Or.inl rfl) (by decide)
  have e : tu s 31 (s.2 31) = s := by
    unfold tu
    refine Prod.ext rfl ?_
    funext j
    show (if j = 31 then s.2 31 else s.2 j) = s.2 j
    by_cases z : j = 31
    · rw [if_pos z, z]
    · rw [if_neg z]
  rw [← e]
  refine rr_fly hR h f (fun c h1 h2 => by rw [ex_wi_at]; exact hX c h2) ?_
  obtain ⟨u1, u2, u3⟩ := h.2.2.2.2.2.2.1
  refine ⟨by rw [ex_wi_f _ _ _ (by decide)]; exact u1, u2, fun e row he j hj => ?_⟩
  have := (List.getElem?_eq_some_iff.mp he).1
  rw [ex_wi_at, hX _ (by omega)]
  exact u3 e row he j hj
theorem bl_out (X : Nat → Int32) (x1 x2 x3 x4 : Int32) : ∀ c, (c < 255 ∨ 270 ≤ c) → bl X x1 x2 x3 x4 c = X c := by
  intro c hc
  unfold bl
  rw [if_neg (by omega), if_neg (by omega), if_neg (by omega), if_neg (by omega), if_neg (by omega)]
/-- a row of the making is sent -/
theorem rr_sent {K : ex_K} {F : ex_F} {I : ex_I} {m q : Nat} {ad : Nat → Nat} {s : MS} {row : Nat → Int32} (hR : rf_ok K F m ad) (h : rr I m ad s) (hrow : ∀ j, j < 15 → I 21 (ad 31) (q + j) = row j) : rr (o_snd I m ad (s.2 31).length q) m ad (tu s 31 (m_snd (s.2 31) row)) :=
  rr_fly hR h (fr_snd hR.2.1) (fun c h1 _ => snd_hi h.2.2.2.2.2.2.1.2.1 c h1) (r_snd h.2.2.2.2.2.2.1 hrow)
def m_tk (s : MS) (t : Nat) : MS :=
  if s.1 27 t = 0 then (match s.2 (100 + t) with
    | [] => s
    | _ :: _ => if s.1 805 0 - s.1 25 t = 12 then m_gu s t else if s.1 805 0 - s.1 25 t = 4 ∨ s.1 805 0 - s.1 25 t = 8 then m_sf s t else s)
  else if (s.1 805 0 - s.1 25 t) - (s.1 805 0 - s.1 25 t) / 10 * 10 = 0 then tu s 31 (m_snd (s.2 31) (prow (nI t))) else s
theorem lp_tk {Γ : ex_G} {d : Nat} {K : ex_K} {I : ex_I} {F : ex_F} {b : Nat} {Q : Option ex_V → ex_K → ex_I → ex_F → Prop} {m t : Nat} {ad : Nat → Nat} {s : MS} (hR : rf_ok K F m ad) (h : rr I m ad s) (ht : t < 3) (kk : ∀ I' l2, rr I' m ad (m_tk s t) → ex_E Γ (d + 4) M_Mdl_tick 102 [some (.inr (some m)), some (.inl (nI t)), l2] [] K I' F b Q) {l2 : Option ex_V} :
    ex_E Γ (d + 4) M_Mdl_tick 17 [some (.inr (some m)), some (.inl (nI t)), l2] [] K I F b Q := by
  have m1 := hR.1
  have hq := h.2.2.2.2.2.2.2.1 t ht
  have hU := h.2.2.2.2.2.2.1
  have hl := hq.2.1
  unfold m_tk at kk
  refine s_Mdl_tick_17 ?_
  refine s_Mdl_tick_18 (by first | rfl | assumption | (simp [*]; done)) (by first | rfl | assumption | (simp [*]; done)) ?_
  refine s_Mdl_tick_21 ?_
  refine s_Mdl_tick_22 (by first | rfl | assumption | (simp [*]; done)) (by first | rfl | assumption | (simp [*]; done)) ?_
  refine s_Mdl_tick_25 ?_
  refine s_Mdl_tick_26 (by first | exact rf_since hR | rfl) (by exact rk_since hR) (by rw [rn_since hR]; exact n_in (a := t) (by first | rfl | (simp only [nl_1, nl_2, nl_3, nl_4, nl_5, nl_6, nl_7, nl_8, nl_9, nl_10, nl_11, nl_12, nl_13, nl_14, nl_15, nl_16, nl_32, nl_240, nl_250, nl_255, nl_265, nl_270, nl_0, nI_add, pk_mul]; done)) (by omega) (by omega)) ?_
  refine ex_ixl (q := t) (by first | rfl | (simp only [nl_1, nl_2, nl_3, nl_4, nl_5, nl_6, nl_7, nl_8, nl_9, nl_10, nl_11, nl_12, nl_13, nl_14, nl_15, nl_16, nl_32, nl_240, nl_250, nl_255, nl_265, nl_270, nl_0, nI_add, pk_mul]; done)) (by omega) ?_
  refine s_Mdl_tick_27 ?_
  rw [h.2.2.1 805 (by decide), h.1 25 (by decide)]
  refine s_Mdl_tick_28 ?_
  refine s_Mdl_tick_29 ?_
  refine s_Mdl_tick_30 (by first | rfl | assumption | (simp [*]; done)) (by first | rfl | assumption | (simp [*]; done)) ?_
  refine s_Mdl_tick_33 ?_
  refine s_Mdl_tick_34 (by first | exact rf_down hR | rfl) (by exact rk_down hR) (by rw [rn_down hR]; exact n_in (a := t) (by first | rfl | (simp only [nl_1, nl_2, nl_3, nl_4, nl_5, nl_6, nl_7, nl_8, nl_9, nl_10, nl_11, nl_12, nl_13, nl_14, nl_15, nl_16, nl_32, nl_240, nl_250, nl_255, nl_265, nl_270, nl_0, nI_add, pk_mul]; done)) (by omega) (by omega)) ?_
  refine ex_ixl (q := t) (by first | rfl | (simp only [nl_1, nl_2, nl_3, nl_4, nl_5, nl_6, nl_7, nl_8, nl_9, nl_10, nl_11, nl_12, nl_13, nl_14, nl_15, nl_16, nl_32, nl_240, nl_250, nl_255, nl_265, nl_270, nl_0, nI_add, pk_mul]; done)) (by omega) ?_
  rw [h.2.1 27 (by decide)]
  refine s_Mdl_tick_35 (fun h35 => ?_) (fun h35 => ?_)
  · refine s_Mdl_tick_63 ?_
    refine s_Mdl_tick_64 (by first | rfl | assumption | (simp [*]; done)) (by first | rfl | assumption | (simp [*]; done)) ?_
    refine s_Mdl_tick_67 ?_
    refine s_Mdl_tick_68 (by first | exact rf_count hR | rfl) (by exact rk_count hR) (by rw [rn_count hR]; exact n_in (a := t) (by first | rfl | (simp only [nl_1, nl_2, nl_3, nl_4, nl_5, nl_6, nl_7, nl_8, nl_9, nl_10, nl_11, nl_12, nl_13, nl_14, nl_15, nl_16, nl_32, nl_240, nl_250, nl_255, nl_265, nl_270, nl_0, nI_add, pk_mul]; done)) (by omega) (by omega)) ?_
    refine ex_ixl (q := t) (by first | rfl | (simp only [nl_1, nl_2, nl_3, nl_4, nl_5, nl_6, nl_7, nl_8, nl_9, nl_10, nl_11, nl_12, nl_13, nl_14, nl_15, nl_16, nl_32, nl_240, nl_250, nl_255, nl_265, nl_270, nl_0, nI_add, pk_mul]; done)) (by omega) ?_
    rw [hq.1]
    refine s_Mdl_tick_69 (fun h69 => ?_) (fun h69 => ?_)
    · have e : s.2 (100 + t) = [] := by
        cases hQ : s.2 (100 + t) with
        | nil => rfl
        | cons w Q =>
          rw [hQ] at h69 hl
          exact absurd h69 (nI_nle (by simp) (by omega))
      rw [if_pos h35, e] at kk
      exact kk _ _ h
    · refine s_Mdl_tick_72 ?_
      refine s_Mdl_tick_73 ?_
      refine s_Mdl_tick_75 (fun h75 => ?_) (fun h75 => ?_)
      · refine s_Mdl_tick_86 ?_
        refine s_Mdl_tick_87 ?_
        refine s_Mdl_tick_88 (fun h88 => ?_) (fun h88 => ?_)
        · obtain ⟨w, Q, hQ⟩ := List.exists_cons_of_length_pos (show 0 < (s.2 (100 + t)).length by
            rcases Nat.eq_zero_or_pos (s.2 (100 + t)).length with z | z
            · exact absurd (show nI (s.2 (100 + t)).length ≤ 0 by rw [z]; decide) h69
            · exact z)
          refine s_Mdl_tick_97 ?_
          refine s_Mdl_tick_98 ?_
          refine s_Mdl_tick_99 (b1 := 0) (b2 := b) (by first | rfl | assumption | (simp [*]; done)) (by first | rfl | assumption | (simp [*]; done)) (ex_up (by omega) (sp_sfR (d := d) hR h ht hQ)) ?_ (by omega)
          rintro _ _ I5 _ ⟨rfl, rfl, rfl, r5⟩
          dsimp only [Option.toList, List.cons_append, List.nil_append]
          rw [if_pos h35, hQ] at kk
          simp only [] at kk
          rw [if_neg h75, if_pos (Or.inl h88)] at kk
          exact kk _ _ r5
        · refine s_Mdl_tick_91 ?_
          refine s_Mdl_tick_92 ?_
          refine s_Mdl_tick_94 (fun h94 => ?_) (fun h94 => ?_)
          · rw [if_pos h35] at kk
            cases hQ : s.2 (100 + t) with
            | nil =>
              rw [hQ] at kk
              exact kk _ _ h
            | cons w Q =>
              rw [hQ] at kk
              simp only [] at kk
              rw [if_neg h75, if_neg (fun z => z.elim h88 h94)] at kk
              exact kk _ _ h
          · obtain ⟨w, Q, hQ⟩ := List.exists_cons_of_length_pos (show 0 < (s.2 (100 + t)).length by
              rcases Nat.eq_zero_or_pos (s.2 (100 + t)).length with z | z
              · exact absurd (show nI (s.2 (100 + t)).length ≤ 0 by rw [z]; decide) h69
              · exact z)
            refine s_Mdl_tick_97 ?_
            refine s_Mdl_tick_98 ?_
            refine s_Mdl_tick_99 (b1 := 0) (b2 := b) (by first | rfl | assumption | (simp [*]; done)) (by first | rfl | assumption | (simp [*]; done)) (ex_up (by omega) (sp_sfR (d := d) hR h ht hQ)) ?_ (by omega)
            rintro _ _ I5 _ ⟨rfl, rfl, rfl, r5⟩
            dsimp only [Option.toList, List.cons_append, List.nil_append]
            rw [if_pos h35, hQ] at kk
            simp only [] at kk
            rw [if_neg h75, if_pos (Or.inr h94)] at kk
            exact kk _ _ r5
      · obtain ⟨w, Q, hQ⟩ := List.exists_cons_of_length_pos (show 0 < (s.2 (100 + t)).length by
          rcases Nat.eq_zero_or_pos (s.2 (100 + t)).length with z | z
          · exact absurd (show nI (s.2 (100 + t)).length ≤ 0 by rw [z]; decide) h69
          · exact z)
        refine s_Mdl_tick_78 ?_
        refine s_Mdl_tick_79 ?_
        refine s_Mdl_tick_80 (b1 := 0) (b2 := b) (by first | rfl | assumption | (simp [*]; done)) (by first | rfl | assumption | (simp [*]; done)) (sp_guR hR h ht hQ) ?_ (by omega)
        rintro _ _ I5 _ ⟨rfl, rfl, rfl, r5⟩
        dsimp only [Option.toList, List.cons_append, List.nil_append]
        refine s_Mdl_tick_83 ?_
        rw [if_pos h35, hQ] at kk
        simp only [] at kk
        rw [if_pos h75] at kk
        exact kk _ _ r5
  · refine s_Mdl_tick_38 ?_
    refine s_Mdl_tick_39 ?_
    refine s_Mdl_tick_40 ?_
    refine s_Mdl_tick_41 ?_
    refine s_Mdl_tick_42 ?_
    refine s_Mdl_tick_43 (b1 := 0) (b2 := b) (by first | rfl | assumption | (simp [*]; done)) (by first | rfl | assumption | (simp [*]; done)) (ex_up (by omega) (sp_blank (d := d) hR)) ?_ (by omega)
    rintro _ _ _ _ ⟨rfl, rfl, rfl, rfl⟩
    dsimp only [Option.toList, List.cons_append, List.nil_append]
    have r2 := rr_bl hR h (bl_out (I 21 (ad 31)) (nI t) 0 0 0)
    refine s_Mdl_tick_46 ?_
    refine s_Mdl_tick_47 ?_
    refine s_Mdl_tick_49 (by decide) ?_
    refine s_Mdl_tick_50 (fun h50 => ?_) (fun h50 => ?_)
    · rw [if_neg h35, if_neg h50] at kk
      exact kk _ _ r2
    · refine s_Mdl_tick_53 ?_
      refine s_Mdl_tick_54 ?_
      refine s_Mdl_tick_57 (b1 := 0) (b2 := b) (by first | rfl | assumption | (simp [*]; done)) (by first | rfl | assumption | (simp [*]; done)) (ex_up (by omega) (sp_snd2 (d := d) (q := 255) hR rfl r2.2.2.2.2.2.2.1.1 r2.2.2.2.2.2.2.1.2.1 (by have := r2.2.2.2.2.2.2.1.2.1; omega) (by decide))) ?_ (by omega)
      rintro _ _ _ _ ⟨rfl, rfl, rfl, rfl⟩
      dsimp only [Option.toList, List.cons_append, List.nil_append]
      refine s_Mdl_tick_60 ?_
      rw [if_neg h35, if_pos h50] at kk
      exact kk _ _ (rr_sent hR r2 (fun j hj => by
        rw [ex_wi_at]
        rcases (by omega : j = 0 ∨ j = 1 ∨ j = 2 ∨ j = 3 ∨ j = 4 ∨ j = 5 ∨ j = 6 ∨ j = 7 ∨ j = 8 ∨ j = 9 ∨ j = 10 ∨ j = 11 ∨ j = 12 ∨ j = 13 ∨ j = 14) with rfl | rfl | rfl | rfl | rfl | rfl | rfl | rfl | rfl | rfl | rfl | rfl | rfl | rfl | rfl <;> simp [bl, prow]))
def m_tks : Nat → Nat → MS → MS
  | 0, _, s => s
  | n + 1, t, s => m_tks n (t + 1) (m_tk s t)
theorem lp_tick {Γ : ex_G} {d : Nat} {K : ex_K} {F : ex_F} {b : Nat} {Q : Option ex_V → ex_K → ex_I → ex_F → Prop} {m : Nat} {ad : Nat → Nat} (hR : rf_ok K F m ad) : ∀ n t s I l2, 3 - t = n → t ≤ 3 → rr I m ad s → (∀ I' l1 l2, rr I' m ad (m_tks n t s) → ex_E Γ (d + 4) M_Mdl_tick 108 [some (.inr (some m)), l1, l2] [] K I' F b Q) →
    ex_E Γ (d + 4) M_Mdl_tick 12 [some (.inr (some m)), some (.inl (nI t)), l2] [] K I F b Q := by
  intro n
  induction n with
  | zero =>
    intro t s I l2 hn ht h kk
    have e : t = 3 := by omega
    subst e
    refine s_Mdl_tick_12 ?_
    refine s_Mdl_tick_13 ?_
    refine s_Mdl_tick_14 (fun h14 => ?_) (fun h14 => absurd h14 (by exact fun q => q (nI_le (a := 3) (b := 3) (by omega) (by omega))))
    exact kk _ _ _ h
  | succ n ih =>
    intro t s I l2 hn ht h kk
    refine s_Mdl_tick_12 ?_
    refine s_Mdl_tick_13 ?_
    refine s_Mdl_tick_14 (fun h14 => absurd h14 (by exact nI_ge (a := t) (b := 3) (by omega) (by omega))) (fun h14 => ?_)
    refine lp_tk hR h (by omega) (fun I' l2 h' => ?_)
    refine s_Mdl_tick_102 ?_
    refine s_Mdl_tick_105 ?_
    rw [nI_1]
    exact ih (t + 1) _ I' _ (by omega) (by omega) h' kk
def m_tick (s : MS) : MS := m_tks 3 0 (cw s 805 0 (s.1 805 0 + 1))
theorem m_reps_T (t : Nat) : ∀ Q s, (m_reps t Q s).1 805 = s.1 805 := by
  intro Q
  induction Q with
  | nil => intro s; rfl
  | cons w Q ih =>
    intro s
    rw [m_reps, ih]
    show (m_rep s (w 0) 502 0 0 0).1 805 = _
    rw [m_rep_1 _ _ _ _ _ _ (by decide)]
theorem m_sf_T (s : MS) (t : Nat) : (m_sf s t).1 = s.1 := by
  unfold m_sf
  split <;> rfl
theorem m_beg_T (s : MS) (t : Nat) : (m_beg s t).1 805 = s.1 805 := by
  unfold m_beg
  split
  · rfl
  · rw [m_sf_T, cw_ne _ _ _ (by decide), cw_ne _ _ _ (by decide)]
theorem m_gu_T (s : MS) (t : Nat) : (m_gu s t).1 805 = s.1 805 := by
  unfold m_gu
  split
  · rfl
  · split
    · rw [m_reps_T, cw_ne _ _ _ (by decide), cw_ne _ _ _ (by decide), cw_ne _ _ _ (by decide), cw_ne _ _ _ (by decide)]
      show (m_rep s _ 504 0 0 0).1 805 = _
      rw [m_rep_1 _ _ _ _ _ _ (by decide)]
    · rw [m_beg_T, cw_ne _ _ _ (by decide)]
      show (m_rep s _ 504 0 0 0).1 805 = _
      rw [m_rep_1 _ _ _ _ _ _ (by decide)]
theorem m_tk_T (s : MS) (t : Nat) : (m_tk s t).1 805 = s.1 805 := by
  unfold m_tk
  split
  · split
    · rfl
    · split
      · exact m_gu_T s t
      · split
        · rw [m_sf_T]
        · rfl
  · split <;> rfl
theorem sp_tickR {Γ : ex_G} {d : Nat} {K : ex_K} {I : ex_I} {F : ex_F} {b : Nat} {m : Nat} {ad : Nat → Nat} {s : MS} (hR : rf_ok K F m ad) (h : rr I m ad s) :
    ex_E Γ (d + 4) M_Mdl_tick 0 [some (.inr (some m)), none, none] [] K I F b (fun x K' I' F' => x = some (.inl (s.1 805 0 + 1)) ∧ K = K' ∧ F = F' ∧ rr I' m ad (m_tick s)) := by
  have m1 := hR.1
  refine s_Mdl_tick_0 ?_
  refine s_Mdl_tick_1 ?_
  refine s_Mdl_tick_2 (by first | rfl | assumption | (simp [*]; done)) (by first | rfl | assumption | (simp [*]; done)) ?_
  refine s_Mdl_tick_5 ?_
  refine s_Mdl_tick_6 ?_
  refine s_Mdl_tick_7 (by first | rfl | assumption | (simp [*]; done)) (by first | rfl | assumption | (simp [*]; done)) ?_
  refine s_Mdl_tick_10 ?_
  refine s_Mdl_tick_11 ?_
  rw [h.2.2.1 805 (by decide)]
  refine lp_tick hR 3 0 _ _ _ rfl (by omega) (rr_us (K := K) (F := F) h (g := 805) (by decide)) (fun I' l1 l2 h' => ?_)
  refine s_Mdl_tick_108 ?_
  refine s_Mdl_tick_109 (by first | rfl | assumption | (simp [*]; done)) (by first | rfl | assumption | (simp [*]; done)) ?_
  refine s_Mdl_tick_112 ?_
  refine ⟨?_, rfl, rfl, h'⟩
  rw [h'.2.2.1 805 (by decide)]
  unfold m_tks m_tks m_tks m_tks
  rw [m_tk_T, m_tk_T, m_tk_T, cw_at]
  rfl
