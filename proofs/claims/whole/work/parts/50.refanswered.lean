/-! The reference: an answer has come -/
def m_an1 (s : MS) (cm w : Nat → Int32) : MS :=
  if cm 3 = 200 ∨ cm 3 = 304 then m_rep s (w 0) (if (if cm 3 = 304 then w 7 else cm 4) = w 4 then 304 else 200) (if cm 3 = 304 then w 7 else cm 4) (s.1 805 0 - cm 14) (if cm 3 = 200 then 2 else 3)
  else m_rep s (w 0) (cm 3) 0 0 0
def m_an2 (s : MS) (cm w : Nat → Int32) : MS :=
  if cm 3 = 200 then (if stb (cm 10) (cm 11) = true ∧ w 8 &&& 2 = 0 ∧ ¬ s.1 804 0 < cm 7 then m_store s (w 2) (w 3) cm else s)
  else if cm 3 = 304 then m_conf s (fix (fun row => decide (row 0 = w 6)) (s.2 14) 0) (bi (stb (cm 10) (cm 11))) cm
  else if cm 3 = 204 then m_dr s (w 2) (w 3) 1
  else if cm 3 = 404 ∧ w 1 = 1 then m_dr s (w 2) (w 3) 0
  else s
def m_an3 (s : MS) (t : Nat) (Q : List (Nat → Int32)) : MS := m_beg (tu (cw s 26 t 0) (100 + t) Q) t
def m_answered (s : MS) (t : Nat) (cm w : Nat → Int32) (Q : List (Nat → Int32)) : MS := m_an3 (m_an2 (m_an1 s cm w) cm w) t Q
theorem lp_an3 {Γ : ex_G} {d : Nat} {K : ex_K} {I : ex_I} {F : ex_F} {b : Nat} {m : Nat} {ad : Nat → Nat} {s : MS} (hR : rf_ok K F m ad) (h : rr I m ad s) {t : Nat} {w : Nat → Int32} {Q : List (Nat → Int32)} {l2 l3 l4 l5 l6 l7 l8 l9 : Option ex_V} (ht : t < 3) (hQ : s.2 (100 + t) = w :: Q) : ex_E Γ (d + 3) M_Mdl_answered 327 [some (.inr (some m)), some (.inl (nI t)), l2, l3, l4, l5, l6, l7, l8, l9] [] K I F b (fun x K' I' F' => x = none ∧ K = K' ∧ F = F' ∧ rr I' m ad (m_an3 s t Q)) := by
  have m1 := hR.1
  have k1 := rr_ua (k := 26) (i := t) (x := 0) hR h (by decide)
  refine s_Mdl_answered_327 ?_
  refine s_Mdl_answered_328 (by first | rfl | assumption | (simp [*]; done)) (by first | rfl | assumption | (simp [*]; done)) ?_
  refine s_Mdl_answered_331 ?_
  refine s_Mdl_answered_332 ?_
  refine s_Mdl_answered_333 (by first | exact rf_lost hR | rfl) (by exact rk_lost hR) (by rw [rn_lost hR]; exact n_in (a := t) (by first | rfl | (simp only [nl_1, nl_2, nl_3, nl_4, nl_5, nl_6, nl_7, nl_8, nl_9, nl_10, nl_11, nl_12, nl_13, nl_14, nl_15, nl_16, nl_32, nl_240, nl_250, nl_255, nl_265, nl_270, nl_0, nI_add, pk_mul]; done)) (by omega) (by omega)) ?_
  refine ex_ixs (q := t) (by first | rfl | (simp only [nl_1, nl_2, nl_3, nl_4, nl_5, nl_6, nl_7, nl_8, nl_9, nl_10, nl_11, nl_12, nl_13, nl_14, nl_15, nl_16, nl_32, nl_240, nl_250, nl_255, nl_265, nl_270, nl_0, nI_add, pk_mul]; done)) (by omega) ?_
  refine s_Mdl_answered_334 ?_
  refine s_Mdl_answered_335 ?_
  refine s_Mdl_answered_336 (b1 := 0) (b2 := b) (by first | rfl | assumption | (simp [*]; done)) (by first | rfl | assumption | (simp [*]; done)) (sp_shiftR hR k1 ht hQ) ?_ (by omega)
  rintro _ _ _ _ ⟨rfl, rfl, rfl, k2⟩
  dsimp only [Option.toList, List.cons_append, List.nil_append]
  refine s_Mdl_answered_339 ?_
  refine s_Mdl_answered_340 ?_
  refine s_Mdl_answered_341 (b1 := b) (b2 := 0) (by first | rfl | assumption | (simp [*]; done)) (by first | rfl | assumption | (simp [*]; done)) (sp_begR hR k2 ht) ?_ (by omega)
  rintro _ _ _ _ ⟨rfl, rfl, rfl, k3⟩
  dsimp only [Option.toList, List.cons_append, List.nil_append]
  refine s_Mdl_answered_344 ?_
  exact ⟨rfl, rfl, rfl, k3⟩
theorem m_add_q (s : MS) (p v : Int32) (cm : Nat → Int32) {k : Nat} (hk : k ≠ 14) : (m_add s p v cm).2 k = s.2 k := by
  unfold m_add
  rw [tu_ne _ _ hk]
  rfl
theorem m_store_q (s : MS) (p v : Int32) (cm : Nat → Int32) {k : Nat} (hk : k ≠ 14) : (m_store s p v cm).2 k = s.2 k := by
  unfold m_store
  rw [m_add_q _ _ _ _ hk]
  unfold m_ev m_dr
  rw [tu_ne _ _ hk, tu_ne _ _ hk]
theorem m_conf_q (s : MS) (x : Option Nat) (may : Int32) (cm : Nat → Int32) {k : Nat} (hk : k ≠ 14) : (m_conf s x may cm).2 k = s.2 k := by
  unfold m_conf
  split
  · rfl
  · split
    · rfl
    · rw [tu_ne _ _ hk]
theorem lp_z200 {Γ : ex_G} {d : Nat} {K : ex_K} {I : ex_I} {F : ex_F} {b : Nat} {m : Nat} {ad : Nat → Nat} {s : MS} (hR : rf_ok K F m ad) (h : rr I m ad s) {t : Nat} {w : Nat → Int32} {Q : List (Nat → Int32)} {l2 l4 l5 l6 l7 l8 l9 : Option ex_V} (ht : t < 3) (hQ : s.2 (100 + t) = w :: Q) : ex_E Γ (d + 4) M_Mdl_answered 255 [some (.inr (some m)), some (.inl (nI t)), l2, some (.inl 200), l4, l5, l6, l7, l8, l9] [] K I F b (fun x K' I' F' => x = none ∧ K = K' ∧ F = F' ∧ rr I' m ad (m_an3 s t Q)) := by
  refine s_Mdl_answered_255 ?_
  refine s_Mdl_answered_256 ?_
  refine s_Mdl_answered_259 (fun h259 => ?_) (fun h259 => absurd h259 (by decide))
  refine s_Mdl_answered_281 ?_
  refine s_Mdl_answered_282 ?_
  refine s_Mdl_answered_285 (fun h285 => absurd h285 (by decide)) (fun h285 => ?_)
  refine s_Mdl_answered_288 ?_
  refine s_Mdl_answered_289 ?_
  refine s_Mdl_answered_292 (fun h292 => ?_) (fun h292 => absurd h292 (by decide))
  exact lp_an3 (d := d + 1) hR h ht hQ
theorem lp_b200 {Γ : ex_G} {d : Nat} {K : ex_K} {I : ex_I} {F : ex_F} {b : Nat} {m : Nat} {ad : Nat → Nat} {s : MS} (hR : rf_ok K F m ad) (h : rr I m ad s) {t : Nat} {cm w : Nat → Int32} {Q : List (Nat → Int32)} {l6 l7 l8 l9 : Option ex_V} (ht : t < 3) (hQ : s.2 (100 + t) = w :: Q) (hm : cm_ok I ad cm) (hc : cm 3 = 200) (hl : ((m_ev (m_dr s (w 2) (w 3) (if cm 8 = 0 then 1 else 0)) (cm 7)).2 14).length < 40) : ex_E Γ (d + 4) M_Mdl_answered 185 [some (.inr (some m)), some (.inl (nI t)), some (.inl (nI (32 * t))), some (.inl 200), some (.inl (w 2)), some (.inl (w 3)), l6, l7, l8, l9] [] K I F b (fun x K' I' F' => x = none ∧ K = K' ∧ F = F' ∧ rr I' m ad (m_an3 (m_an2 s cm w) t Q)) := by
  have m1 := hR.1
  have hq := h.2.2.2.2.2.2.2.1 t ht
  rw [hQ] at hq
  have hw := (hq.2.2 0 w rfl).1
  have hw8 := (hq.2.2 0 w rfl).2 0 (by decide)
  have w6 := hw 6 (by decide)
  have w1 := hw 1 (by decide)
  simp only [Nat.mul_zero, Nat.add_zero] at w6 w1 hw8
  have c10 : I 21 (ad 31) 250 = cm 10 := hm 10 (by decide)
  have c11 : I 21 (ad 31) 251 = cm 11 := hm 11 (by decide)
  have c7 : I 21 (ad 31) 247 = cm 7 := hm 7 (by decide)
  have ec := h.2.2.1 804 (by decide)
  unfold m_an2
  rw [if_pos hc]
  refine s_Mdl_answered_185 ?_
  refine s_Mdl_answered_186 (by first | rfl | assumption | (simp [*]; done)) (by first | rfl | assumption | (simp [*]; done)) ?_
  refine s_Mdl_answered_189 ?_
  refine s_Mdl_answered_192 (by first | exact rf_row hR | rfl) (by exact rk_row hR) (by rw [rn_row hR]; exact n_in (a := 250) (by first | rfl | (simp only [nl_1, nl_2, nl_3, nl_4, nl_5, nl_6, nl_7, nl_8, nl_9, nl_10, nl_11, nl_12, nl_13, nl_14, nl_15, nl_16, nl_32, nl_240, nl_250, nl_255, nl_265, nl_270, nl_0, nI_add, pk_mul]; done)) (by omega) (by omega)) ?_
  refine ex_ixl (q := 250) (by first | rfl | (simp only [nl_1, nl_2, nl_3, nl_4, nl_5, nl_6, nl_7, nl_8, nl_9, nl_10, nl_11, nl_12, nl_13, nl_14, nl_15, nl_16, nl_32, nl_240, nl_250, nl_255, nl_265, nl_270, nl_0, nI_add, pk_mul]; done)) (by omega) ?_
  rw [c10]
  refine s_Mdl_answered_193 ?_
  refine s_Mdl_answered_194 (by first | rfl | assumption | (simp [*]; done)) (by first | rfl | assumption | (simp [*]; done)) ?_
  refine s_Mdl_answered_197 ?_
  refine s_Mdl_answered_200 (by first | exact rf_row hR | rfl) (by exact rk_row hR) (by rw [rn_row hR]; exact n_in (a := 251) (by first | rfl | (simp only [nl_1, nl_2, nl_3, nl_4, nl_5, nl_6, nl_7, nl_8, nl_9, nl_10, nl_11, nl_12, nl_13, nl_14, nl_15, nl_16, nl_32, nl_240, nl_250, nl_255, nl_265, nl_270, nl_0, nI_add, pk_mul]; done)) (by omega) (by omega)) ?_
  refine ex_ixl (q := 251) (by first | rfl | (simp only [nl_1, nl_2, nl_3, nl_4, nl_5, nl_6, nl_7, nl_8, nl_9, nl_10, nl_11, nl_12, nl_13, nl_14, nl_15, nl_16, nl_32, nl_240, nl_250, nl_255, nl_265, nl_270, nl_0, nI_add, pk_mul]; done)) (by omega) ?_
  rw [c11]
  refine s_Mdl_answered_201 (b1 := 0) (b2 := b)  (sp_storable) ?_ (by omega)
  rintro _ _ _ _ ⟨rfl, rfl, rfl, rfl⟩
  dsimp only [Option.toList, List.cons_append, List.nil_append]
  refine s_Mdl_answered_204 ?_
  refine s_Mdl_answered_206 ?_
  refine s_Mdl_answered_207 ?_
  refine s_Mdl_answered_210 (fun h210 => absurd h210 (by exact fun q => q rfl)) (fun h210 => ?_)
  refine s_Mdl_answered_213 ?_
  refine s_Mdl_answered_215 (fun h215 => ?_) (fun h215 => ?_)
  · rw [if_neg (fun z => absurd (bi_0 h215) (by rw [z.1]; decide))]
    exact lp_z200 hR h ht hQ
  · refine s_Mdl_answered_218 ?_
    refine s_Mdl_answered_219 (by first | rfl | assumption | (simp [*]; done)) (by first | rfl | assumption | (simp [*]; done)) ?_
    refine s_Mdl_answered_222 ?_
    refine s_Mdl_answered_224 ?_
    refine s_Mdl_answered_225 ?_
    refine s_Mdl_answered_226 (by first | exact rf_wish hR | rfl) (by exact rk_wish hR) (by rw [rn_wish hR]; exact n_in (a := (16 * t)) (by first | rfl | (simp only [nl_1, nl_2, nl_3, nl_4, nl_5, nl_6, nl_7, nl_8, nl_9, nl_10, nl_11, nl_12, nl_13, nl_14, nl_15, nl_16, nl_32, nl_240, nl_250, nl_255, nl_265, nl_270, nl_0, nI_add, pk_mul]; done)) (by omega) (by omega)) ?_
    refine ex_ixl (q := (16 * t)) (by first | rfl | (simp only [nl_1, nl_2, nl_3, nl_4, nl_5, nl_6, nl_7, nl_8, nl_9, nl_10, nl_11, nl_12, nl_13, nl_14, nl_15, nl_16, nl_32, nl_240, nl_250, nl_255, nl_265, nl_270, nl_0, nI_add, pk_mul]; done)) (by omega) ?_
    rw [hw8]
    refine s_Mdl_answered_227 ?_
    refine s_Mdl_answered_228 ?_
    refine s_Mdl_answered_229 (fun h229 => ?_) (fun h229 => ?_)
    · rw [if_neg (fun z => h229 z.2.1)]
      exact lp_z200 hR h ht hQ
    · refine s_Mdl_answered_232 ?_
      refine s_Mdl_answered_233 (by first | rfl | assumption | (simp [*]; done)) (by first | rfl | assumption | (simp [*]; done)) ?_
      refine s_Mdl_answered_236 ?_
      refine s_Mdl_answered_239 (by first | exact rf_row hR | rfl) (by exact rk_row hR) (by rw [rn_row hR]; exact n_in (a := 247) (by first | rfl | (simp only [nl_1, nl_2, nl_3, nl_4, nl_5, nl_6, nl_7, nl_8, nl_9, nl_10, nl_11, nl_12, nl_13, nl_14, nl_15, nl_16, nl_32, nl_240, nl_250, nl_255, nl_265, nl_270, nl_0, nI_add, pk_mul]; done)) (by omega) (by omega)) ?_
      refine ex_ixl (q := 247) (by first | rfl | (simp only [nl_1, nl_2, nl_3, nl_4, nl_5, nl_6, nl_7, nl_8, nl_9, nl_10, nl_11, nl_12, nl_13, nl_14, nl_15, nl_16, nl_32, nl_240, nl_250, nl_255, nl_265, nl_270, nl_0, nI_add, pk_mul]; done)) (by omega) ?_
      rw [c7]
      refine s_Mdl_answered_240 ?_
      refine s_Mdl_answered_241 (by first | rfl | assumption | (simp [*]; done)) (by first | rfl | assumption | (simp [*]; done)) ?_
      rw [ec]
      refine s_Mdl_answered_244 (fun h244 => ?_) (fun h244 => ?_)
      · rw [if_neg (fun z => z.2.2 h244)]
        exact lp_z200 hR h ht hQ
      · refine s_Mdl_answered_247 ?_
        refine s_Mdl_answered_248 ?_
        refine s_Mdl_answered_250 ?_
        refine s_Mdl_answered_252 (b1 := 0) (b2 := b) (by first | rfl | assumption | (simp [*]; done)) (by first | rfl | assumption | (simp [*]; done)) (sp_storeR (d := d) hR h hm hl) ?_ (by omega)
        rintro _ _ _ _ ⟨rfl, rfl, rfl, k⟩
        dsimp only [Option.toList, List.cons_append, List.nil_append]
        rw [if_pos ⟨bi_1 h215, h229, h244⟩]
        exact lp_z200 hR k ht (by rw [m_store_q _ _ _ _ (by omega)]; exact hQ)
theorem lp_b304 {Γ : ex_G} {d : Nat} {K : ex_K} {I : ex_I} {F : ex_F} {b : Nat} {m : Nat} {ad : Nat → Nat} {s : MS} (hR : rf_ok K F m ad) (h : rr I m ad s) {t : Nat} {cm w : Nat → Int32} {Q : List (Nat → Int32)} {l6 l7 l8 l9 : Option ex_V} (ht : t < 3) (hQ : s.2 (100 + t) = w :: Q) (hm : cm_ok I ad cm) (hc : cm 3 = 304) : ex_E Γ (d + 4) M_Mdl_answered 185 [some (.inr (some m)), some (.inl (nI t)), some (.inl (nI (32 * t))), some (.inl 304), some (.inl (w 2)), some (.inl (w 3)), l6, l7, l8, l9] [] K I F b (fun x K' I' F' => x = none ∧ K = K' ∧ F = F' ∧ rr I' m ad (m_an3 (m_an2 s cm w) t Q)) := by
  have m1 := hR.1
  have hq := h.2.2.2.2.2.2.2.1 t ht
  rw [hQ] at hq
  have hw := (hq.2.2 0 w rfl).1
  have hw8 := (hq.2.2 0 w rfl).2 0 (by decide)
  have w6 := hw 6 (by decide)
  have w1 := hw 1 (by decide)
  simp only [Nat.mul_zero, Nat.add_zero] at w6 w1 hw8
  have c10 : I 21 (ad 31) 250 = cm 10 := hm 10 (by decide)
  have c11 : I 21 (ad 31) 251 = cm 11 := hm 11 (by decide)
  have c7 : I 21 (ad 31) 247 = cm 7 := hm 7 (by decide)
  unfold m_an2
  rw [if_neg (by rw [hc]; decide), if_pos hc]
  have tl : ∀ I' s' l9, rr I' m ad s' → s'.2 (100 + t) = w :: Q → ex_E Γ (d + 4) M_Mdl_answered 281 [some (.inr (some m)), some (.inl (nI t)), some (.inl (nI (32 * t))), some (.inl 304), some (.inl (w 2)), some (.inl (w 3)), l6, l7, l8, l9] [] K I' F b (fun x K' I' F' => x = none ∧ K = K' ∧ F = F' ∧ rr I' m ad (m_an3 s' t Q)) := by
    intro I' s' l9 h' hQ'
    refine s_Mdl_answered_281 ?_
    refine s_Mdl_answered_282 ?_
    refine s_Mdl_answered_285 (fun h285 => absurd h285 (by decide)) (fun h285 => ?_)
    refine s_Mdl_answered_288 ?_
    refine s_Mdl_answered_289 ?_
    refine s_Mdl_answered_292 (fun h292 => ?_) (fun h292 => absurd h292 (by decide))
    exact lp_an3 (d := d + 1) hR h' ht hQ'
  refine s_Mdl_answered_185 ?_
  refine s_Mdl_answered_186 (by first | rfl | assumption | (simp [*]; done)) (by first | rfl | assumption | (simp [*]; done)) ?_
  refine s_Mdl_answered_189 ?_
  refine s_Mdl_answered_192 (by first | exact rf_row hR | rfl) (by exact rk_row hR) (by rw [rn_row hR]; exact n_in (a := 250) (by first | rfl | (simp only [nl_1, nl_2, nl_3, nl_4, nl_5, nl_6, nl_7, nl_8, nl_9, nl_10, nl_11, nl_12, nl_13, nl_14, nl_15, nl_16, nl_32, nl_240, nl_250, nl_255, nl_265, nl_270, nl_0, nI_add, pk_mul]; done)) (by omega) (by omega)) ?_
  refine ex_ixl (q := 250) (by first | rfl | (simp only [nl_1, nl_2, nl_3, nl_4, nl_5, nl_6, nl_7, nl_8, nl_9, nl_10, nl_11, nl_12, nl_13, nl_14, nl_15, nl_16, nl_32, nl_240, nl_250, nl_255, nl_265, nl_270, nl_0, nI_add, pk_mul]; done)) (by omega) ?_
  rw [c10]
  refine s_Mdl_answered_193 ?_
  refine s_Mdl_answered_194 (by first | rfl | assumption | (simp [*]; done)) (by first | rfl | assumption | (simp [*]; done)) ?_
  refine s_Mdl_answered_197 ?_
  refine s_Mdl_answered_200 (by first | exact rf_row hR | rfl) (by exact rk_row hR) (by rw [rn_row hR]; exact n_in (a := 251) (by first | rfl | (simp only [nl_1, nl_2, nl_3, nl_4, nl_5, nl_6, nl_7, nl_8, nl_9, nl_10, nl_11, nl_12, nl_13, nl_14, nl_15, nl_16, nl_32, nl_240, nl_250, nl_255, nl_265, nl_270, nl_0, nI_add, pk_mul]; done)) (by omega) (by omega)) ?_
  refine ex_ixl (q := 251) (by first | rfl | (simp only [nl_1, nl_2, nl_3, nl_4, nl_5, nl_6, nl_7, nl_8, nl_9, nl_10, nl_11, nl_12, nl_13, nl_14, nl_15, nl_16, nl_32, nl_240, nl_250, nl_255, nl_265, nl_270, nl_0, nI_add, pk_mul]; done)) (by omega) ?_
  rw [c11]
  refine s_Mdl_answered_201 (b1 := 0) (b2 := b)  (sp_storable) ?_ (by omega)
  rintro _ _ _ _ ⟨rfl, rfl, rfl, rfl⟩
  dsimp only [Option.toList, List.cons_append, List.nil_append]
  refine s_Mdl_answered_204 ?_
  refine s_Mdl_answered_206 ?_
  refine s_Mdl_answered_207 ?_
  refine s_Mdl_answered_210 (fun h210 => ?_) (fun h210 => absurd h210 (by decide))
  refine s_Mdl_answered_255 ?_
  refine s_Mdl_answered_256 ?_
  refine s_Mdl_answered_259 (fun h259 => absurd h259 (by exact fun q => q rfl)) (fun h259 => ?_)
  refine s_Mdl_answered_262 ?_
  refine s_Mdl_answered_263 ?_
  refine s_Mdl_answered_264 ?_
  refine s_Mdl_answered_265 (by first | rfl | assumption | (simp [*]; done)) (by first | rfl | assumption | (simp [*]; done)) ?_
  refine s_Mdl_answered_268 ?_
  refine s_Mdl_answered_269 ?_
  refine s_Mdl_answered_271 ?_
  refine s_Mdl_answered_272 (by first | exact rf_wait hR | rfl) (by exact rk_wait hR) (by rw [rn_wait hR]; exact n_in (a := ((32 * t) + 6)) (by first | rfl | (simp only [nl_1, nl_2, nl_3, nl_4, nl_5, nl_6, nl_7, nl_8, nl_9, nl_10, nl_11, nl_12, nl_13, nl_14, nl_15, nl_16, nl_32, nl_240, nl_250, nl_255, nl_265, nl_270, nl_0, nI_add, pk_mul]; done)) (by omega) (by omega)) ?_
  refine ex_ixl (q := ((32 * t) + 6)) (by first | rfl | (simp only [nl_1, nl_2, nl_3, nl_4, nl_5, nl_6, nl_7, nl_8, nl_9, nl_10, nl_11, nl_12, nl_13, nl_14, nl_15, nl_16, nl_32, nl_240, nl_250, nl_255, nl_265, nl_270, nl_0, nI_add, pk_mul]; done)) (by omega) ?_
  rw [w6]
  refine s_Mdl_answered_273 (b1 := 0) (b2 := b) (by first | rfl | assumption | (simp [*]; done)) (by first | rfl | assumption | (simp [*]; done)) (sp_byName (d := d + 2) hR h.2.2.2.2.2.1) ?_ (by omega)
  rintro _ _ _ _ ⟨rfl, rfl, rfl, rfl⟩
  dsimp only [Option.toList, List.cons_append, List.nil_append]
  refine s_Mdl_answered_276 ?_
  cases hf : fix (fun row => decide (row 0 = w 6)) (s.2 14) 0 with
  | none =>
    refine s_Mdl_answered_278 (b1 := 0) (b2 := b) (by first | rfl | assumption | (simp [*]; done)) (by first | rfl | assumption | (simp [*]; done)) (sp_confirmR_no (d := d + 2) (cm := cm) hR h) ?_ (by omega)
    rintro _ _ _ _ ⟨rfl, rfl, rfl, k⟩
    dsimp only [Option.toList, List.cons_append, List.nil_append]
    exact tl _ _ _ k (by rw [m_conf_q _ _ _ _ (by omega)]; exact hQ)
  | some e =>
    obtain ⟨-, row, he, -⟩ := fix_some _ _ _ _ hf
    rw [Nat.sub_zero] at he
    refine s_Mdl_answered_278 (b1 := 0) (b2 := b) (by first | rfl | assumption | (simp [*]; done)) (by first | rfl | assumption | (simp [*]; done)) (sp_confirmR (d := d + 2) (cm := cm) hR h hm he) ?_ (by omega)
    rintro _ _ _ _ ⟨rfl, rfl, rfl, k⟩
    dsimp only [Option.toList, List.cons_append, List.nil_append]
    exact tl _ _ _ k (by rw [m_conf_q _ _ _ _ (by omega)]; exact hQ)
theorem lp_b204 {Γ : ex_G} {d : Nat} {K : ex_K} {I : ex_I} {F : ex_F} {b : Nat} {m : Nat} {ad : Nat → Nat} {s : MS} (hR : rf_ok K F m ad) (h : rr I m ad s) {t : Nat} {cm w : Nat → Int32} {Q : List (Nat → Int32)} {l6 l7 l8 l9 : Option ex_V} (ht : t < 3) (hQ : s.2 (100 + t) = w :: Q) (hm : cm_ok I ad cm) (hc : cm 3 = 204) : ex_E Γ (d + 4) M_Mdl_answered 185 [some (.inr (some m)), some (.inl (nI t)), some (.inl (nI (32 * t))), some (.inl 204), some (.inl (w 2)), some (.inl (w 3)), l6, l7, l8, l9] [] K I F b (fun x K' I' F' => x = none ∧ K = K' ∧ F = F' ∧ rr I' m ad (m_an3 (m_an2 s cm w) t Q)) := by
  have m1 := hR.1
  have hq := h.2.2.2.2.2.2.2.1 t ht
  rw [hQ] at hq
  have hw := (hq.2.2 0 w rfl).1
  have hw8 := (hq.2.2 0 w rfl).2 0 (by decide)
  have w6 := hw 6 (by decide)
  have w1 := hw 1 (by decide)
  simp only [Nat.mul_zero, Nat.add_zero] at w6 w1 hw8
  have c10 : I 21 (ad 31) 250 = cm 10 := hm 10 (by decide)
  have c11 : I 21 (ad 31) 251 = cm 11 := hm 11 (by decide)
  have c7 : I 21 (ad 31) 247 = cm 7 := hm 7 (by decide)
  unfold m_an2
  rw [if_neg (by rw [hc]; decide), if_neg (by rw [hc]; decide), if_pos hc]
  refine s_Mdl_answered_185 ?_
  refine s_Mdl_answered_186 (by first | rfl | assumption | (simp [*]; done)) (by first | rfl | assumption | (simp [*]; done)) ?_
  refine s_Mdl_answered_189 ?_
  refine s_Mdl_answered_192 (by first | exact rf_row hR | rfl) (by exact rk_row hR) (by rw [rn_row hR]; exact n_in (a := 250) (by first | rfl | (simp only [nl_1, nl_2, nl_3, nl_4, nl_5, nl_6, nl_7, nl_8, nl_9, nl_10, nl_11, nl_12, nl_13, nl_14, nl_15, nl_16, nl_32, nl_240, nl_250, nl_255, nl_265, nl_270, nl_0, nI_add, pk_mul]; done)) (by omega) (by omega)) ?_
  refine ex_ixl (q := 250) (by first | rfl | (simp only [nl_1, nl_2, nl_3, nl_4, nl_5, nl_6, nl_7, nl_8, nl_9, nl_10, nl_11, nl_12, nl_13, nl_14, nl_15, nl_16, nl_32, nl_240, nl_250, nl_255, nl_265, nl_270, nl_0, nI_add, pk_mul]; done)) (by omega) ?_
  rw [c10]
  refine s_Mdl_answered_193 ?_
  refine s_Mdl_answered_194 (by first | rfl | assumption | (simp [*]; done)) (by first | rfl | assumption | (simp [*]; done)) ?_
  refine s_Mdl_answered_197 ?_
  refine s_Mdl_answered_200 (by first | exact rf_row hR | rfl) (by exact rk_row hR) (by rw [rn_row hR]; exact n_in (a := 251) (by first | rfl | (simp only [nl_1, nl_2, nl_3, nl_4, nl_5, nl_6, nl_7, nl_8, nl_9, nl_10, nl_11, nl_12, nl_13, nl_14, nl_15, nl_16, nl_32, nl_240, nl_250, nl_255, nl_265, nl_270, nl_0, nI_add, pk_mul]; done)) (by omega) (by omega)) ?_
  refine ex_ixl (q := 251) (by first | rfl | (simp only [nl_1, nl_2, nl_3, nl_4, nl_5, nl_6, nl_7, nl_8, nl_9, nl_10, nl_11, nl_12, nl_13, nl_14, nl_15, nl_16, nl_32, nl_240, nl_250, nl_255, nl_265, nl_270, nl_0, nI_add, pk_mul]; done)) (by omega) ?_
  rw [c11]
  refine s_Mdl_answered_201 (b1 := 0) (b2 := b)  (sp_storable) ?_ (by omega)
  rintro _ _ _ _ ⟨rfl, rfl, rfl, rfl⟩
  dsimp only [Option.toList, List.cons_append, List.nil_append]
  refine s_Mdl_answered_204 ?_
  refine s_Mdl_answered_206 ?_
  refine s_Mdl_answered_207 ?_
  refine s_Mdl_answered_210 (fun h210 => ?_) (fun h210 => absurd h210 (by decide))
  refine s_Mdl_answered_255 ?_
  refine s_Mdl_answered_256 ?_
  refine s_Mdl_answered_259 (fun h259 => ?_) (fun h259 => absurd h259 (by decide))
  refine s_Mdl_answered_281 ?_
  refine s_Mdl_answered_282 ?_
  refine s_Mdl_answered_285 (fun h285 => ?_) (fun h285 => absurd h285 (by exact fun q => q rfl))
  refine s_Mdl_answered_307 ?_
  refine s_Mdl_answered_308 ?_
  refine s_Mdl_answered_310 ?_
  refine s_Mdl_answered_312 ?_
  refine s_Mdl_answered_313 ?_
  refine s_Mdl_answered_316 (fun h316 => absurd h316 (by exact fun q => q rfl)) (fun h316 => ?_)
  refine s_Mdl_answered_319 ?_
  refine s_Mdl_answered_320 ?_
  refine s_Mdl_answered_324 (b1 := 0) (b2 := b) (by first | rfl | assumption | (simp [*]; done)) (by first | rfl | assumption | (simp [*]; done)) (sp_drop (d := d + 1) hR h.2.2.2.2.2.1) ?_ (by omega)
  rintro _ _ _ _ ⟨rfl, rfl, rfl, q1, q2⟩
  dsimp only [Option.toList, List.cons_append, List.nil_append]
  exact lp_an3 (d := d + 1) hR (rr_ent hR h q1 q2) ht (by rw [tu_ne _ _ (by omega)]; exact hQ)
theorem lp_b404 {Γ : ex_G} {d : Nat} {K : ex_K} {I : ex_I} {F : ex_F} {b : Nat} {m : Nat} {ad : Nat → Nat} {s : MS} (hR : rf_ok K F m ad) (h : rr I m ad s) {t : Nat} {cm w : Nat → Int32} {Q : List (Nat → Int32)} {l6 l7 l8 l9 : Option ex_V} (ht : t < 3) (hQ : s.2 (100 + t) = w :: Q) (hm : cm_ok I ad cm) (hc : cm 3 = 404) : ex_E Γ (d + 4) M_Mdl_answered 185 [some (.inr (some m)), some (.inl (nI t)), some (.inl (nI (32 * t))), some (.inl 404), some (.inl (w 2)), some (.inl (w 3)), l6, l7, l8, l9] [] K I F b (fun x K' I' F' => x = none ∧ K = K' ∧ F = F' ∧ rr I' m ad (m_an3 (m_an2 s cm w) t Q)) := by
  have m1 := hR.1
  have hq := h.2.2.2.2.2.2.2.1 t ht
  rw [hQ] at hq
  have hw := (hq.2.2 0 w rfl).1
  have hw8 := (hq.2.2 0 w rfl).2 0 (by decide)
  have w6 := hw 6 (by decide)
  have w1 := hw 1 (by decide)
  simp only [Nat.mul_zero, Nat.add_zero] at w6 w1 hw8
  have c10 : I 21 (ad 31) 250 = cm 10 := hm 10 (by decide)
  have c11 : I 21 (ad 31) 251 = cm 11 := hm 11 (by decide)
  have c7 : I 21 (ad 31) 247 = cm 7 := hm 7 (by decide)
  unfold m_an2
  rw [if_neg (by rw [hc]; decide), if_neg (by rw [hc]; decide), if_neg (by rw [hc]; decide)]
  refine s_Mdl_answered_185 ?_
  refine s_Mdl_answered_186 (by first | rfl | assumption | (simp [*]; done)) (by first | rfl | assumption | (simp [*]; done)) ?_
  refine s_Mdl_answered_189 ?_
  refine s_Mdl_answered_192 (by first | exact rf_row hR | rfl) (by exact rk_row hR) (by rw [rn_row hR]; exact n_in (a := 250) (by first | rfl | (simp only [nl_1, nl_2, nl_3, nl_4, nl_5, nl_6, nl_7, nl_8, nl_9, nl_10, nl_11, nl_12, nl_13, nl_14, nl_15, nl_16, nl_32, nl_240, nl_250, nl_255, nl_265, nl_270, nl_0, nI_add, pk_mul]; done)) (by omega) (by omega)) ?_
  refine ex_ixl (q := 250) (by first | rfl | (simp only [nl_1, nl_2, nl_3, nl_4, nl_5, nl_6, nl_7, nl_8, nl_9, nl_10, nl_11, nl_12, nl_13, nl_14, nl_15, nl_16, nl_32, nl_240, nl_250, nl_255, nl_265, nl_270, nl_0, nI_add, pk_mul]; done)) (by omega) ?_
  rw [c10]
  refine s_Mdl_answered_193 ?_
  refine s_Mdl_answered_194 (by first | rfl | assumption | (simp [*]; done)) (by first | rfl | assumption | (simp [*]; done)) ?_
  refine s_Mdl_answered_197 ?_
  refine s_Mdl_answered_200 (by first | exact rf_row hR | rfl) (by exact rk_row hR) (by rw [rn_row hR]; exact n_in (a := 251) (by first | rfl | (simp only [nl_1, nl_2, nl_3, nl_4, nl_5, nl_6, nl_7, nl_8, nl_9, nl_10, nl_11, nl_12, nl_13, nl_14, nl_15, nl_16, nl_32, nl_240, nl_250, nl_255, nl_265, nl_270, nl_0, nI_add, pk_mul]; done)) (by omega) (by omega)) ?_
  refine ex_ixl (q := 251) (by first | rfl | (simp only [nl_1, nl_2, nl_3, nl_4, nl_5, nl_6, nl_7, nl_8, nl_9, nl_10, nl_11, nl_12, nl_13, nl_14, nl_15, nl_16, nl_32, nl_240, nl_250, nl_255, nl_265, nl_270, nl_0, nI_add, pk_mul]; done)) (by omega) ?_
  rw [c11]
  refine s_Mdl_answered_201 (b1 := 0) (b2 := b)  (sp_storable) ?_ (by omega)
  rintro _ _ _ _ ⟨rfl, rfl, rfl, rfl⟩
  dsimp only [Option.toList, List.cons_append, List.nil_append]
  refine s_Mdl_answered_204 ?_
  refine s_Mdl_answered_206 ?_
  refine s_Mdl_answered_207 ?_
  refine s_Mdl_answered_210 (fun h210 => ?_) (fun h210 => absurd h210 (by decide))
  refine s_Mdl_answered_255 ?_
  refine s_Mdl_answered_256 ?_
  refine s_Mdl_answered_259 (fun h259 => ?_) (fun h259 => absurd h259 (by decide))
  refine s_Mdl_answered_281 ?_
  refine s_Mdl_answered_282 ?_
  refine s_Mdl_answered_285 (fun h285 => absurd h285 (by decide)) (fun h285 => ?_)
  refine s_Mdl_answered_288 ?_
  refine s_Mdl_answered_289 ?_
  refine s_Mdl_answered_292 (fun h292 => absurd h292 (by exact fun q => q rfl)) (fun h292 => ?_)
  refine s_Mdl_answered_295 ?_
  refine s_Mdl_answered_296 (by first | rfl | assumption | (simp [*]; done)) (by first | rfl | assumption | (simp [*]; done)) ?_
  refine s_Mdl_answered_299 ?_
  refine s_Mdl_answered_300 ?_
  refine s_Mdl_answered_301 ?_
  refine s_Mdl_answered_302 (by first | exact rf_wait hR | rfl) (by exact rk_wait hR) (by rw [rn_wait hR]; exact n_in (a := ((32 * t) + 1)) (by first | rfl | (simp only [nl_1, nl_2, nl_3, nl_4, nl_5, nl_6, nl_7, nl_8, nl_9, nl_10, nl_11, nl_12, nl_13, nl_14, nl_15, nl_16, nl_32, nl_240, nl_250, nl_255, nl_265, nl_270, nl_0, nI_add, pk_mul]; done)) (by omega) (by omega)) ?_
  refine ex_ixl (q := ((32 * t) + 1)) (by first | rfl | (simp only [nl_1, nl_2, nl_3, nl_4, nl_5, nl_6, nl_7, nl_8, nl_9, nl_10, nl_11, nl_12, nl_13, nl_14, nl_15, nl_16, nl_32, nl_240, nl_250, nl_255, nl_265, nl_270, nl_0, nI_add, pk_mul]; done)) (by omega) ?_
  refine s_Mdl_answered_303 ?_
  rw [w1]
  refine s_Mdl_answered_304 (fun h304 => ?_) (fun h304 => ?_)
  · rw [if_neg (fun z => h304 z.2)]
    exact lp_an3 (d := d + 1) hR h ht hQ
  · refine s_Mdl_answered_307 ?_
    refine s_Mdl_answered_308 ?_
    refine s_Mdl_answered_310 ?_
    refine s_Mdl_answered_312 ?_
    refine s_Mdl_answered_313 ?_
    refine s_Mdl_answered_316 (fun h316 => ?_) (fun h316 => absurd h316 (by decide))
    refine s_Mdl_answered_323 ?_
    refine s_Mdl_answered_324 (b1 := 0) (b2 := b) (by first | rfl | assumption | (simp [*]; done)) (by first | rfl | assumption | (simp [*]; done)) (sp_drop (d := d + 1) hR h.2.2.2.2.2.1) ?_ (by omega)
    rintro _ _ _ _ ⟨rfl, rfl, rfl, q1, q2⟩
    dsimp only [Option.toList, List.cons_append, List.nil_append]
    rw [if_pos ⟨hc, h304⟩]
    exact lp_an3 (d := d + 1) hR (rr_ent hR h q1 q2) ht (by rw [tu_ne _ _ (by omega)]; exact hQ)
theorem lp_belse {Γ : ex_G} {d : Nat} {K : ex_K} {I : ex_I} {F : ex_F} {b : Nat} {m : Nat} {ad : Nat → Nat} {s : MS} (hR : rf_ok K F m ad) (h : rr I m ad s) {t : Nat} {cm w : Nat → Int32} {Q : List (Nat → Int32)} {l6 l7 l8 l9 : Option ex_V} (ht : t < 3) (hQ : s.2 (100 + t) = w :: Q) (hm : cm_ok I ad cm) (h2 : cm 3 ≠ 200) (h3 : cm 3 ≠ 304) (h4 : cm 3 ≠ 204) (h5 : cm 3 ≠ 404) : ex_E Γ (d + 4) M_Mdl_answered 185 [some (.inr (some m)), some (.inl (nI t)), some (.inl (nI (32 * t))), some (.inl (cm 3)), some (.inl (w 2)), some (.inl (w 3)), l6, l7, l8, l9] [] K I F b (fun x K' I' F' => x = none ∧ K = K' ∧ F = F' ∧ rr I' m ad (m_an3 (m_an2 s cm w) t Q)) := by
  have m1 := hR.1
  have hq := h.2.2.2.2.2.2.2.1 t ht
  rw [hQ] at hq
  have hw := (hq.2.2 0 w rfl).1
  have hw8 := (hq.2.2 0 w rfl).2 0 (by decide)
  have w6 := hw 6 (by decide)
  have w1 := hw 1 (by decide)
  simp only [Nat.mul_zero, Nat.add_zero] at w6 w1 hw8
  have c10 : I 21 (ad 31) 250 = cm 10 := hm 10 (by decide)
  have c11 : I 21 (ad 31) 251 = cm 11 := hm 11 (by decide)
  have c7 : I 21 (ad 31) 247 = cm 7 := hm 7 (by decide)
  unfold m_an2
  rw [if_neg h2, if_neg h3, if_neg h4, if_neg (fun z => h5 z.1)]
  refine s_Mdl_answered_185 ?_
  refine s_Mdl_answered_186 (by first | rfl | assumption | (simp [*]; done)) (by first | rfl | assumption | (simp [*]; done)) ?_
  refine s_Mdl_answered_189 ?_
  refine s_Mdl_answered_192 (by first | exact rf_row hR | rfl) (by exact rk_row hR) (by rw [rn_row hR]; exact n_in (a := 250) (by first | rfl | (simp only [nl_1, nl_2, nl_3, nl_4, nl_5, nl_6, nl_7, nl_8, nl_9, nl_10, nl_11, nl_12, nl_13, nl_14, nl_15, nl_16, nl_32, nl_240, nl_250, nl_255, nl_265, nl_270, nl_0, nI_add, pk_mul]; done)) (by omega) (by omega)) ?_
  refine ex_ixl (q := 250) (by first | rfl | (simp only [nl_1, nl_2, nl_3, nl_4, nl_5, nl_6, nl_7, nl_8, nl_9, nl_10, nl_11, nl_12, nl_13, nl_14, nl_15, nl_16, nl_32, nl_240, nl_250, nl_255, nl_265, nl_270, nl_0, nI_add, pk_mul]; done)) (by omega) ?_
  rw [c10]
  refine s_Mdl_answered_193 ?_
  refine s_Mdl_answered_194 (by first | rfl | assumption | (simp [*]; done)) (by first | rfl | assumption | (simp [*]; done)) ?_
  refine s_Mdl_answered_197 ?_
  refine s_Mdl_answered_200 (by first | exact rf_row hR | rfl) (by exact rk_row hR) (by rw [rn_row hR]; exact n_in (a := 251) (by first | rfl | (simp only [nl_1, nl_2, nl_3, nl_4, nl_5, nl_6, nl_7, nl_8, nl_9, nl_10, nl_11, nl_12, nl_13, nl_14, nl_15, nl_16, nl_32, nl_240, nl_250, nl_255, nl_265, nl_270, nl_0, nI_add, pk_mul]; done)) (by omega) (by omega)) ?_
  refine ex_ixl (q := 251) (by first | rfl | (simp only [nl_1, nl_2, nl_3, nl_4, nl_5, nl_6, nl_7, nl_8, nl_9, nl_10, nl_11, nl_12, nl_13, nl_14, nl_15, nl_16, nl_32, nl_240, nl_250, nl_255, nl_265, nl_270, nl_0, nI_add, pk_mul]; done)) (by omega) ?_
  rw [c11]
  refine s_Mdl_answered_201 (b1 := 0) (b2 := b)  (sp_storable) ?_ (by omega)
  rintro _ _ _ _ ⟨rfl, rfl, rfl, rfl⟩
  dsimp only [Option.toList, List.cons_append, List.nil_append]
  refine s_Mdl_answered_204 ?_
  refine s_Mdl_answered_206 ?_
  refine s_Mdl_answered_207 ?_
  refine s_Mdl_answered_210 (fun h210 => ?_) (fun h210 => absurd h210 (by exact h2))
  refine s_Mdl_answered_255 ?_
  refine s_Mdl_answered_256 ?_
  refine s_Mdl_answered_259 (fun h259 => ?_) (fun h259 => absurd h259 (by exact h3))
  refine s_Mdl_answered_281 ?_
  refine s_Mdl_answered_282 ?_
  refine s_Mdl_answered_285 (fun h285 => absurd h285 (by exact h4)) (fun h285 => ?_)
  refine s_Mdl_answered_288 ?_
  refine s_Mdl_answered_289 ?_
  refine s_Mdl_answered_292 (fun h292 => ?_) (fun h292 => absurd h292 (by exact h5))
  exact lp_an3 (d := d + 1) hR h ht hQ
theorem cm_rep {I : ex_I} {m : Nat} {ad : Nat → Nat} {cm : Nat → Int32} (hi : ∀ i j, ad i = ad j → i = j) (r c t a w : Int32) (hm : cm_ok I ad cm) : cm_ok (o_rep I m ad r c t a w) ad cm := by
  intro j hj
  rw [((fr_rep hi r c t a w).2 31 (by decide)).1]
  exact hm j hj
theorem sp_answeredR {Γ : ex_G} {d : Nat} {K : ex_K} {I : ex_I} {F : ex_F} {b : Nat} {m : Nat} {ad : Nat → Nat} {s : MS} (hR : rf_ok K F m ad) (h : rr I m ad s) {t : Nat} {cm w : Nat → Int32} {Q : List (Nat → Int32)} (ht : t < 3) (hQ : s.2 (100 + t) = w :: Q) (hm : cm_ok I ad cm) (hl : cm 3 = 200 → ((m_ev (m_dr (m_an1 s cm w) (w 2) (w 3) (if cm 8 = 0 then 1 else 0)) (cm 7)).2 14).length < 40) : ex_E Γ (d + 4) M_Mdl_answered 0 [some (.inr (some m)), some (.inl (nI t)), none, none, none, none, none, none, none, none] [] K I F b (fun x K' I' F' => x = none ∧ K = K' ∧ F = F' ∧ rr I' m ad (m_answered s t cm w Q)) := by
  have m1 := hR.1
  have hq := h.2.2.2.2.2.2.2.1 t ht
  rw [hQ] at hq
  have hw := (hq.2.2 0 w rfl).1
  have w0 := hw 0 (by decide)
  have w2 := hw 2 (by decide)
  have w3 := hw 3 (by decide)
  have w4 := hw 4 (by decide)
  have w7 := hw 7 (by decide)
  simp only [Nat.mul_zero, Nat.add_zero] at w0 w2 w3 w4 w7
  have c3 : I 21 (ad 31) 243 = cm 3 := hm 3 (by decide)
  have c4 : I 21 (ad 31) 244 = cm 4 := hm 4 (by decide)
  have c14 : I 21 (ad 31) 254 = cm 14 := hm 14 (by decide)
  have eT := h.2.2.1 805 (by decide)
  have e32 : (32 : Int32) * nI t = nI (32 * t) := by simp only [nl_32, pk_mul]
  unfold m_answered
  by_cases hc : cm 3 = 200
  · replace hl := hl hc
    refine s_Mdl_answered_0 ?_
    refine s_Mdl_answered_2 ?_
    refine s_Mdl_answered_3 ?_
    rw [e32]
    refine s_Mdl_answered_4 ?_
    refine s_Mdl_answered_5 ?_
    refine s_Mdl_answered_6 (by first | rfl | assumption | (simp [*]; done)) (by first | rfl | assumption | (simp [*]; done)) ?_
    refine s_Mdl_answered_9 ?_
    refine s_Mdl_answered_12 (by first | exact rf_row hR | rfl) (by exact rk_row hR) (by rw [rn_row hR]; exact n_in (a := 243) (by first | rfl | (simp only [nl_1, nl_2, nl_3, nl_4, nl_5, nl_6, nl_7, nl_8, nl_9, nl_10, nl_11, nl_12, nl_13, nl_14, nl_15, nl_16, nl_32, nl_240, nl_250, nl_255, nl_265, nl_270, nl_0, nI_add, pk_mul]; done)) (by omega) (by omega)) ?_
    refine ex_ixl (q := 243) (by first | rfl | (simp only [nl_1, nl_2, nl_3, nl_4, nl_5, nl_6, nl_7, nl_8, nl_9, nl_10, nl_11, nl_12, nl_13, nl_14, nl_15, nl_16, nl_32, nl_240, nl_250, nl_255, nl_265, nl_270, nl_0, nI_add, pk_mul]; done)) (by omega) ?_
    rw [c3, hc]
    refine s_Mdl_answered_13 ?_
    refine s_Mdl_answered_14 ?_
    refine s_Mdl_answered_15 (by first | rfl | assumption | (simp [*]; done)) (by first | rfl | assumption | (simp [*]; done)) ?_
    refine s_Mdl_answered_18 ?_
    refine s_Mdl_answered_19 ?_
    refine s_Mdl_answered_20 ?_
    refine s_Mdl_answered_21 (by first | exact rf_wait hR | rfl) (by exact rk_wait hR) (by rw [rn_wait hR]; exact n_in (a := ((32 * t) + 2)) (by first | rfl | (simp only [nl_1, nl_2, nl_3, nl_4, nl_5, nl_6, nl_7, nl_8, nl_9, nl_10, nl_11, nl_12, nl_13, nl_14, nl_15, nl_16, nl_32, nl_240, nl_250, nl_255, nl_265, nl_270, nl_0, nI_add, pk_mul]; done)) (by omega) (by omega)) ?_
    refine ex_ixl (q := ((32 * t) + 2)) (by first | rfl | (simp only [nl_1, nl_2, nl_3, nl_4, nl_5, nl_6, nl_7, nl_8, nl_9, nl_10, nl_11, nl_12, nl_13, nl_14, nl_15, nl_16, nl_32, nl_240, nl_250, nl_255, nl_265, nl_270, nl_0, nI_add, pk_mul]; done)) (by omega) ?_
    rw [w2]
    refine s_Mdl_answered_22 ?_
    refine s_Mdl_answered_24 ?_
    refine s_Mdl_answered_25 (by first | rfl | assumption | (simp [*]; done)) (by first | rfl | assumption | (simp [*]; done)) ?_
    refine s_Mdl_answered_28 ?_
    refine s_Mdl_answered_29 ?_
    refine s_Mdl_answered_30 ?_
    refine s_Mdl_answered_31 (by first | exact rf_wait hR | rfl) (by exact rk_wait hR) (by rw [rn_wait hR]; exact n_in (a := ((32 * t) + 3)) (by first | rfl | (simp only [nl_1, nl_2, nl_3, nl_4, nl_5, nl_6, nl_7, nl_8, nl_9, nl_10, nl_11, nl_12, nl_13, nl_14, nl_15, nl_16, nl_32, nl_240, nl_250, nl_255, nl_265, nl_270, nl_0, nI_add, pk_mul]; done)) (by omega) (by omega)) ?_
    refine ex_ixl (q := ((32 * t) + 3)) (by first | rfl | (simp only [nl_1, nl_2, nl_3, nl_4, nl_5, nl_6, nl_7, nl_8, nl_9, nl_10, nl_11, nl_12, nl_13, nl_14, nl_15, nl_16, nl_32, nl_240, nl_250, nl_255, nl_265, nl_270, nl_0, nI_add, pk_mul]; done)) (by omega) ?_
    rw [w3]
    refine s_Mdl_answered_32 ?_
    refine s_Mdl_answered_34 ?_
    refine s_Mdl_answered_35 (by first | rfl | assumption | (simp [*]; done)) (by first | rfl | assumption | (simp [*]; done)) ?_
    refine s_Mdl_answered_38 ?_
    refine s_Mdl_answered_39 (by first | rfl | assumption | (simp [*]; done)) (by first | rfl | assumption | (simp [*]; done)) ?_
    refine s_Mdl_answered_42 ?_
    refine s_Mdl_answered_45 (by first | exact rf_row hR | rfl) (by exact rk_row hR) (by rw [rn_row hR]; exact n_in (a := 254) (by first | rfl | (simp only [nl_1, nl_2, nl_3, nl_4, nl_5, nl_6, nl_7, nl_8, nl_9, nl_10, nl_11, nl_12, nl_13, nl_14, nl_15, nl_16, nl_32, nl_240, nl_250, nl_255, nl_265, nl_270, nl_0, nI_add, pk_mul]; done)) (by omega) (by omega)) ?_
    refine ex_ixl (q := 254) (by first | rfl | (simp only [nl_1, nl_2, nl_3, nl_4, nl_5, nl_6, nl_7, nl_8, nl_9, nl_10, nl_11, nl_12, nl_13, nl_14, nl_15, nl_16, nl_32, nl_240, nl_250, nl_255, nl_265, nl_270, nl_0, nI_add, pk_mul]; done)) (by omega) ?_
    rw [eT, c14]
    refine s_Mdl_answered_46 ?_
    refine s_Mdl_answered_47 ?_
    refine s_Mdl_answered_49 ?_
    refine s_Mdl_answered_50 ?_
    refine s_Mdl_answered_53 (fun h53 => ?_) (fun h53 => absurd h53 (by decide))
    refine s_Mdl_answered_68 ?_
    refine s_Mdl_answered_69 (by first | rfl | assumption | (simp [*]; done)) (by first | rfl | assumption | (simp [*]; done)) ?_
    refine s_Mdl_answered_72 ?_
    refine s_Mdl_answered_75 (by first | exact rf_row hR | rfl) (by exact rk_row hR) (by rw [rn_row hR]; exact n_in (a := 244) (by first | rfl | (simp only [nl_1, nl_2, nl_3, nl_4, nl_5, nl_6, nl_7, nl_8, nl_9, nl_10, nl_11, nl_12, nl_13, nl_14, nl_15, nl_16, nl_32, nl_240, nl_250, nl_255, nl_265, nl_270, nl_0, nI_add, pk_mul]; done)) (by omega) (by omega)) ?_
    refine ex_ixl (q := 244) (by first | rfl | (simp only [nl_1, nl_2, nl_3, nl_4, nl_5, nl_6, nl_7, nl_8, nl_9, nl_10, nl_11, nl_12, nl_13, nl_14, nl_15, nl_16, nl_32, nl_240, nl_250, nl_255, nl_265, nl_270, nl_0, nI_add, pk_mul]; done)) (by omega) ?_
    rw [c4]
    refine s_Mdl_answered_76 ?_
    refine s_Mdl_answered_78 ?_
    refine s_Mdl_answered_79 ?_
    refine s_Mdl_answered_82 (fun h82 => ?_) (fun h82 => absurd h82 (by exact fun q => q rfl))
    refine s_Mdl_answered_92 ?_
    refine s_Mdl_answered_93 ?_
    refine s_Mdl_answered_97 ?_
    refine s_Mdl_answered_99 ?_
    refine s_Mdl_answered_100 ?_
    refine s_Mdl_answered_101 (by first | rfl | assumption | (simp [*]; done)) (by first | rfl | assumption | (simp [*]; done)) ?_
    refine s_Mdl_answered_104 ?_
    refine s_Mdl_answered_105 (by first | exact rf_wait hR | rfl) (by exact rk_wait hR) (by rw [rn_wait hR]; exact n_in (a := (32 * t)) (by first | rfl | (simp only [nl_1, nl_2, nl_3, nl_4, nl_5, nl_6, nl_7, nl_8, nl_9, nl_10, nl_11, nl_12, nl_13, nl_14, nl_15, nl_16, nl_32, nl_240, nl_250, nl_255, nl_265, nl_270, nl_0, nI_add, pk_mul]; done)) (by omega) (by omega)) ?_
    refine ex_ixl (q := (32 * t)) (by first | rfl | (simp only [nl_1, nl_2, nl_3, nl_4, nl_5, nl_6, nl_7, nl_8, nl_9, nl_10, nl_11, nl_12, nl_13, nl_14, nl_15, nl_16, nl_32, nl_240, nl_250, nl_255, nl_265, nl_270, nl_0, nI_add, pk_mul]; done)) (by omega) ?_
    rw [w0]
    refine s_Mdl_answered_106 ?_
    refine s_Mdl_answered_108 (fun h108 => absurd h108 (by decide)) (fun h108 => ?_)
    refine s_Mdl_answered_111 ?_
    refine s_Mdl_answered_113 ?_
    refine s_Mdl_answered_114 (by first | rfl | assumption | (simp [*]; done)) (by first | rfl | assumption | (simp [*]; done)) ?_
    refine s_Mdl_answered_117 ?_
    refine s_Mdl_answered_118 ?_
    refine s_Mdl_answered_119 ?_
    refine s_Mdl_answered_120 (by first | exact rf_wait hR | rfl) (by exact rk_wait hR) (by rw [rn_wait hR]; exact n_in (a := ((32 * t) + 4)) (by first | rfl | (simp only [nl_1, nl_2, nl_3, nl_4, nl_5, nl_6, nl_7, nl_8, nl_9, nl_10, nl_11, nl_12, nl_13, nl_14, nl_15, nl_16, nl_32, nl_240, nl_250, nl_255, nl_265, nl_270, nl_0, nI_add, pk_mul]; done)) (by omega) (by omega)) ?_
    refine ex_ixl (q := ((32 * t) + 4)) (by first | rfl | (simp only [nl_1, nl_2, nl_3, nl_4, nl_5, nl_6, nl_7, nl_8, nl_9, nl_10, nl_11, nl_12, nl_13, nl_14, nl_15, nl_16, nl_32, nl_240, nl_250, nl_255, nl_265, nl_270, nl_0, nI_add, pk_mul]; done)) (by omega) ?_
    rw [w4]
    refine s_Mdl_answered_121 (fun h121 => ?_) (fun h121 => ?_)
    · refine s_Mdl_answered_130 ?_
      refine s_Mdl_answered_133 ?_
      refine s_Mdl_answered_137 ?_
      refine s_Mdl_answered_139 (fun h139 => absurd h139 (by decide)) (fun h139 => ?_)
      refine s_Mdl_answered_142 ?_
      refine s_Mdl_answered_144 ?_
      refine s_Mdl_answered_148 ?_
      refine s_Mdl_answered_150 (fun h150 => absurd h150 (by decide)) (fun h150 => ?_)
      refine s_Mdl_answered_153 ?_
      refine s_Mdl_answered_155 ?_
      refine s_Mdl_answered_159 ?_
      refine s_Mdl_answered_160 ?_
      refine s_Mdl_answered_163 (fun h163 => absurd h163 (by exact fun q => q rfl)) (fun h163 => ?_)
      refine s_Mdl_answered_166 ?_
      refine s_Mdl_answered_167 ?_
      refine s_Mdl_answered_182 (b1 := 0) (b2 := b) (by first | rfl | assumption | (simp [*]; done)) (by first | rfl | assumption | (simp [*]; done)) (sp_reply hR) ?_ (by omega)
      rintro _ _ _ _ ⟨rfl, rfl, rfl, rfl⟩
      dsimp only [Option.toList, List.cons_append, List.nil_append]
      have k := rr_rep hR h (w 0) 200 (cm 4) (s.1 805 0 - cm 14) 2
      have e1 : m_an1 s cm w = m_rep s (w 0) 200 (cm 4) (s.1 805 0 - cm 14) 2 := by
        unfold m_an1
        rw [if_pos (Or.inl hc), hc, if_neg (show ¬ (200 : Int32) = 304 by decide), if_neg h121, if_pos rfl]
      rw [e1] at hl ⊢
      exact lp_b200 hR k ht (by rw [m_rep_2]; exact hQ) (cm_rep hR.2.1 _ _ _ _ _ hm) hc hl
    · refine s_Mdl_answered_124 ?_
      refine s_Mdl_answered_127 ?_
      refine s_Mdl_answered_137 ?_
      refine s_Mdl_answered_139 (fun h139 => absurd h139 (by decide)) (fun h139 => ?_)
      refine s_Mdl_answered_142 ?_
      refine s_Mdl_answered_144 ?_
      refine s_Mdl_answered_148 ?_
      refine s_Mdl_answered_150 (fun h150 => absurd h150 (by decide)) (fun h150 => ?_)
      refine s_Mdl_answered_153 ?_
      refine s_Mdl_answered_155 ?_
      refine s_Mdl_answered_159 ?_
      refine s_Mdl_answered_160 ?_
      refine s_Mdl_answered_163 (fun h163 => absurd h163 (by exact fun q => q rfl)) (fun h163 => ?_)
      refine s_Mdl_answered_166 ?_
      refine s_Mdl_answered_167 ?_
      refine s_Mdl_answered_182 (b1 := 0) (b2 := b) (by first | rfl | assumption | (simp [*]; done)) (by first | rfl | assumption | (simp [*]; done)) (sp_reply hR) ?_ (by omega)
      rintro _ _ _ _ ⟨rfl, rfl, rfl, rfl⟩
      dsimp only [Option.toList, List.cons_append, List.nil_append]
      have k := rr_rep hR h (w 0) 304 (cm 4) (s.1 805 0 - cm 14) 2
      have e1 : m_an1 s cm w = m_rep s (w 0) 304 (cm 4) (s.1 805 0 - cm 14) 2 := by
        unfold m_an1
        rw [if_pos (Or.inl hc), hc, if_neg (show ¬ (200 : Int32) = 304 by decide), if_pos h121, if_pos rfl]
      rw [e1] at hl ⊢
      exact lp_b200 hR k ht (by rw [m_rep_2]; exact hQ) (cm_rep hR.2.1 _ _ _ _ _ hm) hc hl
  by_cases hc3 : cm 3 = 304
  · skip
    refine s_Mdl_answered_0 ?_
    refine s_Mdl_answered_2 ?_
    refine s_Mdl_answered_3 ?_
    rw [e32]
    refine s_Mdl_answered_4 ?_
    refine s_Mdl_answered_5 ?_
    refine s_Mdl_answered_6 (by first | rfl | assumption | (simp [*]; done)) (by first | rfl | assumption | (simp [*]; done)) ?_
    refine s_Mdl_answered_9 ?_
    refine s_Mdl_answered_12 (by first | exact rf_row hR | rfl) (by exact rk_row hR) (by rw [rn_row hR]; exact n_in (a := 243) (by first | rfl | (simp only [nl_1, nl_2, nl_3, nl_4, nl_5, nl_6, nl_7, nl_8, nl_9, nl_10, nl_11, nl_12, nl_13, nl_14, nl_15, nl_16, nl_32, nl_240, nl_250, nl_255, nl_265, nl_270, nl_0, nI_add, pk_mul]; done)) (by omega) (by omega)) ?_
    refine ex_ixl (q := 243) (by first | rfl | (simp only [nl_1, nl_2, nl_3, nl_4, nl_5, nl_6, nl_7, nl_8, nl_9, nl_10, nl_11, nl_12, nl_13, nl_14, nl_15, nl_16, nl_32, nl_240, nl_250, nl_255, nl_265, nl_270, nl_0, nI_add, pk_mul]; done)) (by omega) ?_
    rw [c3, hc3]
    refine s_Mdl_answered_13 ?_
    refine s_Mdl_answered_14 ?_
    refine s_Mdl_answered_15 (by first | rfl | assumption | (simp [*]; done)) (by first | rfl | assumption | (simp [*]; done)) ?_
    refine s_Mdl_answered_18 ?_
    refine s_Mdl_answered_19 ?_
    refine s_Mdl_answered_20 ?_
    refine s_Mdl_answered_21 (by first | exact rf_wait hR | rfl) (by exact rk_wait hR) (by rw [rn_wait hR]; exact n_in (a := ((32 * t) + 2)) (by first | rfl | (simp only [nl_1, nl_2, nl_3, nl_4, nl_5, nl_6, nl_7, nl_8, nl_9, nl_10, nl_11, nl_12, nl_13, nl_14, nl_15, nl_16, nl_32, nl_240, nl_250, nl_255, nl_265, nl_270, nl_0, nI_add, pk_mul]; done)) (by omega) (by omega)) ?_
    refine ex_ixl (q := ((32 * t) + 2)) (by first | rfl | (simp only [nl_1, nl_2, nl_3, nl_4, nl_5, nl_6, nl_7, nl_8, nl_9, nl_10, nl_11, nl_12, nl_13, nl_14, nl_15, nl_16, nl_32, nl_240, nl_250, nl_255, nl_265, nl_270, nl_0, nI_add, pk_mul]; done)) (by omega) ?_
    rw [w2]
    refine s_Mdl_answered_22 ?_
    refine s_Mdl_answered_24 ?_
    refine s_Mdl_answered_25 (by first | rfl | assumption | (simp [*]; done)) (by first | rfl | assumption | (simp [*]; done)) ?_
    refine s_Mdl_answered_28 ?_
    refine s_Mdl_answered_29 ?_
    refine s_Mdl_answered_30 ?_
    refine s_Mdl_answered_31 (by first | exact rf_wait hR | rfl) (by exact rk_wait hR) (by rw [rn_wait hR]; exact n_in (a := ((32 * t) + 3)) (by first | rfl | (simp only [nl_1, nl_2, nl_3, nl_4, nl_5, nl_6, nl_7, nl_8, nl_9, nl_10, nl_11, nl_12, nl_13, nl_14, nl_15, nl_16, nl_32, nl_240, nl_250, nl_255, nl_265, nl_270, nl_0, nI_add, pk_mul]; done)) (by omega) (by omega)) ?_
    refine ex_ixl (q := ((32 * t) + 3)) (by first | rfl | (simp only [nl_1, nl_2, nl_3, nl_4, nl_5, nl_6, nl_7, nl_8, nl_9, nl_10, nl_11, nl_12, nl_13, nl_14, nl_15, nl_16, nl_32, nl_240, nl_250, nl_255, nl_265, nl_270, nl_0, nI_add, pk_mul]; done)) (by omega) ?_
    rw [w3]
    refine s_Mdl_answered_32 ?_
    refine s_Mdl_answered_34 ?_
    refine s_Mdl_answered_35 (by first | rfl | assumption | (simp [*]; done)) (by first | rfl | assumption | (simp [*]; done)) ?_
    refine s_Mdl_answered_38 ?_
    refine s_Mdl_answered_39 (by first | rfl | assumption | (simp [*]; done)) (by first | rfl | assumption | (simp [*]; done)) ?_
    refine s_Mdl_answered_42 ?_
    refine s_Mdl_answered_45 (by first | exact rf_row hR | rfl) (by exact rk_row hR) (by rw [rn_row hR]; exact n_in (a := 254) (by first | rfl | (simp only [nl_1, nl_2, nl_3, nl_4, nl_5, nl_6, nl_7, nl_8, nl_9, nl_10, nl_11, nl_12, nl_13, nl_14, nl_15, nl_16, nl_32, nl_240, nl_250, nl_255, nl_265, nl_270, nl_0, nI_add, pk_mul]; done)) (by omega) (by omega)) ?_
    refine ex_ixl (q := 254) (by first | rfl | (simp only [nl_1, nl_2, nl_3, nl_4, nl_5, nl_6, nl_7, nl_8, nl_9, nl_10, nl_11, nl_12, nl_13, nl_14, nl_15, nl_16, nl_32, nl_240, nl_250, nl_255, nl_265, nl_270, nl_0, nI_add, pk_mul]; done)) (by omega) ?_
    rw [eT, c14]
    refine s_Mdl_answered_46 ?_
    refine s_Mdl_answered_47 ?_
    refine s_Mdl_answered_49 ?_
    refine s_Mdl_answered_50 ?_
    refine s_Mdl_answered_53 (fun h53 => absurd h53 (by exact fun q => q rfl)) (fun h53 => ?_)
    refine s_Mdl_answered_56 ?_
    refine s_Mdl_answered_57 (by first | rfl | assumption | (simp [*]; done)) (by first | rfl | assumption | (simp [*]; done)) ?_
    refine s_Mdl_answered_60 ?_
    refine s_Mdl_answered_61 ?_
    refine s_Mdl_answered_63 ?_
    refine s_Mdl_answered_64 (by first | exact rf_wait hR | rfl) (by exact rk_wait hR) (by rw [rn_wait hR]; exact n_in (a := ((32 * t) + 7)) (by first | rfl | (simp only [nl_1, nl_2, nl_3, nl_4, nl_5, nl_6, nl_7, nl_8, nl_9, nl_10, nl_11, nl_12, nl_13, nl_14, nl_15, nl_16, nl_32, nl_240, nl_250, nl_255, nl_265, nl_270, nl_0, nI_add, pk_mul]; done)) (by omega) (by omega)) ?_
    refine ex_ixl (q := ((32 * t) + 7)) (by first | rfl | (simp only [nl_1, nl_2, nl_3, nl_4, nl_5, nl_6, nl_7, nl_8, nl_9, nl_10, nl_11, nl_12, nl_13, nl_14, nl_15, nl_16, nl_32, nl_240, nl_250, nl_255, nl_265, nl_270, nl_0, nI_add, pk_mul]; done)) (by omega) ?_
    rw [w7]
    refine s_Mdl_answered_65 ?_
    refine s_Mdl_answered_76 ?_
    refine s_Mdl_answered_78 ?_
    refine s_Mdl_answered_79 ?_
    refine s_Mdl_answered_82 (fun h82 => absurd h82 (by decide)) (fun h82 => ?_)
    refine s_Mdl_answered_85 ?_
    refine s_Mdl_answered_86 ?_
    refine s_Mdl_answered_89 (fun h89 => absurd h89 (by exact fun q => q rfl)) (fun h89 => ?_)
    refine s_Mdl_answered_92 ?_
    refine s_Mdl_answered_93 ?_
    refine s_Mdl_answered_97 ?_
    refine s_Mdl_answered_99 ?_
    refine s_Mdl_answered_100 ?_
    refine s_Mdl_answered_101 (by first | rfl | assumption | (simp [*]; done)) (by first | rfl | assumption | (simp [*]; done)) ?_
    refine s_Mdl_answered_104 ?_
    refine s_Mdl_answered_105 (by first | exact rf_wait hR | rfl) (by exact rk_wait hR) (by rw [rn_wait hR]; exact n_in (a := (32 * t)) (by first | rfl | (simp only [nl_1, nl_2, nl_3, nl_4, nl_5, nl_6, nl_7, nl_8, nl_9, nl_10, nl_11, nl_12, nl_13, nl_14, nl_15, nl_16, nl_32, nl_240, nl_250, nl_255, nl_265, nl_270, nl_0, nI_add, pk_mul]; done)) (by omega) (by omega)) ?_
    refine ex_ixl (q := (32 * t)) (by first | rfl | (simp only [nl_1, nl_2, nl_3, nl_4, nl_5, nl_6, nl_7, nl_8, nl_9, nl_10, nl_11, nl_12, nl_13, nl_14, nl_15, nl_16, nl_32, nl_240, nl_250, nl_255, nl_265, nl_270, nl_0, nI_add, pk_mul]; done)) (by omega) ?_
    rw [w0]
    refine s_Mdl_answered_106 ?_
    refine s_Mdl_answered_108 (fun h108 => absurd h108 (by decide)) (fun h108 => ?_)
    refine s_Mdl_answered_111 ?_
    refine s_Mdl_answered_113 ?_
    refine s_Mdl_answered_114 (by first | rfl | assumption | (simp [*]; done)) (by first | rfl | assumption | (simp [*]; done)) ?_
    refine s_Mdl_answered_117 ?_
    refine s_Mdl_answered_118 ?_
    refine s_Mdl_answered_119 ?_
    refine s_Mdl_answered_120 (by first | exact rf_wait hR | rfl) (by exact rk_wait hR) (by rw [rn_wait hR]; exact n_in (a := ((32 * t) + 4)) (by first | rfl | (simp only [nl_1, nl_2, nl_3, nl_4, nl_5, nl_6, nl_7, nl_8, nl_9, nl_10, nl_11, nl_12, nl_13, nl_14, nl_15, nl_16, nl_32, nl_240, nl_250, nl_255, nl_265, nl_270, nl_0, nI_add, pk_mul]; done)) (by omega) (by omega)) ?_
    refine ex_ixl (q := ((32 * t) + 4)) (by first | rfl | (simp only [nl_1, nl_2, nl_3, nl_4, nl_5, nl_6, nl_7, nl_8, nl_9, nl_10, nl_11, nl_12, nl_13, nl_14, nl_15, nl_16, nl_32, nl_240, nl_250, nl_255, nl_265, nl_270, nl_0, nI_add, pk_mul]; done)) (by omega) ?_
    rw [w4]
    refine s_Mdl_answered_121 (fun h121 => ?_) (fun h121 => ?_)
    · refine s_Mdl_answered_130 ?_
      refine s_Mdl_answered_133 ?_
      refine s_Mdl_answered_137 ?_
      refine s_Mdl_answered_139 (fun h139 => absurd h139 (by decide)) (fun h139 => ?_)
      refine s_Mdl_answered_142 ?_
      refine s_Mdl_answered_144 ?_
      refine s_Mdl_answered_148 ?_
      refine s_Mdl_answered_150 (fun h150 => absurd h150 (by decide)) (fun h150 => ?_)
      refine s_Mdl_answered_153 ?_
      refine s_Mdl_answered_155 ?_
      refine s_Mdl_answered_159 ?_
      refine s_Mdl_answered_160 ?_
      refine s_Mdl_answered_163 (fun h163 => ?_) (fun h163 => absurd h163 (by decide))
      refine s_Mdl_answered_170 ?_
      refine s_Mdl_answered_171 ?_
      refine s_Mdl_answered_174 (fun h174 => absurd h174 (by exact fun q => q rfl)) (fun h174 => ?_)
      refine s_Mdl_answered_177 ?_
      refine s_Mdl_answered_178 ?_
      refine s_Mdl_answered_182 (b1 := 0) (b2 := b) (by first | rfl | assumption | (simp [*]; done)) (by first | rfl | assumption | (simp [*]; done)) (sp_reply hR) ?_ (by omega)
      rintro _ _ _ _ ⟨rfl, rfl, rfl, rfl⟩
      dsimp only [Option.toList, List.cons_append, List.nil_append]
      have k := rr_rep hR h (w 0) 200 (w 7) (s.1 805 0 - cm 14) 3
      have e1 : m_an1 s cm w = m_rep s (w 0) 200 (w 7) (s.1 805 0 - cm 14) 3 := by
        unfold m_an1
        rw [if_pos (Or.inr hc3), hc3, if_pos rfl, if_neg h121, if_neg (show ¬ (304 : Int32) = 200 by decide)]
      rw [e1]
      exact lp_b304 hR k ht (by rw [m_rep_2]; exact hQ) (cm_rep hR.2.1 _ _ _ _ _ hm) hc3
    · refine s_Mdl_answered_124 ?_
      refine s_Mdl_answered_127 ?_
      refine s_Mdl_answered_137 ?_
      refine s_Mdl_answered_139 (fun h139 => absurd h139 (by decide)) (fun h139 => ?_)
      refine s_Mdl_answered_142 ?_
      refine s_Mdl_answered_144 ?_
      refine s_Mdl_answered_148 ?_
      refine s_Mdl_answered_150 (fun h150 => absurd h150 (by decide)) (fun h150 => ?_)
      refine s_Mdl_answered_153 ?_
      refine s_Mdl_answered_155 ?_
      refine s_Mdl_answered_159 ?_
      refine s_Mdl_answered_160 ?_
      refine s_Mdl_answered_163 (fun h163 => ?_) (fun h163 => absurd h163 (by decide))
      refine s_Mdl_answered_170 ?_
      refine s_Mdl_answered_171 ?_
      refine s_Mdl_answered_174 (fun h174 => absurd h174 (by exact fun q => q rfl)) (fun h174 => ?_)
      refine s_Mdl_answered_177 ?_
      refine s_Mdl_answered_178 ?_
      refine s_Mdl_answered_182 (b1 := 0) (b2 := b) (by first | rfl | assumption | (simp [*]; done)) (by first | rfl | assumption | (simp [*]; done)) (sp_reply hR) ?_ (by omega)
      rintro _ _ _ _ ⟨rfl, rfl, rfl, rfl⟩
      dsimp only [Option.toList, List.cons_append, List.nil_append]
      have k := rr_rep hR h (w 0) 304 (w 7) (s.1 805 0 - cm 14) 3
      have e1 : m_an1 s cm w = m_rep s (w 0) 304 (w 7) (s.1 805 0 - cm 14) 3 := by
        unfold m_an1
        rw [if_pos (Or.inr hc3), hc3, if_pos rfl, if_pos h121, if_neg (show ¬ (304 : Int32) = 200 by decide)]
      rw [e1]
      exact lp_b304 hR k ht (by rw [m_rep_2]; exact hQ) (cm_rep hR.2.1 _ _ _ _ _ hm) hc3
  have e1 : m_an1 s cm w = m_rep s (w 0) (cm 3) 0 0 0 := by
    unfold m_an1
    rw [if_neg (fun z => z.elim hc hc3)]
  rw [e1]
  have k := rr_rep hR h (w 0) (cm 3) 0 0 0
  refine s_Mdl_answered_0 ?_
  refine s_Mdl_answered_2 ?_
  refine s_Mdl_answered_3 ?_
  rw [e32]
  refine s_Mdl_answered_4 ?_
  refine s_Mdl_answered_5 ?_
  refine s_Mdl_answered_6 (by first | rfl | assumption | (simp [*]; done)) (by first | rfl | assumption | (simp [*]; done)) ?_
  refine s_Mdl_answered_9 ?_
  refine s_Mdl_answered_12 (by first | exact rf_row hR | rfl) (by exact rk_row hR) (by rw [rn_row hR]; exact n_in (a := 243) (by first | rfl | (simp only [nl_1, nl_2, nl_3, nl_4, nl_5, nl_6, nl_7, nl_8, nl_9, nl_10, nl_11, nl_12, nl_13, nl_14, nl_15, nl_16, nl_32, nl_240, nl_250, nl_255, nl_265, nl_270, nl_0, nI_add, pk_mul]; done)) (by omega) (by omega)) ?_
  refine ex_ixl (q := 243) (by first | rfl | (simp only [nl_1, nl_2, nl_3, nl_4, nl_5, nl_6, nl_7, nl_8, nl_9, nl_10, nl_11, nl_12, nl_13, nl_14, nl_15, nl_16, nl_32, nl_240, nl_250, nl_255, nl_265, nl_270, nl_0, nI_add, pk_mul]; done)) (by omega) ?_
  rw [c3]
  refine s_Mdl_answered_13 ?_
  refine s_Mdl_answered_14 ?_
  refine s_Mdl_answered_15 (by first | rfl | assumption | (simp [*]; done)) (by first | rfl | assumption | (simp [*]; done)) ?_
  refine s_Mdl_answered_18 ?_
  refine s_Mdl_answered_19 ?_
  refine s_Mdl_answered_20 ?_
  refine s_Mdl_answered_21 (by first | exact rf_wait hR | rfl) (by exact rk_wait hR) (by rw [rn_wait hR]; exact n_in (a := ((32 * t) + 2)) (by first | rfl | (simp only [nl_1, nl_2, nl_3, nl_4, nl_5, nl_6, nl_7, nl_8, nl_9, nl_10, nl_11, nl_12, nl_13, nl_14, nl_15, nl_16, nl_32, nl_240, nl_250, nl_255, nl_265, nl_270, nl_0, nI_add, pk_mul]; done)) (by omega) (by omega)) ?_
  refine ex_ixl (q := ((32 * t) + 2)) (by first | rfl | (simp only [nl_1, nl_2, nl_3, nl_4, nl_5, nl_6, nl_7, nl_8, nl_9, nl_10, nl_11, nl_12, nl_13, nl_14, nl_15, nl_16, nl_32, nl_240, nl_250, nl_255, nl_265, nl_270, nl_0, nI_add, pk_mul]; done)) (by omega) ?_
  rw [w2]
  refine s_Mdl_answered_22 ?_
  refine s_Mdl_answered_24 ?_
  refine s_Mdl_answered_25 (by first | rfl | assumption | (simp [*]; done)) (by first | rfl | assumption | (simp [*]; done)) ?_
  refine s_Mdl_answered_28 ?_
  refine s_Mdl_answered_29 ?_
  refine s_Mdl_answered_30 ?_
  refine s_Mdl_answered_31 (by first | exact rf_wait hR | rfl) (by exact rk_wait hR) (by rw [rn_wait hR]; exact n_in (a := ((32 * t) + 3)) (by first | rfl | (simp only [nl_1, nl_2, nl_3, nl_4, nl_5, nl_6, nl_7, nl_8, nl_9, nl_10, nl_11, nl_12, nl_13, nl_14, nl_15, nl_16, nl_32, nl_240, nl_250, nl_255, nl_265, nl_270, nl_0, nI_add, pk_mul]; done)) (by omega) (by omega)) ?_
  refine ex_ixl (q := ((32 * t) + 3)) (by first | rfl | (simp only [nl_1, nl_2, nl_3, nl_4, nl_5, nl_6, nl_7, nl_8, nl_9, nl_10, nl_11, nl_12, nl_13, nl_14, nl_15, nl_16, nl_32, nl_240, nl_250, nl_255, nl_265, nl_270, nl_0, nI_add, pk_mul]; done)) (by omega) ?_
  rw [w3]
  refine s_Mdl_answered_32 ?_
  refine s_Mdl_answered_34 ?_
  refine s_Mdl_answered_35 (by first | rfl | assumption | (simp [*]; done)) (by first | rfl | assumption | (simp [*]; done)) ?_
  refine s_Mdl_answered_38 ?_
  refine s_Mdl_answered_39 (by first | rfl | assumption | (simp [*]; done)) (by first | rfl | assumption | (simp [*]; done)) ?_
  refine s_Mdl_answered_42 ?_
  refine s_Mdl_answered_45 (by first | exact rf_row hR | rfl) (by exact rk_row hR) (by rw [rn_row hR]; exact n_in (a := 254) (by first | rfl | (simp only [nl_1, nl_2, nl_3, nl_4, nl_5, nl_6, nl_7, nl_8, nl_9, nl_10, nl_11, nl_12, nl_13, nl_14, nl_15, nl_16, nl_32, nl_240, nl_250, nl_255, nl_265, nl_270, nl_0, nI_add, pk_mul]; done)) (by omega) (by omega)) ?_
  refine ex_ixl (q := 254) (by first | rfl | (simp only [nl_1, nl_2, nl_3, nl_4, nl_5, nl_6, nl_7, nl_8, nl_9, nl_10, nl_11, nl_12, nl_13, nl_14, nl_15, nl_16, nl_32, nl_240, nl_250, nl_255, nl_265, nl_270, nl_0, nI_add, pk_mul]; done)) (by omega) ?_
  rw [eT, c14]
  refine s_Mdl_answered_46 ?_
  refine s_Mdl_answered_47 ?_
  refine s_Mdl_answered_49 ?_
  refine s_Mdl_answered_50 ?_
  refine s_Mdl_answered_53 (fun h53 => ?_) (fun h53 => absurd h53 (by exact hc3))
  refine s_Mdl_answered_68 ?_
  refine s_Mdl_answered_69 (by first | rfl | assumption | (simp [*]; done)) (by first | rfl | assumption | (simp [*]; done)) ?_
  refine s_Mdl_answered_72 ?_
  refine s_Mdl_answered_75 (by first | exact rf_row hR | rfl) (by exact rk_row hR) (by rw [rn_row hR]; exact n_in (a := 244) (by first | rfl | (simp only [nl_1, nl_2, nl_3, nl_4, nl_5, nl_6, nl_7, nl_8, nl_9, nl_10, nl_11, nl_12, nl_13, nl_14, nl_15, nl_16, nl_32, nl_240, nl_250, nl_255, nl_265, nl_270, nl_0, nI_add, pk_mul]; done)) (by omega) (by omega)) ?_
  refine ex_ixl (q := 244) (by first | rfl | (simp only [nl_1, nl_2, nl_3, nl_4, nl_5, nl_6, nl_7, nl_8, nl_9, nl_10, nl_11, nl_12, nl_13, nl_14, nl_15, nl_16, nl_32, nl_240, nl_250, nl_255, nl_265, nl_270, nl_0, nI_add, pk_mul]; done)) (by omega) ?_
  rw [c4]
  refine s_Mdl_answered_76 ?_
  refine s_Mdl_answered_78 ?_
  refine s_Mdl_answered_79 ?_
  refine s_Mdl_answered_82 (fun h82 => absurd h82 (by exact hc)) (fun h82 => ?_)
  refine s_Mdl_answered_85 ?_
  refine s_Mdl_answered_86 ?_
  refine s_Mdl_answered_89 (fun h89 => ?_) (fun h89 => absurd h89 (by exact hc3))
  refine s_Mdl_answered_96 ?_
  refine s_Mdl_answered_97 ?_
  refine s_Mdl_answered_99 ?_
  refine s_Mdl_answered_100 ?_
  refine s_Mdl_answered_101 (by first | rfl | assumption | (simp [*]; done)) (by first | rfl | assumption | (simp [*]; done)) ?_
  refine s_Mdl_answered_104 ?_
  refine s_Mdl_answered_105 (by first | exact rf_wait hR | rfl) (by exact rk_wait hR) (by rw [rn_wait hR]; exact n_in (a := (32 * t)) (by first | rfl | (simp only [nl_1, nl_2, nl_3, nl_4, nl_5, nl_6, nl_7, nl_8, nl_9, nl_10, nl_11, nl_12, nl_13, nl_14, nl_15, nl_16, nl_32, nl_240, nl_250, nl_255, nl_265, nl_270, nl_0, nI_add, pk_mul]; done)) (by omega) (by omega)) ?_
  refine ex_ixl (q := (32 * t)) (by first | rfl | (simp only [nl_1, nl_2, nl_3, nl_4, nl_5, nl_6, nl_7, nl_8, nl_9, nl_10, nl_11, nl_12, nl_13, nl_14, nl_15, nl_16, nl_32, nl_240, nl_250, nl_255, nl_265, nl_270, nl_0, nI_add, pk_mul]; done)) (by omega) ?_
  rw [w0]
  refine s_Mdl_answered_106 ?_
  refine s_Mdl_answered_108 (fun h108 => ?_) (fun h108 => absurd h108 (by exact fun q => q rfl))
  refine s_Mdl_answered_136 ?_
  refine s_Mdl_answered_137 ?_
  refine s_Mdl_answered_139 (fun h139 => ?_) (fun h139 => absurd h139 (by exact fun q => q rfl))
  refine s_Mdl_answered_147 ?_
  refine s_Mdl_answered_148 ?_
  refine s_Mdl_answered_150 (fun h150 => ?_) (fun h150 => absurd h150 (by exact fun q => q rfl))
  refine s_Mdl_answered_158 ?_
  refine s_Mdl_answered_159 ?_
  refine s_Mdl_answered_160 ?_
  refine s_Mdl_answered_163 (fun h163 => ?_) (fun h163 => absurd h163 (by exact hc))
  refine s_Mdl_answered_170 ?_
  refine s_Mdl_answered_171 ?_
  refine s_Mdl_answered_174 (fun h174 => ?_) (fun h174 => absurd h174 (by exact hc3))
  refine s_Mdl_answered_181 ?_
  refine s_Mdl_answered_182 (b1 := 0) (b2 := b) (by first | rfl | assumption | (simp [*]; done)) (by first | rfl | assumption | (simp [*]; done)) (sp_reply hR) ?_ (by omega)
  rintro _ _ _ _ ⟨rfl, rfl, rfl, rfl⟩
  dsimp only [Option.toList, List.cons_append, List.nil_append]
  by_cases c204 : cm 3 = 204
  · have z := lp_b204 (Γ := Γ) (d := d) (l6 := some (.inl (s.1 805 0 - cm 14))) (l7 := some (.inl (cm 4))) (l8 := some (.inl 0)) (l9 := none) (b := b) hR k ht (by rw [m_rep_2]; exact hQ) (cm_rep hR.2.1 _ _ _ _ _ hm) c204
    rw [← c204] at z
    exact z
  by_cases c404 : cm 3 = 404
  · have z := lp_b404 (Γ := Γ) (d := d) (l6 := some (.inl (s.1 805 0 - cm 14))) (l7 := some (.inl (cm 4))) (l8 := some (.inl 0)) (l9 := none) (b := b) hR k ht (by rw [m_rep_2]; exact hQ) (cm_rep hR.2.1 _ _ _ _ _ hm) c404
    rw [← c404] at z
    exact z
  exact lp_belse hR k ht (by rw [m_rep_2]; exact hQ) (cm_rep hR.2.1 _ _ _ _ _ hm) hc hc3 c204 c404
