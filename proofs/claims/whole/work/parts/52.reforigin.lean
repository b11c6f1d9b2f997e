/-! The reference: a message comes to an origin, a message is delivered -/
theorem lp_cpO {Γ : ex_G} {d : Nat} {K : ex_K} {I : ex_I} {F : ex_F} {b : Nat} {Q : Option ex_V → ex_K → ex_I → ex_F → Prop} {m t : Nat} {X : Nat → Int32} {ad : Nat → Nat} {l1 l2 : Option ex_V} (hR : rf_ok K F m ad) (ht : t < 3) (kk : ∀ lj, ex_E Γ d M_Mdl_atOrigin 127 [some (.inr (some m)), l1, l2, some (.inl (nI (270 + 15 * t))), lj] [] K (ex_wi I 21 (ad 31) (cpy15 X (255) (270 + 15 * t) 15)) F b Q) : ∀ k j J, 15 - j = k → j ≤ 15 → J = ex_wi I 21 (ad 31) (cpy15 X (255) (270 + 15 * t) j) →
    ex_E Γ d M_Mdl_atOrigin 94 [some (.inr (some m)), l1, l2, some (.inl (nI (270 + 15 * t))), some (.inl (nI j))] [] K J F b Q := by
  have m1 := hR.1
  intro k
  induction k with
  | zero =>
    intro j J hk hj hJ
    subst hJ
    have e : j = 15 := by omega
    subst e
    refine s_Mdl_atOrigin_94 ?_
    refine s_Mdl_atOrigin_96 ?_
    refine s_Mdl_atOrigin_98 (fun h98 => ?_) (fun h98 => absurd h98 (by exact fun q => q (nI_le (a := 15) (b := 15) (by omega) (by omega))))
    exact kk _
  | succ k ih =>
    intro j J hk hj hJ
    subst hJ
    refine s_Mdl_atOrigin_94 ?_
    refine s_Mdl_atOrigin_96 ?_
    refine s_Mdl_atOrigin_98 (fun h98 => absurd h98 (by exact nI_ge (a := j) (b := 15) (by omega) (by omega))) (fun h98 => ?_)
    refine s_Mdl_atOrigin_101 ?_
    refine s_Mdl_atOrigin_102 (by first | rfl | assumption | (simp [*]; done)) (by first | rfl | assumption | (simp [*]; done)) ?_
    refine s_Mdl_atOrigin_105 ?_
    refine s_Mdl_atOrigin_106 ?_
    refine s_Mdl_atOrigin_108 ?_
    refine s_Mdl_atOrigin_109 ?_
    refine s_Mdl_atOrigin_110 (by first | rfl | assumption | (simp [*]; done)) (by first | rfl | assumption | (simp [*]; done)) ?_
    refine s_Mdl_atOrigin_113 ?_
    refine s_Mdl_atOrigin_116 ?_
    refine s_Mdl_atOrigin_118 ?_
    refine s_Mdl_atOrigin_119 (by first | exact rf_row hR | rfl) (by exact rk_row hR) (by rw [rn_row hR]; exact n_in (a := (255 + j)) (by first | rfl | (simp only [nl_1, nl_2, nl_3, nl_4, nl_5, nl_6, nl_7, nl_8, nl_9, nl_10, nl_11, nl_12, nl_13, nl_14, nl_15, nl_16, nl_32, nl_240, nl_250, nl_255, nl_265, nl_270, nl_0, nI_add, pk_mul]; done)) (by omega) (by omega)) ?_
    refine ex_ixl (q := (255 + j)) (by first | rfl | (simp only [nl_1, nl_2, nl_3, nl_4, nl_5, nl_6, nl_7, nl_8, nl_9, nl_10, nl_11, nl_12, nl_13, nl_14, nl_15, nl_16, nl_32, nl_240, nl_250, nl_255, nl_265, nl_270, nl_0, nI_add, pk_mul]; done)) (by omega) ?_
    refine s_Mdl_atOrigin_120 (by first | exact rf_row hR | rfl) (by exact rk_row hR) (by rw [rn_row hR]; exact n_in (a := ((270 + 15 * t) + j)) (by first | rfl | (simp only [nl_1, nl_2, nl_3, nl_4, nl_5, nl_6, nl_7, nl_8, nl_9, nl_10, nl_11, nl_12, nl_13, nl_14, nl_15, nl_16, nl_32, nl_240, nl_250, nl_255, nl_265, nl_270, nl_0, nI_add, pk_mul]; done)) (by omega) (by omega)) ?_
    refine ex_ixs (q := ((270 + 15 * t) + j)) (by first | rfl | (simp only [nl_1, nl_2, nl_3, nl_4, nl_5, nl_6, nl_7, nl_8, nl_9, nl_10, nl_11, nl_12, nl_13, nl_14, nl_15, nl_16, nl_32, nl_240, nl_250, nl_255, nl_265, nl_270, nl_0, nI_add, pk_mul]; done)) (by omega) ?_
    refine s_Mdl_atOrigin_121 ?_
    refine s_Mdl_atOrigin_124 ?_
    rw [ex_wi_at, ex_wi_u, nI_1]
    refine ih (j + 1) _ (by omega) (by omega) ?_
    congr 1
    funext c
    unfold cpy15
    by_cases e : c = 270 + 15 * t + j
    · rw [if_pos e, if_neg (by omega), if_pos (by omega), e]
      exact congrArg X (by omega)
    · rw [if_neg e]
      by_cases z : 270 + 15 * t ≤ c ∧ c < 270 + 15 * t + j
      · rw [if_pos z, if_pos (by omega)]
      · rw [if_neg z, if_neg (by omega)]
theorem lp_cpD {Γ : ex_G} {d : Nat} {K : ex_K} {I : ex_I} {F : ex_F} {b : Nat} {Q : Option ex_V → ex_K → ex_I → ex_F → Prop} {m e : Nat} {X : Nat → Int32} {ad : Nat → Nat}  (hR : rf_ok K F m ad) (he : e < 16) (kk : ∀ lj, ex_E Γ d M_Mdl_deliver 45 [some (.inr (some m)), some (.inl (nI e)), lj] [] K (ex_wi I 21 (ad 31) (cpy15 X (15 * e) (240) 15)) F b Q) : ∀ k j J, 15 - j = k → j ≤ 15 → J = ex_wi I 21 (ad 31) (cpy15 X (15 * e) (240) j) →
    ex_E Γ d M_Mdl_deliver 12 [some (.inr (some m)), some (.inl (nI e)), some (.inl (nI j))] [] K J F b Q := by
  have m1 := hR.1
  intro k
  induction k with
  | zero =>
    intro j J hk hj hJ
    subst hJ
    have e : j = 15 := by omega
    subst e
    refine s_Mdl_deliver_12 ?_
    refine s_Mdl_deliver_13 ?_
    refine s_Mdl_deliver_15 (fun h15 => ?_) (fun h15 => absurd h15 (by exact fun q => q (nI_le (a := 15) (b := 15) (by omega) (by omega))))
    exact kk _
  | succ k ih =>
    intro j J hk hj hJ
    subst hJ
    refine s_Mdl_deliver_12 ?_
    refine s_Mdl_deliver_13 ?_
    refine s_Mdl_deliver_15 (fun h15 => absurd h15 (by exact nI_ge (a := j) (b := 15) (by omega) (by omega))) (fun h15 => ?_)
    refine s_Mdl_deliver_18 ?_
    refine s_Mdl_deliver_19 (by first | rfl | assumption | (simp [*]; done)) (by first | rfl | assumption | (simp [*]; done)) ?_
    refine s_Mdl_deliver_22 ?_
    refine s_Mdl_deliver_25 ?_
    refine s_Mdl_deliver_26 ?_
    refine s_Mdl_deliver_27 ?_
    refine s_Mdl_deliver_28 (by first | rfl | assumption | (simp [*]; done)) (by first | rfl | assumption | (simp [*]; done)) ?_
    refine s_Mdl_deliver_31 ?_
    refine s_Mdl_deliver_33 ?_
    refine s_Mdl_deliver_34 ?_
    refine s_Mdl_deliver_35 ?_
    refine s_Mdl_deliver_36 ?_
    refine s_Mdl_deliver_37 (by first | exact rf_row hR | rfl) (by exact rk_row hR) (by rw [rn_row hR]; exact n_in (a := ((15 * e) + j)) (by first | rfl | (simp only [nl_1, nl_2, nl_3, nl_4, nl_5, nl_6, nl_7, nl_8, nl_9, nl_10, nl_11, nl_12, nl_13, nl_14, nl_15, nl_16, nl_32, nl_240, nl_250, nl_255, nl_265, nl_270, nl_0, nI_add, pk_mul]; done)) (by omega) (by omega)) ?_
    refine ex_ixl (q := ((15 * e) + j)) (by first | rfl | (simp only [nl_1, nl_2, nl_3, nl_4, nl_5, nl_6, nl_7, nl_8, nl_9, nl_10, nl_11, nl_12, nl_13, nl_14, nl_15, nl_16, nl_32, nl_240, nl_250, nl_255, nl_265, nl_270, nl_0, nI_add, pk_mul]; done)) (by omega) ?_
    refine s_Mdl_deliver_38 (by first | exact rf_row hR | rfl) (by exact rk_row hR) (by rw [rn_row hR]; exact n_in (a := (240 + j)) (by first | rfl | (simp only [nl_1, nl_2, nl_3, nl_4, nl_5, nl_6, nl_7, nl_8, nl_9, nl_10, nl_11, nl_12, nl_13, nl_14, nl_15, nl_16, nl_32, nl_240, nl_250, nl_255, nl_265, nl_270, nl_0, nI_add, pk_mul]; done)) (by omega) (by omega)) ?_
    refine ex_ixs (q := (240 + j)) (by first | rfl | (simp only [nl_1, nl_2, nl_3, nl_4, nl_5, nl_6, nl_7, nl_8, nl_9, nl_10, nl_11, nl_12, nl_13, nl_14, nl_15, nl_16, nl_32, nl_240, nl_250, nl_255, nl_265, nl_270, nl_0, nI_add, pk_mul]; done)) (by omega) ?_
    refine s_Mdl_deliver_39 ?_
    refine s_Mdl_deliver_42 ?_
    rw [ex_wi_at, ex_wi_u, nI_1]
    refine ih (j + 1) _ (by omega) (by omega) ?_
    congr 1
    funext c
    unfold cpy15
    by_cases e : c = 240 + j
    · rw [if_pos e, if_neg (by omega), if_pos (by omega), e]
      exact congrArg X (by omega)
    · rw [if_neg e]
      by_cases z : 240 ≤ c ∧ c < 240 + j
      · rw [if_pos z, if_pos (by omega)]
      · rw [if_neg z, if_neg (by omega)]
theorem cpy_0 (X : Nat → Int32) (q t : Nat) : cpy15 X q t 0 = X := by
  funext c
  unfold cpy15
  rw [if_neg (by omega)]
theorem rr_last {K : ex_K} {F : ex_F} {I : ex_I} {m t : Nat} {ad : Nat → Nat} {s : MS} {row : Nat → Int32} (hR : rf_ok K F m ad) (h : rr I m ad s) (ht : t < 3) (hrow : ∀ j, j < 15 → I 21 (ad 31) (255 + j) = row j) : rr (ex_wi I 21 (ad 31) (cpy15 (I 21 (ad 31)) 255 (270 + 15 * t) 15)) m ad (cu s (300 + t) row) := by
  obtain ⟨h1, h2, h3, h4, h5, h6, h7, h8, h9⟩ := h
  have f : fr I (ex_wi I 21 (ad 31) (cpy15 (I 21 (ad 31)) 255 (270 + 15 * t) 15)) ad [] [31] := fr_wa hR.2.1 (Or.inl rfl) (by simp)
  refine ⟨fun j hj => ?_, fun j hj => ?_, fun g hg => ?_, ?_, rt_wi h5, ?_, ?_, fun u hu => ?_, fun u hu j hj => ?_⟩
  · obtain ⟨a1, a2, a3, a4, a5, a6, a7, a8, -⟩ := rrA_ne hj
    rw [(f.2 j (by simp [a6])).1, cu_ne _ _ (by omega), h1 j hj]
  · have e : j ≠ 31 := fun z => by rw [z] at hj; exact absurd hj (by decide)
    rw [(f.2 j (by simp [e])).2, cu_ne _ _ (by have := (rrB_ne hj).2.2.2; omega), h2 j hj]
  · obtain ⟨b1, b2, b3, b4, b5, b6, b7, b8, b9⟩ := rrS_ne hg
    rw [f.1 g (by simp) b5 b7, cu_ne _ _ (by omega), h3 g hg]
  · rw [f.1 22 (by simp) (by decide) (by decide), cu_ne _ _ (by omega), h4]
  · exact r_ent_fr f (by simp) (by decide) (by decide) h6
  · obtain ⟨u1, u2, u3⟩ := h7
    refine ⟨by rw [ex_wi_f _ _ _ (by decide)]; exact u1, u2, fun e r he j hj => ?_⟩
    have le := (List.getElem?_eq_some_iff.mp he).1
    have le2 : (s.2 31).length ≤ 16 := u2
    have le3 : e < (s.2 31).length := le
    rw [ex_wi_at]
    unfold cpy15
    rw [if_neg (by omega)]
    exact u3 e r he j hj
  · exact r_que_fr f (by decide) (by decide) (by decide) (h8 u hu)
  · rw [ex_wi_at]
    unfold cpy15
    by_cases e : u = t
    · subst e
      rw [if_pos (by omega), cu_at, show 270 + 15 * u + j - (270 + 15 * u) + 255 = 255 + j by omega, hrow j hj]
    · rw [if_neg (by omega), cu_ne _ _ (by omega), h9 u hu j hj]
def m_atw (s : MS) (t p : Nat) (cm : Nat → Int32) : MS :=
  let s1 := cw s 29 t (cm 2)
  let s2 := cu (m_wks s1 p cm) (300 + t) (m_wkr s1 (nI t) (cm 2) p cm)
  tu s2 31 (m_snd (s2.2 31) (m_wkr s1 (nI t) (cm 2) p cm))
def m_ato (s : MS) (t p : Nat) (cm : Nat → Int32) : MS :=
  if s.1 28 t = 0 then
    if cm 2 = 0 then tu s 31 (m_snd (s.2 31) (arow (nI t) 0 0))
    else if cm 2 = s.1 29 t then tu s 31 (m_snd (s.2 31) (s.1 (300 + t)))
    else if cm 2 ≤ s.1 29 t then s
    else m_atw s t p cm
  else s
theorem sp_atoR {Γ : ex_G} {d : Nat} {K : ex_K} {I : ex_I} {F : ex_F} {b : Nat} {m : Nat} {ad : Nat → Nat} {s : MS} (hR : rf_ok K F m ad) (h : rr I m ad s) {t p : Nat} {cm : Nat → Int32} (hm : cm_ok I ad cm) (ht : t < 3) (hp : ¬ cm 2 = 0 → p < 8 ∧ cm 5 = nI p ∧ (cm 3 = 1 ∨ cm 3 = 2 ∨ cm 3 = 3)) : ex_E Γ (d + 2) M_Mdl_atOrigin 0 [some (.inr (some m)), some (.inl (nI t)), none, none, none] [] K I F b (fun x K' I' F' => x = none ∧ K = K' ∧ F = F' ∧ rr I' m ad (m_ato s t p cm)) := by
  have m1 := hR.1
  have v28 := h.2.1 28 (by decide)
  have v29 := h.1 29 (by decide)
  have c2 : I 21 (ad 31) 242 = cm 2 := hm 2 (by decide)
  have e3 : (270 : Int32) + 15 * nI t = nI (270 + 15 * t) := by simp only [nl_270, nl_15, pk_mul, nI_add]
  have f1 := h.2.2.2.2.2.2.1.1
  have f2 := h.2.2.2.2.2.2.1.2.1
  unfold m_ato
  refine s_Mdl_atOrigin_0 ?_
  refine s_Mdl_atOrigin_1 (by first | rfl | assumption | (simp [*]; done)) (by first | rfl | assumption | (simp [*]; done)) ?_
  refine s_Mdl_atOrigin_4 ?_
  refine s_Mdl_atOrigin_5 (by first | exact rf_stopped hR | rfl) (by exact rk_stopped hR) (by rw [rn_stopped hR]; exact n_in (a := t) (by first | rfl | (simp only [nl_1, nl_2, nl_3, nl_4, nl_5, nl_6, nl_7, nl_8, nl_9, nl_10, nl_11, nl_12, nl_13, nl_14, nl_15, nl_16, nl_32, nl_240, nl_250, nl_255, nl_265, nl_270, nl_0, nI_add, pk_mul]; done)) (by omega) (by omega)) ?_
  refine ex_ixl (q := t) (by first | rfl | (simp only [nl_1, nl_2, nl_3, nl_4, nl_5, nl_6, nl_7, nl_8, nl_9, nl_10, nl_11, nl_12, nl_13, nl_14, nl_15, nl_16, nl_32, nl_240, nl_250, nl_255, nl_265, nl_270, nl_0, nI_add, pk_mul]; done)) (by omega) ?_
  rw [v28]
  refine s_Mdl_atOrigin_6 (fun h6 => ?_) (fun h6 => ?_)
  · refine s_Mdl_atOrigin_10 ?_
    refine s_Mdl_atOrigin_11 (by first | rfl | assumption | (simp [*]; done)) (by first | rfl | assumption | (simp [*]; done)) ?_
    refine s_Mdl_atOrigin_14 ?_
    refine s_Mdl_atOrigin_17 (by first | exact rf_row hR | rfl) (by exact rk_row hR) (by rw [rn_row hR]; exact n_in (a := 242) (by first | rfl | (simp only [nl_1, nl_2, nl_3, nl_4, nl_5, nl_6, nl_7, nl_8, nl_9, nl_10, nl_11, nl_12, nl_13, nl_14, nl_15, nl_16, nl_32, nl_240, nl_250, nl_255, nl_265, nl_270, nl_0, nI_add, pk_mul]; done)) (by omega) (by omega)) ?_
    refine ex_ixl (q := 242) (by first | rfl | (simp only [nl_1, nl_2, nl_3, nl_4, nl_5, nl_6, nl_7, nl_8, nl_9, nl_10, nl_11, nl_12, nl_13, nl_14, nl_15, nl_16, nl_32, nl_240, nl_250, nl_255, nl_265, nl_270, nl_0, nI_add, pk_mul]; done)) (by omega) ?_
    rw [c2]
    refine s_Mdl_atOrigin_18 ?_
    refine s_Mdl_atOrigin_19 ?_
    refine s_Mdl_atOrigin_22 ?_
    refine s_Mdl_atOrigin_24 ?_
    refine s_Mdl_atOrigin_25 ?_
    refine s_Mdl_atOrigin_26 ?_
    rw [e3]
    refine s_Mdl_atOrigin_27 ?_
    refine s_Mdl_atOrigin_28 ?_
    refine s_Mdl_atOrigin_29 (fun h29 => ?_) (fun h29 => ?_)
    · refine s_Mdl_atOrigin_50 ?_
      refine s_Mdl_atOrigin_51 ?_
      refine s_Mdl_atOrigin_52 (by first | rfl | assumption | (simp [*]; done)) (by first | rfl | assumption | (simp [*]; done)) ?_
      refine s_Mdl_atOrigin_55 ?_
      refine s_Mdl_atOrigin_56 (by first | exact rf_taken hR | rfl) (by exact rk_taken hR) (by rw [rn_taken hR]; exact n_in (a := t) (by first | rfl | (simp only [nl_1, nl_2, nl_3, nl_4, nl_5, nl_6, nl_7, nl_8, nl_9, nl_10, nl_11, nl_12, nl_13, nl_14, nl_15, nl_16, nl_32, nl_240, nl_250, nl_255, nl_265, nl_270, nl_0, nI_add, pk_mul]; done)) (by omega) (by omega)) ?_
      refine ex_ixl (q := t) (by first | rfl | (simp only [nl_1, nl_2, nl_3, nl_4, nl_5, nl_6, nl_7, nl_8, nl_9, nl_10, nl_11, nl_12, nl_13, nl_14, nl_15, nl_16, nl_32, nl_240, nl_250, nl_255, nl_265, nl_270, nl_0, nI_add, pk_mul]; done)) (by omega) ?_
      rw [v29]
      refine s_Mdl_atOrigin_57 (fun h57 => ?_) (fun h57 => ?_)
      · refine s_Mdl_atOrigin_68 ?_
        refine s_Mdl_atOrigin_69 ?_
        refine s_Mdl_atOrigin_70 (by first | rfl | assumption | (simp [*]; done)) (by first | rfl | assumption | (simp [*]; done)) ?_
        refine s_Mdl_atOrigin_73 ?_
        refine s_Mdl_atOrigin_74 (by first | exact rf_taken hR | rfl) (by exact rk_taken hR) (by rw [rn_taken hR]; exact n_in (a := t) (by first | rfl | (simp only [nl_1, nl_2, nl_3, nl_4, nl_5, nl_6, nl_7, nl_8, nl_9, nl_10, nl_11, nl_12, nl_13, nl_14, nl_15, nl_16, nl_32, nl_240, nl_250, nl_255, nl_265, nl_270, nl_0, nI_add, pk_mul]; done)) (by omega) (by omega)) ?_
        refine ex_ixl (q := t) (by first | rfl | (simp only [nl_1, nl_2, nl_3, nl_4, nl_5, nl_6, nl_7, nl_8, nl_9, nl_10, nl_11, nl_12, nl_13, nl_14, nl_15, nl_16, nl_32, nl_240, nl_250, nl_255, nl_265, nl_270, nl_0, nI_add, pk_mul]; done)) (by omega) ?_
        rw [v29]
        refine s_Mdl_atOrigin_75 (fun h75 => ?_) (fun h75 => ?_)
        · refine s_Mdl_atOrigin_134 ?_
          rw [if_pos h6, if_neg h29, if_neg h57, if_pos h75]
          exact ⟨rfl, rfl, rfl, h⟩
        · refine s_Mdl_atOrigin_78 ?_
          refine s_Mdl_atOrigin_79 (by first | rfl | assumption | (simp [*]; done)) (by first | rfl | assumption | (simp [*]; done)) ?_
          refine s_Mdl_atOrigin_82 ?_
          refine s_Mdl_atOrigin_83 ?_
          refine s_Mdl_atOrigin_84 (by first | exact rf_taken hR | rfl) (by exact rk_taken hR) (by rw [rn_taken hR]; exact n_in (a := t) (by first | rfl | (simp only [nl_1, nl_2, nl_3, nl_4, nl_5, nl_6, nl_7, nl_8, nl_9, nl_10, nl_11, nl_12, nl_13, nl_14, nl_15, nl_16, nl_32, nl_240, nl_250, nl_255, nl_265, nl_270, nl_0, nI_add, pk_mul]; done)) (by omega) (by omega)) ?_
          refine ex_ixs (q := t) (by first | rfl | (simp only [nl_1, nl_2, nl_3, nl_4, nl_5, nl_6, nl_7, nl_8, nl_9, nl_10, nl_11, nl_12, nl_13, nl_14, nl_15, nl_16, nl_32, nl_240, nl_250, nl_255, nl_265, nl_270, nl_0, nI_add, pk_mul]; done)) (by omega) ?_
          obtain ⟨p1, p2, p3⟩ := hp h29
          rw [if_pos h6, if_neg h29, if_neg h57, if_neg h75]
          unfold m_atw
          dsimp only
          have k1 := rr_ua (k := 29) (i := t) (x := cm 2) hR h (by decide)
          have hm1 : cm_ok (ex_ui I 21 (ad 29) t (cm 2)) ad cm := fun j hj => by rw [ex_ui_ne _ _ _ _ (rf_ne hR (by decide))]; exact hm j hj
          refine s_Mdl_atOrigin_85 ?_
          refine s_Mdl_atOrigin_86 ?_
          refine s_Mdl_atOrigin_87 ?_
          refine s_Mdl_atOrigin_88 (b1 := 0) (b2 := b) (by first | rfl | assumption | (simp [*]; done)) (by first | rfl | assumption | (simp [*]; done)) (sp_workR (d := d) hR k1 hm1 p1 p2 p3) ?_ (by omega)
          rintro _ _ I2 _ ⟨rfl, rfl, rfl, k2, w2⟩
          dsimp only [Option.toList, List.cons_append, List.nil_append]
          refine s_Mdl_atOrigin_91 ?_
          refine s_Mdl_atOrigin_92 ?_
          refine lp_cpO (I := I2) (X := I2 21 (ad 31)) hR ht (fun lj => ?_) 15 0 _ rfl (by omega) (by rw [cpy_0, ex_wi_id])
          have k3 := rr_last hR k2 ht w2
          have f3 := k3.2.2.2.2.2.2.1.1
          have f4 := k3.2.2.2.2.2.2.1.2.1
          have w3 : ∀ j, j < 15 → ex_wi I2 21 (ad 31) (cpy15 (I2 21 (ad 31)) 255 (270 + 15 * t) 15) 21 (ad 31) (255 + j) = m_wkr (cw s 29 t (cm 2)) (nI t) (cm 2) p cm j := fun j hj => by
            rw [ex_wi_at]
            unfold cpy15
            rw [if_neg (by omega)]
            exact w2 j hj
          refine s_Mdl_atOrigin_127 ?_
          refine s_Mdl_atOrigin_128 ?_
          refine s_Mdl_atOrigin_131 (b1 := b) (b2 := 0) (by first | rfl | assumption | (simp [*]; done)) (by first | rfl | assumption | (simp [*]; done)) (sp_snd2 (q := 255) hR rfl f3 f4 (Or.inr (by omega)) (by omega)) ?_ (by omega)
          rintro _ _ _ _ ⟨rfl, rfl, rfl, rfl⟩
          dsimp only [Option.toList, List.cons_append, List.nil_append]
          refine s_Mdl_atOrigin_134 ?_
          exact ⟨rfl, rfl, rfl, rr_sent hR k3 w3⟩
      · refine s_Mdl_atOrigin_60 ?_
        refine s_Mdl_atOrigin_61 ?_
        refine s_Mdl_atOrigin_62 (b1 := 0) (b2 := b) (by first | rfl | assumption | (simp [*]; done)) (by first | rfl | assumption | (simp [*]; done)) (sp_snd2 (n := (s.2 31).length) (q := 270 + 15 * t) hR rfl f1 f2 (Or.inr (by omega)) (by omega)) ?_ (by omega)
        rintro _ _ _ _ ⟨rfl, rfl, rfl, rfl⟩
        dsimp only [Option.toList, List.cons_append, List.nil_append]
        refine s_Mdl_atOrigin_65 ?_
        refine s_Mdl_atOrigin_134 ?_
        rw [if_pos h6, if_neg h29, if_pos h57]
        exact ⟨rfl, rfl, rfl, rr_sent hR h (h.2.2.2.2.2.2.2.2 t ht)⟩
    · refine s_Mdl_atOrigin_32 ?_
      refine s_Mdl_atOrigin_33 ?_
      refine s_Mdl_atOrigin_34 ?_
      refine s_Mdl_atOrigin_35 ?_
      refine s_Mdl_atOrigin_36 ?_
      refine s_Mdl_atOrigin_37 (b1 := 0) (b2 := b) (by first | rfl | assumption | (simp [*]; done)) (by first | rfl | assumption | (simp [*]; done)) (sp_blank hR) ?_ (by omega)
      rintro _ _ _ _ ⟨rfl, rfl, rfl, rfl⟩
      dsimp only [Option.toList, List.cons_append, List.nil_append]
      refine s_Mdl_atOrigin_40 ?_
      refine s_Mdl_atOrigin_41 ?_
      refine s_Mdl_atOrigin_44 (b1 := 0) (b2 := b) (by first | rfl | assumption | (simp [*]; done)) (by first | rfl | assumption | (simp [*]; done)) (sp_snd2 (n := (s.2 31).length) (q := 255) hR rfl (by rw [ex_wi_f _ _ _ (by decide)]; exact f1) f2 (Or.inr (by omega)) (by omega)) ?_ (by omega)
      rintro _ _ _ _ ⟨rfl, rfl, rfl, rfl⟩
      dsimp only [Option.toList, List.cons_append, List.nil_append]
      refine s_Mdl_atOrigin_47 ?_
      refine s_Mdl_atOrigin_134 ?_
      rw [if_pos h6, if_pos h29]
      exact ⟨rfl, rfl, rfl, rr_sent hR (rr_bl hR h (bl_out _ _ _ _ _)) (fun j hj => by rw [ex_wi_at]; exact bl_row _ _ _ _ j hj)⟩
  · refine s_Mdl_atOrigin_9 ?_
    rw [if_neg h6]
    exact ⟨rfl, rfl, rfl, h⟩
def m_d0 (s : MS) (e : Nat) : MS := tu s 31 ((s.2 31).eraseIdx e)
def m_dan (s : MS) (t : Nat) (cm : Nat → Int32) : MS := match s.2 (100 + t) with
  | [] => s
  | w :: Q => if cm 2 = s.1 24 t then m_answered s t cm w Q else s
def m_dlv (s : MS) (e t p : Nat) (cm : Nat → Int32) : MS :=
  if cm 1 = 0 then m_ato (m_d0 s e) t p cm
  else if cm 2 = 0 then m_prb (m_d0 s e) t
  else if s.1 27 t = 0 then m_dan (m_d0 s e) t cm
  else m_d0 s e
theorem sp_deliverR {Γ : ex_G} {d : Nat} {K : ex_K} {I : ex_I} {F : ex_F} {b : Nat} {m : Nat} {ad : Nat → Nat} {s : MS} (hR : rf_ok K F m ad) (h : rr I m ad s) {e t p : Nat} {cm : Nat → Int32} (he : (s.2 31)[e]? = some cm) (ht : t < 3) (h0 : cm 0 = nI t) (hp : cm 1 = 0 → ¬ cm 2 = 0 → p < 8 ∧ cm 5 = nI p ∧ (cm 3 = 1 ∨ cm 3 = 2 ∨ cm 3 = 3))
    (hl : ∀ w Q, ¬ cm 1 = 0 → ¬ cm 2 = 0 → s.2 (100 + t) = w :: Q → cm 2 = s.1 24 t → cm 3 = 200 → ((m_ev (m_dr (m_an1 (m_d0 s e) cm w) (w 2) (w 3) (if cm 8 = 0 then 1 else 0)) (cm 7)).2 14).length < 40) :
    ex_E Γ (d + 5) M_Mdl_deliver 0 [some (.inr (some m)), some (.inl (nI e)), none] [] K I F b (fun x K' I' F' => x = some (.inl (1)) ∧ K = K' ∧ F = F' ∧ rr I' m ad (m_dlv s e t p cm)) := by
  have m1 := hR.1
  have le := (List.getElem?_eq_some_iff.mp he).1
  obtain ⟨u1, u2, u3⟩ := h.2.2.2.2.2.2.1
  have r1 := u3 e cm he
  refine s_Mdl_deliver_0 ?_
  refine s_Mdl_deliver_1 ?_
  refine s_Mdl_deliver_2 (b1 := 0) (b2 := b) (by first | rfl | assumption | (simp [*]; done)) (by first | rfl | assumption | (simp [*]; done)) (sp_flies hR u1) ?_ (by omega)
  rintro _ _ _ _ ⟨rfl, rfl, rfl, rfl⟩
  dsimp only [Option.toList, List.cons_append, List.nil_append]
  rw [if_pos ⟨nI_pos (by omega), nI_ge (by omega) (by omega)⟩]
  refine s_Mdl_deliver_5 (fun h5 => ?_) (fun h5 => absurd h5 (by decide))
  refine s_Mdl_deliver_10 ?_
  refine s_Mdl_deliver_11 ?_
  refine lp_cpD (I := I) (X := I 21 (ad 31)) hR (by omega) (fun lj => ?_) 15 0 _ rfl (by omega) (by rw [cpy_0, ex_wi_id])
  have k1 := rr_row hR h (X := cpy15 (I 21 (ad 31)) (15 * e) 240 15) (fun c hc => by
    unfold cpy15
    rw [if_neg (by omega)])
  have hm1 : ∀ j, j < 15 → ex_wi I 21 (ad 31) (cpy15 (I 21 (ad 31)) (15 * e) 240 15) 21 (ad 31) (240 + j) = cm j := fun j hj => by
    rw [ex_wi_at]
    unfold cpy15
    rw [if_pos (by omega), ← r1 j hj]
    exact congrArg _ (by omega)
  generalize ex_wi I 21 (ad 31) (cpy15 (I 21 (ad 31)) (15 * e) 240 15) = I1 at k1 hm1 ⊢
  refine s_Mdl_deliver_45 ?_
  refine s_Mdl_deliver_46 ?_
  refine s_Mdl_deliver_47 (b1 := 0) (b2 := b) (by first | rfl | assumption | (simp [*]; done)) (by first | rfl | assumption | (simp [*]; done)) (sp_outR hR k1 le) ?_ (by omega)
  rintro _ _ I2 _ ⟨rfl, rfl, rfl, k2, w2⟩
  dsimp only [Option.toList, List.cons_append, List.nil_append]
  have hm : cm_ok I2 ad cm := fun j hj => by rw [w2 _ (by omega)]; exact hm1 j hj
  have c0 : I2 21 (ad 31) 240 = cm 0 := hm 0 (by decide)
  have c1 : I2 21 (ad 31) 241 = cm 1 := hm 1 (by decide)
  have c2 : I2 21 (ad 31) 242 = cm 2 := hm 2 (by decide)
  replace k2 : rr I2 m ad (m_d0 s e) := k2
  have v27 := k2.2.1 27 (by decide)
  have v24 := k2.1 24 (by decide)
  have hq := k2.2.2.2.2.2.2.2.1 t ht
  have q1 := hq.1
  have e27 : (m_d0 s e).1 27 t = s.1 27 t := rfl
  have e24 : (m_d0 s e).1 24 t = s.1 24 t := rfl
  have e100 : (m_d0 s e).2 (100 + t) = s.2 (100 + t) := tu_ne _ _ (by omega)
  unfold m_dlv
  refine s_Mdl_deliver_50 ?_
  refine s_Mdl_deliver_51 (by first | rfl | assumption | (simp [*]; done)) (by first | rfl | assumption | (simp [*]; done)) ?_
  refine s_Mdl_deliver_54 ?_
  refine s_Mdl_deliver_57 (by first | exact rf_row hR | rfl) (by exact rk_row hR) (by rw [rn_row hR]; exact n_in (a := 240) (by first | rfl | (simp only [nl_1, nl_2, nl_3, nl_4, nl_5, nl_6, nl_7, nl_8, nl_9, nl_10, nl_11, nl_12, nl_13, nl_14, nl_15, nl_16, nl_32, nl_240, nl_250, nl_255, nl_265, nl_270, nl_0, nI_add, pk_mul]; done)) (by omega) (by omega)) ?_
  refine ex_ixl (q := 240) (by first | rfl | (simp only [nl_1, nl_2, nl_3, nl_4, nl_5, nl_6, nl_7, nl_8, nl_9, nl_10, nl_11, nl_12, nl_13, nl_14, nl_15, nl_16, nl_32, nl_240, nl_250, nl_255, nl_265, nl_270, nl_0, nI_add, pk_mul]; done)) (by omega) ?_
  rw [c0, h0]
  refine s_Mdl_deliver_58 ?_
  refine s_Mdl_deliver_59 ?_
  refine s_Mdl_deliver_60 (by first | rfl | assumption | (simp [*]; done)) (by first | rfl | assumption | (simp [*]; done)) ?_
  refine s_Mdl_deliver_63 ?_
  refine s_Mdl_deliver_66 (by first | exact rf_row hR | rfl) (by exact rk_row hR) (by rw [rn_row hR]; exact n_in (a := 241) (by first | rfl | (simp only [nl_1, nl_2, nl_3, nl_4, nl_5, nl_6, nl_7, nl_8, nl_9, nl_10, nl_11, nl_12, nl_13, nl_14, nl_15, nl_16, nl_32, nl_240, nl_250, nl_255, nl_265, nl_270, nl_0, nI_add, pk_mul]; done)) (by omega) (by omega)) ?_
  refine ex_ixl (q := 241) (by first | rfl | (simp only [nl_1, nl_2, nl_3, nl_4, nl_5, nl_6, nl_7, nl_8, nl_9, nl_10, nl_11, nl_12, nl_13, nl_14, nl_15, nl_16, nl_32, nl_240, nl_250, nl_255, nl_265, nl_270, nl_0, nI_add, pk_mul]; done)) (by omega) ?_
  rw [c1]
  refine s_Mdl_deliver_67 (fun h67 => ?_) (fun h67 => ?_)
  · refine s_Mdl_deliver_78 ?_
    refine s_Mdl_deliver_79 (by first | rfl | assumption | (simp [*]; done)) (by first | rfl | assumption | (simp [*]; done)) ?_
    refine s_Mdl_deliver_82 ?_
    refine s_Mdl_deliver_85 (by first | exact rf_row hR | rfl) (by exact rk_row hR) (by rw [rn_row hR]; exact n_in (a := 242) (by first | rfl | (simp only [nl_1, nl_2, nl_3, nl_4, nl_5, nl_6, nl_7, nl_8, nl_9, nl_10, nl_11, nl_12, nl_13, nl_14, nl_15, nl_16, nl_32, nl_240, nl_250, nl_255, nl_265, nl_270, nl_0, nI_add, pk_mul]; done)) (by omega) (by omega)) ?_
    refine ex_ixl (q := 242) (by first | rfl | (simp only [nl_1, nl_2, nl_3, nl_4, nl_5, nl_6, nl_7, nl_8, nl_9, nl_10, nl_11, nl_12, nl_13, nl_14, nl_15, nl_16, nl_32, nl_240, nl_250, nl_255, nl_265, nl_270, nl_0, nI_add, pk_mul]; done)) (by omega) ?_
    rw [c2]
    refine s_Mdl_deliver_86 (fun h86 => ?_) (fun h86 => ?_)
    · refine s_Mdl_deliver_97 ?_
      refine s_Mdl_deliver_98 (by first | rfl | assumption | (simp [*]; done)) (by first | rfl | assumption | (simp [*]; done)) ?_
      refine s_Mdl_deliver_101 ?_
      refine s_Mdl_deliver_102 (by first | exact rf_down hR | rfl) (by exact rk_down hR) (by rw [rn_down hR]; exact n_in (a := t) (by first | rfl | (simp only [nl_1, nl_2, nl_3, nl_4, nl_5, nl_6, nl_7, nl_8, nl_9, nl_10, nl_11, nl_12, nl_13, nl_14, nl_15, nl_16, nl_32, nl_240, nl_250, nl_255, nl_265, nl_270, nl_0, nI_add, pk_mul]; done)) (by omega) (by omega)) ?_
      refine ex_ixl (q := t) (by first | rfl | (simp only [nl_1, nl_2, nl_3, nl_4, nl_5, nl_6, nl_7, nl_8, nl_9, nl_10, nl_11, nl_12, nl_13, nl_14, nl_15, nl_16, nl_32, nl_240, nl_250, nl_255, nl_265, nl_270, nl_0, nI_add, pk_mul]; done)) (by omega) ?_
      rw [v27, e27]
      refine s_Mdl_deliver_103 (fun h103 => ?_) (fun h103 => ?_)
      · refine s_Mdl_deliver_137 ?_
        refine s_Mdl_deliver_138 (by first | rfl | decide | assumption) ?_
        rw [if_neg h67, if_neg h86, if_neg h103]
        exact ⟨rfl, rfl, rfl, k2⟩
      · refine s_Mdl_deliver_106 ?_
        refine s_Mdl_deliver_107 (by first | rfl | assumption | (simp [*]; done)) (by first | rfl | assumption | (simp [*]; done)) ?_
        refine s_Mdl_deliver_110 ?_
        refine s_Mdl_deliver_111 (by first | exact rf_count hR | rfl) (by exact rk_count hR) (by rw [rn_count hR]; exact n_in (a := t) (by first | rfl | (simp only [nl_1, nl_2, nl_3, nl_4, nl_5, nl_6, nl_7, nl_8, nl_9, nl_10, nl_11, nl_12, nl_13, nl_14, nl_15, nl_16, nl_32, nl_240, nl_250, nl_255, nl_265, nl_270, nl_0, nI_add, pk_mul]; done)) (by omega) (by omega)) ?_
        refine ex_ixl (q := t) (by first | rfl | (simp only [nl_1, nl_2, nl_3, nl_4, nl_5, nl_6, nl_7, nl_8, nl_9, nl_10, nl_11, nl_12, nl_13, nl_14, nl_15, nl_16, nl_32, nl_240, nl_250, nl_255, nl_265, nl_270, nl_0, nI_add, pk_mul]; done)) (by omega) ?_
        rw [q1]
        refine s_Mdl_deliver_112 (fun h112 => ?_) (fun h112 => ?_)
        · refine s_Mdl_deliver_137 ?_
          refine s_Mdl_deliver_138 (by first | rfl | decide | assumption) ?_
          rw [if_neg h67, if_neg h86, if_pos h103]
          unfold m_dan
          have z : (m_d0 s e).2 (100 + t) = [] := by
            cases hz : (m_d0 s e).2 (100 + t) with
            | nil => rfl
            | cons w Q =>
              rw [hz] at h112
              exact absurd h112 (Int32.not_le.mpr ((n_lt (a := 0) rfl rfl (by omega) (by have := hq.2.1; rw [hz] at this; omega)).mpr (by simp)))
          rw [z]
          exact ⟨rfl, rfl, rfl, k2⟩
        · refine s_Mdl_deliver_115 ?_
          refine s_Mdl_deliver_116 (by first | rfl | assumption | (simp [*]; done)) (by first | rfl | assumption | (simp [*]; done)) ?_
          refine s_Mdl_deliver_119 ?_
          refine s_Mdl_deliver_122 (by first | exact rf_row hR | rfl) (by exact rk_row hR) (by rw [rn_row hR]; exact n_in (a := 242) (by first | rfl | (simp only [nl_1, nl_2, nl_3, nl_4, nl_5, nl_6, nl_7, nl_8, nl_9, nl_10, nl_11, nl_12, nl_13, nl_14, nl_15, nl_16, nl_32, nl_240, nl_250, nl_255, nl_265, nl_270, nl_0, nI_add, pk_mul]; done)) (by omega) (by omega)) ?_
          refine ex_ixl (q := 242) (by first | rfl | (simp only [nl_1, nl_2, nl_3, nl_4, nl_5, nl_6, nl_7, nl_8, nl_9, nl_10, nl_11, nl_12, nl_13, nl_14, nl_15, nl_16, nl_32, nl_240, nl_250, nl_255, nl_265, nl_270, nl_0, nI_add, pk_mul]; done)) (by omega) ?_
          rw [c2]
          refine s_Mdl_deliver_123 ?_
          refine s_Mdl_deliver_124 (by first | rfl | assumption | (simp [*]; done)) (by first | rfl | assumption | (simp [*]; done)) ?_
          refine s_Mdl_deliver_127 ?_
          refine s_Mdl_deliver_128 (by first | exact rf_given hR | rfl) (by exact rk_given hR) (by rw [rn_given hR]; exact n_in (a := t) (by first | rfl | (simp only [nl_1, nl_2, nl_3, nl_4, nl_5, nl_6, nl_7, nl_8, nl_9, nl_10, nl_11, nl_12, nl_13, nl_14, nl_15, nl_16, nl_32, nl_240, nl_250, nl_255, nl_265, nl_270, nl_0, nI_add, pk_mul]; done)) (by omega) (by omega)) ?_
          refine ex_ixl (q := t) (by first | rfl | (simp only [nl_1, nl_2, nl_3, nl_4, nl_5, nl_6, nl_7, nl_8, nl_9, nl_10, nl_11, nl_12, nl_13, nl_14, nl_15, nl_16, nl_32, nl_240, nl_250, nl_255, nl_265, nl_270, nl_0, nI_add, pk_mul]; done)) (by omega) ?_
          rw [v24]
          refine s_Mdl_deliver_129 (fun h129 => ?_) (fun h129 => ?_)
          · refine s_Mdl_deliver_137 ?_
            refine s_Mdl_deliver_138 (by first | rfl | decide | assumption) ?_
            rw [if_neg h67, if_neg h86, if_pos h103]
            unfold m_dan
            cases hz : (m_d0 s e).2 (100 + t) with
            | nil => exact ⟨rfl, rfl, rfl, k2⟩
            | cons w Q =>
              dsimp only
              rw [if_neg h129]
              exact ⟨rfl, rfl, rfl, k2⟩
          · refine s_Mdl_deliver_132 ?_
            refine s_Mdl_deliver_133 ?_
            rw [if_neg h67, if_neg h86, if_pos h103]
            unfold m_dan
            cases hz : (m_d0 s e).2 (100 + t) with
            | nil =>
              rw [hz] at h112
              exact absurd (show nI ([] : List (Nat → Int32)).length ≤ 0 by decide) h112
            | cons w Q =>
              dsimp only
              rw [if_pos h129]
              refine s_Mdl_deliver_134 (b1 := b) (b2 := 0) (by first | rfl | assumption | (simp [*]; done)) (by first | rfl | assumption | (simp [*]; done)) (sp_answeredR (d := d) hR k2 ht hz hm (hl w Q h67 h86 (by rw [← e100]; exact hz) h129)) ?_ (by omega)
              rintro _ _ _ _ ⟨rfl, rfl, rfl, k3⟩
              dsimp only [Option.toList, List.cons_append, List.nil_append]
              refine s_Mdl_deliver_137 ?_
              refine s_Mdl_deliver_138 (by first | rfl | decide | assumption) ?_
              exact ⟨rfl, rfl, rfl, k3⟩
    · refine s_Mdl_deliver_89 ?_
      refine s_Mdl_deliver_90 ?_
      refine s_Mdl_deliver_91 (b1 := b) (b2 := 0) (by first | rfl | assumption | (simp [*]; done)) (by first | rfl | assumption | (simp [*]; done)) (sp_probedR hR k2 ht) ?_ (by omega)
      rintro _ _ _ _ ⟨rfl, rfl, rfl, k3⟩
      dsimp only [Option.toList, List.cons_append, List.nil_append]
      refine s_Mdl_deliver_94 ?_
      refine s_Mdl_deliver_137 ?_
      refine s_Mdl_deliver_138 (by first | rfl | decide | assumption) ?_
      rw [if_neg h67, if_pos h86]
      exact ⟨rfl, rfl, rfl, k3⟩
  · refine s_Mdl_deliver_70 ?_
    refine s_Mdl_deliver_71 ?_
    refine s_Mdl_deliver_72 (b1 := b) (b2 := 0) (by first | rfl | assumption | (simp [*]; done)) (by first | rfl | assumption | (simp [*]; done)) (sp_atoR (d := d + 2) hR k2 hm ht (hp h67)) ?_ (by omega)
    rintro _ _ _ _ ⟨rfl, rfl, rfl, k3⟩
    dsimp only [Option.toList, List.cons_append, List.nil_append]
    refine s_Mdl_deliver_75 ?_
    refine s_Mdl_deliver_137 ?_
    refine s_Mdl_deliver_138 (by first | rfl | decide | assumption) ?_
    rw [if_pos h67]
    exact ⟨rfl, rfl, rfl, k3⟩
theorem sp_deliverR_no {Γ : ex_G} {d : Nat} {K : ex_K} {I : ex_I} {F : ex_F} {b : Nat} {m : Nat} {ad : Nat → Nat} {s : MS} (hR : rf_ok K F m ad) (h : rr I m ad s) {y : Int32} (hx : y < 0 ∨ nI (s.2 31).length ≤ y) : ex_E Γ (d + 5) M_Mdl_deliver 0 [some (.inr (some m)), some (.inl y), none] [] K I F b (fun x K' I' F' => x = some (.inl (0)) ∧ K = K' ∧ F = F' ∧ rr I' m ad (s)) := by
  have m1 := hR.1
  obtain ⟨u1, u2, u3⟩ := h.2.2.2.2.2.2.1
  refine s_Mdl_deliver_0 ?_
  refine s_Mdl_deliver_1 ?_
  refine s_Mdl_deliver_2 (b1 := 0) (b2 := b) (by first | rfl | assumption | (simp [*]; done)) (by first | rfl | assumption | (simp [*]; done)) (sp_flies hR u1) ?_ (by omega)
  rintro _ _ _ _ ⟨rfl, rfl, rfl, rfl⟩
  dsimp only [Option.toList, List.cons_append, List.nil_append]
  rw [if_neg (fun z => hx.elim z.1 z.2)]
  refine s_Mdl_deliver_5 (fun h5 => absurd h5 (by exact fun q => q rfl)) (fun h5 => ?_)
  refine s_Mdl_deliver_8 ?_
  refine s_Mdl_deliver_9 (by first | rfl | decide | assumption) ?_
  exact ⟨rfl, rfl, rfl, h⟩
