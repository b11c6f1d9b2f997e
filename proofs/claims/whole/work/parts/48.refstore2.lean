/-! The reference: what an answer does to the store -/
def cm_ok (I : ex_I) (ad : Nat → Nat) (cm : Nat → Int32) : Prop := ∀ j, j < 15 → I 21 (ad 31) (240 + j) = cm j
def evr (cap n : Int32) : List (Nat → Int32) → List (Nat → Int32)
  | [] => []
  | a :: L => if rsum (a :: L) + n ≤ cap then a :: L else evr cap n L
theorem lp_ev {Γ : ex_G} {d : Nat} {K : ex_K} {I : ex_I} {F : ex_F} {b : Nat} {Q : Option ex_V → ex_K → ex_I → ex_F → Prop} {m : Nat} {n cap : Int32} {I0 : ex_I} {l1 l2 l4 l5 : Option ex_V} {ad : Nat → Nat} (hR : rf_ok K F m ad) (hc : I0 804 m 0 = cap) : ∀ L I, r_ent I m ad L → e_fr I0 I ad →
    (∀ I', r_ent I' m ad (evr cap n L) → e_fr I0 I' ad → ex_E Γ (d + 2) M_Mdl_store 59 [some (.inr (some m)), l1, l2, some (.inl n), l4, l5] [] K I' F b Q) →
    ex_E Γ (d + 2) M_Mdl_store 31 [some (.inr (some m)), l1, l2, some (.inl n), l4, l5] [] K I F b Q := by
  have m1 := hR.1
  intro L
  induction L with
  | nil =>
    intro I hL hE kk
    have l1 := hL.1
    refine s_Mdl_store_31 ?_
    refine s_Mdl_store_32 (by first | rfl | assumption | (simp [*]; done)) (by first | rfl | assumption | (simp [*]; done)) ?_
    refine s_Mdl_store_35 (fun h35 => ?_) (fun h35 => absurd h35 (by rw [l1]; decide))
    exact kk I hL hE
  | cons a L ih =>
    intro I hL hE kk
    have l1 := hL.1
    have l2 := hL.2.1
    have hcc : I 804 m 0 = cap := by rw [hE.1 _ (by decide) (by decide), hc]
    unfold evr at kk
    refine s_Mdl_store_31 ?_
    refine s_Mdl_store_32 (by first | rfl | assumption | (simp [*]; done)) (by first | rfl | assumption | (simp [*]; done)) ?_
    refine s_Mdl_store_35 (fun h35 => absurd h35 (by rw [l1]; exact Int32.not_le.mpr ((n_lt (a := 0) rfl rfl (by omega) (by omega)).mpr (by simp)))) (fun h35 => ?_)
    refine s_Mdl_store_38 ?_
    refine s_Mdl_store_39 (b1 := 0) (b2 := b) (by first | rfl | assumption | (simp [*]; done)) (by first | rfl | assumption | (simp [*]; done)) (sp_filled hR hL) ?_ (by omega)
    rintro _ _ _ _ ⟨rfl, rfl, rfl, rfl⟩
    dsimp only [Option.toList, List.cons_append, List.nil_append]
    refine s_Mdl_store_42 ?_
    refine s_Mdl_store_43 ?_
    refine s_Mdl_store_44 ?_
    refine s_Mdl_store_45 (by first | rfl | assumption | (simp [*]; done)) (by first | rfl | assumption | (simp [*]; done)) ?_
    rw [hcc]
    refine s_Mdl_store_48 (fun h48 => ?_) (fun h48 => ?_)
    · rw [if_pos h48] at kk
      exact kk I hL hE
    · refine s_Mdl_store_51 ?_
      refine s_Mdl_store_52 ?_
      refine s_Mdl_store_53 (b1 := 0) (b2 := b) (by first | rfl | assumption | (simp [*]; done)) (by first | rfl | assumption | (simp [*]; done)) (sp_takeAway (e := 0) hR hL (by simp)) ?_ (by omega)
      rintro _ _ I2 _ ⟨rfl, rfl, rfl, q1, q2⟩
      dsimp only [Option.toList, List.cons_append, List.nil_append]
      refine s_Mdl_store_56 ?_
      rw [if_neg h48] at kk
      exact ih I2 q2 (e_fr_trans hE q1) kk
theorem r_ent_add {I J : ex_I} {m : Nat} {ad : Nat → Nat} {L : List (Nat → Int32)} {w : Nat → Int32} (hL : r_ent I m ad L) (hl : L.length < 40) (h1 : J 816 m 0 = nI (L.length + 1))
    (h2 : ∀ k, k < 8 * L.length → J 21 (ad 14) k = I 21 (ad 14) k) (h3 : ∀ j, j < 7 → J 21 (ad 14) (8 * L.length + j) = w j)
    (h4 : ∀ k, k < 4 * L.length → J 21 (ad 15) k = I 21 (ad 15) k) (h5 : ∀ j, j < 4 → J 21 (ad 15) (4 * L.length + j) = w (8 + j)) : r_ent J m ad (L ++ [w]) := by
  obtain ⟨q1, q2, q3⟩ := hL
  refine ⟨?_, ?_, ?_⟩
  · rw [h1, List.length_append]
    rfl
  · rw [List.length_append]
    exact hl
  · intro e row he
    by_cases c : e < L.length
    · rw [List.getElem?_append_left c] at he
      obtain ⟨r1, r2⟩ := q3 e row he
      refine ⟨fun j hj => ?_, fun j hj => ?_⟩
      · rw [h2 _ (by omega), r1 j hj]
      · rw [h4 _ (by omega), r2 j hj]
    · have z := (List.getElem?_eq_some_iff.mp he).1
      rw [List.length_append, List.length_singleton] at z
      have e0 : e = L.length := by omega
      subst e0
      rw [List.getElem?_append_right (Nat.le_refl _), Nat.sub_self] at he
      have e1 : w = row := Option.some.inj he
      subst e1
      exact ⟨h3, h5⟩
def srw (nw p v : Int32) (cm : Nat → Int32) : Nat → Int32 := fun j => match j with
  | 0 => nw
  | 1 => p
  | 2 => cm 9
  | 3 => cm 7
  | 4 => cm 8
  | 5 => v
  | 6 => cm 14
  | 7 => 0
  | 8 => cm 10
  | 9 => cm 11
  | 10 => cm 12
  | _ => cm 13
def m_add (s : MS) (p v : Int32) (cm : Nat → Int32) : MS := tu (cw s 817 0 (s.1 817 0 + 1)) 14 (s.2 14 ++ [srw (s.1 817 0 + 1) p v cm])
theorem lp_radd {Γ : ex_G} {d : Nat} {K : ex_K} {I : ex_I} {F : ex_F} {b : Nat} {m : Nat} {ad : Nat → Nat} {s : MS} (hR : rf_ok K F m ad) (h : rr I m ad s) {cm : Nat → Int32} {p v : Int32} {l4 l5 : Option ex_V} (hm : cm_ok I ad cm) (hl : (s.2 14).length < 40) : ex_E Γ d M_Mdl_store 59 [some (.inr (some m)), some (.inl p), some (.inl v), some (.inl (cm 7)), l4, l5] [] K I F b (fun x K' I' F' => x = none ∧ K = K' ∧ F = F' ∧ rr I' m ad (m_add s p v cm)) := by
  have m1 := hR.1
  have hL := h.2.2.2.2.2.1
  have e17 := h.2.2.1 817 (by decide)
  have k1 := rr_us (K := K) (F := F) (g := 817) (x := s.1 817 0 + 1) h (by decide)
  unfold m_add
  generalize hQ : s.2 14 = L at *
  have l1 := hL.1
  have n314 : ad 31 ≠ ad 14 := rf_ne hR (by decide)
  have n315 : ad 31 ≠ ad 15 := rf_ne hR (by decide)
  have n154 : ad 15 ≠ ad 14 := rf_ne hR (by decide)
  have n145 : ad 14 ≠ ad 15 := rf_ne hR (by decide)
  have c9 : I 21 (ad 31) 249 = cm 9 := hm 9 (by decide)
  have c8 : I 21 (ad 31) 248 = cm 8 := hm 8 (by decide)
  have c14 : I 21 (ad 31) 254 = cm 14 := hm 14 (by decide)
  have cc : ∀ j, j < 4 → I 21 (ad 31) (250 + j) = cm (10 + j) := fun j hj => by
    have z := hm (10 + j) (by omega)
    rw [← z]
    congr 1
    omega
  have e1 : nI L.length + 1 = nI (L.length + 1) := by rw [nl_1, nI_add]
  generalize hI1 : ex_ui I 817 m 0 (s.1 817 0 + 1) = I1 at k1
  have g21 : I1 21 = I 21 := by rw [← hI1, ex_ui_f _ _ _ _ (by decide)]
  have g16 : I1 816 m 0 = nI L.length := by rw [← hI1, ex_ui_f _ _ _ _ (by decide), l1]
  have g17 : I1 817 m 0 = s.1 817 0 + 1 := by rw [← hI1, ex_ui_eq]
  have hL1 : r_ent I1 m ad L := by
    unfold r_ent
    rw [g21, ← hI1, ex_ui_f _ _ _ _ (by decide)]
    exact hL
  have fin : ∀ J, J = ex_ui (ex_wi (ex_wi I1 21 (ad 14) (fun j => if j = 8 * L.length + 6 then cm 14 else if j = 8 * L.length + 5 then v else if j = 8 * L.length + 4 then cm 8 else if j = 8 * L.length + 3 then cm 7 else if j = 8 * L.length + 2 then cm 9 else if j = 8 * L.length + 1 then p else if j = 8 * L.length then s.1 817 0 + 1 else I 21 (ad 14) j)) 21 (ad 15) (fun j => if j = 4 * L.length + 3 then cm 13 else if j = 4 * L.length + 2 then cm 12 else if j = 4 * L.length + 1 then cm 11 else if j = 4 * L.length then cm 10 else I 21 (ad 15) j)) 816 m 0 (nI (L.length + 1)) → rr J m ad (tu (cw s 817 0 (s.1 817 0 + 1)) 14 (L ++ [srw (s.1 817 0 + 1) p v cm])) := by
    intro J hJ
    refine rr_ent hR k1 ⟨fun g a1 a2 => ?_, fun a a1 a2 => ?_⟩ (r_ent_add hL1 hl ?_ (fun k hk => ?_) (fun j hj => ?_) (fun k hk => ?_) (fun j hj => ?_))
    · rw [hJ, ex_ui_f _ _ _ _ a1, ex_wi_f _ _ _ a2, ex_wi_f _ _ _ a2]
    · rw [hJ, ex_ui_f _ _ _ _ (by decide), ex_wi_ne _ _ _ a2, ex_wi_ne _ _ _ a1]
    · rw [hJ, ex_ui_eq]
    · rw [hJ, ex_ui_f _ _ _ _ (by decide), ex_wi_ne _ _ _ n145, ex_wi_at, g21]
      repeat rw [if_neg (by omega)]
    · rw [hJ, ex_ui_f _ _ _ _ (by decide), ex_wi_ne _ _ _ n145, ex_wi_at]
      rcases (by omega : j = 0 ∨ j = 1 ∨ j = 2 ∨ j = 3 ∨ j = 4 ∨ j = 5 ∨ j = 6) with rfl | rfl | rfl | rfl | rfl | rfl | rfl
      all_goals
        repeat rw [if_neg (by omega)]
        rw [if_pos (by omega)]
        rfl
    · rw [hJ, ex_ui_f _ _ _ _ (by decide), ex_wi_at, g21]
      repeat rw [if_neg (by omega)]
    · rw [hJ, ex_ui_f _ _ _ _ (by decide), ex_wi_at]
      rcases (by omega : j = 0 ∨ j = 1 ∨ j = 2 ∨ j = 3) with rfl | rfl | rfl | rfl
      all_goals
        repeat rw [if_neg (by omega)]
        rw [if_pos (by omega)]
        rfl
  refine s_Mdl_store_59 ?_
  refine s_Mdl_store_60 ?_
  refine s_Mdl_store_61 (by first | rfl | assumption | (simp [*]; done)) (by first | rfl | assumption | (simp [*]; done)) ?_
  rw [e17]
  refine s_Mdl_store_64 ?_
  refine s_Mdl_store_65 ?_
  refine s_Mdl_store_66 (by first | rfl | assumption | (simp [*]; done)) (by first | rfl | assumption | (simp [*]; done)) ?_
  rw [hI1]
  refine s_Mdl_store_69 ?_
  refine s_Mdl_store_71 ?_
  refine s_Mdl_store_72 (by first | rfl | assumption | (simp [*]; done)) (by first | rfl | assumption | (simp [*]; done)) ?_
  rw [g16]
  refine s_Mdl_store_75 ?_
  rw [show (8 : Int32) * nI L.length = nI (8 * L.length) by simp only [nl_8, pk_mul]]
  refine s_Mdl_store_76 ?_
  refine s_Mdl_store_78 ?_
  refine s_Mdl_store_79 (by first | rfl | assumption | (simp [*]; done)) (by first | rfl | assumption | (simp [*]; done)) ?_
  refine s_Mdl_store_82 ?_
  refine s_Mdl_store_84 ?_
  refine s_Mdl_store_85 (by first | rfl | assumption | (simp [*]; done)) (by first | rfl | assumption | (simp [*]; done)) ?_
  rw [g17]
  refine s_Mdl_store_88 (by first | exact rf_entry hR | rfl) (by exact rk_entry hR) (by rw [rn_entry hR]; exact n_in (a := (8 * L.length)) (by first | rfl | (simp only [nl_1, nl_2, nl_3, nl_4, nl_5, nl_6, nl_7, nl_8, nl_9, nl_10, nl_11, nl_12, nl_13, nl_14, nl_15, nl_16, nl_32, nl_240, nl_250, nl_255, nl_265, nl_270, nl_0, nI_add, pk_mul]; done)) (by omega) (by omega)) ?_
  refine ex_ixs (q := (8 * L.length)) (by first | rfl | (simp only [nl_1, nl_2, nl_3, nl_4, nl_5, nl_6, nl_7, nl_8, nl_9, nl_10, nl_11, nl_12, nl_13, nl_14, nl_15, nl_16, nl_32, nl_240, nl_250, nl_255, nl_265, nl_270, nl_0, nI_add, pk_mul]; done)) (by omega) ?_
  refine s_Mdl_store_89 ?_
  refine s_Mdl_store_90 (by first | rfl | assumption | (simp [*]; done)) (by first | rfl | assumption | (simp [*]; done)) ?_
  refine s_Mdl_store_93 ?_
  refine s_Mdl_store_95 ?_
  refine s_Mdl_store_96 ?_
  refine s_Mdl_store_97 ?_
  refine s_Mdl_store_98 (by first | exact rf_entry hR | rfl) (by exact rk_entry hR) (by rw [rn_entry hR]; exact n_in (a := ((8 * L.length) + 1)) (by first | rfl | (simp only [nl_1, nl_2, nl_3, nl_4, nl_5, nl_6, nl_7, nl_8, nl_9, nl_10, nl_11, nl_12, nl_13, nl_14, nl_15, nl_16, nl_32, nl_240, nl_250, nl_255, nl_265, nl_270, nl_0, nI_add, pk_mul]; done)) (by omega) (by omega)) ?_
  refine ex_ixs (q := ((8 * L.length) + 1)) (by first | rfl | (simp only [nl_1, nl_2, nl_3, nl_4, nl_5, nl_6, nl_7, nl_8, nl_9, nl_10, nl_11, nl_12, nl_13, nl_14, nl_15, nl_16, nl_32, nl_240, nl_250, nl_255, nl_265, nl_270, nl_0, nI_add, pk_mul]; done)) (by omega) ?_
  refine s_Mdl_store_99 ?_
  refine s_Mdl_store_100 (by first | rfl | assumption | (simp [*]; done)) (by first | rfl | assumption | (simp [*]; done)) ?_
  refine s_Mdl_store_103 ?_
  refine s_Mdl_store_105 ?_
  refine s_Mdl_store_106 ?_
  refine s_Mdl_store_107 ?_
  refine s_Mdl_store_108 (by first | rfl | assumption | (simp [*]; done)) (by first | rfl | assumption | (simp [*]; done)) ?_
  refine s_Mdl_store_111 ?_
  refine s_Mdl_store_114 (by first | exact rf_row hR | rfl) (by exact rk_row hR) (by rw [rn_row hR]; exact n_in (a := 249) (by first | rfl | (simp only [nl_1, nl_2, nl_3, nl_4, nl_5, nl_6, nl_7, nl_8, nl_9, nl_10, nl_11, nl_12, nl_13, nl_14, nl_15, nl_16, nl_32, nl_240, nl_250, nl_255, nl_265, nl_270, nl_0, nI_add, pk_mul]; done)) (by omega) (by omega)) ?_
  refine ex_ixl (q := 249) (by first | rfl | (simp only [nl_1, nl_2, nl_3, nl_4, nl_5, nl_6, nl_7, nl_8, nl_9, nl_10, nl_11, nl_12, nl_13, nl_14, nl_15, nl_16, nl_32, nl_240, nl_250, nl_255, nl_265, nl_270, nl_0, nI_add, pk_mul]; done)) (by omega) ?_
  simp only [ex_ui_ne _ _ _ _ n314]
  rw [g21, c9]
  refine s_Mdl_store_115 (by first | exact rf_entry hR | rfl) (by exact rk_entry hR) (by rw [rn_entry hR]; exact n_in (a := ((8 * L.length) + 2)) (by first | rfl | (simp only [nl_1, nl_2, nl_3, nl_4, nl_5, nl_6, nl_7, nl_8, nl_9, nl_10, nl_11, nl_12, nl_13, nl_14, nl_15, nl_16, nl_32, nl_240, nl_250, nl_255, nl_265, nl_270, nl_0, nI_add, pk_mul]; done)) (by omega) (by omega)) ?_
  refine ex_ixs (q := ((8 * L.length) + 2)) (by first | rfl | (simp only [nl_1, nl_2, nl_3, nl_4, nl_5, nl_6, nl_7, nl_8, nl_9, nl_10, nl_11, nl_12, nl_13, nl_14, nl_15, nl_16, nl_32, nl_240, nl_250, nl_255, nl_265, nl_270, nl_0, nI_add, pk_mul]; done)) (by omega) ?_
  refine s_Mdl_store_116 ?_
  refine s_Mdl_store_117 (by first | rfl | assumption | (simp [*]; done)) (by first | rfl | assumption | (simp [*]; done)) ?_
  refine s_Mdl_store_120 ?_
  refine s_Mdl_store_122 ?_
  refine s_Mdl_store_123 ?_
  refine s_Mdl_store_124 ?_
  refine s_Mdl_store_125 (by first | exact rf_entry hR | rfl) (by exact rk_entry hR) (by rw [rn_entry hR]; exact n_in (a := ((8 * L.length) + 3)) (by first | rfl | (simp only [nl_1, nl_2, nl_3, nl_4, nl_5, nl_6, nl_7, nl_8, nl_9, nl_10, nl_11, nl_12, nl_13, nl_14, nl_15, nl_16, nl_32, nl_240, nl_250, nl_255, nl_265, nl_270, nl_0, nI_add, pk_mul]; done)) (by omega) (by omega)) ?_
  refine ex_ixs (q := ((8 * L.length) + 3)) (by first | rfl | (simp only [nl_1, nl_2, nl_3, nl_4, nl_5, nl_6, nl_7, nl_8, nl_9, nl_10, nl_11, nl_12, nl_13, nl_14, nl_15, nl_16, nl_32, nl_240, nl_250, nl_255, nl_265, nl_270, nl_0, nI_add, pk_mul]; done)) (by omega) ?_
  refine s_Mdl_store_126 ?_
  refine s_Mdl_store_127 (by first | rfl | assumption | (simp [*]; done)) (by first | rfl | assumption | (simp [*]; done)) ?_
  refine s_Mdl_store_130 ?_
  refine s_Mdl_store_132 ?_
  refine s_Mdl_store_133 ?_
  refine s_Mdl_store_134 ?_
  refine s_Mdl_store_135 (by first | rfl | assumption | (simp [*]; done)) (by first | rfl | assumption | (simp [*]; done)) ?_
  refine s_Mdl_store_138 ?_
  refine s_Mdl_store_141 (by first | exact rf_row hR | rfl) (by exact rk_row hR) (by rw [rn_row hR]; exact n_in (a := 248) (by first | rfl | (simp only [nl_1, nl_2, nl_3, nl_4, nl_5, nl_6, nl_7, nl_8, nl_9, nl_10, nl_11, nl_12, nl_13, nl_14, nl_15, nl_16, nl_32, nl_240, nl_250, nl_255, nl_265, nl_270, nl_0, nI_add, pk_mul]; done)) (by omega) (by omega)) ?_
  refine ex_ixl (q := 248) (by first | rfl | (simp only [nl_1, nl_2, nl_3, nl_4, nl_5, nl_6, nl_7, nl_8, nl_9, nl_10, nl_11, nl_12, nl_13, nl_14, nl_15, nl_16, nl_32, nl_240, nl_250, nl_255, nl_265, nl_270, nl_0, nI_add, pk_mul]; done)) (by omega) ?_
  simp only [ex_ui_ne _ _ _ _ n314]
  rw [g21, c8]
  refine s_Mdl_store_142 (by first | exact rf_entry hR | rfl) (by exact rk_entry hR) (by rw [rn_entry hR]; exact n_in (a := ((8 * L.length) + 4)) (by first | rfl | (simp only [nl_1, nl_2, nl_3, nl_4, nl_5, nl_6, nl_7, nl_8, nl_9, nl_10, nl_11, nl_12, nl_13, nl_14, nl_15, nl_16, nl_32, nl_240, nl_250, nl_255, nl_265, nl_270, nl_0, nI_add, pk_mul]; done)) (by omega) (by omega)) ?_
  refine ex_ixs (q := ((8 * L.length) + 4)) (by first | rfl | (simp only [nl_1, nl_2, nl_3, nl_4, nl_5, nl_6, nl_7, nl_8, nl_9, nl_10, nl_11, nl_12, nl_13, nl_14, nl_15, nl_16, nl_32, nl_240, nl_250, nl_255, nl_265, nl_270, nl_0, nI_add, pk_mul]; done)) (by omega) ?_
  refine s_Mdl_store_143 ?_
  refine s_Mdl_store_144 (by first | rfl | assumption | (simp [*]; done)) (by first | rfl | assumption | (simp [*]; done)) ?_
  refine s_Mdl_store_147 ?_
  refine s_Mdl_store_149 ?_
  refine s_Mdl_store_150 ?_
  refine s_Mdl_store_151 ?_
  refine s_Mdl_store_152 (by first | exact rf_entry hR | rfl) (by exact rk_entry hR) (by rw [rn_entry hR]; exact n_in (a := ((8 * L.length) + 5)) (by first | rfl | (simp only [nl_1, nl_2, nl_3, nl_4, nl_5, nl_6, nl_7, nl_8, nl_9, nl_10, nl_11, nl_12, nl_13, nl_14, nl_15, nl_16, nl_32, nl_240, nl_250, nl_255, nl_265, nl_270, nl_0, nI_add, pk_mul]; done)) (by omega) (by omega)) ?_
  refine ex_ixs (q := ((8 * L.length) + 5)) (by first | rfl | (simp only [nl_1, nl_2, nl_3, nl_4, nl_5, nl_6, nl_7, nl_8, nl_9, nl_10, nl_11, nl_12, nl_13, nl_14, nl_15, nl_16, nl_32, nl_240, nl_250, nl_255, nl_265, nl_270, nl_0, nI_add, pk_mul]; done)) (by omega) ?_
  refine s_Mdl_store_153 ?_
  refine s_Mdl_store_154 (by first | rfl | assumption | (simp [*]; done)) (by first | rfl | assumption | (simp [*]; done)) ?_
  refine s_Mdl_store_157 ?_
  refine s_Mdl_store_159 ?_
  refine s_Mdl_store_161 ?_
  refine s_Mdl_store_162 ?_
  refine s_Mdl_store_163 (by first | rfl | assumption | (simp [*]; done)) (by first | rfl | assumption | (simp [*]; done)) ?_
  refine s_Mdl_store_166 ?_
  refine s_Mdl_store_169 (by first | exact rf_row hR | rfl) (by exact rk_row hR) (by rw [rn_row hR]; exact n_in (a := 254) (by first | rfl | (simp only [nl_1, nl_2, nl_3, nl_4, nl_5, nl_6, nl_7, nl_8, nl_9, nl_10, nl_11, nl_12, nl_13, nl_14, nl_15, nl_16, nl_32, nl_240, nl_250, nl_255, nl_265, nl_270, nl_0, nI_add, pk_mul]; done)) (by omega) (by omega)) ?_
  refine ex_ixl (q := 254) (by first | rfl | (simp only [nl_1, nl_2, nl_3, nl_4, nl_5, nl_6, nl_7, nl_8, nl_9, nl_10, nl_11, nl_12, nl_13, nl_14, nl_15, nl_16, nl_32, nl_240, nl_250, nl_255, nl_265, nl_270, nl_0, nI_add, pk_mul]; done)) (by omega) ?_
  simp only [ex_ui_ne _ _ _ _ n314]
  rw [g21, c14]
  refine s_Mdl_store_170 (by first | exact rf_entry hR | rfl) (by exact rk_entry hR) (by rw [rn_entry hR]; exact n_in (a := ((8 * L.length) + 6)) (by first | rfl | (simp only [nl_1, nl_2, nl_3, nl_4, nl_5, nl_6, nl_7, nl_8, nl_9, nl_10, nl_11, nl_12, nl_13, nl_14, nl_15, nl_16, nl_32, nl_240, nl_250, nl_255, nl_265, nl_270, nl_0, nI_add, pk_mul]; done)) (by omega) (by omega)) ?_
  refine ex_ixs (q := ((8 * L.length) + 6)) (by first | rfl | (simp only [nl_1, nl_2, nl_3, nl_4, nl_5, nl_6, nl_7, nl_8, nl_9, nl_10, nl_11, nl_12, nl_13, nl_14, nl_15, nl_16, nl_32, nl_240, nl_250, nl_255, nl_265, nl_270, nl_0, nI_add, pk_mul]; done)) (by omega) ?_
  rw [ex_ui_w I1 21 (ad 14), ex_wi_u, ex_wi_u, ex_wi_u, ex_wi_u, ex_wi_u, ex_wi_u]
  refine s_Mdl_store_171 ?_
  refine s_Mdl_store_172 ?_
  refine s_Mdl_store_174 ?_
  refine s_Mdl_store_176 ?_
  refine s_Mdl_store_177 (fun h177 => absurd h177 (by decide)) (fun h177 => ?_)
  refine s_Mdl_store_180 ?_
  refine s_Mdl_store_181 (by first | rfl | assumption | (simp [*]; done)) (by first | rfl | assumption | (simp [*]; done)) ?_
  refine s_Mdl_store_184 ?_
  refine s_Mdl_store_185 ?_
  refine s_Mdl_store_186 (by first | rfl | assumption | (simp [*]; done)) (by first | rfl | assumption | (simp [*]; done)) ?_
  (first | rw [ex_wi_f _ _ _ (by decide), g16] | (simp only [ex_ui_f _ _ _ _ (show 816 ≠ 21 by decide)]; rw [ex_wi_f _ _ _ (by decide), g16]))
  refine s_Mdl_store_189 ?_
  refine s_Mdl_store_190 ?_
  refine s_Mdl_store_192 ?_
  refine s_Mdl_store_193 ?_
  refine s_Mdl_store_194 (by first | rfl | assumption | (simp [*]; done)) (by first | rfl | assumption | (simp [*]; done)) ?_
  refine s_Mdl_store_197 ?_
  refine s_Mdl_store_200 ?_
  refine s_Mdl_store_202 ?_
  refine s_Mdl_store_203 (by first | exact rf_row hR | rfl) (by exact rk_row hR) (by rw [rn_row hR]; exact n_in (a := (250 + 0)) (by first | rfl | (simp only [nl_1, nl_2, nl_3, nl_4, nl_5, nl_6, nl_7, nl_8, nl_9, nl_10, nl_11, nl_12, nl_13, nl_14, nl_15, nl_16, nl_32, nl_240, nl_250, nl_255, nl_265, nl_270, nl_0, nI_add, pk_mul]; done)) (by omega) (by omega)) ?_
  refine ex_ixl (q := (250 + 0)) (by first | rfl | (simp only [nl_1, nl_2, nl_3, nl_4, nl_5, nl_6, nl_7, nl_8, nl_9, nl_10, nl_11, nl_12, nl_13, nl_14, nl_15, nl_16, nl_32, nl_240, nl_250, nl_255, nl_265, nl_270, nl_0, nI_add, pk_mul]; done)) (by omega) ?_
  try simp only [ex_ui_ne _ _ _ _ n315]
  rw [ex_wi_ne _ _ _ n314, g21, cc _ (by decide)]
  refine s_Mdl_store_204 (by first | exact rf_rule hR | rfl) (by exact rk_rule hR) (by rw [rn_rule hR]; exact n_in (a := ((4 * L.length) + 0)) (by first | rfl | (simp only [nl_1, nl_2, nl_3, nl_4, nl_5, nl_6, nl_7, nl_8, nl_9, nl_10, nl_11, nl_12, nl_13, nl_14, nl_15, nl_16, nl_32, nl_240, nl_250, nl_255, nl_265, nl_270, nl_0, nI_add, pk_mul]; done)) (by omega) (by omega)) ?_
  refine ex_ixs (q := ((4 * L.length) + 0)) (by first | rfl | (simp only [nl_1, nl_2, nl_3, nl_4, nl_5, nl_6, nl_7, nl_8, nl_9, nl_10, nl_11, nl_12, nl_13, nl_14, nl_15, nl_16, nl_32, nl_240, nl_250, nl_255, nl_265, nl_270, nl_0, nI_add, pk_mul]; done)) (by omega) ?_
  refine s_Mdl_store_205 ?_
  refine s_Mdl_store_208 ?_
  refine s_Mdl_store_174 ?_
  refine s_Mdl_store_176 ?_
  refine s_Mdl_store_177 (fun h177 => absurd h177 (by decide)) (fun h177 => ?_)
  refine s_Mdl_store_180 ?_
  refine s_Mdl_store_181 (by first | rfl | assumption | (simp [*]; done)) (by first | rfl | assumption | (simp [*]; done)) ?_
  refine s_Mdl_store_184 ?_
  refine s_Mdl_store_185 ?_
  refine s_Mdl_store_186 (by first | rfl | assumption | (simp [*]; done)) (by first | rfl | assumption | (simp [*]; done)) ?_
  (first | rw [ex_wi_f _ _ _ (by decide), g16] | (simp only [ex_ui_f _ _ _ _ (show 816 ≠ 21 by decide)]; rw [ex_wi_f _ _ _ (by decide), g16]))
  refine s_Mdl_store_189 ?_
  refine s_Mdl_store_190 ?_
  refine s_Mdl_store_192 ?_
  refine s_Mdl_store_193 ?_
  refine s_Mdl_store_194 (by first | rfl | assumption | (simp [*]; done)) (by first | rfl | assumption | (simp [*]; done)) ?_
  refine s_Mdl_store_197 ?_
  refine s_Mdl_store_200 ?_
  refine s_Mdl_store_202 ?_
  refine s_Mdl_store_203 (by first | exact rf_row hR | rfl) (by exact rk_row hR) (by rw [rn_row hR]; exact n_in (a := (250 + (0 + 1))) (by first | rfl | (simp only [nl_1, nl_2, nl_3, nl_4, nl_5, nl_6, nl_7, nl_8, nl_9, nl_10, nl_11, nl_12, nl_13, nl_14, nl_15, nl_16, nl_32, nl_240, nl_250, nl_255, nl_265, nl_270, nl_0, nI_add, pk_mul]; done)) (by omega) (by omega)) ?_
  refine ex_ixl (q := (250 + (0 + 1))) (by first | rfl | (simp only [nl_1, nl_2, nl_3, nl_4, nl_5, nl_6, nl_7, nl_8, nl_9, nl_10, nl_11, nl_12, nl_13, nl_14, nl_15, nl_16, nl_32, nl_240, nl_250, nl_255, nl_265, nl_270, nl_0, nI_add, pk_mul]; done)) (by omega) ?_
  try simp only [ex_ui_ne _ _ _ _ n315]
  rw [ex_wi_ne _ _ _ n314, g21, cc _ (by decide)]
  refine s_Mdl_store_204 (by first | exact rf_rule hR | rfl) (by exact rk_rule hR) (by rw [rn_rule hR]; exact n_in (a := ((4 * L.length) + (0 + 1))) (by first | rfl | (simp only [nl_1, nl_2, nl_3, nl_4, nl_5, nl_6, nl_7, nl_8, nl_9, nl_10, nl_11, nl_12, nl_13, nl_14, nl_15, nl_16, nl_32, nl_240, nl_250, nl_255, nl_265, nl_270, nl_0, nI_add, pk_mul]; done)) (by omega) (by omega)) ?_
  refine ex_ixs (q := ((4 * L.length) + (0 + 1))) (by first | rfl | (simp only [nl_1, nl_2, nl_3, nl_4, nl_5, nl_6, nl_7, nl_8, nl_9, nl_10, nl_11, nl_12, nl_13, nl_14, nl_15, nl_16, nl_32, nl_240, nl_250, nl_255, nl_265, nl_270, nl_0, nI_add, pk_mul]; done)) (by omega) ?_
  refine s_Mdl_store_205 ?_
  refine s_Mdl_store_208 ?_
  refine s_Mdl_store_174 ?_
  refine s_Mdl_store_176 ?_
  refine s_Mdl_store_177 (fun h177 => absurd h177 (by decide)) (fun h177 => ?_)
  refine s_Mdl_store_180 ?_
  refine s_Mdl_store_181 (by first | rfl | assumption | (simp [*]; done)) (by first | rfl | assumption | (simp [*]; done)) ?_
  refine s_Mdl_store_184 ?_
  refine s_Mdl_store_185 ?_
  refine s_Mdl_store_186 (by first | rfl | assumption | (simp [*]; done)) (by first | rfl | assumption | (simp [*]; done)) ?_
  (first | rw [ex_wi_f _ _ _ (by decide), g16] | (simp only [ex_ui_f _ _ _ _ (show 816 ≠ 21 by decide)]; rw [ex_wi_f _ _ _ (by decide), g16]))
  refine s_Mdl_store_189 ?_
  refine s_Mdl_store_190 ?_
  refine s_Mdl_store_192 ?_
  refine s_Mdl_store_193 ?_
  refine s_Mdl_store_194 (by first | rfl | assumption | (simp [*]; done)) (by first | rfl | assumption | (simp [*]; done)) ?_
  refine s_Mdl_store_197 ?_
  refine s_Mdl_store_200 ?_
  refine s_Mdl_store_202 ?_
  refine s_Mdl_store_203 (by first | exact rf_row hR | rfl) (by exact rk_row hR) (by rw [rn_row hR]; exact n_in (a := (250 + ((0 + 1) + 1))) (by first | rfl | (simp only [nl_1, nl_2, nl_3, nl_4, nl_5, nl_6, nl_7, nl_8, nl_9, nl_10, nl_11, nl_12, nl_13, nl_14, nl_15, nl_16, nl_32, nl_240, nl_250, nl_255, nl_265, nl_270, nl_0, nI_add, pk_mul]; done)) (by omega) (by omega)) ?_
  refine ex_ixl (q := (250 + ((0 + 1) + 1))) (by first | rfl | (simp only [nl_1, nl_2, nl_3, nl_4, nl_5, nl_6, nl_7, nl_8, nl_9, nl_10, nl_11, nl_12, nl_13, nl_14, nl_15, nl_16, nl_32, nl_240, nl_250, nl_255, nl_265, nl_270, nl_0, nI_add, pk_mul]; done)) (by omega) ?_
  try simp only [ex_ui_ne _ _ _ _ n315]
  rw [ex_wi_ne _ _ _ n314, g21, cc _ (by decide)]
  refine s_Mdl_store_204 (by first | exact rf_rule hR | rfl) (by exact rk_rule hR) (by rw [rn_rule hR]; exact n_in (a := ((4 * L.length) + ((0 + 1) + 1))) (by first | rfl | (simp only [nl_1, nl_2, nl_3, nl_4, nl_5, nl_6, nl_7, nl_8, nl_9, nl_10, nl_11, nl_12, nl_13, nl_14, nl_15, nl_16, nl_32, nl_240, nl_250, nl_255, nl_265, nl_270, nl_0, nI_add, pk_mul]; done)) (by omega) (by omega)) ?_
  refine ex_ixs (q := ((4 * L.length) + ((0 + 1) + 1))) (by first | rfl | (simp only [nl_1, nl_2, nl_3, nl_4, nl_5, nl_6, nl_7, nl_8, nl_9, nl_10, nl_11, nl_12, nl_13, nl_14, nl_15, nl_16, nl_32, nl_240, nl_250, nl_255, nl_265, nl_270, nl_0, nI_add, pk_mul]; done)) (by omega) ?_
  refine s_Mdl_store_205 ?_
  refine s_Mdl_store_208 ?_
  refine s_Mdl_store_174 ?_
  refine s_Mdl_store_176 ?_
  refine s_Mdl_store_177 (fun h177 => absurd h177 (by decide)) (fun h177 => ?_)
  refine s_Mdl_store_180 ?_
  refine s_Mdl_store_181 (by first | rfl | assumption | (simp [*]; done)) (by first | rfl | assumption | (simp [*]; done)) ?_
  refine s_Mdl_store_184 ?_
  refine s_Mdl_store_185 ?_
  refine s_Mdl_store_186 (by first | rfl | assumption | (simp [*]; done)) (by first | rfl | assumption | (simp [*]; done)) ?_
  (first | rw [ex_wi_f _ _ _ (by decide), g16] | (simp only [ex_ui_f _ _ _ _ (show 816 ≠ 21 by decide)]; rw [ex_wi_f _ _ _ (by decide), g16]))
  refine s_Mdl_store_189 ?_
  refine s_Mdl_store_190 ?_
  refine s_Mdl_store_192 ?_
  refine s_Mdl_store_193 ?_
  refine s_Mdl_store_194 (by first | rfl | assumption | (simp [*]; done)) (by first | rfl | assumption | (simp [*]; done)) ?_
  refine s_Mdl_store_197 ?_
  refine s_Mdl_store_200 ?_
  refine s_Mdl_store_202 ?_
  refine s_Mdl_store_203 (by first | exact rf_row hR | rfl) (by exact rk_row hR) (by rw [rn_row hR]; exact n_in (a := (250 + (((0 + 1) + 1) + 1))) (by first | rfl | (simp only [nl_1, nl_2, nl_3, nl_4, nl_5, nl_6, nl_7, nl_8, nl_9, nl_10, nl_11, nl_12, nl_13, nl_14, nl_15, nl_16, nl_32, nl_240, nl_250, nl_255, nl_265, nl_270, nl_0, nI_add, pk_mul]; done)) (by omega) (by omega)) ?_
  refine ex_ixl (q := (250 + (((0 + 1) + 1) + 1))) (by first | rfl | (simp only [nl_1, nl_2, nl_3, nl_4, nl_5, nl_6, nl_7, nl_8, nl_9, nl_10, nl_11, nl_12, nl_13, nl_14, nl_15, nl_16, nl_32, nl_240, nl_250, nl_255, nl_265, nl_270, nl_0, nI_add, pk_mul]; done)) (by omega) ?_
  try simp only [ex_ui_ne _ _ _ _ n315]
  rw [ex_wi_ne _ _ _ n314, g21, cc _ (by decide)]
  refine s_Mdl_store_204 (by first | exact rf_rule hR | rfl) (by exact rk_rule hR) (by rw [rn_rule hR]; exact n_in (a := ((4 * L.length) + (((0 + 1) + 1) + 1))) (by first | rfl | (simp only [nl_1, nl_2, nl_3, nl_4, nl_5, nl_6, nl_7, nl_8, nl_9, nl_10, nl_11, nl_12, nl_13, nl_14, nl_15, nl_16, nl_32, nl_240, nl_250, nl_255, nl_265, nl_270, nl_0, nI_add, pk_mul]; done)) (by omega) (by omega)) ?_
  refine ex_ixs (q := ((4 * L.length) + (((0 + 1) + 1) + 1))) (by first | rfl | (simp only [nl_1, nl_2, nl_3, nl_4, nl_5, nl_6, nl_7, nl_8, nl_9, nl_10, nl_11, nl_12, nl_13, nl_14, nl_15, nl_16, nl_32, nl_240, nl_250, nl_255, nl_265, nl_270, nl_0, nI_add, pk_mul]; done)) (by omega) ?_
  refine s_Mdl_store_205 ?_
  refine s_Mdl_store_208 ?_
  refine s_Mdl_store_174 ?_
  refine s_Mdl_store_176 ?_
  refine s_Mdl_store_177 (fun h177 => ?_) (fun h177 => absurd h177 (by exact fun q => q (by decide)))
  rw [ex_ui_w (ex_wi I1 21 (ad 14) _) 21 (ad 15), ex_wi_u, ex_wi_u, ex_wi_u, ex_wi_ne _ _ _ n154, g21]
  refine s_Mdl_store_211 ?_
  refine s_Mdl_store_212 ?_
  refine s_Mdl_store_213 (by first | rfl | assumption | (simp [*]; done)) (by first | rfl | assumption | (simp [*]; done)) ?_
  rw [ex_wi_f _ _ _ (by decide), ex_wi_f _ _ _ (by decide), g16]
  refine s_Mdl_store_216 ?_
  refine s_Mdl_store_217 ?_
  rw [e1]
  refine s_Mdl_store_218 (by first | rfl | assumption | (simp [*]; done)) (by first | rfl | assumption | (simp [*]; done)) ?_
  refine s_Mdl_store_221 ?_
  exact ⟨rfl, rfl, rfl, fin _ rfl⟩
