/-! The reference: publish, type, and what is asked of it -/
def m_pub2 (s : MS) (p : Nat) (y z : Int32) : MS := cw (cw (cw (cw s 806 0 (s.1 806 0 + 1)) 8 p (s.1 806 0 + 1)) 9 p y) 10 p z
def m_pub3 (s : MS) (p : Nat) : MS := cw (cw (cw (cw s 11 (4 * p) (s.1 5 0)) 11 (4 * p + 1) (s.1 5 1)) 11 (4 * p + 2) (s.1 5 2)) 11 (4 * p + 3) (s.1 5 3)
def m_pub (s : MS) (p n : Nat) (y z : Int32) : MS := m_pub3 (m_pub2 (m_parse s n) p y z) p
theorem lp_pub {Γ : ex_G} {d : Nat} {K : ex_K} {I : ex_I} {F : ex_F} {b : Nat} {m : Nat} {ad : Nat → Nat} {s : MS} (hR : rf_ok K F m ad) (h : rr I m ad s) {p : Nat} {l2 l3 l4 : Option ex_V} (hp : p < 8) : ex_E Γ d M_Mdl_publish 66 [some (.inr (some m)), some (.inl (nI p)), l2, l3, l4] [] K I F b (fun x K' I' F' => x = some (.inl (s.1 806 0)) ∧ K = K' ∧ F = F' ∧ rr I' m ad (m_pub3 s p)) := by
  have m1 := hR.1
  have n511 : ad 5 ≠ ad 11 := rf_ne hR (by decide)
  have e5 := h.1 5 (by decide)
  have e6 := h.2.2.1 806 (by decide)
  refine s_Mdl_publish_66 ?_
  refine s_Mdl_publish_67 ?_
  refine s_Mdl_publish_69 ?_
  refine s_Mdl_publish_71 ?_
  refine s_Mdl_publish_72 (fun h72 => absurd h72 (by decide)) (fun h72 => ?_)
  refine s_Mdl_publish_75 ?_
  refine s_Mdl_publish_76 (by first | rfl | assumption | (simp [*]; done)) (by first | rfl | assumption | (simp [*]; done)) ?_
  refine s_Mdl_publish_79 ?_
  refine s_Mdl_publish_80 ?_
  refine s_Mdl_publish_81 ?_
  refine s_Mdl_publish_82 ?_
  refine s_Mdl_publish_84 ?_
  refine s_Mdl_publish_85 ?_
  refine s_Mdl_publish_86 (by first | rfl | assumption | (simp [*]; done)) (by first | rfl | assumption | (simp [*]; done)) ?_
  refine s_Mdl_publish_89 ?_
  refine s_Mdl_publish_91 (by first | exact rf_read hR | rfl) (by exact rk_read hR) (by rw [rn_read hR]; exact n_in (a := 0) (by first | rfl | (simp only [nl_1, nl_2, nl_3, nl_4, nl_5, nl_6, nl_7, nl_8, nl_9, nl_10, nl_11, nl_12, nl_13, nl_14, nl_15, nl_16, nl_32, nl_240, nl_250, nl_255, nl_265, nl_270, nl_0, nI_add, pk_mul]; done)) (by omega) (by omega)) ?_
  refine ex_ixl (q := 0) (by first | rfl | (simp only [nl_1, nl_2, nl_3, nl_4, nl_5, nl_6, nl_7, nl_8, nl_9, nl_10, nl_11, nl_12, nl_13, nl_14, nl_15, nl_16, nl_32, nl_240, nl_250, nl_255, nl_265, nl_270, nl_0, nI_add, pk_mul]; done)) (by omega) ?_
  try simp only [ex_ui_ne _ _ _ _ n511]
  rw [e5]
  refine s_Mdl_publish_92 (by first | exact rf_control hR | rfl) (by exact rk_control hR) (by rw [rn_control hR]; exact n_in (a := ((4 * p) + 0)) (by first | rfl | (simp only [nl_1, nl_2, nl_3, nl_4, nl_5, nl_6, nl_7, nl_8, nl_9, nl_10, nl_11, nl_12, nl_13, nl_14, nl_15, nl_16, nl_32, nl_240, nl_250, nl_255, nl_265, nl_270, nl_0, nI_add, pk_mul]; done)) (by omega) (by omega)) ?_
  refine ex_ixs (q := ((4 * p) + 0)) (by first | rfl | (simp only [nl_1, nl_2, nl_3, nl_4, nl_5, nl_6, nl_7, nl_8, nl_9, nl_10, nl_11, nl_12, nl_13, nl_14, nl_15, nl_16, nl_32, nl_240, nl_250, nl_255, nl_265, nl_270, nl_0, nI_add, pk_mul]; done)) (by omega) ?_
  refine s_Mdl_publish_93 ?_
  refine s_Mdl_publish_96 ?_
  refine s_Mdl_publish_69 ?_
  refine s_Mdl_publish_71 ?_
  refine s_Mdl_publish_72 (fun h72 => absurd h72 (by decide)) (fun h72 => ?_)
  refine s_Mdl_publish_75 ?_
  refine s_Mdl_publish_76 (by first | rfl | assumption | (simp [*]; done)) (by first | rfl | assumption | (simp [*]; done)) ?_
  refine s_Mdl_publish_79 ?_
  refine s_Mdl_publish_80 ?_
  refine s_Mdl_publish_81 ?_
  refine s_Mdl_publish_82 ?_
  refine s_Mdl_publish_84 ?_
  refine s_Mdl_publish_85 ?_
  refine s_Mdl_publish_86 (by first | rfl | assumption | (simp [*]; done)) (by first | rfl | assumption | (simp [*]; done)) ?_
  refine s_Mdl_publish_89 ?_
  refine s_Mdl_publish_91 (by first | exact rf_read hR | rfl) (by exact rk_read hR) (by rw [rn_read hR]; exact n_in (a := (0 + 1)) (by first | rfl | (simp only [nl_1, nl_2, nl_3, nl_4, nl_5, nl_6, nl_7, nl_8, nl_9, nl_10, nl_11, nl_12, nl_13, nl_14, nl_15, nl_16, nl_32, nl_240, nl_250, nl_255, nl_265, nl_270, nl_0, nI_add, pk_mul]; done)) (by omega) (by omega)) ?_
  refine ex_ixl (q := (0 + 1)) (by first | rfl | (simp only [nl_1, nl_2, nl_3, nl_4, nl_5, nl_6, nl_7, nl_8, nl_9, nl_10, nl_11, nl_12, nl_13, nl_14, nl_15, nl_16, nl_32, nl_240, nl_250, nl_255, nl_265, nl_270, nl_0, nI_add, pk_mul]; done)) (by omega) ?_
  try simp only [ex_ui_ne _ _ _ _ n511]
  rw [e5]
  refine s_Mdl_publish_92 (by first | exact rf_control hR | rfl) (by exact rk_control hR) (by rw [rn_control hR]; exact n_in (a := ((4 * p) + (0 + 1))) (by first | rfl | (simp only [nl_1, nl_2, nl_3, nl_4, nl_5, nl_6, nl_7, nl_8, nl_9, nl_10, nl_11, nl_12, nl_13, nl_14, nl_15, nl_16, nl_32, nl_240, nl_250, nl_255, nl_265, nl_270, nl_0, nI_add, pk_mul]; done)) (by omega) (by omega)) ?_
  refine ex_ixs (q := ((4 * p) + (0 + 1))) (by first | rfl | (simp only [nl_1, nl_2, nl_3, nl_4, nl_5, nl_6, nl_7, nl_8, nl_9, nl_10, nl_11, nl_12, nl_13, nl_14, nl_15, nl_16, nl_32, nl_240, nl_250, nl_255, nl_265, nl_270, nl_0, nI_add, pk_mul]; done)) (by omega) ?_
  refine s_Mdl_publish_93 ?_
  refine s_Mdl_publish_96 ?_
  refine s_Mdl_publish_69 ?_
  refine s_Mdl_publish_71 ?_
  refine s_Mdl_publish_72 (fun h72 => absurd h72 (by decide)) (fun h72 => ?_)
  refine s_Mdl_publish_75 ?_
  refine s_Mdl_publish_76 (by first | rfl | assumption | (simp [*]; done)) (by first | rfl | assumption | (simp [*]; done)) ?_
  refine s_Mdl_publish_79 ?_
  refine s_Mdl_publish_80 ?_
  refine s_Mdl_publish_81 ?_
  refine s_Mdl_publish_82 ?_
  refine s_Mdl_publish_84 ?_
  refine s_Mdl_publish_85 ?_
  refine s_Mdl_publish_86 (by first | rfl | assumption | (simp [*]; done)) (by first | rfl | assumption | (simp [*]; done)) ?_
  refine s_Mdl_publish_89 ?_
  refine s_Mdl_publish_91 (by first | exact rf_read hR | rfl) (by exact rk_read hR) (by rw [rn_read hR]; exact n_in (a := ((0 + 1) + 1)) (by first | rfl | (simp only [nl_1, nl_2, nl_3, nl_4, nl_5, nl_6, nl_7, nl_8, nl_9, nl_10, nl_11, nl_12, nl_13, nl_14, nl_15, nl_16, nl_32, nl_240, nl_250, nl_255, nl_265, nl_270, nl_0, nI_add, pk_mul]; done)) (by omega) (by omega)) ?_
  refine ex_ixl (q := ((0 + 1) + 1)) (by first | rfl | (simp only [nl_1, nl_2, nl_3, nl_4, nl_5, nl_6, nl_7, nl_8, nl_9, nl_10, nl_11, nl_12, nl_13, nl_14, nl_15, nl_16, nl_32, nl_240, nl_250, nl_255, nl_265, nl_270, nl_0, nI_add, pk_mul]; done)) (by omega) ?_
  try simp only [ex_ui_ne _ _ _ _ n511]
  rw [e5]
  refine s_Mdl_publish_92 (by first | exact rf_control hR | rfl) (by exact rk_control hR) (by rw [rn_control hR]; exact n_in (a := ((4 * p) + ((0 + 1) + 1))) (by first | rfl | (simp only [nl_1, nl_2, nl_3, nl_4, nl_5, nl_6, nl_7, nl_8, nl_9, nl_10, nl_11, nl_12, nl_13, nl_14, nl_15, nl_16, nl_32, nl_240, nl_250, nl_255, nl_265, nl_270, nl_0, nI_add, pk_mul]; done)) (by omega) (by omega)) ?_
  refine ex_ixs (q := ((4 * p) + ((0 + 1) + 1))) (by first | rfl | (simp only [nl_1, nl_2, nl_3, nl_4, nl_5, nl_6, nl_7, nl_8, nl_9, nl_10, nl_11, nl_12, nl_13, nl_14, nl_15, nl_16, nl_32, nl_240, nl_250, nl_255, nl_265, nl_270, nl_0, nI_add, pk_mul]; done)) (by omega) ?_
  refine s_Mdl_publish_93 ?_
  refine s_Mdl_publish_96 ?_
  refine s_Mdl_publish_69 ?_
  refine s_Mdl_publish_71 ?_
  refine s_Mdl_publish_72 (fun h72 => absurd h72 (by decide)) (fun h72 => ?_)
  refine s_Mdl_publish_75 ?_
  refine s_Mdl_publish_76 (by first | rfl | assumption | (simp [*]; done)) (by first | rfl | assumption | (simp [*]; done)) ?_
  refine s_Mdl_publish_79 ?_
  refine s_Mdl_publish_80 ?_
  refine s_Mdl_publish_81 ?_
  refine s_Mdl_publish_82 ?_
  refine s_Mdl_publish_84 ?_
  refine s_Mdl_publish_85 ?_
  refine s_Mdl_publish_86 (by first | rfl | assumption | (simp [*]; done)) (by first | rfl | assumption | (simp [*]; done)) ?_
  refine s_Mdl_publish_89 ?_
  refine s_Mdl_publish_91 (by first | exact rf_read hR | rfl) (by exact rk_read hR) (by rw [rn_read hR]; exact n_in (a := (((0 + 1) + 1) + 1)) (by first | rfl | (simp only [nl_1, nl_2, nl_3, nl_4, nl_5, nl_6, nl_7, nl_8, nl_9, nl_10, nl_11, nl_12, nl_13, nl_14, nl_15, nl_16, nl_32, nl_240, nl_250, nl_255, nl_265, nl_270, nl_0, nI_add, pk_mul]; done)) (by omega) (by omega)) ?_
  refine ex_ixl (q := (((0 + 1) + 1) + 1)) (by first | rfl | (simp only [nl_1, nl_2, nl_3, nl_4, nl_5, nl_6, nl_7, nl_8, nl_9, nl_10, nl_11, nl_12, nl_13, nl_14, nl_15, nl_16, nl_32, nl_240, nl_250, nl_255, nl_265, nl_270, nl_0, nI_add, pk_mul]; done)) (by omega) ?_
  try simp only [ex_ui_ne _ _ _ _ n511]
  rw [e5]
  refine s_Mdl_publish_92 (by first | exact rf_control hR | rfl) (by exact rk_control hR) (by rw [rn_control hR]; exact n_in (a := ((4 * p) + (((0 + 1) + 1) + 1))) (by first | rfl | (simp only [nl_1, nl_2, nl_3, nl_4, nl_5, nl_6, nl_7, nl_8, nl_9, nl_10, nl_11, nl_12, nl_13, nl_14, nl_15, nl_16, nl_32, nl_240, nl_250, nl_255, nl_265, nl_270, nl_0, nI_add, pk_mul]; done)) (by omega) (by omega)) ?_
  refine ex_ixs (q := ((4 * p) + (((0 + 1) + 1) + 1))) (by first | rfl | (simp only [nl_1, nl_2, nl_3, nl_4, nl_5, nl_6, nl_7, nl_8, nl_9, nl_10, nl_11, nl_12, nl_13, nl_14, nl_15, nl_16, nl_32, nl_240, nl_250, nl_255, nl_265, nl_270, nl_0, nI_add, pk_mul]; done)) (by omega) ?_
  refine s_Mdl_publish_93 ?_
  refine s_Mdl_publish_96 ?_
  refine s_Mdl_publish_69 ?_
  refine s_Mdl_publish_71 ?_
  refine s_Mdl_publish_72 (fun h72 => ?_) (fun h72 => absurd h72 (by exact fun q => q (by decide)))
  refine s_Mdl_publish_99 ?_
  refine s_Mdl_publish_100 (by first | rfl | assumption | (simp [*]; done)) (by first | rfl | assumption | (simp [*]; done)) ?_
  refine s_Mdl_publish_103 ?_
  refine ⟨?_, rfl, rfl, ?_⟩
  · rw [ex_ui_f _ _ _ _ (by decide), ex_ui_f _ _ _ _ (by decide), ex_ui_f _ _ _ _ (by decide), ex_ui_f _ _ _ _ (by decide), e6]
  · exact rr_ua hR (rr_ua hR (rr_ua hR (rr_ua hR h (by decide)) (by decide)) (by decide)) (by decide)
theorem sp_publishR {Γ : ex_G} {d : Nat} {K : ex_K} {I : ex_I} {F : ex_F} {b : Nat} {m : Nat} {ad : Nat → Nat} {s : MS} (hR : rf_ok K F m ad) (h : rr I m ad s) {p n : Nat} {y z : Int32} (hp : p < 8) (hy1 : ¬ y < 1) (hy9 : y ≤ 9) (hz : z = 0 ∨ z = 1) (hs : s.1 808 0 = nI n) (hn : n ≤ 40) : ex_E Γ (d + 3) M_Mdl_publish 0 [some (.inr (some m)), some (.inl (nI p)), some (.inl y), some (.inl z), none] [] K I F b (fun x K' I' F' => x = some (.inl (s.1 806 0 + 1)) ∧ K = K' ∧ F = F' ∧ rr I' m ad (m_pub s p n y z)) := by
  have m1 := hR.1
  refine s_Mdl_publish_0 ?_
  refine s_Mdl_publish_1 (b1 := 0) (b2 := b)  (sp_isPathMdl hp) ?_ (by omega)
  rintro _ _ _ _ ⟨rfl, rfl, rfl, rfl⟩
  dsimp only [Option.toList, List.cons_append, List.nil_append]
  refine s_Mdl_publish_4 (fun h4 => absurd h4 (by decide)) (fun h4 => ?_)
  refine s_Mdl_publish_7 ?_
  refine s_Mdl_publish_8 ?_
  refine s_Mdl_publish_9 (fun h9 => absurd h9 (by exact hy1)) (fun h9 => ?_)
  refine s_Mdl_publish_12 ?_
  refine s_Mdl_publish_13 ?_
  refine s_Mdl_publish_15 (fun h15 => ?_) (fun h15 => absurd h15 (by exact fun q => q hy9))
  refine s_Mdl_publish_20 ?_
  refine s_Mdl_publish_21 (b1 := 0) (b2 := b) (by first | rfl | assumption | (simp [*]; done)) (by first | rfl | assumption | (simp [*]; done)) (sp_parseR hR h hs hn) ?_ (by omega)
  rintro _ _ _ _ ⟨rfl, rfl, rfl, k⟩
  dsimp only [Option.toList, List.cons_append, List.nil_append]
  have e6 := k.2.2.1 806 (by decide)
  refine s_Mdl_publish_24 ?_
  refine s_Mdl_publish_25 ?_
  refine s_Mdl_publish_26 (by first | rfl | assumption | (simp [*]; done)) (by first | rfl | assumption | (simp [*]; done)) ?_
  rw [e6]
  refine s_Mdl_publish_29 ?_
  refine s_Mdl_publish_30 ?_
  refine s_Mdl_publish_31 (by first | rfl | assumption | (simp [*]; done)) (by first | rfl | assumption | (simp [*]; done)) ?_
  refine s_Mdl_publish_34 ?_
  refine s_Mdl_publish_35 (by first | rfl | assumption | (simp [*]; done)) (by first | rfl | assumption | (simp [*]; done)) ?_
  refine s_Mdl_publish_38 ?_
  refine s_Mdl_publish_39 ?_
  refine s_Mdl_publish_40 (by first | rfl | assumption | (simp [*]; done)) (by first | rfl | assumption | (simp [*]; done)) ?_
  rw [ex_ui_eq]
  refine s_Mdl_publish_43 (by first | exact rf_version hR | rfl) (by exact rk_version hR) (by rw [rn_version hR]; exact n_in (a := p) (by first | rfl | (simp only [nl_1, nl_2, nl_3, nl_4, nl_5, nl_6, nl_7, nl_8, nl_9, nl_10, nl_11, nl_12, nl_13, nl_14, nl_15, nl_16, nl_32, nl_240, nl_250, nl_255, nl_265, nl_270, nl_0, nI_add, pk_mul]; done)) (by omega) (by omega)) ?_
  refine ex_ixs (q := p) (by first | rfl | (simp only [nl_1, nl_2, nl_3, nl_4, nl_5, nl_6, nl_7, nl_8, nl_9, nl_10, nl_11, nl_12, nl_13, nl_14, nl_15, nl_16, nl_32, nl_240, nl_250, nl_255, nl_265, nl_270, nl_0, nI_add, pk_mul]; done)) (by omega) ?_
  refine s_Mdl_publish_44 ?_
  refine s_Mdl_publish_45 (by first | rfl | assumption | (simp [*]; done)) (by first | rfl | assumption | (simp [*]; done)) ?_
  refine s_Mdl_publish_48 ?_
  refine s_Mdl_publish_49 ?_
  refine s_Mdl_publish_50 (by first | exact rf_big hR | rfl) (by exact rk_big hR) (by rw [rn_big hR]; exact n_in (a := p) (by first | rfl | (simp only [nl_1, nl_2, nl_3, nl_4, nl_5, nl_6, nl_7, nl_8, nl_9, nl_10, nl_11, nl_12, nl_13, nl_14, nl_15, nl_16, nl_32, nl_240, nl_250, nl_255, nl_265, nl_270, nl_0, nI_add, pk_mul]; done)) (by omega) (by omega)) ?_
  refine ex_ixs (q := p) (by first | rfl | (simp only [nl_1, nl_2, nl_3, nl_4, nl_5, nl_6, nl_7, nl_8, nl_9, nl_10, nl_11, nl_12, nl_13, nl_14, nl_15, nl_16, nl_32, nl_240, nl_250, nl_255, nl_265, nl_270, nl_0, nI_add, pk_mul]; done)) (by omega) ?_
  refine s_Mdl_publish_51 ?_
  refine s_Mdl_publish_52 (by first | rfl | assumption | (simp [*]; done)) (by first | rfl | assumption | (simp [*]; done)) ?_
  refine s_Mdl_publish_55 ?_
  refine s_Mdl_publish_56 ?_
  refine s_Mdl_publish_57 (fun h57 => ?_) (fun h57 => ?_)
  · refine s_Mdl_publish_64 ?_
    refine s_Mdl_publish_65 (by first | exact rf_vary hR | rfl) (by exact rk_vary hR) (by rw [rn_vary hR]; exact n_in (a := p) (by first | rfl | (simp only [nl_1, nl_2, nl_3, nl_4, nl_5, nl_6, nl_7, nl_8, nl_9, nl_10, nl_11, nl_12, nl_13, nl_14, nl_15, nl_16, nl_32, nl_240, nl_250, nl_255, nl_265, nl_270, nl_0, nI_add, pk_mul]; done)) (by omega) (by omega)) ?_
    refine ex_ixs (q := p) (by first | rfl | (simp only [nl_1, nl_2, nl_3, nl_4, nl_5, nl_6, nl_7, nl_8, nl_9, nl_10, nl_11, nl_12, nl_13, nl_14, nl_15, nl_16, nl_32, nl_240, nl_250, nl_255, nl_265, nl_270, nl_0, nI_add, pk_mul]; done)) (by omega) ?_
    subst h57
    have k2 := rr_ua (k := 10) (i := p) (x := 0) hR (rr_ua (k := 9) (i := p) (x := y) hR (rr_ua (k := 8) (i := p) (x := (m_parse s n).1 806 0 + 1) hR (rr_us (K := K) (F := F) (g := 806) (x := (m_parse s n).1 806 0 + 1) k (by decide)) (by decide)) (by decide)) (by decide)
    refine ex_post (fun x K' I' F' z => ?_) (lp_pub hR k2 hp)
    obtain ⟨z1, z2, z3, z4⟩ := z
    refine ⟨?_, z2, z3, z4⟩
    rw [z1, cw_ne _ _ _ (by decide), cw_ne _ _ _ (by decide), cw_ne _ _ _ (by decide), cw_at, m_parse_1 _ _ (by decide) (by decide)]
    rfl
  · refine s_Mdl_publish_60 ?_
    refine s_Mdl_publish_61 ?_
    refine s_Mdl_publish_65 (by first | exact rf_vary hR | rfl) (by exact rk_vary hR) (by rw [rn_vary hR]; exact n_in (a := p) (by first | rfl | (simp only [nl_1, nl_2, nl_3, nl_4, nl_5, nl_6, nl_7, nl_8, nl_9, nl_10, nl_11, nl_12, nl_13, nl_14, nl_15, nl_16, nl_32, nl_240, nl_250, nl_255, nl_265, nl_270, nl_0, nI_add, pk_mul]; done)) (by omega) (by omega)) ?_
    refine ex_ixs (q := p) (by first | rfl | (simp only [nl_1, nl_2, nl_3, nl_4, nl_5, nl_6, nl_7, nl_8, nl_9, nl_10, nl_11, nl_12, nl_13, nl_14, nl_15, nl_16, nl_32, nl_240, nl_250, nl_255, nl_265, nl_270, nl_0, nI_add, pk_mul]; done)) (by omega) ?_
    have hz1 : z = 1 := hz.resolve_left h57
    subst hz1
    have k2 := rr_ua (k := 10) (i := p) (x := 1) hR (rr_ua (k := 9) (i := p) (x := y) hR (rr_ua (k := 8) (i := p) (x := (m_parse s n).1 806 0 + 1) hR (rr_us (K := K) (F := F) (g := 806) (x := (m_parse s n).1 806 0 + 1) k (by decide)) (by decide)) (by decide)) (by decide)
    refine ex_post (fun x K' I' F' z => ?_) (lp_pub hR k2 hp)
    obtain ⟨z1, z2, z3, z4⟩ := z
    refine ⟨?_, z2, z3, z4⟩
    rw [z1, cw_ne _ _ _ (by decide), cw_ne _ _ _ (by decide), cw_ne _ _ _ (by decide), cw_at, m_parse_1 _ _ (by decide) (by decide)]
    rfl
theorem sp_publishR_no {Γ : ex_G} {d : Nat} {K : ex_K} {I : ex_I} {F : ex_F} {b : Nat} {m : Nat} {ad : Nat → Nat} {s : MS} (hR : rf_ok K F m ad) (h : rr I m ad s) {z x q : Int32} (hz : (z < 0 ∨ nI 8 ≤ z) ∨ ((¬ z < 0 ∧ ¬ nI 8 ≤ z) ∧ (x < 1 ∨ ¬ x ≤ 9))) : ex_E Γ (d + 3) M_Mdl_publish 0 [some (.inr (some m)), some (.inl z), some (.inl x), some (.inl q), none] [] K I F b (fun x K' I' F' => x = some (.inl (-1)) ∧ K = K' ∧ F = F' ∧ rr I' m ad (s)) := by
  have m1 := hR.1
  rcases hz with hx | ⟨⟨h0, h8⟩, hs⟩
  · skip
    refine s_Mdl_publish_0 ?_
    refine s_Mdl_publish_1 (b1 := 0) (b2 := b)  (sp_isPathMdl_no hx) ?_ (by omega)
    rintro _ _ _ _ ⟨rfl, rfl, rfl, rfl⟩
    dsimp only [Option.toList, List.cons_append, List.nil_append]
    refine s_Mdl_publish_4 (fun h4 => ?_) (fun h4 => absurd h4 (by exact fun q => q rfl))
    refine s_Mdl_publish_18 ?_
    refine s_Mdl_publish_19 ?_
    exact ⟨rfl, rfl, rfl, h⟩
  · obtain ⟨p, hp, rfl⟩ := nI_ofn (by decide) h0 h8
    refine s_Mdl_publish_0 ?_
    refine s_Mdl_publish_1 (b1 := 0) (b2 := b)  (sp_isPathMdl hp) ?_ (by omega)
    rintro _ _ _ _ ⟨rfl, rfl, rfl, rfl⟩
    dsimp only [Option.toList, List.cons_append, List.nil_append]
    refine s_Mdl_publish_4 (fun h4 => absurd h4 (by decide)) (fun h4 => ?_)
    refine s_Mdl_publish_7 ?_
    refine s_Mdl_publish_8 ?_
    refine s_Mdl_publish_9 (fun h9 => ?_) (fun h9 => ?_)
    · refine s_Mdl_publish_18 ?_
      refine s_Mdl_publish_19 ?_
      exact ⟨rfl, rfl, rfl, h⟩
    · refine s_Mdl_publish_12 ?_
      refine s_Mdl_publish_13 ?_
      refine s_Mdl_publish_15 (fun h15 => absurd h15 (by exact hs.resolve_left h9)) (fun h15 => ?_)
      refine s_Mdl_publish_18 ?_
      refine s_Mdl_publish_19 ?_
      exact ⟨rfl, rfl, rfl, h⟩
/-- a letter written into the draft -/
theorem rr_uc {K : ex_K} {F : ex_F} {I : ex_I} {m i : Nat} {x : Int32} {ad : Nat → Nat} {s : MS} (hR : rf_ok K F m ad) (h : rr I m ad s) : rr (ex_ui I 22 (ad 3) i x) m ad (cw s 3 i x) := by
  obtain ⟨h1, h2, h3, h4, h5, h6, h7, h8, h9⟩ := h
  have e21 : ex_ui I 22 (ad 3) i x 21 = I 21 := ex_ui_f _ _ _ _ (by decide)
  have n6 : ad 6 ≠ ad 3 := rf_ne hR (by decide)
  have n7 : ad 7 ≠ ad 3 := rf_ne hR (by decide)
  refine ⟨fun j hj => ?_, fun j hj => ?_, fun g hg => ?_, ?_, ?_, ?_, ?_, fun t ht => ?_, fun t ht j hj => ?_⟩
  · have e : j ≠ 3 := (rrA_ne hj).2.2.2.2.2.2.1
    rw [e21, cw_ne _ _ _ e, h1 j hj]
  · have e : j ≠ 3 := (rrB_ne hj).2.2.1
    rw [ex_ui_f _ _ _ _ (by decide), cw_ne _ _ _ e, h2 j hj]
  · have e : g ≠ 3 := (rrS_ne hg).2.2.1
    rw [ex_ui_f _ _ _ _ (rrS_ne hg).2.2.2.2.2.1, cw_ne _ _ _ e, h3 g hg]
  · rw [ex_ui_at, cw_at, h4]
    rfl
  · unfold rt_ok
    rw [ex_ui_ne _ _ _ _ n6, ex_ui_ne _ _ _ _ n7]
    exact h5
  · unfold r_ent
    rw [e21, ex_ui_f _ _ _ _ (by decide)]
    exact h6
  · unfold r_fly
    rw [e21, ex_ui_f _ _ _ _ (by decide)]
    exact h7
  · unfold r_que
    rw [e21]
    exact h8 t ht
  · rw [e21, cw_ne _ _ _ (by omega), h9 t ht j hj]
def m_type (s : MS) (n : Nat) (c : Int32) : MS := cw (cw s 3 n c) 808 0 (nI (n + 1))
theorem sp_typeR {Γ : ex_G} {d : Nat} {K : ex_K} {I : ex_I} {F : ex_F} {b : Nat} {m : Nat} {ad : Nat → Nat} {s : MS} (hR : rf_ok K F m ad) (h : rr I m ad s) {n : Nat} {c : Int32} (h1 : ¬ c < 32) (h2 : ¬ 126 < c) (hc : vp_nar .char c = c) (hs : s.1 808 0 = nI n) (hn : n < 40) : ex_E Γ d M_Mdl_type 0 [some (.inr (some m)), some (.inl c)] [] K I F b (fun x K' I' F' => x = some (.inl (1)) ∧ K = K' ∧ F = F' ∧ rr I' m ad (m_type s n c)) := by
  have m1 := hR.1
  have e8 := h.2.2.1 808 (by decide)
  rw [hs] at e8
  have e1 : nI n + 1 = nI (n + 1) := by rw [nl_1, nI_add]
  refine s_Mdl_type_0 ?_
  refine s_Mdl_type_1 ?_
  refine s_Mdl_type_3 (fun h3 => absurd h3 (by exact h1)) (fun h3 => ?_)
  refine s_Mdl_type_6 ?_
  refine s_Mdl_type_7 ?_
  refine s_Mdl_type_9 (fun h9 => absurd h9 (by exact h2)) (fun h9 => ?_)
  refine s_Mdl_type_12 ?_
  refine s_Mdl_type_13 (by first | rfl | assumption | (simp [*]; done)) (by first | rfl | assumption | (simp [*]; done)) ?_
  refine s_Mdl_type_16 ?_
  refine s_Mdl_type_18 (fun h18 => ?_) (fun h18 => absurd h18 (by exact fun q => q ((n_lt e8 (show (40 : Int32) = nI 40 from rfl) (by omega) (by omega)).mpr hn)))
  refine s_Mdl_type_23 ?_
  refine s_Mdl_type_24 (by first | rfl | assumption | (simp [*]; done)) (by first | rfl | assumption | (simp [*]; done)) ?_
  refine s_Mdl_type_27 ?_
  refine s_Mdl_type_28 (by first | rfl | assumption | (simp [*]; done)) (by first | rfl | assumption | (simp [*]; done)) ?_
  refine s_Mdl_type_31 ?_
  refine s_Mdl_type_32 (by first | exact rf_draft hR | rfl) (by exact rk_draft hR) (by rw [rn_draft hR]; exact n_in (a := n) (by first | rfl | (simp only [e8, nl_1, nl_2, nl_3, nl_4, nl_5, nl_6, nl_7, nl_8, nl_9, nl_10, nl_11, nl_12, nl_13, nl_14, nl_15, nl_16, nl_32, nl_240, nl_250, nl_255, nl_265, nl_270, nl_0, nI_add, pk_mul]; done)) (by omega) (by omega)) ?_
  refine ex_ixs (q := n) (by first | rfl | (simp only [e8, nl_1, nl_2, nl_3, nl_4, nl_5, nl_6, nl_7, nl_8, nl_9, nl_10, nl_11, nl_12, nl_13, nl_14, nl_15, nl_16, nl_32, nl_240, nl_250, nl_255, nl_265, nl_270, nl_0, nI_add, pk_mul]; done)) (by omega) ?_
  refine s_Mdl_type_33 ?_
  refine s_Mdl_type_34 ?_
  refine s_Mdl_type_35 (by first | rfl | assumption | (simp [*]; done)) (by first | rfl | assumption | (simp [*]; done)) ?_
  rw [ex_ui_f _ _ _ _ (by decide), e8]
  refine s_Mdl_type_38 ?_
  refine s_Mdl_type_39 ?_
  rw [e1]
  refine s_Mdl_type_40 (by first | rfl | assumption | (simp [*]; done)) (by first | rfl | assumption | (simp [*]; done)) ?_
  refine s_Mdl_type_43 ?_
  refine s_Mdl_type_44 (by first | rfl | decide | assumption) ?_
  rw [hc]
  exact ⟨rfl, rfl, rfl, rr_us (K := K) (F := F) (rr_uc hR h) (by decide)⟩
theorem sp_typeR_no {Γ : ex_G} {d : Nat} {K : ex_K} {I : ex_I} {F : ex_F} {b : Nat} {m : Nat} {ad : Nat → Nat} {s : MS} (hR : rf_ok K F m ad) (h : rr I m ad s) {n : Nat} {c : Int32} (hs : s.1 808 0 = nI n) (hx : c < 32 ∨ 126 < c ∨ n = 40) : ex_E Γ d M_Mdl_type 0 [some (.inr (some m)), some (.inl c)] [] K I F b (fun x K' I' F' => x = some (.inl (0)) ∧ K = K' ∧ F = F' ∧ rr I' m ad (s)) := by
  have m1 := hR.1
  have e8 := h.2.2.1 808 (by decide)
  rw [hs] at e8
  refine s_Mdl_type_0 ?_
  refine s_Mdl_type_1 ?_
  refine s_Mdl_type_3 (fun h3 => ?_) (fun h3 => ?_)
  · refine s_Mdl_type_21 ?_
    refine s_Mdl_type_22 (by first | rfl | decide | assumption) ?_
    exact ⟨rfl, rfl, rfl, h⟩
  · refine s_Mdl_type_6 ?_
    refine s_Mdl_type_7 ?_
    refine s_Mdl_type_9 (fun h9 => ?_) (fun h9 => ?_)
    · refine s_Mdl_type_21 ?_
      refine s_Mdl_type_22 (by first | rfl | decide | assumption) ?_
      exact ⟨rfl, rfl, rfl, h⟩
    · refine s_Mdl_type_12 ?_
      refine s_Mdl_type_13 (by first | rfl | assumption | (simp [*]; done)) (by first | rfl | assumption | (simp [*]; done)) ?_
      refine s_Mdl_type_16 ?_
      refine s_Mdl_type_18 (fun h18 => absurd h18 (by have z := (hx.resolve_left h3).resolve_left h9; rw [e8, z]; decide)) (fun h18 => ?_)
      refine s_Mdl_type_21 ?_
      refine s_Mdl_type_22 (by first | rfl | decide | assumption) ?_
      exact ⟨rfl, rfl, rfl, h⟩
def m_ans (s : MS) (r : Int32) (w : Nat) : Int32 := s.1 (17 + w) (r &&& 15).toNatClampNeg
theorem sp_answerR {Γ : ex_G} {d : Nat} {K : ex_K} {I : ex_I} {F : ex_F} {b : Nat} {m : Nat} {ad : Nat → Nat} {s : MS} (hR : rf_ok K F m ad) (h : rr I m ad s) {r : Int32} {w : Nat} (a1 : ¬ r < 1) (a2 : ¬ s.1 820 0 < r) (a3 : ¬ r ≤ s.1 820 0 - 16) (hw : w < 4) : ex_E Γ d M_Mdl_answer 0 [some (.inr (some m)), some (.inl r), some (.inl (nI w)), none] [] K I F b (fun x K' I' F' => x = some (.inl (m_ans s r w)) ∧ K = K' ∧ F = F' ∧ rr I' m ad (s)) := by
  have m1 := hR.1
  have e8 := h.2.2.1 820 (by decide)
  have hin : vp_in (r &&& 15) 16 := pk_andIn r (m := 15) 4 (by decide) (by decide)
  rcases (by omega : w = 0 ∨ w = 1 ∨ w = 2 ∨ w = 3) with rfl | rfl | rfl | rfl
  · skip
    refine s_Mdl_answer_0 ?_
    refine s_Mdl_answer_1 ?_
    refine s_Mdl_answer_2 (fun h2 => absurd h2 (by exact a1)) (fun h2 => ?_)
    refine s_Mdl_answer_5 ?_
    refine s_Mdl_answer_6 ?_
    refine s_Mdl_answer_7 (by first | rfl | assumption | (simp [*]; done)) (by first | rfl | assumption | (simp [*]; done)) ?_
    refine s_Mdl_answer_10 (fun h10 => absurd h10 (by rw [e8]; exact a2)) (fun h10 => ?_)
    refine s_Mdl_answer_13 ?_
    refine s_Mdl_answer_14 ?_
    refine s_Mdl_answer_15 (by first | rfl | assumption | (simp [*]; done)) (by first | rfl | assumption | (simp [*]; done)) ?_
    refine s_Mdl_answer_18 ?_
    refine s_Mdl_answer_20 ?_
    refine s_Mdl_answer_21 (fun h21 => absurd h21 (by rw [e8]; exact a3)) (fun h21 => ?_)
    refine s_Mdl_answer_24 ?_
    refine s_Mdl_answer_25 (fun h25 => absurd h25 (by decide)) (fun h25 => ?_)
    refine s_Mdl_answer_28 ?_
    refine s_Mdl_answer_29 ?_
    refine s_Mdl_answer_30 (fun h30 => ?_) (fun h30 => absurd h30 (by exact fun q => q (by decide)))
    refine s_Mdl_answer_35 ?_
    refine s_Mdl_answer_36 ?_
    refine s_Mdl_answer_38 ?_
    refine s_Mdl_answer_39 ?_
    refine s_Mdl_answer_40 ?_
    refine s_Mdl_answer_41 (fun h41 => absurd h41 (by exact fun q => q (by decide))) (fun h41 => ?_)
    refine s_Mdl_answer_44 ?_
    refine s_Mdl_answer_45 (by first | rfl | assumption | (simp [*]; done)) (by first | rfl | assumption | (simp [*]; done)) ?_
    refine s_Mdl_answer_48 ?_
    refine s_Mdl_answer_49 (by first | exact rf_status hR | rfl) (by exact rk_status hR) (by rw [rn_status hR]; exact hin) ?_
    refine s_Mdl_answer_50 ?_
    refine s_Mdl_answer_87 ?_
    rw [h.1 17 (by decide)]
    exact ⟨rfl, rfl, rfl, h⟩
  · skip
    refine s_Mdl_answer_0 ?_
    refine s_Mdl_answer_1 ?_
    refine s_Mdl_answer_2 (fun h2 => absurd h2 (by exact a1)) (fun h2 => ?_)
    refine s_Mdl_answer_5 ?_
    refine s_Mdl_answer_6 ?_
    refine s_Mdl_answer_7 (by first | rfl | assumption | (simp [*]; done)) (by first | rfl | assumption | (simp [*]; done)) ?_
    refine s_Mdl_answer_10 (fun h10 => absurd h10 (by rw [e8]; exact a2)) (fun h10 => ?_)
    refine s_Mdl_answer_13 ?_
    refine s_Mdl_answer_14 ?_
    refine s_Mdl_answer_15 (by first | rfl | assumption | (simp [*]; done)) (by first | rfl | assumption | (simp [*]; done)) ?_
    refine s_Mdl_answer_18 ?_
    refine s_Mdl_answer_20 ?_
    refine s_Mdl_answer_21 (fun h21 => absurd h21 (by rw [e8]; exact a3)) (fun h21 => ?_)
    refine s_Mdl_answer_24 ?_
    refine s_Mdl_answer_25 (fun h25 => absurd h25 (by decide)) (fun h25 => ?_)
    refine s_Mdl_answer_28 ?_
    refine s_Mdl_answer_29 ?_
    refine s_Mdl_answer_30 (fun h30 => ?_) (fun h30 => absurd h30 (by exact fun q => q (by decide)))
    refine s_Mdl_answer_35 ?_
    refine s_Mdl_answer_36 ?_
    refine s_Mdl_answer_38 ?_
    refine s_Mdl_answer_39 ?_
    refine s_Mdl_answer_40 ?_
    refine s_Mdl_answer_41 (fun h41 => ?_) (fun h41 => absurd h41 (by decide))
    refine s_Mdl_answer_53 ?_
    refine s_Mdl_answer_54 ?_
    refine s_Mdl_answer_55 (fun h55 => absurd h55 (by exact fun q => q (by decide))) (fun h55 => ?_)
    refine s_Mdl_answer_58 ?_
    refine s_Mdl_answer_59 (by first | rfl | assumption | (simp [*]; done)) (by first | rfl | assumption | (simp [*]; done)) ?_
    refine s_Mdl_answer_62 ?_
    refine s_Mdl_answer_63 (by first | exact rf_tag hR | rfl) (by exact rk_tag hR) (by rw [rn_tag hR]; exact hin) ?_
    refine s_Mdl_answer_64 ?_
    refine s_Mdl_answer_87 ?_
    rw [h.1 18 (by decide)]
    exact ⟨rfl, rfl, rfl, h⟩
  · skip
    refine s_Mdl_answer_0 ?_
    refine s_Mdl_answer_1 ?_
    refine s_Mdl_answer_2 (fun h2 => absurd h2 (by exact a1)) (fun h2 => ?_)
    refine s_Mdl_answer_5 ?_
    refine s_Mdl_answer_6 ?_
    refine s_Mdl_answer_7 (by first | rfl | assumption | (simp [*]; done)) (by first | rfl | assumption | (simp [*]; done)) ?_
    refine s_Mdl_answer_10 (fun h10 => absurd h10 (by rw [e8]; exact a2)) (fun h10 => ?_)
    refine s_Mdl_answer_13 ?_
    refine s_Mdl_answer_14 ?_
    refine s_Mdl_answer_15 (by first | rfl | assumption | (simp [*]; done)) (by first | rfl | assumption | (simp [*]; done)) ?_
    refine s_Mdl_answer_18 ?_
    refine s_Mdl_answer_20 ?_
    refine s_Mdl_answer_21 (fun h21 => absurd h21 (by rw [e8]; exact a3)) (fun h21 => ?_)
    refine s_Mdl_answer_24 ?_
    refine s_Mdl_answer_25 (fun h25 => absurd h25 (by decide)) (fun h25 => ?_)
    refine s_Mdl_answer_28 ?_
    refine s_Mdl_answer_29 ?_
    refine s_Mdl_answer_30 (fun h30 => ?_) (fun h30 => absurd h30 (by exact fun q => q (by decide)))
    refine s_Mdl_answer_35 ?_
    refine s_Mdl_answer_36 ?_
    refine s_Mdl_answer_38 ?_
    refine s_Mdl_answer_39 ?_
    refine s_Mdl_answer_40 ?_
    refine s_Mdl_answer_41 (fun h41 => ?_) (fun h41 => absurd h41 (by decide))
    refine s_Mdl_answer_53 ?_
    refine s_Mdl_answer_54 ?_
    refine s_Mdl_answer_55 (fun h55 => ?_) (fun h55 => absurd h55 (by decide))
    refine s_Mdl_answer_67 ?_
    refine s_Mdl_answer_68 ?_
    refine s_Mdl_answer_69 (fun h69 => absurd h69 (by exact fun q => q (by decide))) (fun h69 => ?_)
    refine s_Mdl_answer_72 ?_
    refine s_Mdl_answer_73 (by first | rfl | assumption | (simp [*]; done)) (by first | rfl | assumption | (simp [*]; done)) ?_
    refine s_Mdl_answer_76 ?_
    refine s_Mdl_answer_77 (by first | exact rf_age hR | rfl) (by exact rk_age hR) (by rw [rn_age hR]; exact hin) ?_
    refine s_Mdl_answer_78 ?_
    refine s_Mdl_answer_87 ?_
    rw [h.1 19 (by decide)]
    exact ⟨rfl, rfl, rfl, h⟩
  · skip
    refine s_Mdl_answer_0 ?_
    refine s_Mdl_answer_1 ?_
    refine s_Mdl_answer_2 (fun h2 => absurd h2 (by exact a1)) (fun h2 => ?_)
    refine s_Mdl_answer_5 ?_
    refine s_Mdl_answer_6 ?_
    refine s_Mdl_answer_7 (by first | rfl | assumption | (simp [*]; done)) (by first | rfl | assumption | (simp [*]; done)) ?_
    refine s_Mdl_answer_10 (fun h10 => absurd h10 (by rw [e8]; exact a2)) (fun h10 => ?_)
    refine s_Mdl_answer_13 ?_
    refine s_Mdl_answer_14 ?_
    refine s_Mdl_answer_15 (by first | rfl | assumption | (simp [*]; done)) (by first | rfl | assumption | (simp [*]; done)) ?_
    refine s_Mdl_answer_18 ?_
    refine s_Mdl_answer_20 ?_
    refine s_Mdl_answer_21 (fun h21 => absurd h21 (by rw [e8]; exact a3)) (fun h21 => ?_)
    refine s_Mdl_answer_24 ?_
    refine s_Mdl_answer_25 (fun h25 => absurd h25 (by decide)) (fun h25 => ?_)
    refine s_Mdl_answer_28 ?_
    refine s_Mdl_answer_29 ?_
    refine s_Mdl_answer_30 (fun h30 => ?_) (fun h30 => absurd h30 (by exact fun q => q (by decide)))
    refine s_Mdl_answer_35 ?_
    refine s_Mdl_answer_36 ?_
    refine s_Mdl_answer_38 ?_
    refine s_Mdl_answer_39 ?_
    refine s_Mdl_answer_40 ?_
    refine s_Mdl_answer_41 (fun h41 => ?_) (fun h41 => absurd h41 (by decide))
    refine s_Mdl_answer_53 ?_
    refine s_Mdl_answer_54 ?_
    refine s_Mdl_answer_55 (fun h55 => ?_) (fun h55 => absurd h55 (by decide))
    refine s_Mdl_answer_67 ?_
    refine s_Mdl_answer_68 ?_
    refine s_Mdl_answer_69 (fun h69 => ?_) (fun h69 => absurd h69 (by decide))
    refine s_Mdl_answer_81 ?_
    refine s_Mdl_answer_82 (by first | rfl | assumption | (simp [*]; done)) (by first | rfl | assumption | (simp [*]; done)) ?_
    refine s_Mdl_answer_85 ?_
    refine s_Mdl_answer_86 (by first | exact rf_way hR | rfl) (by exact rk_way hR) (by rw [rn_way hR]; exact hin) ?_
    refine s_Mdl_answer_87 ?_
    rw [h.1 20 (by decide)]
    exact ⟨rfl, rfl, rfl, h⟩
theorem sp_answerR_no {Γ : ex_G} {d : Nat} {K : ex_K} {I : ex_I} {F : ex_F} {b : Nat} {m : Nat} {ad : Nat → Nat} {s : MS} (hR : rf_ok K F m ad) (h : rr I m ad s) {r w : Int32} (hx : r < 1 ∨ s.1 820 0 < r ∨ r ≤ s.1 820 0 - 16 ∨ w < 0 ∨ ¬ w ≤ 3) : ex_E Γ d M_Mdl_answer 0 [some (.inr (some m)), some (.inl r), some (.inl w), none] [] K I F b (fun x K' I' F' => x = some (.inl (-1)) ∧ K = K' ∧ F = F' ∧ rr I' m ad (s)) := by
  have m1 := hR.1
  have e8 := h.2.2.1 820 (by decide)
  refine s_Mdl_answer_0 ?_
  refine s_Mdl_answer_1 ?_
  refine s_Mdl_answer_2 (fun h2 => ?_) (fun h2 => ?_)
  · refine s_Mdl_answer_33 ?_
    refine s_Mdl_answer_34 ?_
    exact ⟨rfl, rfl, rfl, h⟩
  · refine s_Mdl_answer_5 ?_
    refine s_Mdl_answer_6 ?_
    refine s_Mdl_answer_7 (by first | rfl | assumption | (simp [*]; done)) (by first | rfl | assumption | (simp [*]; done)) ?_
    rw [e8]
    refine s_Mdl_answer_10 (fun h10 => ?_) (fun h10 => ?_)
    · refine s_Mdl_answer_33 ?_
      refine s_Mdl_answer_34 ?_
      exact ⟨rfl, rfl, rfl, h⟩
    · refine s_Mdl_answer_13 ?_
      refine s_Mdl_answer_14 ?_
      refine s_Mdl_answer_15 (by first | rfl | assumption | (simp [*]; done)) (by first | rfl | assumption | (simp [*]; done)) ?_
      rw [e8]
      refine s_Mdl_answer_18 ?_
      refine s_Mdl_answer_20 ?_
      refine s_Mdl_answer_21 (fun h21 => ?_) (fun h21 => ?_)
      · refine s_Mdl_answer_33 ?_
        refine s_Mdl_answer_34 ?_
        exact ⟨rfl, rfl, rfl, h⟩
      · refine s_Mdl_answer_24 ?_
        refine s_Mdl_answer_25 (fun h25 => ?_) (fun h25 => ?_)
        · refine s_Mdl_answer_33 ?_
          refine s_Mdl_answer_34 ?_
          exact ⟨rfl, rfl, rfl, h⟩
        · refine s_Mdl_answer_28 ?_
          refine s_Mdl_answer_29 ?_
          refine s_Mdl_answer_30 (fun h30 => absurd h30 (by exact (((hx.resolve_left h2).resolve_left h10).resolve_left h21).resolve_left h25)) (fun h30 => ?_)
          refine s_Mdl_answer_33 ?_
          refine s_Mdl_answer_34 ?_
          exact ⟨rfl, rfl, rfl, h⟩
theorem sp_flightR {Γ : ex_G} {d : Nat} {K : ex_K} {I : ex_I} {F : ex_F} {b : Nat} {m : Nat} {ad : Nat → Nat} {s : MS} (hR : rf_ok K F m ad) (h : rr I m ad s) {e w : Nat} {row : Nat → Int32} (he : (s.2 31)[e]? = some row) (hw : w < 4) : ex_E Γ (d + 1) M_Mdl_flight 0 [some (.inr (some m)), some (.inl (nI e)), some (.inl (nI w)), none] [] K I F b (fun x K' I' F' => x = some (.inl (if w = 0 then row 0 + 4 * row 1 else row (1 + w))) ∧ K = K' ∧ F = F' ∧ rr I' m ad (s)) := by
  have m1 := hR.1
  have le := (List.getElem?_eq_some_iff.mp he).1
  obtain ⟨u1, u2, u3⟩ := h.2.2.2.2.2.2.1
  have r1 := u3 e row he
  have r10 := r1 0 (by decide)
  rw [Nat.add_zero] at r10
  refine s_Mdl_flight_0 ?_
  refine s_Mdl_flight_1 ?_
  refine s_Mdl_flight_2 (b1 := 0) (b2 := b) (by first | rfl | assumption | (simp [*]; done)) (by first | rfl | assumption | (simp [*]; done)) (sp_flies hR u1) ?_ (by omega)
  rintro _ _ _ _ ⟨rfl, rfl, rfl, rfl⟩
  dsimp only [Option.toList, List.cons_append, List.nil_append]
  rw [if_pos ⟨nI_pos (by omega), nI_ge (by omega) (by omega)⟩]
  refine s_Mdl_flight_5 (fun h5 => absurd h5 (by decide)) (fun h5 => ?_)
  refine s_Mdl_flight_8 ?_
  refine s_Mdl_flight_9 (fun h9 => absurd h9 (by exact nI_pos (by omega))) (fun h9 => ?_)
  refine s_Mdl_flight_12 ?_
  refine s_Mdl_flight_13 ?_
  refine s_Mdl_flight_14 (fun h14 => ?_) (fun h14 => absurd h14 (by exact fun q => q ((n_le rfl nl_3 (by omega) (by omega)).mpr (by omega))))
  refine s_Mdl_flight_19 ?_
  refine s_Mdl_flight_21 ?_
  refine s_Mdl_flight_22 ?_
  refine s_Mdl_flight_23 ?_
  refine s_Mdl_flight_24 ?_
  refine s_Mdl_flight_25 (fun h25 => ?_) (fun h25 => ?_)
  · refine s_Mdl_flight_48 ?_
    refine s_Mdl_flight_49 (by first | rfl | assumption | (simp [*]; done)) (by first | rfl | assumption | (simp [*]; done)) ?_
    refine s_Mdl_flight_52 ?_
    refine s_Mdl_flight_53 ?_
    refine s_Mdl_flight_54 ?_
    refine s_Mdl_flight_55 ?_
    refine s_Mdl_flight_56 ?_
    refine s_Mdl_flight_57 (by first | exact rf_row hR | rfl) (by exact rk_row hR) (by rw [rn_row hR]; exact n_in (a := (((15 * e) + 1) + w)) (by first | rfl | (simp only [nl_1, nl_2, nl_3, nl_4, nl_5, nl_6, nl_7, nl_8, nl_9, nl_10, nl_11, nl_12, nl_13, nl_14, nl_15, nl_16, nl_32, nl_240, nl_250, nl_255, nl_265, nl_270, nl_0, nI_add, pk_mul]; done)) (by omega) (by omega)) ?_
    refine ex_ixl (q := (((15 * e) + 1) + w)) (by first | rfl | (simp only [nl_1, nl_2, nl_3, nl_4, nl_5, nl_6, nl_7, nl_8, nl_9, nl_10, nl_11, nl_12, nl_13, nl_14, nl_15, nl_16, nl_32, nl_240, nl_250, nl_255, nl_265, nl_270, nl_0, nI_add, pk_mul]; done)) (by omega) ?_
    refine s_Mdl_flight_58 ?_
    have z : w ≠ 0 := fun z => h25 (by rw [z]; rfl)
    rw [if_neg z, Nat.add_assoc, r1 (1 + w) (by omega)]
    exact ⟨rfl, rfl, rfl, h⟩
  · refine s_Mdl_flight_28 ?_
    refine s_Mdl_flight_29 (by first | rfl | assumption | (simp [*]; done)) (by first | rfl | assumption | (simp [*]; done)) ?_
    refine s_Mdl_flight_32 ?_
    refine s_Mdl_flight_33 (by first | exact rf_row hR | rfl) (by exact rk_row hR) (by rw [rn_row hR]; exact n_in (a := (15 * e)) (by first | rfl | (simp only [nl_1, nl_2, nl_3, nl_4, nl_5, nl_6, nl_7, nl_8, nl_9, nl_10, nl_11, nl_12, nl_13, nl_14, nl_15, nl_16, nl_32, nl_240, nl_250, nl_255, nl_265, nl_270, nl_0, nI_add, pk_mul]; done)) (by omega) (by omega)) ?_
    refine ex_ixl (q := (15 * e)) (by first | rfl | (simp only [nl_1, nl_2, nl_3, nl_4, nl_5, nl_6, nl_7, nl_8, nl_9, nl_10, nl_11, nl_12, nl_13, nl_14, nl_15, nl_16, nl_32, nl_240, nl_250, nl_255, nl_265, nl_270, nl_0, nI_add, pk_mul]; done)) (by omega) ?_
    rw [r10]
    refine s_Mdl_flight_34 ?_
    refine s_Mdl_flight_35 ?_
    refine s_Mdl_flight_36 (by first | rfl | assumption | (simp [*]; done)) (by first | rfl | assumption | (simp [*]; done)) ?_
    refine s_Mdl_flight_39 ?_
    refine s_Mdl_flight_40 ?_
    refine s_Mdl_flight_41 ?_
    refine s_Mdl_flight_42 (by first | exact rf_row hR | rfl) (by exact rk_row hR) (by rw [rn_row hR]; exact n_in (a := ((15 * e) + 1)) (by first | rfl | (simp only [nl_1, nl_2, nl_3, nl_4, nl_5, nl_6, nl_7, nl_8, nl_9, nl_10, nl_11, nl_12, nl_13, nl_14, nl_15, nl_16, nl_32, nl_240, nl_250, nl_255, nl_265, nl_270, nl_0, nI_add, pk_mul]; done)) (by omega) (by omega)) ?_
    refine ex_ixl (q := ((15 * e) + 1)) (by first | rfl | (simp only [nl_1, nl_2, nl_3, nl_4, nl_5, nl_6, nl_7, nl_8, nl_9, nl_10, nl_11, nl_12, nl_13, nl_14, nl_15, nl_16, nl_32, nl_240, nl_250, nl_255, nl_265, nl_270, nl_0, nI_add, pk_mul]; done)) (by omega) ?_
    rw [r1 1 (by decide)]
    refine s_Mdl_flight_43 ?_
    refine s_Mdl_flight_44 ?_
    refine s_Mdl_flight_45 ?_
    refine s_Mdl_flight_58 ?_
    have z : w = 0 := (n_eq rfl nl_0 (by omega) (by omega)).mp h25
    rw [if_pos z]
    exact ⟨rfl, rfl, rfl, h⟩
theorem sp_flightR_no {Γ : ex_G} {d : Nat} {K : ex_K} {I : ex_I} {F : ex_F} {b : Nat} {m : Nat} {ad : Nat → Nat} {s : MS} (hR : rf_ok K F m ad) (h : rr I m ad s) {y w : Int32} (hx : (y < 0 ∨ nI (s.2 31).length ≤ y) ∨ w < 0 ∨ ¬ w ≤ 3) : ex_E Γ (d + 1) M_Mdl_flight 0 [some (.inr (some m)), some (.inl y), some (.inl w), none] [] K I F b (fun x K' I' F' => x = some (.inl (-1)) ∧ K = K' ∧ F = F' ∧ rr I' m ad (s)) := by
  have m1 := hR.1
  obtain ⟨u1, u2, u3⟩ := h.2.2.2.2.2.2.1
  refine s_Mdl_flight_0 ?_
  refine s_Mdl_flight_1 ?_
  refine s_Mdl_flight_2 (b1 := 0) (b2 := b) (by first | rfl | assumption | (simp [*]; done)) (by first | rfl | assumption | (simp [*]; done)) (sp_flies hR u1) ?_ (by omega)
  rintro _ _ _ _ ⟨rfl, rfl, rfl, rfl⟩
  dsimp only [Option.toList, List.cons_append, List.nil_append]
  refine s_Mdl_flight_5 (fun h5 => ?_) (fun h5 => ?_)
  · refine s_Mdl_flight_17 ?_
    refine s_Mdl_flight_18 ?_
    exact ⟨rfl, rfl, rfl, h⟩
  · refine s_Mdl_flight_8 ?_
    refine s_Mdl_flight_9 (fun h9 => ?_) (fun h9 => ?_)
    · refine s_Mdl_flight_17 ?_
      refine s_Mdl_flight_18 ?_
      exact ⟨rfl, rfl, rfl, h⟩
    · refine s_Mdl_flight_12 ?_
      refine s_Mdl_flight_13 ?_
      refine s_Mdl_flight_14 (fun h14 => absurd h14 (by refine (hx.resolve_left (fun q => ?_)).resolve_left h9; rw [if_neg (fun z => q.elim z.1 z.2)] at h5; exact h5 rfl)) (fun h14 => ?_)
      refine s_Mdl_flight_17 ?_
      refine s_Mdl_flight_18 ?_
      exact ⟨rfl, rfl, rfl, h⟩
def m_entv (t : Int32) (row : Nat → Int32) : Nat → Int32 := fun w => match w with
  | 0 => row 1
  | 1 => tgr row
  | 2 => t - row 6
  | 3 => row 9
  | 4 => row 3
  | _ => if row 4 = 1 then row 5 else -2
theorem sp_entryR {Γ : ex_G} {d : Nat} {K : ex_K} {I : ex_I} {F : ex_F} {b : Nat} {m : Nat} {ad : Nat → Nat} {s : MS} (hR : rf_ok K F m ad) (h : rr I m ad s) {k w : Nat} {row : Nat → Int32} (hk : k < (s.2 14).length) (he : (s.2 14)[(s.2 14).length - 1 - k]? = some row) (hw : w < 6) : ex_E Γ (d + 2) M_Mdl_entry 0 [some (.inr (some m)), some (.inl (nI k)), some (.inl (nI w)), none] [] K I F b (fun x K' I' F' => x = some (.inl (m_entv (s.1 805 0) row w)) ∧ K = K' ∧ F = F' ∧ rr I' m ad (s)) := by
  have m1 := hR.1
  have hE := h.2.2.2.2.2.1
  obtain ⟨l1, l2, l3⟩ := h.2.2.2.2.2.1
  obtain ⟨r1, r2⟩ := l3 _ row he
  have eT := h.2.2.1 805 (by decide)
  have e3 : nI (s.2 14).length - 1 - nI k = nI ((s.2 14).length - 1 - k) := by rw [nl_1, pk_sub (by omega), pk_sub (by omega)]
  refine s_Mdl_entry_0 ?_
  refine s_Mdl_entry_1 (fun h1 => absurd h1 (by exact nI_pos (by omega))) (fun h1 => ?_)
  refine s_Mdl_entry_4 ?_
  refine s_Mdl_entry_5 ?_
  refine s_Mdl_entry_6 (by first | rfl | assumption | (simp [*]; done)) (by first | rfl | assumption | (simp [*]; done)) ?_
  refine s_Mdl_entry_9 (fun h9 => absurd h9 (by rw [l1]; exact nI_ge (by omega) (by omega))) (fun h9 => ?_)
  refine s_Mdl_entry_12 ?_
  refine s_Mdl_entry_13 (fun h13 => absurd h13 (by exact nI_pos (by omega))) (fun h13 => ?_)
  refine s_Mdl_entry_16 ?_
  refine s_Mdl_entry_17 ?_
  refine s_Mdl_entry_18 (fun h18 => ?_) (fun h18 => absurd h18 (by exact fun q => q ((n_le rfl nl_5 (by omega) (by omega)).mpr (by omega))))
  refine s_Mdl_entry_23 ?_
  refine s_Mdl_entry_24 (by first | rfl | assumption | (simp [*]; done)) (by first | rfl | assumption | (simp [*]; done)) ?_
  rw [l1]
  refine s_Mdl_entry_27 ?_
  refine s_Mdl_entry_28 ?_
  refine s_Mdl_entry_29 ?_
  refine s_Mdl_entry_30 ?_
  rw [e3]
  refine s_Mdl_entry_31 ?_
  generalize hq : (s.2 14).length - 1 - k = q at *
  have lq : q < 40 := by omega
  clear hk e3
  rcases (by omega : w = 0 ∨ w = 1 ∨ w = 2 ∨ w = 3 ∨ w = 4 ∨ w = 5) with rfl | rfl | rfl | rfl | rfl | rfl
  · skip
    refine s_Mdl_entry_32 ?_
    refine s_Mdl_entry_33 (fun h33 => absurd h33 (by exact fun q => q (by decide))) (fun h33 => ?_)
    refine s_Mdl_entry_36 ?_
    refine s_Mdl_entry_37 ?_
    refine s_Mdl_entry_38 ?_
    refine s_Mdl_entry_39 (b1 := 0) (b2 := _) (by first | rfl | assumption | (simp [*]; done)) (by first | rfl | assumption | (simp [*]; done)) (Q1 := fun r K' I' F' => ex_E _ _ M_Mdl_entry 42 _ (r.toList ++ _) K' I' F' _ _) ?_ (fun _ _ _ _ hq => hq) (Nat.le_of_eq (Nat.zero_add _))
    refine s_Mdl_part_0 ?_
    refine s_Mdl_part_1 (by first | rfl | assumption | (simp [*]; done)) (by first | rfl | assumption | (simp [*]; done)) ?_
    refine s_Mdl_part_4 ?_
    refine s_Mdl_part_6 ?_
    refine s_Mdl_part_7 ?_
    refine s_Mdl_part_8 ?_
    refine s_Mdl_part_9 ?_
    refine s_Mdl_part_10 (by first | exact rf_entry hR | rfl) (by exact rk_entry hR) (by rw [rn_entry hR]; exact n_in (a := ((8 * q) + 1)) (by first | rfl | (simp only [nl_1, nl_2, nl_3, nl_4, nl_5, nl_6, nl_7, nl_8, nl_9, nl_10, nl_11, nl_12, nl_13, nl_14, nl_15, nl_16, nl_32, nl_240, nl_250, nl_255, nl_265, nl_270, nl_0, nI_add, pk_mul]; done)) (by omega) (by omega)) ?_
    refine ex_ixl (q := ((8 * q) + 1)) (by first | rfl | (simp only [nl_1, nl_2, nl_3, nl_4, nl_5, nl_6, nl_7, nl_8, nl_9, nl_10, nl_11, nl_12, nl_13, nl_14, nl_15, nl_16, nl_32, nl_240, nl_250, nl_255, nl_265, nl_270, nl_0, nI_add, pk_mul]; done)) (by omega) ?_
    refine s_Mdl_part_11 ?_
    dsimp only [Option.toList, List.cons_append, List.nil_append]
    refine s_Mdl_entry_42 ?_
    rw [r1 1 (by decide)]
    exact ⟨rfl, rfl, rfl, h⟩
  · skip
    refine s_Mdl_entry_32 ?_
    refine s_Mdl_entry_33 (fun h33 => ?_) (fun h33 => absurd h33 (by decide))
    refine s_Mdl_entry_43 ?_
    refine s_Mdl_entry_44 ?_
    refine s_Mdl_entry_45 (fun h45 => absurd h45 (by exact fun q => q (by decide))) (fun h45 => ?_)
    refine s_Mdl_entry_48 ?_
    refine s_Mdl_entry_49 ?_
    refine s_Mdl_entry_50 (b1 := 0) (b2 := b) (by first | rfl | assumption | (simp [*]; done)) (by first | rfl | assumption | (simp [*]; done)) (sp_tagOf hR hE he) ?_ (by omega)
    rintro _ _ _ _ ⟨rfl, rfl, rfl, rfl⟩
    dsimp only [Option.toList, List.cons_append, List.nil_append]
    refine s_Mdl_entry_53 ?_
    exact ⟨rfl, rfl, rfl, h⟩
  · skip
    refine s_Mdl_entry_32 ?_
    refine s_Mdl_entry_33 (fun h33 => ?_) (fun h33 => absurd h33 (by decide))
    refine s_Mdl_entry_43 ?_
    refine s_Mdl_entry_44 ?_
    refine s_Mdl_entry_45 (fun h45 => ?_) (fun h45 => absurd h45 (by decide))
    refine s_Mdl_entry_54 ?_
    refine s_Mdl_entry_55 ?_
    refine s_Mdl_entry_56 (fun h56 => absurd h56 (by exact fun q => q (by decide))) (fun h56 => ?_)
    refine s_Mdl_entry_59 ?_
    refine s_Mdl_entry_60 (by first | rfl | assumption | (simp [*]; done)) (by first | rfl | assumption | (simp [*]; done)) ?_
    refine s_Mdl_entry_63 ?_
    refine s_Mdl_entry_64 ?_
    refine s_Mdl_entry_65 ?_
    refine s_Mdl_entry_67 (b1 := 0) (b2 := _) (by first | rfl | assumption | (simp [*]; done)) (by first | rfl | assumption | (simp [*]; done)) (Q1 := fun r K' I' F' => ex_E _ _ M_Mdl_entry 70 _ (r.toList ++ _) K' I' F' _ _) ?_ (fun _ _ _ _ hq => hq) (Nat.le_of_eq (Nat.zero_add _))
    refine s_Mdl_part_0 ?_
    refine s_Mdl_part_1 (by first | rfl | assumption | (simp [*]; done)) (by first | rfl | assumption | (simp [*]; done)) ?_
    refine s_Mdl_part_4 ?_
    refine s_Mdl_part_6 ?_
    refine s_Mdl_part_7 ?_
    refine s_Mdl_part_8 ?_
    refine s_Mdl_part_9 ?_
    refine s_Mdl_part_10 (by first | exact rf_entry hR | rfl) (by exact rk_entry hR) (by rw [rn_entry hR]; exact n_in (a := ((8 * q) + 6)) (by first | rfl | (simp only [nl_1, nl_2, nl_3, nl_4, nl_5, nl_6, nl_7, nl_8, nl_9, nl_10, nl_11, nl_12, nl_13, nl_14, nl_15, nl_16, nl_32, nl_240, nl_250, nl_255, nl_265, nl_270, nl_0, nI_add, pk_mul]; done)) (by omega) (by omega)) ?_
    refine ex_ixl (q := ((8 * q) + 6)) (by first | rfl | (simp only [nl_1, nl_2, nl_3, nl_4, nl_5, nl_6, nl_7, nl_8, nl_9, nl_10, nl_11, nl_12, nl_13, nl_14, nl_15, nl_16, nl_32, nl_240, nl_250, nl_255, nl_265, nl_270, nl_0, nI_add, pk_mul]; done)) (by omega) ?_
    refine s_Mdl_part_11 ?_
    dsimp only [Option.toList, List.cons_append, List.nil_append]
    refine s_Mdl_entry_70 ?_
    refine s_Mdl_entry_71 ?_
    rw [eT, r1 6 (by decide)]
    exact ⟨rfl, rfl, rfl, h⟩
  · skip
    refine s_Mdl_entry_32 ?_
    refine s_Mdl_entry_33 (fun h33 => ?_) (fun h33 => absurd h33 (by decide))
    refine s_Mdl_entry_43 ?_
    refine s_Mdl_entry_44 ?_
    refine s_Mdl_entry_45 (fun h45 => ?_) (fun h45 => absurd h45 (by decide))
    refine s_Mdl_entry_54 ?_
    refine s_Mdl_entry_55 ?_
    refine s_Mdl_entry_56 (fun h56 => ?_) (fun h56 => absurd h56 (by decide))
    refine s_Mdl_entry_72 ?_
    refine s_Mdl_entry_73 ?_
    refine s_Mdl_entry_74 (fun h74 => absurd h74 (by exact fun q => q (by decide))) (fun h74 => ?_)
    refine s_Mdl_entry_77 ?_
    refine s_Mdl_entry_78 (by first | rfl | assumption | (simp [*]; done)) (by first | rfl | assumption | (simp [*]; done)) ?_
    refine s_Mdl_entry_81 ?_
    refine s_Mdl_entry_82 ?_
    refine s_Mdl_entry_83 ?_
    refine s_Mdl_entry_84 ?_
    refine s_Mdl_entry_85 ?_
    refine s_Mdl_entry_86 (by first | exact rf_rule hR | rfl) (by exact rk_rule hR) (by rw [rn_rule hR]; exact n_in (a := ((4 * q) + 1)) (by first | rfl | (simp only [nl_1, nl_2, nl_3, nl_4, nl_5, nl_6, nl_7, nl_8, nl_9, nl_10, nl_11, nl_12, nl_13, nl_14, nl_15, nl_16, nl_32, nl_240, nl_250, nl_255, nl_265, nl_270, nl_0, nI_add, pk_mul]; done)) (by omega) (by omega)) ?_
    refine ex_ixl (q := ((4 * q) + 1)) (by first | rfl | (simp only [nl_1, nl_2, nl_3, nl_4, nl_5, nl_6, nl_7, nl_8, nl_9, nl_10, nl_11, nl_12, nl_13, nl_14, nl_15, nl_16, nl_32, nl_240, nl_250, nl_255, nl_265, nl_270, nl_0, nI_add, pk_mul]; done)) (by omega) ?_
    refine s_Mdl_entry_87 ?_
    rw [r2 1 (by decide)]
    exact ⟨rfl, rfl, rfl, h⟩
  · skip
    refine s_Mdl_entry_32 ?_
    refine s_Mdl_entry_33 (fun h33 => ?_) (fun h33 => absurd h33 (by decide))
    refine s_Mdl_entry_43 ?_
    refine s_Mdl_entry_44 ?_
    refine s_Mdl_entry_45 (fun h45 => ?_) (fun h45 => absurd h45 (by decide))
    refine s_Mdl_entry_54 ?_
    refine s_Mdl_entry_55 ?_
    refine s_Mdl_entry_56 (fun h56 => ?_) (fun h56 => absurd h56 (by decide))
    refine s_Mdl_entry_72 ?_
    refine s_Mdl_entry_73 ?_
    refine s_Mdl_entry_74 (fun h74 => ?_) (fun h74 => absurd h74 (by decide))
    refine s_Mdl_entry_88 ?_
    refine s_Mdl_entry_89 ?_
    refine s_Mdl_entry_90 (fun h90 => absurd h90 (by exact fun q => q (by decide))) (fun h90 => ?_)
    refine s_Mdl_entry_93 ?_
    refine s_Mdl_entry_94 ?_
    refine s_Mdl_entry_95 ?_
    refine s_Mdl_entry_96 (b1 := 0) (b2 := _) (by first | rfl | assumption | (simp [*]; done)) (by first | rfl | assumption | (simp [*]; done)) (Q1 := fun r K' I' F' => ex_E _ _ M_Mdl_entry 99 _ (r.toList ++ _) K' I' F' _ _) ?_ (fun _ _ _ _ hq => hq) (Nat.le_of_eq (Nat.zero_add _))
    refine s_Mdl_part_0 ?_
    refine s_Mdl_part_1 (by first | rfl | assumption | (simp [*]; done)) (by first | rfl | assumption | (simp [*]; done)) ?_
    refine s_Mdl_part_4 ?_
    refine s_Mdl_part_6 ?_
    refine s_Mdl_part_7 ?_
    refine s_Mdl_part_8 ?_
    refine s_Mdl_part_9 ?_
    refine s_Mdl_part_10 (by first | exact rf_entry hR | rfl) (by exact rk_entry hR) (by rw [rn_entry hR]; exact n_in (a := ((8 * q) + 3)) (by first | rfl | (simp only [nl_1, nl_2, nl_3, nl_4, nl_5, nl_6, nl_7, nl_8, nl_9, nl_10, nl_11, nl_12, nl_13, nl_14, nl_15, nl_16, nl_32, nl_240, nl_250, nl_255, nl_265, nl_270, nl_0, nI_add, pk_mul]; done)) (by omega) (by omega)) ?_
    refine ex_ixl (q := ((8 * q) + 3)) (by first | rfl | (simp only [nl_1, nl_2, nl_3, nl_4, nl_5, nl_6, nl_7, nl_8, nl_9, nl_10, nl_11, nl_12, nl_13, nl_14, nl_15, nl_16, nl_32, nl_240, nl_250, nl_255, nl_265, nl_270, nl_0, nI_add, pk_mul]; done)) (by omega) ?_
    refine s_Mdl_part_11 ?_
    dsimp only [Option.toList, List.cons_append, List.nil_append]
    refine s_Mdl_entry_99 ?_
    refine s_Mdl_entry_123 ?_
    rw [r1 3 (by decide)]
    exact ⟨rfl, rfl, rfl, h⟩
  · skip
    refine s_Mdl_entry_32 ?_
    refine s_Mdl_entry_33 (fun h33 => ?_) (fun h33 => absurd h33 (by decide))
    refine s_Mdl_entry_43 ?_
    refine s_Mdl_entry_44 ?_
    refine s_Mdl_entry_45 (fun h45 => ?_) (fun h45 => absurd h45 (by decide))
    refine s_Mdl_entry_54 ?_
    refine s_Mdl_entry_55 ?_
    refine s_Mdl_entry_56 (fun h56 => ?_) (fun h56 => absurd h56 (by decide))
    refine s_Mdl_entry_72 ?_
    refine s_Mdl_entry_73 ?_
    refine s_Mdl_entry_74 (fun h74 => ?_) (fun h74 => absurd h74 (by decide))
    refine s_Mdl_entry_88 ?_
    refine s_Mdl_entry_89 ?_
    refine s_Mdl_entry_90 (fun h90 => ?_) (fun h90 => absurd h90 (by decide))
    refine s_Mdl_entry_102 ?_
    refine s_Mdl_entry_103 ?_
    refine s_Mdl_entry_104 ?_
    refine s_Mdl_entry_105 (b1 := 0) (b2 := _) (by first | rfl | assumption | (simp [*]; done)) (by first | rfl | assumption | (simp [*]; done)) (Q1 := fun r K' I' F' => ex_E _ _ M_Mdl_entry 108 _ (r.toList ++ _) K' I' F' _ _) ?_ (fun _ _ _ _ hq => hq) (Nat.le_of_eq (Nat.zero_add _))
    refine s_Mdl_part_0 ?_
    refine s_Mdl_part_1 (by first | rfl | assumption | (simp [*]; done)) (by first | rfl | assumption | (simp [*]; done)) ?_
    refine s_Mdl_part_4 ?_
    refine s_Mdl_part_6 ?_
    refine s_Mdl_part_7 ?_
    refine s_Mdl_part_8 ?_
    refine s_Mdl_part_9 ?_
    refine s_Mdl_part_10 (by first | exact rf_entry hR | rfl) (by exact rk_entry hR) (by rw [rn_entry hR]; exact n_in (a := ((8 * q) + 4)) (by first | rfl | (simp only [nl_1, nl_2, nl_3, nl_4, nl_5, nl_6, nl_7, nl_8, nl_9, nl_10, nl_11, nl_12, nl_13, nl_14, nl_15, nl_16, nl_32, nl_240, nl_250, nl_255, nl_265, nl_270, nl_0, nI_add, pk_mul]; done)) (by omega) (by omega)) ?_
    refine ex_ixl (q := ((8 * q) + 4)) (by first | rfl | (simp only [nl_1, nl_2, nl_3, nl_4, nl_5, nl_6, nl_7, nl_8, nl_9, nl_10, nl_11, nl_12, nl_13, nl_14, nl_15, nl_16, nl_32, nl_240, nl_250, nl_255, nl_265, nl_270, nl_0, nI_add, pk_mul]; done)) (by omega) ?_
    refine s_Mdl_part_11 ?_
    dsimp only [Option.toList, List.cons_append, List.nil_append]
    refine s_Mdl_entry_108 ?_
    rw [r1 4 (by decide)]
    refine s_Mdl_entry_109 (fun h109 => ?_) (fun h109 => ?_)
    · refine s_Mdl_entry_121 ?_
      refine s_Mdl_entry_123 ?_
      refine ⟨?_, rfl, rfl, h⟩
      show _ = some (Sum.inl (if row 4 = 1 then row 5 else -2))
      rw [if_neg h109]
    · refine s_Mdl_entry_112 ?_
      refine s_Mdl_entry_113 ?_
      refine s_Mdl_entry_114 ?_
      refine s_Mdl_entry_115 (b1 := 0) (b2 := _) (by first | rfl | assumption | (simp [*]; done)) (by first | rfl | assumption | (simp [*]; done)) (Q1 := fun r K' I' F' => ex_E _ _ M_Mdl_entry 118 _ (r.toList ++ _) K' I' F' _ _) ?_ (fun _ _ _ _ hq => hq) (Nat.le_of_eq (Nat.zero_add _))
      refine s_Mdl_part_0 ?_
      refine s_Mdl_part_1 (by first | rfl | assumption | (simp [*]; done)) (by first | rfl | assumption | (simp [*]; done)) ?_
      refine s_Mdl_part_4 ?_
      refine s_Mdl_part_6 ?_
      refine s_Mdl_part_7 ?_
      refine s_Mdl_part_8 ?_
      refine s_Mdl_part_9 ?_
      refine s_Mdl_part_10 (by first | exact rf_entry hR | rfl) (by exact rk_entry hR) (by rw [rn_entry hR]; exact n_in (a := ((8 * q) + 5)) (by first | rfl | (simp only [nl_1, nl_2, nl_3, nl_4, nl_5, nl_6, nl_7, nl_8, nl_9, nl_10, nl_11, nl_12, nl_13, nl_14, nl_15, nl_16, nl_32, nl_240, nl_250, nl_255, nl_265, nl_270, nl_0, nI_add, pk_mul]; done)) (by omega) (by omega)) ?_
      refine ex_ixl (q := ((8 * q) + 5)) (by first | rfl | (simp only [nl_1, nl_2, nl_3, nl_4, nl_5, nl_6, nl_7, nl_8, nl_9, nl_10, nl_11, nl_12, nl_13, nl_14, nl_15, nl_16, nl_32, nl_240, nl_250, nl_255, nl_265, nl_270, nl_0, nI_add, pk_mul]; done)) (by omega) ?_
      refine s_Mdl_part_11 ?_
      dsimp only [Option.toList, List.cons_append, List.nil_append]
      refine s_Mdl_entry_118 ?_
      refine s_Mdl_entry_123 ?_
      refine ⟨?_, rfl, rfl, h⟩
      show _ = some (Sum.inl (if row 4 = 1 then row 5 else -2))
      rw [if_pos h109, r1 5 (by decide)]
theorem sp_entryR_no {Γ : ex_G} {d : Nat} {K : ex_K} {I : ex_I} {F : ex_F} {b : Nat} {m : Nat} {ad : Nat → Nat} {s : MS} (hR : rf_ok K F m ad) (h : rr I m ad s) {y w : Int32} (hx : y < 0 ∨ nI (s.2 14).length ≤ y ∨ w < 0 ∨ ¬ w ≤ 5) : ex_E Γ (d + 2) M_Mdl_entry 0 [some (.inr (some m)), some (.inl y), some (.inl w), none] [] K I F b (fun x K' I' F' => x = some (.inl (-1)) ∧ K = K' ∧ F = F' ∧ rr I' m ad (s)) := by
  have m1 := hR.1
  obtain ⟨l1, l2, l3⟩ := h.2.2.2.2.2.1
  refine s_Mdl_entry_0 ?_
  refine s_Mdl_entry_1 (fun h1 => ?_) (fun h1 => ?_)
  · refine s_Mdl_entry_21 ?_
    refine s_Mdl_entry_22 ?_
    exact ⟨rfl, rfl, rfl, h⟩
  · refine s_Mdl_entry_4 ?_
    refine s_Mdl_entry_5 ?_
    refine s_Mdl_entry_6 (by first | rfl | assumption | (simp [*]; done)) (by first | rfl | assumption | (simp [*]; done)) ?_
    rw [l1]
    refine s_Mdl_entry_9 (fun h9 => ?_) (fun h9 => ?_)
    · refine s_Mdl_entry_21 ?_
      refine s_Mdl_entry_22 ?_
      exact ⟨rfl, rfl, rfl, h⟩
    · refine s_Mdl_entry_12 ?_
      refine s_Mdl_entry_13 (fun h13 => ?_) (fun h13 => ?_)
      · refine s_Mdl_entry_21 ?_
        refine s_Mdl_entry_22 ?_
        exact ⟨rfl, rfl, rfl, h⟩
      · refine s_Mdl_entry_16 ?_
        refine s_Mdl_entry_17 ?_
        refine s_Mdl_entry_18 (fun h18 => absurd h18 (by exact ((hx.resolve_left h1).resolve_left (Int32.not_le.mpr (Int32.not_le.mp h9))).resolve_left h13)) (fun h18 => ?_)
        refine s_Mdl_entry_21 ?_
        refine s_Mdl_entry_22 ?_
        exact ⟨rfl, rfl, rfl, h⟩
