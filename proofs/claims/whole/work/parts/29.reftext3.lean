theorem sp_element {Γ : ex_G} {d : Nat} {K : ex_K} {I : ex_I} {F : ex_F} {b : Nat} {m s t : Nat} {sh : Int32} {N : Nat → Int32} {ad : Nat → Nat} (hR : rf_ok K F m ad) (hT : rt_ok I ad) (hX : rd_ok (I 21 (ad 5)) sh N) (hst : s ≤ t) (h40 : t ≤ 40) :
    ex_E Γ (d + 1) M_Mdl_element 0 [some (.inr (some m)), some (.inl (nI s)), some (.inl (nI t)), some (.inl sh), none, none, none] [] K I F b (fun r K' I' F' => K = K' ∧ F = F' ∧ ∃ X sh', r = some (.inl sh') ∧ ex_wi I 21 (ad 5) X = I' ∧ rd_ok X sh' (tx_el (I 22 (ad 3)) s t N)) := by
  have m1 := hR.1
  have b3 := tx_n_le (I 22 (ad 3)) t (t - s) s
  have hel : tx_el (I 22 (ad 3)) s t N = tx_el (I 22 (ad 3)) s t N := rfl
  unfold tx_el at hel ⊢
  clear hel
  generalize ee : tx_n (I 22 (ad 3)) t (t - s) s = e at b3 ⊢
  have b4 := tx_d_le (I 22 (ad 3)) s e 7 0
  have bd := fun h => (tx_d_is (I 22 (ad 3)) s e 7 0 rfl).1 h
  generalize ed : tx_d (I 22 (ad 3)) s e 7 0 = dd at b4 bd ⊢
  have hno : ∀ {R : Nat → Int32}, (tx_w (I 22 (ad 3)) e t = -1 ∨ dd = 7) → ∀ (Q : Prop), (Q = True) → (∃ X sh', some (Sum.inl sh) = some (Sum.inl sh' : ex_V) ∧ ex_wi I 21 (ad 5) X = I ∧ rd_ok X sh' (if tx_w (I 22 (ad 3)) e t = -1 ∨ dd = 7 then N else tx_learn N dd (tx_w (I 22 (ad 3)) e t))) := by
    intro R h Q hQ
    refine ⟨_, sh, rfl, ex_wi_id _ _ _, ?_⟩
    rw [if_pos h]
    exact hX
  have fin : ∀ v l6, v = tx_w (I 22 (ad 3)) e t → ¬ v = -1 → ex_E Γ (d + 1) M_Mdl_element 161 [some (.inr (some m)), some (.inl (nI s)), some (.inl (nI t)), some (.inl sh), some (.inl (nI e)), some (.inl v), l6] [] K I F b (fun r K' I' F' => K = K' ∧ F = F' ∧ ∃ X sh', r = some (.inl sh') ∧ ex_wi I 21 (ad 5) X = I' ∧ rd_ok X sh' (if tx_w (I 22 (ad 3)) e t = -1 ∨ dd = 7 then N else tx_learn N dd (tx_w (I 22 (ad 3)) e t))) := by
    intro v l6 hv hv1
    subst hv
    refine ex_post (fun r K' I' F' h => ?_) (sp_elTail hR hT hX (by omega) (by omega) (tx_w_nn _ _ _ hv1) ed (by omega))
    obtain ⟨h1, h2, X, sh', h3, h4, h5⟩ := h
    refine ⟨h1, h2, X, sh', h3, h4, ?_⟩
    by_cases z : dd = 7
    · rw [if_pos z] at h5
      rw [if_pos (Or.inr z)]
      exact h5
    · rw [if_neg z] at h5
      rw [if_neg (fun q => q.elim hv1 z)]
      exact h5
  refine s_Mdl_element_0 ?_
  refine s_Mdl_element_1 ?_
  refine lp_elN hR h40 _ s rfl hst ?_
  rw [ee]
  refine s_Mdl_element_51 ?_
  refine s_Mdl_element_53 ?_
  refine s_Mdl_element_54 (fun h54 => ?_) (fun h54 => ?_)
  · refine s_Mdl_element_59 ?_
    refine s_Mdl_element_60 ?_
    refine s_Mdl_element_62 ?_
    refine s_Mdl_element_64 ?_
    refine s_Mdl_element_65 (fun h65 => ?_) (fun h65 => ?_)
    · have hne : ¬ tx_w (I 22 (ad 3)) e t = -1 := by
        have he : e = t := by
          have := (nI_leI (by omega) (by omega)).mp h65
          omega
        rw [tx_w, if_pos he]
        decide
      have he : e = t := by
        have := (nI_leI (by omega) (by omega)).mp h65
        omega
      exact fin _ _ (by rw [tx_w, if_pos he]) (by decide)
    · have hlt : e < t := by
        have := (not_congr (nI_leI (by omega) (by omega))).mp h65
        omega
      refine s_Mdl_element_68 ?_
      refine s_Mdl_element_69 (by first | rfl | assumption | (simp [*]; done)) (by first | rfl | assumption | (simp [*]; done)) ?_
      refine s_Mdl_element_72 ?_
      refine s_Mdl_element_74 (by first | exact rf_draft hR | rfl) (by exact rk_draft hR) (by rw [rn_draft hR]; exact n_in (a := e) (by first | rfl | (simp only [nl_1, nl_2, nl_3, nl_4, nl_5, nl_6, nl_7, nl_8, nl_9, nl_10, nl_11, nl_12, nl_13, nl_14, nl_15, nl_16, nl_32, nl_240, nl_250, nl_255, nl_265, nl_270, nl_0, nI_add, pk_mul]; done)) (by omega) (by omega)) ?_
      refine ex_ixl (q := e) (by first | rfl | (simp only [nl_1, nl_2, nl_3, nl_4, nl_5, nl_6, nl_7, nl_8, nl_9, nl_10, nl_11, nl_12, nl_13, nl_14, nl_15, nl_16, nl_32, nl_240, nl_250, nl_255, nl_265, nl_270, nl_0, nI_add, pk_mul]; done)) (by omega) ?_
      refine s_Mdl_element_75 ?_
      refine s_Mdl_element_77 (fun h77 => ?_) (fun h77 => ?_)
      · refine s_Mdl_element_97 ?_
        refine s_Mdl_element_98 ?_
        exact ⟨rfl, rfl, hno (R := N) (Or.inl (by rw [tx_w, if_neg (by omega), if_neg (fun z => h77 z.1)])) True rfl⟩
      · refine s_Mdl_element_80 ?_
        refine s_Mdl_element_81 ?_
        refine s_Mdl_element_83 ?_
        refine s_Mdl_element_84 ?_
        rw [pk_sub (by omega)]
        refine s_Mdl_element_85 (fun h85 => ?_) (fun h85 => ?_)
        · refine s_Mdl_element_97 ?_
          refine s_Mdl_element_98 ?_
          have h2 := (n_lt (b := 2) rfl rfl (by omega) (by omega)).mp h85
          exact ⟨rfl, rfl, hno (R := N) (Or.inl (by rw [tx_w, if_neg (by omega), if_neg (fun z => by omega)])) True rfl⟩
        · refine s_Mdl_element_88 ?_
          refine s_Mdl_element_89 ?_
          refine s_Mdl_element_91 ?_
          refine s_Mdl_element_92 ?_
          rw [pk_sub (by omega)]
          refine s_Mdl_element_94 (fun h94 => ?_) (fun h94 => ?_)
          · refine s_Mdl_element_99 ?_
            refine s_Mdl_element_101 ?_
            refine s_Mdl_element_102 ?_
            refine s_Mdl_element_103 ?_
            have h2 := (not_congr (n_lt (b := 2) rfl rfl (by omega) (by omega))).mp h85
            have h6 := (n_le (b := 6) rfl rfl (by omega) (by omega)).mp h94
            have ew : tx_w (I 22 (ad 3)) e t = tx_v (I 22 (ad 3)) t (t - (e + 1)) (e + 1) (nI 0) := by rw [tx_w, if_neg (by omega), if_pos ⟨h77, by omega, by omega⟩]; rfl
            rw [nI_1]
            refine lp_elV hR h40 _ (e + 1) 0 0 rfl (by omega) (by omega) (by omega) (fun z => ⟨rfl, rfl, hno (R := N) (Or.inl (by rw [ew]; exact z)) True rfl⟩) (fun z l6 => fin _ _ ew.symm z)
          · refine s_Mdl_element_97 ?_
            refine s_Mdl_element_98 ?_
            have h6 := (not_congr (n_le (b := 6) rfl rfl (by omega) (by omega))).mp h94
            exact ⟨rfl, rfl, hno (R := N) (Or.inl (by rw [tx_w, if_neg (by omega), if_neg (fun z => by omega)])) True rfl⟩
  · refine s_Mdl_element_57 ?_
    refine s_Mdl_element_58 ?_
    have he : e = s := (nI_eq (by omega) (by omega)).mp h54
    have h7 : dd = 7 := by
      rcases Nat.lt_or_ge dd 7 with q | q
      · have w := (tx_is_iff _ _ _ _).mp (bd q)
        have tl : ∀ i, i < 7 → 0 < (tx_names.getD i []).length := by decide +kernel
        have := tl dd q
        omega
      · omega
    exact ⟨rfl, rfl, hno (R := N) (Or.inr h7) True rfl⟩
theorem lp_comma {Γ : ex_G} {d : Nat} {K : ex_K} {I : ex_I} {F : ex_F} {b : Nat} {Q : Option ex_V → ex_K → ex_I → ex_F → Prop} {l1 l2 l4 l5 : Option ex_V} {m n a : Nat} {N : Nat → Int32} {ad : Nat → Nat} (hR : rf_ok K F m ad) (hs : I 808 m 0 = nI n) (hn : n ≤ 40) : ∀ k c, n - c = k → c ≤ n →
    (∀ c', c ≤ c' → c' ≤ n → tx_p (I 22 (ad 3)) n (n + 1 - c) c a N = tx_p (I 22 (ad 3)) n (n + 1 - (c' + 1)) (c' + 1) (c' + 1) (tx_e (I 22 (ad 3)) a c' N) → ex_E Γ d M_Mdl_parse 67 [some (.inr (some m)), l1, l2, some (.inl (nI c')), l4, l5] [] K I F b Q) →
    ex_E Γ d M_Mdl_parse 42 [some (.inr (some m)), l1, l2, some (.inl (nI c)), l4, l5] [] K I F b Q := by
  have m1 := hR.1
  intro k
  induction k with
  | zero =>
    intro c hk h1 kk
    have e : c = n := by omega
    subst e
    refine s_Mdl_parse_42 ?_
    refine s_Mdl_parse_43 ?_
    refine s_Mdl_parse_44 (by first | rfl | assumption | (simp [*]; done)) (by first | rfl | assumption | (simp [*]; done)) ?_
    refine s_Mdl_parse_47 (fun h47 => ?_) (fun h47 => absurd h47 (by rw [hs]; exact fun q => q (nI_le (by omega) (by omega))))
    exact kk c (by omega) (by omega) (by rw [show c + 1 - c = 0 + 1 by omega, tx_p, if_pos (Or.inl rfl), show c + 1 - (c + 1) = 0 by omega])
  | succ k ih =>
    intro c hk h1 kk
    refine s_Mdl_parse_42 ?_
    refine s_Mdl_parse_43 ?_
    refine s_Mdl_parse_44 (by first | rfl | assumption | (simp [*]; done)) (by first | rfl | assumption | (simp [*]; done)) ?_
    refine s_Mdl_parse_47 (fun h47 => absurd h47 (by rw [hs]; exact nI_ge (by omega) (by omega))) (fun h47 => ?_)
    refine s_Mdl_parse_50 ?_
    refine s_Mdl_parse_51 (by first | rfl | assumption | (simp [*]; done)) (by first | rfl | assumption | (simp [*]; done)) ?_
    refine s_Mdl_parse_54 ?_
    refine s_Mdl_parse_55 (by first | exact rf_draft hR | rfl) (by exact rk_draft hR) (by rw [rn_draft hR]; exact n_in (a := c) (by first | rfl | (simp only [nl_1, nl_2, nl_3, nl_4, nl_5, nl_6, nl_7, nl_8, nl_9, nl_10, nl_11, nl_12, nl_13, nl_14, nl_15, nl_16, nl_32, nl_240, nl_250, nl_255, nl_265, nl_270, nl_0, nI_add, pk_mul]; done)) (by omega) (by omega)) ?_
    refine ex_ixl (q := c) (by first | rfl | (simp only [nl_1, nl_2, nl_3, nl_4, nl_5, nl_6, nl_7, nl_8, nl_9, nl_10, nl_11, nl_12, nl_13, nl_14, nl_15, nl_16, nl_32, nl_240, nl_250, nl_255, nl_265, nl_270, nl_0, nI_add, pk_mul]; done)) (by omega) ?_
    refine s_Mdl_parse_56 ?_
    refine s_Mdl_parse_58 (fun h58 => ?_) (fun h58 => ?_)
    · exact kk c (by omega) (by omega) (by rw [show n + 1 - c = (n + 1 - (c + 1)) + 1 by omega, tx_p, if_pos (Or.inr h58)])
    · refine s_Mdl_parse_61 ?_
      refine s_Mdl_parse_64 ?_
      rw [nI_1]
      refine ih (c + 1) (by omega) (by omega) (fun c' h2 h3 e => kk c' (by omega) h3 ?_)
      rw [← e, show n + 1 - c = (n + 1 - (c + 1)) + 1 by omega, tx_p, if_neg (fun z => z.elim (fun w => by omega) h58)]
theorem lp_pL {Γ : ex_G} {d : Nat} {K : ex_K} {I : ex_I} {F : ex_F} {b : Nat} {Q : Option ex_V → ex_K → ex_I → ex_F → Prop} {l1 l2 l3 : Option ex_V} {m t : Nat} {ad : Nat → Nat} (hR : rf_ok K F m ad) (h40 : t ≤ 40) : ∀ n s, t - s = n → s ≤ t →
    ex_E Γ d M_Mdl_parse 98 [some (.inr (some m)), l1, l2, l3, some (.inl (nI (tx_l (I 22 (ad 3)) t n s))), some (.inl (nI t))] [] K I F b Q →
    ex_E Γ d M_Mdl_parse 73 [some (.inr (some m)), l1, l2, l3, some (.inl (nI s)), some (.inl (nI t))] [] K I F b Q := by
  have m1 := hR.1
  intro n
  induction n with
  | zero =>
    intro s hm h1 kk
    refine s_Mdl_parse_73 ?_
    refine s_Mdl_parse_75 ?_
    refine s_Mdl_parse_77 (fun h77 => ?_) (fun h77 => absurd h77 (by exact fun q => q (nI_le (by omega) (by omega))))
    exact kk
  | succ n ih =>
    intro s hm h1 kk
    have hst : s < t := by omega
    refine s_Mdl_parse_73 ?_
    refine s_Mdl_parse_75 ?_
    refine s_Mdl_parse_77 (fun h77 => absurd h77 (by exact nI_ge (by omega) (by omega))) (fun h77 => ?_)
    refine s_Mdl_parse_80 ?_
    refine s_Mdl_parse_81 (by first | rfl | assumption | (simp [*]; done)) (by first | rfl | assumption | (simp [*]; done)) ?_
    refine s_Mdl_parse_84 ?_
    refine s_Mdl_parse_86 (by first | exact rf_draft hR | rfl) (by exact rk_draft hR) (by rw [rn_draft hR]; exact n_in (a := s) (by first | rfl | (simp only [nl_1, nl_2, nl_3, nl_4, nl_5, nl_6, nl_7, nl_8, nl_9, nl_10, nl_11, nl_12, nl_13, nl_14, nl_15, nl_16, nl_32, nl_240, nl_250, nl_255, nl_265, nl_270, nl_0, nI_add, pk_mul]; done)) (by omega) (by omega)) ?_
    refine ex_ixl (q := s) (by first | rfl | (simp only [nl_1, nl_2, nl_3, nl_4, nl_5, nl_6, nl_7, nl_8, nl_9, nl_10, nl_11, nl_12, nl_13, nl_14, nl_15, nl_16, nl_32, nl_240, nl_250, nl_255, nl_265, nl_270, nl_0, nI_add, pk_mul]; done)) (by omega) ?_
    refine s_Mdl_parse_87 ?_
    refine s_Mdl_parse_89 (fun h89 => ?_) (fun h89 => ?_)
    · rw [tx_l, if_neg (fun z => h89 z.2)] at kk
      exact kk
    · refine s_Mdl_parse_92 ?_
      refine s_Mdl_parse_95 ?_
      rw [tx_l, if_pos ⟨hst, h89⟩] at kk
      rw [nI_1]
      exact ih (s + 1) (by omega) (by omega) kk
theorem lp_pR {Γ : ex_G} {d : Nat} {K : ex_K} {I : ex_I} {F : ex_F} {b : Nat} {Q : Option ex_V → ex_K → ex_I → ex_F → Prop} {l1 l2 l3 : Option ex_V} {m s : Nat} {ad : Nat → Nat} (hR : rf_ok K F m ad) : ∀ t, s ≤ t → t ≤ 40 →
    ex_E Γ d M_Mdl_parse 125 [some (.inr (some m)), l1, l2, l3, some (.inl (nI s)), some (.inl (nI (tx_r (I 22 (ad 3)) s t)))] [] K I F b Q →
    ex_E Γ d M_Mdl_parse 98 [some (.inr (some m)), l1, l2, l3, some (.inl (nI s)), some (.inl (nI t))] [] K I F b Q := by
  have m1 := hR.1
  intro t
  induction t with
  | zero =>
    intro h1 h40 kk
    refine s_Mdl_parse_98 ?_
    refine s_Mdl_parse_100 ?_
    refine s_Mdl_parse_102 (fun h102 => ?_) (fun h102 => absurd h102 (by exact fun q => q (nI_le (by omega) (by omega))))
    exact kk
  | succ t ih =>
    intro h1 h40 kk
    by_cases hst : s < t + 1
    · skip
      refine s_Mdl_parse_98 ?_
      refine s_Mdl_parse_100 ?_
      refine s_Mdl_parse_102 (fun h102 => absurd h102 (by exact nI_ge (by omega) (by omega))) (fun h102 => ?_)
      refine s_Mdl_parse_105 ?_
      refine s_Mdl_parse_106 (by first | rfl | assumption | (simp [*]; done)) (by first | rfl | assumption | (simp [*]; done)) ?_
      refine s_Mdl_parse_109 ?_
      refine s_Mdl_parse_111 ?_
      refine s_Mdl_parse_112 ?_
      rw [nI_pred]
      refine s_Mdl_parse_113 (by first | exact rf_draft hR | rfl) (by exact rk_draft hR) (by rw [rn_draft hR]; exact vp_in_nI (by omega) (by omega)) ?_
      refine s_Mdl_parse_114 ?_
      refine s_Mdl_parse_116 (fun h116 => ?_) (fun h116 => ?_)
      · rw [nI_clamp (by omega)] at h116
        rw [tx_r, if_neg (fun z => h116 z.2)] at kk
        exact kk
      · refine s_Mdl_parse_119 ?_
        refine s_Mdl_parse_122 ?_
        rw [nI_clamp (by omega)] at h116
        rw [tx_r, if_pos ⟨hst, h116⟩] at kk
        rw [show nI (t + 1) + (-1) = nI t from pk_m1 t]
        exact ih (by omega) (by omega) kk
    · have est : t + 1 = s := by omega
      refine s_Mdl_parse_98 ?_
      refine s_Mdl_parse_100 ?_
      refine s_Mdl_parse_102 (fun h102 => ?_) (fun h102 => absurd h102 (by exact fun q => q (nI_le (by omega) (by omega))))
      rw [tx_r, if_neg (fun z => hst z.1)] at kk
      exact kk
theorem lp_parse {Γ : ex_G} {d : Nat} {K : ex_K} {I : ex_I} {F : ex_F} {b : Nat} {Q : Option ex_V → ex_K → ex_I → ex_F → Prop} {m n : Nat} {ad : Nat → Nat} (hR : rf_ok K F m ad) (hT : rt_ok I ad) (hs : I 808 m 0 = nI n) (hn : n ≤ 40) : ∀ k a X sh N l3 l4 l5, n + 1 - a ≤ k → a ≤ n + 1 → rd_ok X sh N →
    (∀ X' sh' N' l2 l3 l4 l5, rd_ok X' sh' N' → N' = tx_p (I 22 (ad 3)) n (n + 1 - a) a a N → ex_E Γ (d + 2) M_Mdl_parse 142 [some (.inr (some m)), some (.inl sh'), l2, l3, l4, l5] [] K (ex_wi I 21 (ad 5) X') F b Q) →
    ex_E Γ (d + 2) M_Mdl_parse 32 [some (.inr (some m)), some (.inl sh), some (.inl (nI a)), l3, l4, l5] [] K (ex_wi I 21 (ad 5) X) F b Q := by
  have m1 := hR.1
  have hs2 : ∀ X, ex_wi I 21 (ad 5) X 808 m 0 = nI n := fun X => by rw [ex_wi_f _ _ _ (by decide)]; exact hs
  have hd2 : ∀ X, ex_wi I 21 (ad 5) X 22 (ad 3) = I 22 (ad 3) := fun X => by rw [ex_wi_f _ _ _ (by decide)]
  intro k
  induction k with
  | zero =>
    intro a X sh N l3 l4 l5 hk h1 hX kk
    have e : a = n + 1 := by omega
    refine s_Mdl_parse_32 ?_
    refine s_Mdl_parse_33 ?_
    refine s_Mdl_parse_34 (by first | rfl | assumption | (simp [*]; done)) (by first | rfl | assumption | (simp [*]; done)) ?_
    refine s_Mdl_parse_37 (fun h37 => ?_) (fun h37 => absurd h37 (by rw [hs2]; exact fun q => q (nI_lt (by omega) (by omega))))
    exact kk X sh N _ _ _ _ hX (by rw [show n + 1 - a = 0 by omega, tx_p])
  | succ k ih =>
    intro a X sh N l3 l4 l5 hk h1 hX kk
    by_cases ha : a = n + 1
    · skip
      refine s_Mdl_parse_32 ?_
      refine s_Mdl_parse_33 ?_
      refine s_Mdl_parse_34 (by first | rfl | assumption | (simp [*]; done)) (by first | rfl | assumption | (simp [*]; done)) ?_
      refine s_Mdl_parse_37 (fun h37 => ?_) (fun h37 => absurd h37 (by rw [hs2]; exact fun q => q (nI_lt (by omega) (by omega))))
      exact kk X sh N _ _ _ _ hX (by rw [show n + 1 - a = 0 by omega, tx_p])
    · skip
      refine s_Mdl_parse_32 ?_
      refine s_Mdl_parse_33 ?_
      refine s_Mdl_parse_34 (by first | rfl | assumption | (simp [*]; done)) (by first | rfl | assumption | (simp [*]; done)) ?_
      refine s_Mdl_parse_37 (fun h37 => absurd h37 (by rw [hs2]; exact nI_nlt (by omega) (by omega))) (fun h37 => ?_)
      refine s_Mdl_parse_40 ?_
      refine s_Mdl_parse_41 ?_
      refine lp_comma (n := n) (a := a) (N := N) hR (hs2 X) hn _ a rfl (by omega) (fun c h2 h3 e => ?_)
      rw [hd2] at e
      refine s_Mdl_parse_67 ?_
      refine s_Mdl_parse_68 ?_
      refine s_Mdl_parse_70 ?_
      refine s_Mdl_parse_71 ?_
      refine lp_pL hR (by omega) _ a rfl h2 ?_
      have b1 := tx_l_le (ex_wi I 21 (ad 5) X 22 (ad 3)) c (c - a) a
      refine lp_pR hR c (by omega) (by omega) ?_
      have b2 := tx_r_le (ex_wi I 21 (ad 5) X 22 (ad 3)) (tx_l (ex_wi I 21 (ad 5) X 22 (ad 3)) c (c - a) a) c
      refine s_Mdl_parse_125 ?_
      refine s_Mdl_parse_126 ?_
      refine s_Mdl_parse_128 ?_
      refine s_Mdl_parse_130 ?_
      refine s_Mdl_parse_131 (b1 := 0) (b2 := b) (by first | rfl | assumption | (simp [*]; done)) (by first | rfl | assumption | (simp [*]; done)) (sp_element hR (rt_wi hT) (N := N) (by rw [ex_wi_at]; exact hX) (by omega) (by omega)) ?_ (by omega)
      rintro _ _ _ _ ⟨rfl, rfl, X2, sh2, rfl, rfl, hX2⟩
      dsimp only [Option.toList, List.cons_append, List.nil_append]
      rw [ex_wi_wi]
      rw [← tx_e_el, hd2] at hX2
      refine s_Mdl_parse_134 ?_
      refine s_Mdl_parse_135 ?_
      refine s_Mdl_parse_136 ?_
      refine s_Mdl_parse_137 ?_
      refine s_Mdl_parse_138 ?_
      refine s_Mdl_parse_139 ?_
      rw [nI_1]
      exact ih (c + 1) X2 sh2 _ _ _ _ (by omega) (by omega) hX2 (fun X' sh' N' l2 l3 l4 l5 g1 g2 => kk X' sh' N' l2 l3 l4 l5 g1 (by rw [g2, e]))
theorem sp_parse {Γ : ex_G} {d : Nat} {K : ex_K} {I : ex_I} {F : ex_F} {b : Nat} {m n : Nat} {ad : Nat → Nat} (hR : rf_ok K F m ad) (hT : rt_ok I ad) (hs : I 808 m 0 = nI n) (hn : n ≤ 40) :
    ex_E Γ (d + 2) M_Mdl_parse 0 [some (.inr (some m)), none, none, none, none, none] [] K I F b (fun r K' I' F' => r = none ∧ K = K' ∧ F = F' ∧ ∃ X, ex_ui (ex_wi I 21 (ad 5) X) 808 m 0 0 = I' ∧ ∀ k, k < 4 → X k = tx_4 (tx_all (I 22 (ad 3)) n) k) := by
  have m1 := hR.1
  refine s_Mdl_parse_0 ?_
  refine s_Mdl_parse_1 (by first | rfl | assumption | (simp [*]; done)) (by first | rfl | assumption | (simp [*]; done)) ?_
  refine s_Mdl_parse_4 ?_
  refine s_Mdl_parse_5 ?_
  refine s_Mdl_parse_6 (by first | exact rf_read hR | rfl) (by exact rk_read hR) (by rw [rn_read hR]; exact n_in (a := 0) (by first | rfl | (simp only [nl_1, nl_2, nl_3, nl_4, nl_5, nl_6, nl_7, nl_8, nl_9, nl_10, nl_11, nl_12, nl_13, nl_14, nl_15, nl_16, nl_32, nl_240, nl_250, nl_255, nl_265, nl_270, nl_0, nI_add, pk_mul]; done)) (by omega) (by omega)) ?_
  refine ex_ixs (q := 0) (by first | rfl | (simp only [nl_1, nl_2, nl_3, nl_4, nl_5, nl_6, nl_7, nl_8, nl_9, nl_10, nl_11, nl_12, nl_13, nl_14, nl_15, nl_16, nl_32, nl_240, nl_250, nl_255, nl_265, nl_270, nl_0, nI_add, pk_mul]; done)) (by omega) ?_
  refine s_Mdl_parse_7 ?_
  refine s_Mdl_parse_8 (by first | rfl | assumption | (simp [*]; done)) (by first | rfl | assumption | (simp [*]; done)) ?_
  refine s_Mdl_parse_11 ?_
  refine s_Mdl_parse_12 ?_
  refine s_Mdl_parse_13 (by first | exact rf_read hR | rfl) (by exact rk_read hR) (by rw [rn_read hR]; exact n_in (a := 1) (by first | rfl | (simp only [nl_1, nl_2, nl_3, nl_4, nl_5, nl_6, nl_7, nl_8, nl_9, nl_10, nl_11, nl_12, nl_13, nl_14, nl_15, nl_16, nl_32, nl_240, nl_250, nl_255, nl_265, nl_270, nl_0, nI_add, pk_mul]; done)) (by omega) (by omega)) ?_
  refine ex_ixs (q := 1) (by first | rfl | (simp only [nl_1, nl_2, nl_3, nl_4, nl_5, nl_6, nl_7, nl_8, nl_9, nl_10, nl_11, nl_12, nl_13, nl_14, nl_15, nl_16, nl_32, nl_240, nl_250, nl_255, nl_265, nl_270, nl_0, nI_add, pk_mul]; done)) (by omega) ?_
  refine s_Mdl_parse_14 ?_
  refine s_Mdl_parse_15 (by first | rfl | assumption | (simp [*]; done)) (by first | rfl | assumption | (simp [*]; done)) ?_
  refine s_Mdl_parse_18 ?_
  refine s_Mdl_parse_19 ?_
  refine s_Mdl_parse_20 (by first | exact rf_read hR | rfl) (by exact rk_read hR) (by rw [rn_read hR]; exact n_in (a := 2) (by first | rfl | (simp only [nl_1, nl_2, nl_3, nl_4, nl_5, nl_6, nl_7, nl_8, nl_9, nl_10, nl_11, nl_12, nl_13, nl_14, nl_15, nl_16, nl_32, nl_240, nl_250, nl_255, nl_265, nl_270, nl_0, nI_add, pk_mul]; done)) (by omega) (by omega)) ?_
  refine ex_ixs (q := 2) (by first | rfl | (simp only [nl_1, nl_2, nl_3, nl_4, nl_5, nl_6, nl_7, nl_8, nl_9, nl_10, nl_11, nl_12, nl_13, nl_14, nl_15, nl_16, nl_32, nl_240, nl_250, nl_255, nl_265, nl_270, nl_0, nI_add, pk_mul]; done)) (by omega) ?_
  refine s_Mdl_parse_21 ?_
  refine s_Mdl_parse_22 (by first | rfl | assumption | (simp [*]; done)) (by first | rfl | assumption | (simp [*]; done)) ?_
  refine s_Mdl_parse_25 ?_
  refine s_Mdl_parse_26 ?_
  refine s_Mdl_parse_27 (by first | exact rf_read hR | rfl) (by exact rk_read hR) (by rw [rn_read hR]; exact n_in (a := 3) (by first | rfl | (simp only [nl_1, nl_2, nl_3, nl_4, nl_5, nl_6, nl_7, nl_8, nl_9, nl_10, nl_11, nl_12, nl_13, nl_14, nl_15, nl_16, nl_32, nl_240, nl_250, nl_255, nl_265, nl_270, nl_0, nI_add, pk_mul]; done)) (by omega) (by omega)) ?_
  refine ex_ixs (q := 3) (by first | rfl | (simp only [nl_1, nl_2, nl_3, nl_4, nl_5, nl_6, nl_7, nl_8, nl_9, nl_10, nl_11, nl_12, nl_13, nl_14, nl_15, nl_16, nl_32, nl_240, nl_250, nl_255, nl_265, nl_270, nl_0, nI_add, pk_mul]; done)) (by omega) ?_
  refine s_Mdl_parse_28 ?_
  refine s_Mdl_parse_29 ?_
  refine s_Mdl_parse_30 ?_
  refine s_Mdl_parse_31 ?_
  rw [ex_ui_w I, ex_wi_u, ex_wi_u, ex_wi_u]
  refine lp_parse hR hT hs hn _ 0 _ (-1) (fun _ => -1) _ _ _ (Nat.le_refl _) (by omega) ⟨rfl, rfl, rfl, rfl, fun j hj => Or.inl rfl⟩ (fun X' sh' N' l2 l3 l4 l5 hX e => ?_)
  have e : N' = tx_all (I 22 (ad 3)) n := e
  rw [← e]
  have fin : ∀ v : Int32, v = (if N' 5 = -1 then N' 4 else N' 5) → ex_E Γ (d + 2) M_Mdl_parse 161 [some (.inr (some m)), some (.inl sh'), l2, l3, l4, l5] [.inl v, .inl 1, .inr (some (ad 5))] K (ex_wi I 21 (ad 5) X') F b (fun r K' I' F' => r = none ∧ K = K' ∧ F = F' ∧ ∃ X, ex_ui (ex_wi I 21 (ad 5) X) 808 m 0 0 = I' ∧ ∀ k, k < 4 → X k = tx_4 N' k) := by
    intro v hv
    refine s_Mdl_parse_161 (by first | exact rf_read hR | rfl) (by exact rk_read hR) (by rw [rn_read hR]; exact n_in (a := 1) (by first | rfl | (simp only [nl_1, nl_2, nl_3, nl_4, nl_5, nl_6, nl_7, nl_8, nl_9, nl_10, nl_11, nl_12, nl_13, nl_14, nl_15, nl_16, nl_32, nl_240, nl_250, nl_255, nl_265, nl_270, nl_0, nI_add, pk_mul]; done)) (by omega) (by omega)) ?_
    refine ex_ixs (q := 1) (by first | rfl | (simp only [nl_1, nl_2, nl_3, nl_4, nl_5, nl_6, nl_7, nl_8, nl_9, nl_10, nl_11, nl_12, nl_13, nl_14, nl_15, nl_16, nl_32, nl_240, nl_250, nl_255, nl_265, nl_270, nl_0, nI_add, pk_mul]; done)) (by omega) ?_
    refine s_Mdl_parse_162 ?_
    refine s_Mdl_parse_163 ?_
    refine s_Mdl_parse_164 (by first | rfl | assumption | (simp [*]; done)) (by first | rfl | assumption | (simp [*]; done)) ?_
    refine s_Mdl_parse_167 ?_
    rw [ex_wi_u]
    refine ⟨rfl, rfl, rfl, _, rfl, fun k hk => ?_⟩
    obtain ⟨g0, g2, g3, g5, g6⟩ := hX
    rcases (by omega : k = 0 ∨ k = 1 ∨ k = 2 ∨ k = 3) with rfl | rfl | rfl | rfl
    · exact g0
    · exact hv
    · exact g2
    · exact g3
  refine s_Mdl_parse_142 ?_
  refine s_Mdl_parse_143 (by first | rfl | assumption | (simp [*]; done)) (by first | rfl | assumption | (simp [*]; done)) ?_
  refine s_Mdl_parse_146 ?_
  refine s_Mdl_parse_147 ?_
  refine s_Mdl_parse_148 (fun h148 => ?_) (fun h148 => ?_)
  · refine s_Mdl_parse_155 ?_
    refine s_Mdl_parse_156 (by first | rfl | assumption | (simp [*]; done)) (by first | rfl | assumption | (simp [*]; done)) ?_
    refine s_Mdl_parse_159 ?_
    refine s_Mdl_parse_160 (by first | exact rf_read hR | rfl) (by exact rk_read hR) (by rw [rn_read hR]; exact n_in (a := 2) (by first | rfl | (simp only [nl_1, nl_2, nl_3, nl_4, nl_5, nl_6, nl_7, nl_8, nl_9, nl_10, nl_11, nl_12, nl_13, nl_14, nl_15, nl_16, nl_32, nl_240, nl_250, nl_255, nl_265, nl_270, nl_0, nI_add, pk_mul]; done)) (by omega) (by omega)) ?_
    refine ex_ixl (q := 2) (by first | rfl | (simp only [nl_1, nl_2, nl_3, nl_4, nl_5, nl_6, nl_7, nl_8, nl_9, nl_10, nl_11, nl_12, nl_13, nl_14, nl_15, nl_16, nl_32, nl_240, nl_250, nl_255, nl_265, nl_270, nl_0, nI_add, pk_mul]; done)) (by omega) ?_
    rw [rf_read hR]
    refine fin _ ?_
    have z : N' 5 = -1 := (hX.2.2.2.2 5 (by decide)).resolve_right (fun z => z (by rw [← hX.2.2.2.1]; exact h148))
    rw [if_pos z, ex_wi_at]
    exact hX.2.1
  · refine s_Mdl_parse_151 ?_
    refine s_Mdl_parse_152 ?_
    rw [rf_read hR]
    refine fin _ ?_
    rw [if_neg (fun z => h148 (by rw [hX.2.2.2.1, z]; decide))]
    exact hX.2.2.2.1
