theorem lp_skipL {Γ : ex_G} {d : Nat} {K : ex_K} {I : ex_I} {F : ex_F} {b : Nat} {Q : Option ex_V → ex_K → ex_I → ex_F → Prop} {l1 l2 l5 l6 l7 l8 : Option ex_V} {dr tx b' : Nat} (hd : dr_ok K F dr tx) (h40 : b' ≤ 40) : ∀ m s, b' - s = m → s ≤ b' →
    ex_E Γ d M_Drf_readElement 27 [some (.inr (some dr)), l1, l2, some (.inl (nI b')), some (.inl (nI (tx_l (I 22 tx) b' m s))), l5, l6, l7, l8] [] K I F b Q →
    ex_E Γ d M_Drf_readElement 3 [some (.inr (some dr)), l1, l2, some (.inl (nI b')), some (.inl (nI s)), l5, l6, l7, l8] [] K I F b Q := by
  obtain ⟨d1, d2, d3⟩ := hd
  have k1 : (K tx).1 = 22 := by rw [d3]
  have k2 : (K tx).2 = 40 := by rw [d3]
  intro m
  induction m with
  | zero =>
    intro s hm h1 kk
    refine s_Drf_readElement_3 ?_
    refine s_Drf_readElement_5 ?_
    refine s_Drf_readElement_6 (fun h6 => ?_) (fun h6 => absurd h6 (by exact fun q => q (nI_le (by omega) (by omega))))
    exact kk
  | succ m ih =>
    intro s hm h1 kk
    have hsb : s < b' := by omega
    refine s_Drf_readElement_3 ?_
    refine s_Drf_readElement_5 ?_
    refine s_Drf_readElement_6 (fun h6 => absurd h6 (by exact nI_ge (by omega) (by omega))) (fun h6 => ?_)
    refine s_Drf_readElement_9 ?_
    refine s_Drf_readElement_10 (by first | rfl | assumption | (simp [*]; done)) (by first | rfl | assumption | (simp [*]; done)) ?_
    refine s_Drf_readElement_13 ?_
    refine s_Drf_readElement_15 (by exact d2) (by exact k1) (by rw [k2]; exact vp_in_nI (by omega) (by omega)) ?_
    refine s_Drf_readElement_16 ?_
    refine s_Drf_readElement_18 (fun h18 => ?_) (fun h18 => ?_)
    · rw [nI_clamp (by omega)] at h18
      rw [tx_l, if_neg (fun z => h18 z.2)] at kk
      exact kk
    · refine s_Drf_readElement_21 ?_
      refine s_Drf_readElement_24 ?_
      rw [nI_clamp (by omega)] at h18
      rw [tx_l, if_pos ⟨hsb, h18⟩] at kk
      rw [nI_1]
      exact ih (s + 1) (by omega) (by omega) kk
theorem lp_skipR {Γ : ex_G} {d : Nat} {K : ex_K} {I : ex_I} {F : ex_F} {b : Nat} {Q : Option ex_V → ex_K → ex_I → ex_F → Prop} {l1 l2 l3 l6 l7 l8 : Option ex_V} {dr tx s : Nat} (hd : dr_ok K F dr tx) : ∀ t, s ≤ t → t ≤ 40 →
    ex_E Γ d M_Drf_readElement 57 [some (.inr (some dr)), l1, l2, l3, some (.inl (nI s)), some (.inl (nI (tx_r (I 22 tx) s t))), l6, l7, l8] [] K I F b Q →
    ex_E Γ d M_Drf_readElement 30 [some (.inr (some dr)), l1, l2, l3, some (.inl (nI s)), some (.inl (nI t)), l6, l7, l8] [] K I F b Q := by
  obtain ⟨d1, d2, d3⟩ := hd
  have k1 : (K tx).1 = 22 := by rw [d3]
  have k2 : (K tx).2 = 40 := by rw [d3]
  intro t
  induction t with
  | zero =>
    intro h1 h40 kk
    refine s_Drf_readElement_30 ?_
    refine s_Drf_readElement_32 ?_
    refine s_Drf_readElement_34 (fun h34 => ?_) (fun h34 => absurd h34 (by exact fun q => q (nI_le (by omega) (by omega))))
    exact kk
  | succ t ih =>
    intro h1 h40 kk
    by_cases hst : s < t + 1
    · skip
      refine s_Drf_readElement_30 ?_
      refine s_Drf_readElement_32 ?_
      refine s_Drf_readElement_34 (fun h34 => absurd h34 (by exact nI_ge (by omega) (by omega))) (fun h34 => ?_)
      refine s_Drf_readElement_37 ?_
      refine s_Drf_readElement_38 (by first | rfl | assumption | (simp [*]; done)) (by first | rfl | assumption | (simp [*]; done)) ?_
      refine s_Drf_readElement_41 ?_
      refine s_Drf_readElement_43 ?_
      refine s_Drf_readElement_44 ?_
      rw [nI_pred]
      refine s_Drf_readElement_45 (by exact d2) (by exact k1) (by rw [k2]; exact vp_in_nI (by omega) (by omega)) ?_
      refine s_Drf_readElement_46 ?_
      refine s_Drf_readElement_48 (fun h48 => ?_) (fun h48 => ?_)
      · rw [nI_clamp (by omega)] at h48
        rw [tx_r, if_neg (fun z => h48 z.2)] at kk
        exact kk
      · refine s_Drf_readElement_51 ?_
        refine s_Drf_readElement_54 ?_
        rw [nI_clamp (by omega)] at h48
        rw [tx_r, if_pos ⟨hst, h48⟩] at kk
        rw [show nI (t + 1) + (-1) = nI t from pk_m1 t]
        exact ih (by omega) (by omega) kk
    · have est : t + 1 = s := by omega
      refine s_Drf_readElement_30 ?_
      refine s_Drf_readElement_32 ?_
      refine s_Drf_readElement_34 (fun h34 => ?_) (fun h34 => absurd h34 (by exact fun q => q (nI_le (by omega) (by omega))))
      rw [tx_r, if_neg (fun z => hst z.1)] at kk
      exact kk
theorem lp_nameEnd {Γ : ex_G} {d : Nat} {K : ex_K} {I : ex_I} {F : ex_F} {b : Nat} {Q : Option ex_V → ex_K → ex_I → ex_F → Prop} {l1 l2 l3 l4 l7 l8 : Option ex_V} {dr tx b' : Nat} (hd : dr_ok K F dr tx) (h40 : b' ≤ 40) : ∀ m s, b' - s = m → s ≤ b' →
    ex_E Γ (d + 1) M_Drf_readElement 87 [some (.inr (some dr)), l1, l2, l3, l4, some (.inl (nI b')), some (.inl (nI (tx_n (I 22 tx) b' m s))), l7, l8] [] K I F b Q →
    ex_E Γ (d + 1) M_Drf_readElement 61 [some (.inr (some dr)), l1, l2, l3, l4, some (.inl (nI b')), some (.inl (nI s)), l7, l8] [] K I F b Q := by
  obtain ⟨d1, d2, d3⟩ := hd
  have k1 : (K tx).1 = 22 := by rw [d3]
  have k2 : (K tx).2 = 40 := by rw [d3]
  intro m
  induction m with
  | zero =>
    intro s hm h1 kk
    refine s_Drf_readElement_61 ?_
    refine s_Drf_readElement_63 ?_
    refine s_Drf_readElement_65 (fun h65 => ?_) (fun h65 => absurd h65 (by exact fun q => q (nI_le (by omega) (by omega))))
    exact kk
  | succ m ih =>
    intro s hm h1 kk
    have hsb : s < b' := by omega
    refine s_Drf_readElement_61 ?_
    refine s_Drf_readElement_63 ?_
    refine s_Drf_readElement_65 (fun h65 => absurd h65 (by exact nI_ge (by omega) (by omega))) (fun h65 => ?_)
    refine s_Drf_readElement_68 ?_
    refine s_Drf_readElement_69 (by first | rfl | assumption | (simp [*]; done)) (by first | rfl | assumption | (simp [*]; done)) ?_
    refine s_Drf_readElement_72 ?_
    refine s_Drf_readElement_74 (by exact d2) (by exact k1) (by rw [k2]; exact vp_in_nI (by omega) (by omega)) ?_
    refine s_Drf_readElement_75 (b1 := 0) (b2 := b)  (sp_isOfName) ?_ (by omega)
    rintro _ _ _ _ ⟨rfl, rfl, rfl, rfl⟩
    dsimp only [Option.toList, List.cons_append, List.nil_append]
    refine s_Drf_readElement_78 (fun h78 => ?_) (fun h78 => ?_)
    · rw [nI_clamp (by omega)] at h78
      have z : ¬ tx_c (I 22 tx s) = true := fun z => by rw [if_pos z] at h78; exact absurd h78 (by decide)
      rw [tx_n, if_neg (fun q => z q.2)] at kk
      exact kk
    · refine s_Drf_readElement_81 ?_
      refine s_Drf_readElement_84 ?_
      rw [nI_clamp (by omega)] at h78
      have z : tx_c (I 22 tx s) = true := by
        by_cases z : tx_c (I 22 tx s) = true
        · exact z
        · exact absurd (if_neg z) h78
      rw [tx_n, if_pos ⟨hsb, z⟩] at kk
      rw [nI_1]
      exact ih (s + 1) (by omega) (by omega) kk
def ct_ok (K : ex_K) (F : ex_F) (z y : Nat) : Prop := (K z).1 = 2 ∧ F 164 z 0 = some y ∧ K y = (21, 7)
theorem sp_learn {Γ : ex_G} {d : Nat} {K : ex_K} {I : ex_I} {F : ex_F} {b : Nat} {z y j : Nat} {v : Int32} (hz : ct_ok K F z y) (hj : j < 7) :
    ex_E Γ (d + 1) M_Ctl_learn 0 [some (.inr (some z)), some (.inl (nI j)), some (.inl v)] [] K I F b (fun r K' I' F' => r = none ∧ K = K' ∧ ex_wi I 21 y (tx_learn (I 21 y) j v) = I' ∧ F = F') := by
  obtain ⟨d1, d2, d3⟩ := hz
  have k1 : (K y).1 = 21 := by rw [d3]
  have k2 : (K y).2 = 7 := by rw [d3]
  refine s_Ctl_learn_0 ?_
  refine s_Ctl_learn_1 ?_
  refine s_Ctl_learn_2 (b1 := 0) (b2 := _) (by first | rfl | assumption | (simp [*]; done)) (by first | rfl | assumption | (simp [*]; done)) (Q1 := fun r K' I' F' => ex_E _ _ M_Ctl_learn 5 _ (r.toList ++ _) K' I' F' _ _) ?_ (fun _ _ _ _ hq => hq) (Nat.le_of_eq (Nat.zero_add _))
  refine s_Ctl_has_0 ?_
  refine s_Ctl_has_1 (by first | rfl | assumption | (simp [*]; done)) (by first | rfl | assumption | (simp [*]; done)) ?_
  refine s_Ctl_has_4 ?_
  refine s_Ctl_has_5 (by exact d2) (by exact k1) (by rw [k2]; exact vp_in_nI (by omega) (by omega)) ?_
  refine s_Ctl_has_6 ?_
  refine s_Ctl_has_7 (fun g7 => ?_) (fun g7 => ?_)
  · refine s_Ctl_has_14 ?_
    refine s_Ctl_has_15 (by first | rfl | decide | assumption) ?_
    dsimp only [Option.toList, List.cons_append, List.nil_append]
    refine s_Ctl_learn_5 (fun h5 => ?_) (fun h5 => ?_)
    · refine s_Ctl_learn_15 ?_
      exact absurd rfl h5
    · refine s_Ctl_learn_8 ?_
      refine s_Ctl_learn_9 (by first | rfl | assumption | (simp [*]; done)) (by first | rfl | assumption | (simp [*]; done)) ?_
      refine s_Ctl_learn_12 ?_
      refine s_Ctl_learn_13 ?_
      refine s_Ctl_learn_14 (by exact d2) (by exact k1) (by rw [k2]; exact vp_in_nI (by omega) (by omega)) ?_
      refine s_Ctl_learn_15 ?_
      rw [nI_clamp (by omega)] at g7 ⊢
      refine ⟨rfl, rfl, ?_, rfl⟩
      rw [ex_ui_w]
      congr 1
      funext q
      unfold tx_learn
      by_cases e : q = j
      · rw [if_pos ⟨e, g7⟩, if_pos e]
      · rw [if_neg (fun w => e w.1), if_neg e]
  · refine s_Ctl_has_10 ?_
    refine s_Ctl_has_11 ?_
    refine s_Ctl_has_15 (by first | rfl | decide | assumption) ?_
    dsimp only [Option.toList, List.cons_append, List.nil_append]
    refine s_Ctl_learn_5 (fun h5 => ?_) (fun h5 => ?_)
    · refine s_Ctl_learn_15 ?_
      rw [nI_clamp (by omega)] at g7
      refine ⟨rfl, rfl, ?_, rfl⟩
      rw [show tx_learn (I 21 y) j v = I 21 y by funext q; unfold tx_learn; rw [if_neg (fun w => g7 w.2)], ex_wi_id]
    · refine s_Ctl_learn_8 ?_
      refine s_Ctl_learn_9 (by first | rfl | assumption | (simp [*]; done)) (by first | rfl | assumption | (simp [*]; done)) ?_
      refine s_Ctl_learn_12 ?_
      refine s_Ctl_learn_13 ?_
      refine s_Ctl_learn_14 (by exact d2) (by exact k1) (by rw [k2]; exact vp_in_nI (by omega) (by omega)) ?_
      refine s_Ctl_learn_15 ?_
      exact absurd h5 (by decide)
theorem tx_d_le (f : Nat → Int32) (a e : Nat) : ∀ m j, j ≤ tx_d f a e m j ∧ tx_d f a e m j ≤ j + m := by
  intro m
  induction m with
  | zero => intro j; exact ⟨Nat.le_refl _, Nat.le_refl _⟩
  | succ m ih =>
    intro j
    rw [tx_d]
    split
    · omega
    · have := ih (j + 1)
      omega
theorem sp_readElement {Γ : ex_G} {d : Nat} {K : ex_K} {I : ex_I} {F : ex_F} {b : Nat} {dr tx z y a c : Nat} (hd : dr_ok K F dr tx) (hz : ct_ok K F z y) (hac : a ≤ c) (h40 : c ≤ 40) :
    ex_E Γ (d + 6) M_Drf_readElement 0 [some (.inr (some dr)), some (.inr (some z)), some (.inl (nI a)), some (.inl (nI c)), none, none, none, none, none] [] K I F b (fun r K' I' F' => r = none ∧ K = K' ∧ ex_wi I 21 y (tx_e (I 22 tx) a c (I 21 y)) = I' ∧ F = F') := by
  have d1 := hd.1
  have z1 := hz.1
  have b1 := tx_l_le (I 22 tx) c (c - a) a
  generalize es : tx_l (I 22 tx) c (c - a) a = s at b1
  have b2 := tx_r_le (I 22 tx) s c
  generalize et : tx_r (I 22 tx) s c = t at b2
  have b3 := tx_n_le (I 22 tx) t (t - s) s
  generalize ee : tx_n (I 22 tx) t (t - s) s = e at b3
  have b4 := tx_d_le (I 22 tx) s e 7 0
  generalize ed : tx_d (I 22 tx) s e 7 0 = dd at b4
  have hr : tx_e (I 22 tx) a c (I 21 y) = if tx_w (I 22 tx) e t = -1 ∨ dd = 7 then I 21 y else tx_learn (I 21 y) dd (tx_w (I 22 tx) e t) := by
    unfold tx_e
    simp only [es, et, ee, ed]
  rw [hr]
  refine s_Drf_readElement_0 ?_
  refine s_Drf_readElement_1 ?_
  refine lp_skipL hd h40 _ a rfl hac ?_
  rw [es]
  refine s_Drf_readElement_27 ?_
  refine s_Drf_readElement_28 ?_
  refine lp_skipR hd c (by omega) h40 ?_
  rw [et]
  refine s_Drf_readElement_57 ?_
  refine s_Drf_readElement_59 ?_
  refine lp_nameEnd hd (by omega) _ s rfl (by omega) ?_
  rw [ee]
  have last : ∀ v : Int32, v = tx_w (I 22 tx) e t → ex_E Γ (d + 6) M_Drf_readElement 106 [some (.inr (some dr)), some (.inr (some z)), some (.inl (nI a)), some (.inl (nI c)), some (.inl (nI s)), some (.inl (nI t)), some (.inl (nI e)), none, none] [.inl v] K I F b (fun r K' I' F' => r = none ∧ K = K' ∧ ex_wi I 21 y (if tx_w (I 22 tx) e t = -1 ∨ dd = 7 then I 21 y else tx_learn (I 21 y) dd (tx_w (I 22 tx) e t)) = I' ∧ F = F') := by
    intro v hv
    subst hv
    refine s_Drf_readElement_106 ?_
    refine s_Drf_readElement_108 ?_
    refine s_Drf_readElement_109 ?_
    refine s_Drf_readElement_111 ?_
    refine s_Drf_readElement_113 (b1 := 0) (b2 := b) (by first | rfl | assumption | (simp [*]; done)) (by first | rfl | assumption | (simp [*]; done)) (sp_directiveAt hd (by omega) (by omega)) ?_ (by omega)
    rintro _ _ _ _ ⟨rfl, rfl, rfl, rfl⟩
    dsimp only [Option.toList, List.cons_append, List.nil_append]
    rw [ed]
    refine s_Drf_readElement_116 ?_
    refine s_Drf_readElement_118 ?_
    refine s_Drf_readElement_120 ?_
    refine s_Drf_readElement_121 (fun h121 => ?_) (fun h121 => ?_)
    · refine s_Drf_readElement_138 ?_
      rw [if_pos (Or.inl h121), ex_wi_id]
      exact ⟨rfl, rfl, rfl, rfl⟩
    · refine s_Drf_readElement_124 ?_
      refine s_Drf_readElement_126 ?_
      refine s_Drf_readElement_127 (fun h127 => ?_) (fun h127 => ?_)
      · refine s_Drf_readElement_138 ?_
        have hd7 : dd = 7 := by
          by_cases q : dd = 7
          · exact q
          · exfalso
            rw [tx_rd, if_neg q] at h127
            have hlt : dd < 7 := by omega
            exact absurd h127 (by
              intro w
              have := congrArg Int32.toInt w
              rw [nI_toInt (by omega)] at this
              have h0 : (-1 : Int32).toInt = -1 := rfl
              omega)
        rw [if_pos (Or.inr hd7), ex_wi_id]
        exact ⟨rfl, rfl, rfl, rfl⟩
      · refine s_Drf_readElement_130 ?_
        refine s_Drf_readElement_131 ?_
        refine s_Drf_readElement_133 ?_
        have hd7 : ¬ dd = 7 := fun q => h127 (by rw [tx_rd, if_pos q])
        rw [show tx_rd dd = nI dd by rw [tx_rd, if_neg hd7]]
        refine s_Drf_readElement_135 (b1 := 0) (b2 := b) (by first | rfl | assumption | (simp [*]; done)) (by first | rfl | assumption | (simp [*]; done)) (sp_learn hz (j := dd) (by omega)) ?_ (by omega)
        rintro _ _ _ _ ⟨rfl, rfl, rfl, rfl⟩
        dsimp only [Option.toList, List.cons_append, List.nil_append]
        refine s_Drf_readElement_138 ?_
        rw [if_neg (fun q => q.elim h121 hd7)]
        exact ⟨rfl, rfl, rfl, rfl⟩
  refine s_Drf_readElement_87 ?_
  refine s_Drf_readElement_89 ?_
  refine s_Drf_readElement_91 (fun h91 => ?_) (fun h91 => ?_)
  · refine s_Drf_readElement_98 ?_
    refine s_Drf_readElement_99 ?_
    refine s_Drf_readElement_101 ?_
    have hne : e ≠ t := fun q => h91 (by rw [q])
    refine s_Drf_readElement_103 (b1 := 0) (b2 := b) (by first | rfl | assumption | (simp [*]; done)) (by first | rfl | assumption | (simp [*]; done)) (sp_numberFrom hd (by omega) (by omega)) ?_ (by omega)
    rintro _ _ _ _ ⟨rfl, rfl, rfl, rfl⟩
    dsimp only [Option.toList, List.cons_append, List.nil_append]
    exact last _ rfl
  · refine s_Drf_readElement_94 ?_
    refine s_Drf_readElement_95 ?_
    have he : e = t := (nI_eq (by omega) (by omega)).mp h91
    refine last _ ?_
    rw [tx_w, if_pos he]
