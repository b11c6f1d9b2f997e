/-! The class: answers, ticks, changes -/
theorem a_win {M : Nat} {r : Int32} (hM : M < 2 ^ 30) (a1 : ¬ r < 1) (a2 : ¬ nI M < r) (a3 : ¬ r ≤ nI M - 16) : ∃ k, r = nI k ∧ 1 ≤ k ∧ k ≤ M ∧ M < k + 16 := by
  obtain ⟨k, hk, rfl⟩ := nI_of (x := r) (fun h => a1 (by
    rw [Int32.lt_iff_toInt_lt] at h ⊢
    rw [Int32.toInt_zero] at h
    rw [show (1 : Int32).toInt = 1 from rfl]
    omega))
  have k1 : 1 ≤ k := by
    rcases Nat.lt_or_ge k 1 with c | c
    · exact absurd (nI_lt (b := 1) c (by decide)) a1
    · exact c
  have k2 : k ≤ M := by
    rcases Nat.lt_or_ge M k with c | c
    · exact absurd (nI_lt c hk) a2
    · exact c
  exact ⟨k, rfl, k1, k2, (sl_win hM (by omega)).mp (Int32.not_le.mp a3)⟩
theorem sp_answerC {Γ : ex_G} {d : Nat} {K : ex_K} {I : ex_I} {F : ex_F} {b : Nat} {a : Nat → Nat} {g : GH} {s : MS} (hR : Rc K I F a g 3 s) {x : Int32} {w : Nat} (a1 : ¬ x < 1) (a2 : ¬ s.1 820 0 < x) (a3 : ¬ x ≤ s.1 820 0 - 16) (hw : w < 4) :
    ex_E Γ (d + 2) M_FC_answer 0 [some (.inr (some (a 0))), some (.inl x), some (.inl (nI w)), none] [] K I F b (fun r K' I' F' => r = some (.inl (m_ans s x w)) ∧ ∃ g', Rc K' I' F' a g' 3 (s)) := by
  obtain ⟨x0, x1, x2, x3, x4, x5, x6, x7, x8⟩ := hR.1.1
  have hg := hR.2.2.2.2.2.2.2.2.2
  have t0 := hR.2.2.2.2.2.2.2.2.1.2.2
  have b2 := a2
  have b3 := a3
  rw [hg.1] at a2 a3
  obtain ⟨k, rfl, k1, k2, k3⟩ := a_win hg.2.1 a1 a2 a3
  obtain ⟨l1, l2, l3, l4, l5⟩ := hR.2.2.2.2.2.2.2.1.2 k k1 k2 k3
  have lk := (hR.2.2.2.2.2.2.2.1.1 k k1 k2).1
  have kl : (K (a 11)).1 = 34 := by rw [hR.1.2.1.2.2.2.2.1]
  have kl2 : (K (a 11)).2 = 16 := by rw [hR.1.2.1.2.2.2.2.1]
  have hs16 : sl k < 16 := by rw [sl_eq]; omega
  have kk : k < 2 ^ 30 := by have := hg.2.1; omega
  rcases (by omega : w = 0 ∨ w = 1 ∨ w = 2 ∨ w = 3) with rfl | rfl | rfl | rfl

  · refine s_FC_answer_0 ?_
    refine s_FC_answer_1 ?_
    refine s_FC_answer_2 (fun h2 => absurd h2 (by exact a1)) (fun h2 => ?_)
    refine s_FC_answer_5 ?_
    refine s_FC_answer_6 ?_
    refine s_FC_answer_7 (by first | rfl | assumption | (simp [*]; done)) (by first | rfl | assumption | (simp [*]; done)) ?_
    refine s_FC_answer_10 (fun h10 => absurd h10 (by rw [t0]; exact b2)) (fun h10 => ?_)
    refine s_FC_answer_13 ?_
    refine s_FC_answer_14 ?_
    refine s_FC_answer_15 (by first | rfl | assumption | (simp [*]; done)) (by first | rfl | assumption | (simp [*]; done)) ?_
    refine s_FC_answer_18 ?_
    refine s_FC_answer_20 ?_
    refine s_FC_answer_21 (fun h21 => ?_) (fun h21 => absurd h21 (by rw [t0]; exact fun z => z (Int32.not_le.mp b3)))
    refine s_FC_answer_26 ?_
    refine s_FC_answer_27 (by first | rfl | assumption | (simp [*]; done)) (by first | rfl | assumption | (simp [*]; done)) ?_
    refine s_FC_answer_30 ?_
    refine s_FC_answer_31 (b1 := 0) (b2 := b)  (sp_slotOf kk) ?_ (by omega)
    rintro _ _ _ _ ⟨rfl, rfl, rfl, rfl⟩
    dsimp only [Option.toList, List.cons_append, List.nil_append]
    refine s34_FC_answer_34 (by exact x8) (by exact kl) (by rw [kl2]; exact vp_in_nI hs16 (by omega)) ?_
    rw [nI_clamp (by omega), l1]
    refine s_FC_answer_35 ?_
    refine s_FC_answer_36 ?_
    refine s_FC_answer_37 (fun ah37 h37 => ?_) (fun h37 => absurd h37 (by intro z; cases z))
    refine s_FC_answer_42 ?_
    refine s_FC_answer_43 (fun h43 => ?_) (fun h43 => ?_) (fun h43 => ?_) (fun h43 => ?_) (fun h43_0 h43_1 h43_2 h43_3 => ?_)
    · refine s_FC_answer_72 ?_
      refine s_FC_answer_73 (by rfl) (by exact lk) ?_
      refine s_FC_answer_76 ?_
      rw [l2]
      exact ⟨rfl, g, hR⟩
    · refine s_FC_answer_77 ?_
      refine s_FC_answer_78 (by rfl) (by exact lk) ?_
      refine s_FC_answer_81 ?_
      exact absurd h43 (by decide)
    · refine s_FC_answer_82 ?_
      refine s_FC_answer_83 (by rfl) (by exact lk) ?_
      refine s_FC_answer_86 ?_
      exact absurd h43 (by decide)
    · refine s_FC_answer_87 ?_
      refine s_FC_answer_88 (by rfl) (by exact lk) ?_
      refine s_FC_answer_91 ?_
      exact absurd h43 (by decide)
    · refine s_FC_answer_92 ?_
      refine s_FC_answer_93 ?_
      exact absurd rfl h43_0
  · refine s_FC_answer_0 ?_
    refine s_FC_answer_1 ?_
    refine s_FC_answer_2 (fun h2 => absurd h2 (by exact a1)) (fun h2 => ?_)
    refine s_FC_answer_5 ?_
    refine s_FC_answer_6 ?_
    refine s_FC_answer_7 (by first | rfl | assumption | (simp [*]; done)) (by first | rfl | assumption | (simp [*]; done)) ?_
    refine s_FC_answer_10 (fun h10 => absurd h10 (by rw [t0]; exact b2)) (fun h10 => ?_)
    refine s_FC_answer_13 ?_
    refine s_FC_answer_14 ?_
    refine s_FC_answer_15 (by first | rfl | assumption | (simp [*]; done)) (by first | rfl | assumption | (simp [*]; done)) ?_
    refine s_FC_answer_18 ?_
    refine s_FC_answer_20 ?_
    refine s_FC_answer_21 (fun h21 => ?_) (fun h21 => absurd h21 (by rw [t0]; exact fun z => z (Int32.not_le.mp b3)))
    refine s_FC_answer_26 ?_
    refine s_FC_answer_27 (by first | rfl | assumption | (simp [*]; done)) (by first | rfl | assumption | (simp [*]; done)) ?_
    refine s_FC_answer_30 ?_
    refine s_FC_answer_31 (b1 := 0) (b2 := b)  (sp_slotOf kk) ?_ (by omega)
    rintro _ _ _ _ ⟨rfl, rfl, rfl, rfl⟩
    dsimp only [Option.toList, List.cons_append, List.nil_append]
    refine s34_FC_answer_34 (by exact x8) (by exact kl) (by rw [kl2]; exact vp_in_nI hs16 (by omega)) ?_
    rw [nI_clamp (by omega), l1]
    refine s_FC_answer_35 ?_
    refine s_FC_answer_36 ?_
    refine s_FC_answer_37 (fun ah37 h37 => ?_) (fun h37 => absurd h37 (by intro z; cases z))
    refine s_FC_answer_42 ?_
    refine s_FC_answer_43 (fun h43 => ?_) (fun h43 => ?_) (fun h43 => ?_) (fun h43 => ?_) (fun h43_0 h43_1 h43_2 h43_3 => ?_)
    · refine s_FC_answer_72 ?_
      refine s_FC_answer_73 (by rfl) (by exact lk) ?_
      refine s_FC_answer_76 ?_
      exact absurd h43 (by decide)
    · refine s_FC_answer_77 ?_
      refine s_FC_answer_78 (by rfl) (by exact lk) ?_
      refine s_FC_answer_81 ?_
      rw [l3]
      exact ⟨rfl, g, hR⟩
    · refine s_FC_answer_82 ?_
      refine s_FC_answer_83 (by rfl) (by exact lk) ?_
      refine s_FC_answer_86 ?_
      exact absurd h43 (by decide)
    · refine s_FC_answer_87 ?_
      refine s_FC_answer_88 (by rfl) (by exact lk) ?_
      refine s_FC_answer_91 ?_
      exact absurd h43 (by decide)
    · refine s_FC_answer_92 ?_
      refine s_FC_answer_93 ?_
      exact absurd rfl h43_1
  · refine s_FC_answer_0 ?_
    refine s_FC_answer_1 ?_
    refine s_FC_answer_2 (fun h2 => absurd h2 (by exact a1)) (fun h2 => ?_)
    refine s_FC_answer_5 ?_
    refine s_FC_answer_6 ?_
    refine s_FC_answer_7 (by first | rfl | assumption | (simp [*]; done)) (by first | rfl | assumption | (simp [*]; done)) ?_
    refine s_FC_answer_10 (fun h10 => absurd h10 (by rw [t0]; exact b2)) (fun h10 => ?_)
    refine s_FC_answer_13 ?_
    refine s_FC_answer_14 ?_
    refine s_FC_answer_15 (by first | rfl | assumption | (simp [*]; done)) (by first | rfl | assumption | (simp [*]; done)) ?_
    refine s_FC_answer_18 ?_
    refine s_FC_answer_20 ?_
    refine s_FC_answer_21 (fun h21 => ?_) (fun h21 => absurd h21 (by rw [t0]; exact fun z => z (Int32.not_le.mp b3)))
    refine s_FC_answer_26 ?_
    refine s_FC_answer_27 (by first | rfl | assumption | (simp [*]; done)) (by first | rfl | assumption | (simp [*]; done)) ?_
    refine s_FC_answer_30 ?_
    refine s_FC_answer_31 (b1 := 0) (b2 := b)  (sp_slotOf kk) ?_ (by omega)
    rintro _ _ _ _ ⟨rfl, rfl, rfl, rfl⟩
    dsimp only [Option.toList, List.cons_append, List.nil_append]
    refine s34_FC_answer_34 (by exact x8) (by exact kl) (by rw [kl2]; exact vp_in_nI hs16 (by omega)) ?_
    rw [nI_clamp (by omega), l1]
    refine s_FC_answer_35 ?_
    refine s_FC_answer_36 ?_
    refine s_FC_answer_37 (fun ah37 h37 => ?_) (fun h37 => absurd h37 (by intro z; cases z))
    refine s_FC_answer_42 ?_
    refine s_FC_answer_43 (fun h43 => ?_) (fun h43 => ?_) (fun h43 => ?_) (fun h43 => ?_) (fun h43_0 h43_1 h43_2 h43_3 => ?_)
    · refine s_FC_answer_72 ?_
      refine s_FC_answer_73 (by rfl) (by exact lk) ?_
      refine s_FC_answer_76 ?_
      exact absurd h43 (by decide)
    · refine s_FC_answer_77 ?_
      refine s_FC_answer_78 (by rfl) (by exact lk) ?_
      refine s_FC_answer_81 ?_
      exact absurd h43 (by decide)
    · refine s_FC_answer_82 ?_
      refine s_FC_answer_83 (by rfl) (by exact lk) ?_
      refine s_FC_answer_86 ?_
      rw [l4]
      exact ⟨rfl, g, hR⟩
    · refine s_FC_answer_87 ?_
      refine s_FC_answer_88 (by rfl) (by exact lk) ?_
      refine s_FC_answer_91 ?_
      exact absurd h43 (by decide)
    · refine s_FC_answer_92 ?_
      refine s_FC_answer_93 ?_
      exact absurd rfl h43_2
  · refine s_FC_answer_0 ?_
    refine s_FC_answer_1 ?_
    refine s_FC_answer_2 (fun h2 => absurd h2 (by exact a1)) (fun h2 => ?_)
    refine s_FC_answer_5 ?_
    refine s_FC_answer_6 ?_
    refine s_FC_answer_7 (by first | rfl | assumption | (simp [*]; done)) (by first | rfl | assumption | (simp [*]; done)) ?_
    refine s_FC_answer_10 (fun h10 => absurd h10 (by rw [t0]; exact b2)) (fun h10 => ?_)
    refine s_FC_answer_13 ?_
    refine s_FC_answer_14 ?_
    refine s_FC_answer_15 (by first | rfl | assumption | (simp [*]; done)) (by first | rfl | assumption | (simp [*]; done)) ?_
    refine s_FC_answer_18 ?_
    refine s_FC_answer_20 ?_
    refine s_FC_answer_21 (fun h21 => ?_) (fun h21 => absurd h21 (by rw [t0]; exact fun z => z (Int32.not_le.mp b3)))
    refine s_FC_answer_26 ?_
    refine s_FC_answer_27 (by first | rfl | assumption | (simp [*]; done)) (by first | rfl | assumption | (simp [*]; done)) ?_
    refine s_FC_answer_30 ?_
    refine s_FC_answer_31 (b1 := 0) (b2 := b)  (sp_slotOf kk) ?_ (by omega)
    rintro _ _ _ _ ⟨rfl, rfl, rfl, rfl⟩
    dsimp only [Option.toList, List.cons_append, List.nil_append]
    refine s34_FC_answer_34 (by exact x8) (by exact kl) (by rw [kl2]; exact vp_in_nI hs16 (by omega)) ?_
    rw [nI_clamp (by omega), l1]
    refine s_FC_answer_35 ?_
    refine s_FC_answer_36 ?_
    refine s_FC_answer_37 (fun ah37 h37 => ?_) (fun h37 => absurd h37 (by intro z; cases z))
    refine s_FC_answer_42 ?_
    refine s_FC_answer_43 (fun h43 => ?_) (fun h43 => ?_) (fun h43 => ?_) (fun h43 => ?_) (fun h43_0 h43_1 h43_2 h43_3 => ?_)
    · refine s_FC_answer_72 ?_
      refine s_FC_answer_73 (by rfl) (by exact lk) ?_
      refine s_FC_answer_76 ?_
      exact absurd h43 (by decide)
    · refine s_FC_answer_77 ?_
      refine s_FC_answer_78 (by rfl) (by exact lk) ?_
      refine s_FC_answer_81 ?_
      exact absurd h43 (by decide)
    · refine s_FC_answer_82 ?_
      refine s_FC_answer_83 (by rfl) (by exact lk) ?_
      refine s_FC_answer_86 ?_
      exact absurd h43 (by decide)
    · refine s_FC_answer_87 ?_
      refine s_FC_answer_88 (by rfl) (by exact lk) ?_
      refine s_FC_answer_91 ?_
      rw [l5]
      exact ⟨rfl, g, hR⟩
    · refine s_FC_answer_92 ?_
      refine s_FC_answer_93 ?_
      exact absurd rfl h43_3
theorem sp_answerC_no {Γ : ex_G} {d : Nat} {K : ex_K} {I : ex_I} {F : ex_F} {b : Nat} {a : Nat → Nat} {g : GH} {s : MS} (hR : Rc K I F a g 3 s) {x w : Int32} (hx : x < 1 ∨ s.1 820 0 < x ∨ x ≤ s.1 820 0 - 16 ∨ w < 0 ∨ ¬ w ≤ 3) :
    ex_E Γ (d + 2) M_FC_answer 0 [some (.inr (some (a 0))), some (.inl x), some (.inl w), none] [] K I F b (fun r K' I' F' => r = some (.inl (-1)) ∧ ∃ g', Rc K' I' F' a g' 3 (s)) := by
  obtain ⟨x0, x1, x2, x3, x4, x5, x6, x7, x8⟩ := hR.1.1
  have hg := hR.2.2.2.2.2.2.2.2.2
  have t0 := hR.2.2.2.2.2.2.2.2.1.2.2
  by_cases a1 : x < 1
  · refine s_FC_answer_0 ?_
    refine s_FC_answer_1 ?_
    refine s_FC_answer_2 (fun h2 => ?_) (fun h2 => absurd h2 (by exact fun z => z a1))
    refine s_FC_answer_24 ?_
    refine s_FC_answer_25 ?_
    exact ⟨rfl, g, hR⟩
  · by_cases a2 : s.1 820 0 < x
    · refine s_FC_answer_0 ?_
      refine s_FC_answer_1 ?_
      refine s_FC_answer_2 (fun h2 => absurd h2 (by exact a1)) (fun h2 => ?_)
      refine s_FC_answer_5 ?_
      refine s_FC_answer_6 ?_
      refine s_FC_answer_7 (by first | rfl | assumption | (simp [*]; done)) (by first | rfl | assumption | (simp [*]; done)) ?_
      refine s_FC_answer_10 (fun h10 => ?_) (fun h10 => absurd h10 (by rw [t0]; exact fun z => z a2))
      refine s_FC_answer_24 ?_
      refine s_FC_answer_25 ?_
      exact ⟨rfl, g, hR⟩
    · by_cases a3 : x ≤ s.1 820 0 - 16
      · refine s_FC_answer_0 ?_
        refine s_FC_answer_1 ?_
        refine s_FC_answer_2 (fun h2 => absurd h2 (by exact a1)) (fun h2 => ?_)
        refine s_FC_answer_5 ?_
        refine s_FC_answer_6 ?_
        refine s_FC_answer_7 (by first | rfl | assumption | (simp [*]; done)) (by first | rfl | assumption | (simp [*]; done)) ?_
        refine s_FC_answer_10 (fun h10 => absurd h10 (by rw [t0]; exact a2)) (fun h10 => ?_)
        refine s_FC_answer_13 ?_
        refine s_FC_answer_14 ?_
        refine s_FC_answer_15 (by first | rfl | assumption | (simp [*]; done)) (by first | rfl | assumption | (simp [*]; done)) ?_
        refine s_FC_answer_18 ?_
        refine s_FC_answer_20 ?_
        refine s_FC_answer_21 (fun h21 => absurd h21 (by rw [t0]; exact Int32.not_lt.mpr a3)) (fun h21 => ?_)
        refine s_FC_answer_24 ?_
        refine s_FC_answer_25 ?_
        exact ⟨rfl, g, hR⟩
      · have hf := ((hx.resolve_left a1).resolve_left a2).resolve_left a3
        have hw : ∀ j : Int32, j = 0 ∨ j = 1 ∨ j = 2 ∨ j = 3 → ¬ w = j := fun j hj e => by
          subst e
          rcases hj with rfl | rfl | rfl | rfl <;> exact absurd hf (by decide)
        have b2 := a2
        have b3 := a3
        rw [hg.1] at a2 a3
        obtain ⟨k, rfl, k1, k2, k3⟩ := a_win hg.2.1 a1 a2 a3
        obtain ⟨l1, l2, l3, l4, l5⟩ := hR.2.2.2.2.2.2.2.1.2 k k1 k2 k3
        have lk := (hR.2.2.2.2.2.2.2.1.1 k k1 k2).1
        have kl : (K (a 11)).1 = 34 := by rw [hR.1.2.1.2.2.2.2.1]
        have kl2 : (K (a 11)).2 = 16 := by rw [hR.1.2.1.2.2.2.2.1]
        have hs16 : sl k < 16 := by rw [sl_eq]; omega
        have kk : k < 2 ^ 30 := by have := hg.2.1; omega
        refine s_FC_answer_0 ?_
        refine s_FC_answer_1 ?_
        refine s_FC_answer_2 (fun h2 => absurd h2 (by exact a1)) (fun h2 => ?_)
        refine s_FC_answer_5 ?_
        refine s_FC_answer_6 ?_
        refine s_FC_answer_7 (by first | rfl | assumption | (simp [*]; done)) (by first | rfl | assumption | (simp [*]; done)) ?_
        refine s_FC_answer_10 (fun h10 => absurd h10 (by rw [t0]; exact b2)) (fun h10 => ?_)
        refine s_FC_answer_13 ?_
        refine s_FC_answer_14 ?_
        refine s_FC_answer_15 (by first | rfl | assumption | (simp [*]; done)) (by first | rfl | assumption | (simp [*]; done)) ?_
        refine s_FC_answer_18 ?_
        refine s_FC_answer_20 ?_
        refine s_FC_answer_21 (fun h21 => ?_) (fun h21 => absurd h21 (by rw [t0]; exact fun z => z (Int32.not_le.mp b3)))
        refine s_FC_answer_26 ?_
        refine s_FC_answer_27 (by first | rfl | assumption | (simp [*]; done)) (by first | rfl | assumption | (simp [*]; done)) ?_
        refine s_FC_answer_30 ?_
        refine s_FC_answer_31 (b1 := 0) (b2 := b)  (sp_slotOf kk) ?_ (by omega)
        rintro _ _ _ _ ⟨rfl, rfl, rfl, rfl⟩
        dsimp only [Option.toList, List.cons_append, List.nil_append]
        refine s34_FC_answer_34 (by exact x8) (by exact kl) (by rw [kl2]; exact vp_in_nI hs16 (by omega)) ?_
        rw [nI_clamp (by omega), l1]
        refine s_FC_answer_35 ?_
        refine s_FC_answer_36 ?_
        refine s_FC_answer_37 (fun ah37 h37 => ?_) (fun h37 => absurd h37 (by intro z; cases z))
        refine s_FC_answer_42 ?_
        refine s_FC_answer_43 (fun h43 => ?_) (fun h43 => ?_) (fun h43 => ?_) (fun h43 => ?_) (fun h43_0 h43_1 h43_2 h43_3 => ?_)
        · refine s_FC_answer_72 ?_
          refine s_FC_answer_73 (by rfl) (by exact lk) ?_
          refine s_FC_answer_76 ?_
          exact absurd h43 (hw _ (by decide))
        · refine s_FC_answer_77 ?_
          refine s_FC_answer_78 (by rfl) (by exact lk) ?_
          refine s_FC_answer_81 ?_
          exact absurd h43 (hw _ (by decide))
        · refine s_FC_answer_82 ?_
          refine s_FC_answer_83 (by rfl) (by exact lk) ?_
          refine s_FC_answer_86 ?_
          exact absurd h43 (hw _ (by decide))
        · refine s_FC_answer_87 ?_
          refine s_FC_answer_88 (by rfl) (by exact lk) ?_
          refine s_FC_answer_91 ?_
          exact absurd h43 (hw _ (by decide))
        · refine s_FC_answer_92 ?_
          refine s_FC_answer_93 ?_
          exact ⟨rfl, g, hR⟩
theorem lp_tickC {Γ : ex_G} {d N : Nat} {a : Nat → Nat} {g : GH} (hN : N ≤ 1000) : ∀ n t b s K I F, 3 - t = n → t ≤ 3 → Rc K I F a g 3 s → J N t 3 s → (∀ u, t ≤ u → u < 3 → (s.1 24 u).toInt + 1 ≤ N) →
    ex_E Γ (d + 5) M_FC_tick 12 [some (.inr (some (a 0))), some (.inl (nI t))] [] K I F (b + n) (fun r K' I' F' => r = some (.inl ((m_tks n t s).1 805 0)) ∧ ∃ g', Rc K' I' F' a g' 3 (m_tks n t s)) := by
  intro n
  induction n with
  | zero =>
    intro t b s K I F hn ht hR hJ hG
    obtain ⟨x0, x1, x2, x3, x4, x5, x6, x7, x8⟩ := hR.1.1
    have e : t = 3 := by omega
    subst e
    refine s_FC_tick_12 ?_
    refine s_FC_tick_13 ?_
    refine s_FC_tick_14 (fun h14 => ?_) (fun h14 => absurd h14 (by exact fun q => q (nI_le (a := 3) (b := 3) (by omega) (by omega))))
    refine s_FC_tick_40 ?_
    refine s_FC_tick_41 (by first | rfl | assumption | (simp [*]; done)) (by first | rfl | assumption | (simp [*]; done)) ?_
    refine s_FC_tick_44 ?_
    rw [hR.2.2.2.2.2.2.2.2.1.1]
    exact ⟨rfl, g, hR⟩
  | succ n ih =>
    intro t b s K I F hn ht hR hJ hG
    obtain ⟨x0, x1, x2, x3, x4, x5, x6, x7, x8⟩ := hR.1.1
    have ht3 : t < 3 := by omega
    obtain ⟨t1, t2, t3, t4, -⟩ := hR.1.2.2.1 t ht3
    have kc : (K (a 10)).1 = 33 := by rw [hR.1.2.1.2.2.2.1]
    have kc2 : (K (a 10)).2 = 3 := by rw [hR.1.2.1.2.2.2.1]
    have t0 := hR.2.2.2.2.2.2.2.2.1.1
    have hd := sp_due (Γ := Γ) (d := d) (b := 0) hR ht3 hJ hN (Nat.le_refl _)
    refine s_FC_tick_12 ?_
    refine s_FC_tick_13 ?_
    refine s_FC_tick_14 (fun h14 => absurd h14 (by exact nI_ge (a := t) (b := 3) (by omega) (by omega))) (fun h14 => ?_)
    refine s_FC_tick_17 ?_
    refine s_FC_tick_18 (by first | rfl | assumption | (simp [*]; done)) (by first | rfl | assumption | (simp [*]; done)) ?_
    refine s_FC_tick_21 ?_
    refine s33_FC_tick_22 (by exact x7) (by exact kc) (by rw [kc2]; exact vp_in_nI ht3 (by omega)) ?_
    refine s_FC_tick_23 ?_
    refine s_FC_tick_24 (by first | rfl | assumption | (simp [*]; done)) (by first | rfl | assumption | (simp [*]; done)) ?_
    refine s_FC_tick_27 ?_
    refine s_FC_tick_28 (by first | rfl | assumption | (simp [*]; done)) (by first | rfl | assumption | (simp [*]; done)) ?_
    rw [t0, x3]
    refine s_FC_tick_31 (b1 := 0 + 1) (b2 := b + n) (by rw [nI_clamp (by omega)]; exact t3) (by exact t4) (hd) ?_ (by omega)
    rintro _ K1 I1 F1 ⟨rfl, X1, R1⟩
    dsimp only [Option.toList, List.cons_append, List.nil_append]
    refine s_FC_tick_34 ?_
    refine s_FC_tick_37 ?_
    rw [nI_1, m_tks]
    refine ih (t + 1) b (m_tk s t) K1 I1 F1 (by omega) (by omega) R1 (J_tk hJ ht3 hN (hG t (Nat.le_refl _) ht3)) (fun u h1 h2 => ?_)
    rw [m_tk_24 (by omega)]
    exact hG u (by omega) h2
theorem Rc_time {K : ex_K} {I : ex_I} {F : ex_F} {a : Nat → Nat} {g : GH} {z : Nat} {s : MS} {x : Int32} (hR : Rc K I F a g z s) : Rc K (ex_ui I 108 (a 0) 0 x) F a g z (cw s 805 0 x) := by
  have xr : xw (lP [(108, a 0)]) K I F K (ex_ui I 108 (a 0) 0 x) F := xw_ui (by simp [lP])
  have ir : imm (lP [(108, a 0)]) := im_l (by simp [xmut])
  refine Rc_gen hR xr ir (Or.inl ⟨⟨by simp [lP], by simp [lP]⟩, rfl, rfl⟩) (Or.inl ⟨⟨by simp [lP], by simp [lP], by simp [lP], fun _ => ⟨by simp [lP], by simp [lP]⟩⟩, rfl, rfl⟩) (Or.inl ⟨⟨by simp [lP], by simp [lP]⟩, rfl⟩) (Or.inl ⟨by simp [lP], rfl, rfl, rfl, rfl⟩) (fun u hu _ => Or.inl ⟨⟨by simp [lP], by simp [lP], by simp [lP]⟩, rfl, rfl, cw_ne _ _ _ (by omega)⟩) (fun u hu hz => Or.inl ⟨by simp [cnP, lP], nqP_all (fun _ => by simp [lP]) (fun _ => by simp [lP]) (fun _ => by simp [lP]) (fun _ => by simp [lP]) _, rfl, rfl, rfl, rfl, rfl⟩) (Or.inl ⟨by simp [lP], fun _ _ => ⟨by simp [lP], by simp [lP], by simp [lP], by simp [lP]⟩, rfl, rfl, rfl, rfl⟩) (Or.inr ⟨?_, ?_, ?_⟩) ⟨rfl, rfl⟩
  · rw [ex_ui_eq, cw_at]
    exact (if_pos rfl).symm
  · rw [ex_ui_f _ _ _ _ (by decide)]
    exact hR.2.2.2.2.2.2.2.2.1.2.1
  · rw [ex_ui_f _ _ _ _ (by decide)]
    exact hR.2.2.2.2.2.2.2.2.1.2.2
theorem sp_tickC {Γ : ex_G} {d : Nat} {K : ex_K} {I : ex_I} {F : ex_F} {b : Nat} {a : Nat → Nat} {g : GH} {s : MS} (hR : Rc K I F a g 3 s) {N : Nat} (hJ : J N 3 3 s) (hN : N < 1000) :
    ex_E Γ (d + 5) M_FC_tick 0 [some (.inr (some (a 0))), none] [] K I F (b + 3) (fun r K' I' F' => r = some (.inl (s.1 805 0 + 1)) ∧ ∃ g', Rc K' I' F' a g' 3 (m_tick s)) := by
  obtain ⟨x0, x1, x2, x3, x4, x5, x6, x7, x8⟩ := hR.1.1
  have t0 := hR.2.2.2.2.2.2.2.2.1.1
  have v0 := hJ.1.1 805 (by decide)
  have ti := jinc (x := s.1 805 0) (by omega) (by omega)
  have e1 : (cw s 805 0 (s.1 805 0 + 1)).1 805 0 = s.1 805 0 + 1 := by rw [cw_at]; exact if_pos rfl
  have hJ1 : J (N + 1) 0 3 (cw s 805 0 (s.1 805 0 + 1)) := J_time hJ hN
  refine s_FC_tick_0 ?_
  refine s_FC_tick_1 ?_
  refine s_FC_tick_2 (by first | rfl | assumption | (simp [*]; done)) (by first | rfl | assumption | (simp [*]; done)) ?_
  refine s_FC_tick_5 ?_
  refine s_FC_tick_6 ?_
  refine s_FC_tick_7 (by first | rfl | assumption | (simp [*]; done)) (by first | rfl | assumption | (simp [*]; done)) ?_
  refine s_FC_tick_10 ?_
  refine s_FC_tick_11 ?_
  rw [t0]
  have R1 := Rc_time (x := s.1 805 0 + 1) hR
  have ee : (m_tks 3 0 (cw s 805 0 (s.1 805 0 + 1))).1 805 0 = s.1 805 0 + 1 := by
    unfold m_tks m_tks m_tks m_tks
    rw [m_tk_T, m_tk_T, m_tk_T, e1]
  have hl := lp_tickC (Γ := Γ) (d := d) (a := a) (g := g) (N := N + 1) (by omega) 3 0 b _ K _ F rfl (by omega) R1 hJ1 (fun u _ hu => by
    show (s.1 24 u).toInt + 1 ≤ _
    have := (hJ.1.2 u hu).2.1
    omega)
  rw [ee] at hl
  exact hl
