/-! The class: an answer comes to the front; deliver -/
theorem sp_ctf {Γ : ex_G} {d : Nat} {K : ex_K} {I : ex_I} {F : ex_F} {b : Nat} {t mp : Nat} {a : Nat → Nat} {g : GH} {s : MS} {cm : Nat → Int32} (hR : Rc K I F a g 3 s) (hM : Ms K I F mp cm) (ht : t < 3) (hc0 : cm 0 = nI t) (h1 : cm 1 = 1) {N bb : Nat} (hJ : J N bb 3 s) (hN : N ≤ 1000) (hf : fOk (s.1 24 t) (hdz s 3 t) cm) :
    ex_E Γ (d + 6) M_FC_comeToFront 0 [some (.inr (some (a 0))), some (.inr (some mp)), none, none] [] K I F (b + 2) (fun r K' I' F' => r = none ∧ ∃ g', Rc K' I' F' a g' 3 (if cm 2 = 0 then m_prb s t else m_dan s t cm)) := by
  obtain ⟨x0, x1, x2, x3, x4, x5, x6, x7, x8⟩ := hR.1.1
  obtain ⟨-, -, t3, kcn, -⟩ := hR.1.2.2.1 t ht
  have kc : (K (a 10)).1 = 33 := by rw [hR.1.2.1.2.2.2.1]
  have kc2 : (K (a 10)).2 = 3 := by rw [hR.1.2.1.2.2.2.1]
  have km := hM.1
  have n10 : ¬ cm 1 = 0 := by rw [h1]; decide
  have m0 : I 548 mp 0 = nI t := by rw [hM.2.1, hc0]
  have m2 : I 550 mp 0 = cm 2 := hM.2.2.2.1
  by_cases h2 : cm 2 = 0
  · rw [if_pos h2]
    refine s_FC_comeToFront_0 ?_
    refine s_FC_comeToFront_1 (by first | rfl | assumption | (simp [*]; done)) (by first | rfl | assumption | (simp [*]; done)) ?_
    refine s_FC_comeToFront_4 ?_
    refine s_FC_comeToFront_5 (by first | rfl | assumption | (simp [*]; done)) (by first | rfl | assumption | (simp [*]; done)) ?_
    rw [m0]
    refine s33_FC_comeToFront_8 (by exact x7) (by exact kc) (by rw [kc2]; exact vp_in_nI ht (by omega)) ?_
    rw [nI_clamp (by omega), t3]
    refine s_FC_comeToFront_9 ?_
    refine s_FC_comeToFront_10 ?_
    refine s_FC_comeToFront_11 (by rfl) (by exact km) ?_
    refine s_FC_comeToFront_14 (fun h14 => absurd h14 (by rw [m2]; exact fun z => z h2)) (fun h14 => ?_)
    refine s_FC_comeToFront_17 ?_
    refine s_FC_comeToFront_18 (b1 := 0) (b2 := b + 2) (by rfl) (by exact kcn) (ex_up (d := d) (by omega) (sp_hearProbe hR ht)) ?_ (by omega)
    rintro _ K2 I2 F2 ⟨rfl, X2, R2⟩
    dsimp only [Option.toList, List.cons_append, List.nil_append]
    refine s_FC_comeToFront_21 ?_
    exact ⟨rfl, g, R2⟩
  · rw [if_neg h2]
    unfold m_dan
    cases hQ : s.2 (100 + t) with
    | nil =>
      have hfn := sp_finish_no (Γ := Γ) (d := d) (b := 0) (x := cm 2) hR ht (fun w Q e => by rw [hQ] at e; cases e)
      refine s_FC_comeToFront_0 ?_
      refine s_FC_comeToFront_1 (by first | rfl | assumption | (simp [*]; done)) (by first | rfl | assumption | (simp [*]; done)) ?_
      refine s_FC_comeToFront_4 ?_
      refine s_FC_comeToFront_5 (by first | rfl | assumption | (simp [*]; done)) (by first | rfl | assumption | (simp [*]; done)) ?_
      rw [m0]
      refine s33_FC_comeToFront_8 (by exact x7) (by exact kc) (by rw [kc2]; exact vp_in_nI ht (by omega)) ?_
      rw [nI_clamp (by omega), t3]
      refine s_FC_comeToFront_9 ?_
      refine s_FC_comeToFront_10 ?_
      refine s_FC_comeToFront_11 (by rfl) (by exact km) ?_
      refine s_FC_comeToFront_14 (fun h14 => ?_) (fun h14 => absurd h14 (by rw [m2]; exact h2))
      refine s_FC_comeToFront_22 ?_
      refine s_FC_comeToFront_23 ?_
      refine s_FC_comeToFront_24 (by first | rfl | assumption | (simp [*]; done)) (by first | rfl | assumption | (simp [*]; done)) ?_
      rw [m2]
      refine s_FC_comeToFront_27 (b1 := 0) (b2 := b + 2) (by rfl) (by exact kcn) (ex_up (by omega) hfn) ?_ (by omega)
      rintro _ _ _ _ ⟨rfl, rfl, rfl, rfl⟩
      dsimp only [Option.toList, List.cons_append, List.nil_append]
      refine s_FC_comeToFront_30 ?_
      refine s_FC_comeToFront_31 ?_
      refine s_FC_comeToFront_32 (fun _ h32 => absurd h32 (by intro z; cases z)) (fun h32 => ?_)
      refine s_FC_comeToFront_35 ?_
      exact ⟨rfl, g, hR⟩
    | cons w Q =>
      simp only []
      by_cases h24 : cm 2 = s.1 24 t
      · rw [if_pos h24]
        have hfi := sp_finish (Γ := Γ) (d := d) (b := 0) hR ht hQ
        have hdn : hdz s 3 t = some w := by unfold hdz; rw [if_neg (by omega), hQ]; rfl
        obtain ⟨g1, g2⟩ := hf.2.2.2.2.1 h2 h1
        obtain ⟨-, g3⟩ := hf.2.2.2.2.2 h2 h24 w hdn
        obtain ⟨g4, g5⟩ := g3 h1
        have hX := J_x hJ ht
        rw [hQ] at hX
        have hdist : ∀ w', w' ∈ Q → ¬ w' 0 = w 0 := fun w' hw' e => by
          have := (hJ.2.2.1.1 t ht).2.1
          rw [hQ, List.pairwise_cons] at this
          exact this.1 w' hw' e.symm
        refine s_FC_comeToFront_0 ?_
        refine s_FC_comeToFront_1 (by first | rfl | assumption | (simp [*]; done)) (by first | rfl | assumption | (simp [*]; done)) ?_
        refine s_FC_comeToFront_4 ?_
        refine s_FC_comeToFront_5 (by first | rfl | assumption | (simp [*]; done)) (by first | rfl | assumption | (simp [*]; done)) ?_
        rw [m0]
        refine s33_FC_comeToFront_8 (by exact x7) (by exact kc) (by rw [kc2]; exact vp_in_nI ht (by omega)) ?_
        rw [nI_clamp (by omega), t3]
        refine s_FC_comeToFront_9 ?_
        refine s_FC_comeToFront_10 ?_
        refine s_FC_comeToFront_11 (by rfl) (by exact km) ?_
        refine s_FC_comeToFront_14 (fun h14 => ?_) (fun h14 => absurd h14 (by rw [m2]; exact h2))
        refine s_FC_comeToFront_22 ?_
        refine s_FC_comeToFront_23 ?_
        refine s_FC_comeToFront_24 (by first | rfl | assumption | (simp [*]; done)) (by first | rfl | assumption | (simp [*]; done)) ?_
        rw [m2, h24]
        refine s_FC_comeToFront_27 (b1 := 0) (b2 := b + 2) (by rfl) (by exact kcn) (ex_up (by omega) hfi) ?_ (by omega)
        rintro _ _ I1 F1 ⟨p, rfl, rfl, X1, R1, hpw, hq1, hn1, hf1⟩
        dsimp only [Option.toList, List.cons_append, List.nil_append]
        refine s_FC_comeToFront_30 ?_
        refine s_FC_comeToFront_31 ?_
        refine s_FC_comeToFront_32 (fun ah32 h32 => ?_) (fun h32 => absurd h32 (by intro z; cases z))
        have M1 := Ms_x X1 im_i hM
        have hx1 : ∀ u, u < 3 → u ≠ t → ∀ w', w' ∈ (T26 s t Q).2 (100 + u) → ¬ w' 0 = w 0 := fun u hu hut w' hw' => by
          have e : (T26 s t Q).2 (100 + u) = s.2 (100 + u) := tu_ne _ _ (by omega)
          rw [e] at hw'
          exact hX u hu hut w' hw' w List.mem_cons_self
        have R1' : Rc K I1 F1 a g t (T26 s t Q) := R1
        have kn := M1.1
        have x01 := R1.1.1.1
        by_cases hfull : cm 3 = 200 ∨ cm 3 = 304
        · obtain ⟨q, f554, hq⟩ := M1.2.2.2.2.2.2.2.2.2.1 n10 hfull
          obtain ⟨⟨m, hm1, hm9, hm7⟩, h8⟩ := g2 hfull
          by_cases h304 : cm 3 = 304
          · have hst := sp_settle304 (Γ := Γ) (d := d) (b := 0) R1' hpw hx1 h304 (g5 h304) kn M1.2.2.2.2.1 M1.2.2.2.2.2.2.1 hq (by rw [T_14]; exact hJ.2.2.2.2.2.2)
            refine s_FC_comeToFront_36 ?_
            refine s_FC_comeToFront_37 (by rfl) (by exact kn) ?_
            refine s_FC_comeToFront_40 (fun h40 => absurd h40 (by rw [f554] at h40; cases h40)) (fun ah40 h40 => ?_)
            refine s_FC_comeToFront_43 ?_
            refine s_FC_comeToFront_44 ?_
            refine s_FC_comeToFront_45 ?_
            refine s_FC_comeToFront_46 ?_
            refine s_FC_comeToFront_47 (by rfl) (by exact kn) ?_
            rw [f554]
            refine s_FC_comeToFront_50 (b1 := 0) (b2 := b + 2) (by rfl) (by exact x01) (ex_up (by omega) hst) ?_ (by omega)
            rintro _ _ I9 F9 ⟨rfl, rfl, X9, R9⟩
            dsimp only [Option.toList, List.cons_append, List.nil_append]
            refine s_FC_comeToFront_53 ?_
            have G9 : gx g g := gx_rfl
            have K9e : K = K := rfl
            have kx9 := R9.1.1.1
            have x39 := R9.1.1.2.2.2.1
            have t09 := R9.2.2.2.2.2.2.2.2.1.1
            obtain ⟨-, -, -, kcn9, -, -, -, -, kq9⟩ := R9.1.2.2.1 t ht
            have kqa9 : (K (a (40 + t))).1 = 34 := by rw [hR.1.2.2.1 t ht |>.2.2.2.2.2.2.2.2]
            have nsf : ∀ f c, f ∉ [422, 423, 35, 360, 361, 492, 493, 494, 495] → ¬ sfP p f c := fun f c hf h => by
              rcases h with rfl | rfl | rfl | rfl | rfl | ⟨rfl | rfl | rfl | rfl, -⟩ <;> exact hf (by decide)
            have q9 : c_q K I9 F9 g (a (30 + t)) (a (40 + t)) Q := c_q_g G9 (c_q_x X9 im_sf kcn kqa9 (nsf _ _ (by decide)) (nsf _ _ (by decide)) (fun p' w' _ hw' he => by
              have np : p' ≠ p := fun e => hdist w' hw' (by rw [← he, e]; exact hpw.1.2.1)
              refine ⟨nsf _ _ (by decide), fun h => ?_, fun h => ?_, fun h => ?_⟩
              all_goals
                rcases h with h | h | h | h | h | ⟨-, h⟩
                · exact absurd h (by decide)
                · exact absurd h (by decide)
                · exact absurd h (by decide)
                · exact absurd h (by decide)
                · exact absurd h (by decide)
                · exact np h) hq1)
            have n9 : c_n I9 (a (30 + t)) (s.1 24 t) (s.1 25 t) 0 (s.1 27 t) Q := c_n_x X9 kcn (nsf _ _ (by decide)) (nsf _ _ (by decide)) (nsf _ _ (by decide)) (nsf _ _ (by decide)) hn1
            have f9 : F9 745 (a (30 + t)) 0 = none := by rw [xw_f X9 (by decide) kcn (nsf _ _ (by decide))]; exact hf1
            have o24 : (m_an2 (m_an1 (T26 s t Q) cm w) cm w).1 24 t = s.1 24 t := by rw [an2_c (by decide), an1_c (by decide), T_1 (by decide)]
            have o25 : (m_an2 (m_an1 (T26 s t Q) cm w) cm w).1 25 t = s.1 25 t := by rw [an2_c (by decide), an1_c (by decide), T_1 (by decide)]
            have o26 : (m_an2 (m_an1 (T26 s t Q) cm w) cm w).1 26 t = 0 := by
              rw [an2_c (by decide), an1_c (by decide)]
              show (cw s 26 t 0).1 26 t = 0
              rw [cw_at]
              exact if_pos rfl
            have o27 : (m_an2 (m_an1 (T26 s t Q) cm w) cm w).1 27 t = s.1 27 t := by rw [an2_c (by decide), an1_c (by decide), T_1 (by decide)]
            have oq : (m_an2 (m_an1 (T26 s t Q) cm w) cm w).2 (100 + t) = Q := by rw [an2_2 (by omega), an1_2]; exact tu_at _ _ _
            have hb9 := sp_beginNext (Γ := Γ) (d := d) (b := 0) R9 ht (by rw [o24, o25, o26, o27, oq]; exact n9) (by rw [oq]; exact q9) (fun _ => f9) (by rw [o24]; exact J_24 hJ hN ht)
            refine s_FC_comeToFront_65 ?_
            refine s_FC_comeToFront_66 ?_
            refine s_FC_comeToFront_67 (by rfl) (by exact kx9) ?_
            refine s_FC_comeToFront_70 ?_
            refine s_FC_comeToFront_71 (by rfl) (by exact kx9) ?_
            rw [t09, x39]
            refine s_FC_comeToFront_74 (b1 := 0 + 1) (b2 := 0) (by rfl) (by exact kcn9) (ex_up (by omega) hb9) ?_ (by omega)
            rintro _ K5 I5 F5 ⟨rfl, X5, R6⟩
            dsimp only [Option.toList, List.cons_append, List.nil_append]
            refine s_FC_comeToFront_77 ?_
            refine ⟨rfl, g, ?_⟩
            rw [T_answered]
            exact R6
          · have h200 := hfull.resolve_right h304
            have hst := sp_settle200 (Γ := Γ) (d := d) (b := 0) R1' hpw hx1 h200 (g4 hfull) kn M1.2.2.2.2.1 M1.2.2.2.2.2.1 M1.2.2.2.2.2.2.1 hq hm7 hm1 hm9 h8 (by
              have hg := R1'.2.2.2.2.2.2.2.2.2
              have v := (hJ.1.1 817 (by decide)).2
              have e817 : (T26 s t Q).1 817 0 = s.1 817 0 := by rw [T_1 (by decide)]
              rw [← e817, hg.2.2.1, nI_toInt (by have := hg.2.2.2.1; omega)] at v
              omega)
            refine s_FC_comeToFront_36 ?_
            refine s_FC_comeToFront_37 (by rfl) (by exact kn) ?_
            refine s_FC_comeToFront_40 (fun h40 => absurd h40 (by rw [f554] at h40; cases h40)) (fun ah40 h40 => ?_)
            refine s_FC_comeToFront_43 ?_
            refine s_FC_comeToFront_44 ?_
            refine s_FC_comeToFront_45 ?_
            refine s_FC_comeToFront_46 ?_
            refine s_FC_comeToFront_47 (by rfl) (by exact kn) ?_
            rw [f554]
            refine s_FC_comeToFront_50 (b1 := 0 + 1) (b2 := b + 1) (by rfl) (by exact x01) (ex_up (by omega) hst) ?_ (by omega)
            rintro _ K9 I9 F9 ⟨rfl, g9, G9, X9, R9⟩
            dsimp only [Option.toList, List.cons_append, List.nil_append]
            refine s_FC_comeToFront_53 ?_
            have kx9 := R9.1.1.1
            have x39 := R9.1.1.2.2.2.1
            have t09 := R9.2.2.2.2.2.2.2.2.1.1
            obtain ⟨-, -, -, kcn9, -, -, -, -, kq9⟩ := R9.1.2.2.1 t ht
            have kqa9 : (K (a (40 + t))).1 = 34 := by rw [hR.1.2.2.1 t ht |>.2.2.2.2.2.2.2.2]
            have nsf : ∀ f c, f ∉ [422, 423, 35, 360, 361, 492, 493, 494, 495] → ¬ sfP p f c := fun f c hf h => by
              rcases h with rfl | rfl | rfl | rfl | rfl | ⟨rfl | rfl | rfl | rfl, -⟩ <;> exact hf (by decide)
            have q9 : c_q K9 I9 F9 g9 (a (30 + t)) (a (40 + t)) Q := c_q_g G9 (c_q_x X9 im_sf kcn kqa9 (nsf _ _ (by decide)) (nsf _ _ (by decide)) (fun p' w' _ hw' he => by
              have np : p' ≠ p := fun e => hdist w' hw' (by rw [← he, e]; exact hpw.1.2.1)
              refine ⟨nsf _ _ (by decide), fun h => ?_, fun h => ?_, fun h => ?_⟩
              all_goals
                rcases h with h | h | h | h | h | ⟨-, h⟩
                · exact absurd h (by decide)
                · exact absurd h (by decide)
                · exact absurd h (by decide)
                · exact absurd h (by decide)
                · exact absurd h (by decide)
                · exact np h) hq1)
            have n9 : c_n I9 (a (30 + t)) (s.1 24 t) (s.1 25 t) 0 (s.1 27 t) Q := c_n_x X9 kcn (nsf _ _ (by decide)) (nsf _ _ (by decide)) (nsf _ _ (by decide)) (nsf _ _ (by decide)) hn1
            have f9 : F9 745 (a (30 + t)) 0 = none := by rw [xw_f X9 (by decide) kcn (nsf _ _ (by decide))]; exact hf1
            have o24 : (m_an2 (m_an1 (T26 s t Q) cm w) cm w).1 24 t = s.1 24 t := by rw [an2_c (by decide), an1_c (by decide), T_1 (by decide)]
            have o25 : (m_an2 (m_an1 (T26 s t Q) cm w) cm w).1 25 t = s.1 25 t := by rw [an2_c (by decide), an1_c (by decide), T_1 (by decide)]
            have o26 : (m_an2 (m_an1 (T26 s t Q) cm w) cm w).1 26 t = 0 := by
              rw [an2_c (by decide), an1_c (by decide)]
              show (cw s 26 t 0).1 26 t = 0
              rw [cw_at]
              exact if_pos rfl
            have o27 : (m_an2 (m_an1 (T26 s t Q) cm w) cm w).1 27 t = s.1 27 t := by rw [an2_c (by decide), an1_c (by decide), T_1 (by decide)]
            have oq : (m_an2 (m_an1 (T26 s t Q) cm w) cm w).2 (100 + t) = Q := by rw [an2_2 (by omega), an1_2]; exact tu_at _ _ _
            have hb9 := sp_beginNext (Γ := Γ) (d := d) (b := 0) R9 ht (by rw [o24, o25, o26, o27, oq]; exact n9) (by rw [oq]; exact q9) (fun _ => f9) (by rw [o24]; exact J_24 hJ hN ht)
            refine s_FC_comeToFront_65 ?_
            refine s_FC_comeToFront_66 ?_
            refine s_FC_comeToFront_67 (by rfl) (by exact kx9) ?_
            refine s_FC_comeToFront_70 ?_
            refine s_FC_comeToFront_71 (by rfl) (by exact kx9) ?_
            rw [t09, x39]
            refine s_FC_comeToFront_74 (b1 := 0 + 1) (b2 := 0) (by rfl) (by exact kcn9) (ex_up (by omega) hb9) ?_ (by omega)
            rintro _ K5 I5 F5 ⟨rfl, X5, R6⟩
            dsimp only [Option.toList, List.cons_append, List.nil_append]
            refine s_FC_comeToFront_77 ?_
            refine ⟨rfl, g9, ?_⟩
            rw [T_answered]
            exact R6
        · have f554 := M1.2.2.2.2.2.2.2.2.2.2 n10 hfull
          have hoth : cm 3 = 204 ∨ cm 3 = 404 := by
            rcases g1 with e | e | e | e
            · exact absurd (Or.inl e) hfull
            · exact absurd (Or.inr e) hfull
            · exact Or.inl e
            · exact Or.inr e
          have hst := sp_settleO (Γ := Γ) (d := d) (b := 0) R1' hpw hx1 hoth
          have e551 : I1 551 mp 0 = cm 3 := M1.2.2.2.2.1
          refine s_FC_comeToFront_36 ?_
          refine s_FC_comeToFront_37 (by rfl) (by exact kn) ?_
          refine s_FC_comeToFront_40 (fun h40 => ?_) (fun _ h40 => absurd h40 (by intro z; rw [f554] at z; cases z))
          refine s_FC_comeToFront_56 ?_
          refine s_FC_comeToFront_57 ?_
          refine s_FC_comeToFront_58 ?_
          refine s_FC_comeToFront_59 (by rfl) (by exact kn) ?_
          rw [e551]
          refine s_FC_comeToFront_62 (b1 := 0) (b2 := b + 2) (by rfl) (by exact x01) (ex_up (by omega) hst) ?_ (by omega)
          rintro _ _ I9 F9 ⟨rfl, rfl, X9, R9⟩
          dsimp only [Option.toList, List.cons_append, List.nil_append]
          have G9 : gx g g := gx_rfl
          have kx9 := R9.1.1.1
          have x39 := R9.1.1.2.2.2.1
          have t09 := R9.2.2.2.2.2.2.2.2.1.1
          obtain ⟨-, -, -, kcn9, -, -, -, -, kq9⟩ := R9.1.2.2.1 t ht
          have kqa9 : (K (a (40 + t))).1 = 34 := by rw [hR.1.2.2.1 t ht |>.2.2.2.2.2.2.2.2]
          have nsf : ∀ f c, f ∉ [422, 423, 35, 360, 361, 492, 493, 494, 495] → ¬ sfP p f c := fun f c hf h => by
            rcases h with rfl | rfl | rfl | rfl | rfl | ⟨rfl | rfl | rfl | rfl, -⟩ <;> exact hf (by decide)
          have q9 : c_q K I9 F9 g (a (30 + t)) (a (40 + t)) Q := c_q_g G9 (c_q_x X9 im_sf kcn kqa9 (nsf _ _ (by decide)) (nsf _ _ (by decide)) (fun p' w' _ hw' he => by
            have np : p' ≠ p := fun e => hdist w' hw' (by rw [← he, e]; exact hpw.1.2.1)
            refine ⟨nsf _ _ (by decide), fun h => ?_, fun h => ?_, fun h => ?_⟩
            all_goals
              rcases h with h | h | h | h | h | ⟨-, h⟩
              · exact absurd h (by decide)
              · exact absurd h (by decide)
              · exact absurd h (by decide)
              · exact absurd h (by decide)
              · exact absurd h (by decide)
              · exact np h) hq1)
          have n9 : c_n I9 (a (30 + t)) (s.1 24 t) (s.1 25 t) 0 (s.1 27 t) Q := c_n_x X9 kcn (nsf _ _ (by decide)) (nsf _ _ (by decide)) (nsf _ _ (by decide)) (nsf _ _ (by decide)) hn1
          have f9 : F9 745 (a (30 + t)) 0 = none := by rw [xw_f X9 (by decide) kcn (nsf _ _ (by decide))]; exact hf1
          have o24 : (m_an2 (m_an1 (T26 s t Q) cm w) cm w).1 24 t = s.1 24 t := by rw [an2_c (by decide), an1_c (by decide), T_1 (by decide)]
          have o25 : (m_an2 (m_an1 (T26 s t Q) cm w) cm w).1 25 t = s.1 25 t := by rw [an2_c (by decide), an1_c (by decide), T_1 (by decide)]
          have o26 : (m_an2 (m_an1 (T26 s t Q) cm w) cm w).1 26 t = 0 := by
            rw [an2_c (by decide), an1_c (by decide)]
            show (cw s 26 t 0).1 26 t = 0
            rw [cw_at]
            exact if_pos rfl
          have o27 : (m_an2 (m_an1 (T26 s t Q) cm w) cm w).1 27 t = s.1 27 t := by rw [an2_c (by decide), an1_c (by decide), T_1 (by decide)]
          have oq : (m_an2 (m_an1 (T26 s t Q) cm w) cm w).2 (100 + t) = Q := by rw [an2_2 (by omega), an1_2]; exact tu_at _ _ _
          have hb9 := sp_beginNext (Γ := Γ) (d := d) (b := 0) R9 ht (by rw [o24, o25, o26, o27, oq]; exact n9) (by rw [oq]; exact q9) (fun _ => f9) (by rw [o24]; exact J_24 hJ hN ht)
          refine s_FC_comeToFront_65 ?_
          refine s_FC_comeToFront_66 ?_
          refine s_FC_comeToFront_67 (by rfl) (by exact kx9) ?_
          refine s_FC_comeToFront_70 ?_
          refine s_FC_comeToFront_71 (by rfl) (by exact kx9) ?_
          rw [t09, x39]
          refine s_FC_comeToFront_74 (b1 := 0 + 1) (b2 := 0) (by rfl) (by exact kcn9) (ex_up (by omega) hb9) ?_ (by omega)
          rintro _ K5 I5 F5 ⟨rfl, X5, R6⟩
          dsimp only [Option.toList, List.cons_append, List.nil_append]
          refine s_FC_comeToFront_77 ?_
          refine ⟨rfl, g, ?_⟩
          rw [T_answered]
          exact R6
      · rw [if_neg h24]
        have hfn := sp_finish_no (Γ := Γ) (d := d) (b := 0) (x := cm 2) hR ht (fun w Q e => h24)
        refine s_FC_comeToFront_0 ?_
        refine s_FC_comeToFront_1 (by first | rfl | assumption | (simp [*]; done)) (by first | rfl | assumption | (simp [*]; done)) ?_
        refine s_FC_comeToFront_4 ?_
        refine s_FC_comeToFront_5 (by first | rfl | assumption | (simp [*]; done)) (by first | rfl | assumption | (simp [*]; done)) ?_
        rw [m0]
        refine s33_FC_comeToFront_8 (by exact x7) (by exact kc) (by rw [kc2]; exact vp_in_nI ht (by omega)) ?_
        rw [nI_clamp (by omega), t3]
        refine s_FC_comeToFront_9 ?_
        refine s_FC_comeToFront_10 ?_
        refine s_FC_comeToFront_11 (by rfl) (by exact km) ?_
        refine s_FC_comeToFront_14 (fun h14 => ?_) (fun h14 => absurd h14 (by rw [m2]; exact h2))
        refine s_FC_comeToFront_22 ?_
        refine s_FC_comeToFront_23 ?_
        refine s_FC_comeToFront_24 (by first | rfl | assumption | (simp [*]; done)) (by first | rfl | assumption | (simp [*]; done)) ?_
        rw [m2]
        refine s_FC_comeToFront_27 (b1 := 0) (b2 := b + 2) (by rfl) (by exact kcn) (ex_up (by omega) hfn) ?_ (by omega)
        rintro _ _ _ _ ⟨rfl, rfl, rfl, rfl⟩
        dsimp only [Option.toList, List.cons_append, List.nil_append]
        refine s_FC_comeToFront_30 ?_
        refine s_FC_comeToFront_31 ?_
        refine s_FC_comeToFront_32 (fun _ h32 => absurd h32 (by intro z; cases z)) (fun h32 => ?_)
        refine s_FC_comeToFront_35 ?_
        exact ⟨rfl, g, hR⟩
