/-! The class: answers are settled -/
def sfP (p : Nat) : Nat → Nat → Prop := fun f c => f = 422 ∨ f = 423 ∨ f = 35 ∨ f = 360 ∨ f = 361 ∨ ((f = 492 ∨ f = 493 ∨ f = 494 ∨ f = 495) ∧ c = p)
theorem im_sf {p : Nat} : imm (sfP p) := fun f q h => by rcases h with rfl | rfl | rfl | rfl | rfl | ⟨rfl | rfl | rfl | rfl, -⟩ <;> decide
theorem sf_st {p : Nat} {K K' : ex_K} {I I' : ex_I} {F F' : ex_F} (h : xw stP K I F K' I' F') : xw (sfP p) K I F K' I' F' := xw_mono h (fun f c _ w => by rcases w with w | w | w <;> simp [sfP, w])
theorem xs_of {K : ex_K} {I I' : ex_I} {F F' : ex_F} (h : st_fr I F I' F') : xw stP K I F K I' F' := xw_st h (fun _ => Or.inl rfl) (fun _ => Or.inr (Or.inl rfl)) (fun _ => Or.inr (Or.inr rfl))
theorem ns_of {f q : Nat} (h1 : f ≠ 422) (h2 : f ≠ 423) (h3 : f ≠ 35) : ¬ stP f q := fun w => by rcases w with w | w | w <;> contradiction
theorem Er_st {K : ex_K} {I I' : ex_I} {F F' : ex_F} {g : GH} {p : Nat} {row : Nat → Int32} (h : st_fr I F I' F') (he : Er K I F g p row) : Er K I' F' g p row := Er_x (xs_of h) im_st (ns_of (by decide) (by decide) (by decide)) (ns_of (by decide) (by decide) (by decide)) he
/-- rows are dropped -/
theorem Rc_filt {K : ex_K} {I I' : ex_I} {F F' : ex_F} {a : Nat → Nat} {g : GH} {z c : Nat} {s : MS} {S : List Nat} {P1 : Nat → Bool} {P2 : (Nat → Int32) → Bool} (hR : Rc K I F a g z s) (e1 : s.1 804 0 = nI c) (e3 : f2 (Er K I F g) S (s.2 14)) (hf : st_fr I F I' F') (hs : st_rep K I' F' (a 3) (a 4) c (S.filter P1)) (hp : ∀ p row, Er K I F g p row → P1 p = P2 row) : Rc K I' F' a g z (tu s 14 ((s.2 14).filter P2)) :=
  Rc_st1 hR (xs_of hf) ⟨_, c, e1, hs, by rw [tu_at]; exact f2_mono (fun p _ row h => Er_st hf h) (f2_filter hp e3)⟩
theorem sp_settleO {Γ : ex_G} {d : Nat} {K : ex_K} {I : ex_I} {F : ex_F} {b : Nat} {t p : Nat} {a : Nat → Nat} {g : GH} {s : MS} {cm w : Nat → Int32} (hR : Rc K I F a g t s) (hp : Rw K I F g p w) (hx : ∀ u, u < 3 → u ≠ t → ∀ w', w' ∈ s.2 (100 + u) → ¬ w' 0 = w 0) (hc : cm 3 = 204 ∨ cm 3 = 404) :
    ex_E Γ (d + 2) M_FC_settleOther 0 [some (.inr (some (a 0))), some (.inr (some p)), some (.inl (cm 3))] [] K I F b (fun r K' I' F' => r = none ∧ K = K' ∧ xw (sfP p) K I F K I' F' ∧ Rc K I' F' a g t (m_an2 (m_an1 s cm w) cm w)) := by
  obtain ⟨x0, x1, x2, x3, x4, x5, x6, x7, x8⟩ := hR.1.1
  have kp := hp.1.1
  have n200 : ¬ cm 3 = 200 := by rcases hc with e | e <;> rw [e] <;> decide
  have n304 : ¬ cm 3 = 304 := by rcases hc with e | e <;> rw [e] <;> decide
  have ea1 : m_an1 s cm w = m_rep s (w 0) (cm 3) 0 0 0 := by unfold m_an1; rw [if_neg (fun z => z.elim n200 n304)]
  have R1 : Rc K (ex_ui I 492 p 0 (cm 3)) F a g t (m_an1 s cm w) := by rw [ea1]; exact Rc_stat hR hp hx
  have X1 : xw (sfP p) K I F K (ex_ui I 492 p 0 (cm 3)) F := xw_ui (by simp [sfP])
  have a5 : ex_ui I 492 p 0 (cm 3) 485 p 0 = w 1 := by rw [ex_ui_f _ _ _ _ (by decide)]; exact hp.1.2.2.1
  have a6 : ex_ui I 492 p 0 (cm 3) 486 p 0 = w 2 := by rw [ex_ui_f _ _ _ _ (by decide)]; exact hp.1.2.2.2.1
  have a7 : ex_ui I 492 p 0 (cm 3) 487 p 0 = w 3 := by rw [ex_ui_f _ _ _ _ (by decide)]; exact hp.1.2.2.2.2.1
  unfold m_an2
  rw [if_neg n200, if_neg n304]
  refine s_FC_settleOther_0 ?_
  refine s_FC_settleOther_1 ?_
  refine s_FC_settleOther_2 (by first | rfl | assumption | (simp [*]; done)) (by first | rfl | assumption | (simp [*]; done)) ?_
  generalize ex_ui I 492 p 0 (cm 3) = I1 at R1 X1 a5 a6 a7 ⊢
  generalize m_an1 s cm w = s1 at R1 ⊢
  obtain ⟨S, c, e1, e2, e3⟩ := R1.2.2.1
  refine s_FC_settleOther_5 ?_
  refine s_FC_settleOther_6 ?_
  refine s_FC_settleOther_9 (fun h9 => ?_) (fun h9 => ?_)
  · refine s_FC_settleOther_26 ?_
    refine s_FC_settleOther_27 (by first | rfl | assumption | (simp [*]; done)) (by first | rfl | assumption | (simp [*]; done)) ?_
    refine s_FC_settleOther_30 ?_
    refine s_FC_settleOther_31 (fun h31 => ?_) (fun h31 => ?_)
    · refine s_FC_settleOther_49 ?_
      rw [a5] at h31
      rw [if_neg h9, if_neg (fun z => h31 z.2)]
      exact ⟨rfl, rfl, X1, R1⟩
    · refine s_FC_settleOther_34 ?_
      refine s_FC_settleOther_35 (by first | rfl | assumption | (simp [*]; done)) (by first | rfl | assumption | (simp [*]; done)) ?_
      refine s_FC_settleOther_38 ?_
      refine s_FC_settleOther_39 (by first | rfl | assumption | (simp [*]; done)) (by first | rfl | assumption | (simp [*]; done)) ?_
      refine s_FC_settleOther_42 ?_
      refine s_FC_settleOther_43 (by first | rfl | assumption | (simp [*]; done)) (by first | rfl | assumption | (simp [*]; done)) ?_
      rw [a6, a7]
      refine s_FC_settleOther_46 (b1 := 0) (b2 := b) (by exact x2) (by exact e2.1) (ex_up (by omega) (sp_removeMatching (d := d) e2)) ?_ (by omega)
      rintro _ _ I2 F2 ⟨rfl, rfl, f2', g2⟩
      dsimp only [Option.toList, List.cons_append, List.nil_append]
      refine s_FC_settleOther_49 ?_
      rw [a5] at h31
      rw [if_neg h9, if_pos ⟨hc.resolve_left h9, h31⟩]
      exact ⟨rfl, rfl, xw_trans X1 (sf_st (xs_of f2')), Rc_filt R1 e1 e3 f2' g2 (fun p row h => by rw [mE_mtb _ _ h]; rfl)⟩
  · refine s_FC_settleOther_12 ?_
    refine s_FC_settleOther_13 (by first | rfl | assumption | (simp [*]; done)) (by first | rfl | assumption | (simp [*]; done)) ?_
    refine s_FC_settleOther_16 ?_
    refine s_FC_settleOther_17 (by first | rfl | assumption | (simp [*]; done)) (by first | rfl | assumption | (simp [*]; done)) ?_
    rw [a6]
    refine s_FC_settleOther_20 (b1 := 0) (b2 := b) (by exact x2) (by exact e2.1) (ex_up (by omega) (sp_removePath (d := d) e2)) ?_ (by omega)
    rintro _ _ I2 F2 ⟨rfl, rfl, f2', g2⟩
    dsimp only [Option.toList, List.cons_append, List.nil_append]
    refine s_FC_settleOther_23 ?_
    refine s_FC_settleOther_49 ?_
    rw [if_pos h9]
    exact ⟨rfl, rfl, xw_trans X1 (sf_st (xs_of f2')), Rc_filt R1 e1 e3 f2' g2 (fun p row h => by rw [mE_path _ h]; rfl)⟩
theorem sp_settle304 {Γ : ex_G} {d : Nat} {K : ex_K} {I : ex_I} {F : ex_F} {b : Nat} {t p q mp : Nat} {a : Nat → Nat} {g : GH} {s : MS} {cm w : Nat → Int32} (hR : Rc K I F a g t s) (hp : Rw K I F g p w) (hx : ∀ u, u < 3 → u ≠ t → ∀ w', w' ∈ s.2 (100 + u) → ¬ w' 0 = w 0) (h3 : cm 3 = 304) (h7 : ¬ w 7 = 0) (hm : (K mp).1 = 8) (m3 : I 551 mp 0 = cm 3) (m14 : I 555 mp 0 = cm 14) (hq : Rs K I F q (cm 9) (cm 7) (cm 8) (fun j => cm (10 + j))) (hpw : (s.2 14).Pairwise (fun r r' => ¬ r 0 = r' 0)) :
    ex_E Γ (d + 5) M_FC_settleFound 0 [some (.inr (some (a 0))), some (.inr (some p)), some (.inr (some mp)), some (.inr (some q)), none] [] K I F b (fun r K' I' F' => r = none ∧ K = K' ∧ xw (sfP p) K I F K I' F' ∧ Rc K I' F' a g t (m_an2 (m_an1 s cm w) cm w)) := by
  obtain ⟨x0, x1, x2, x3, x4, x5, x6, x7, x8⟩ := hR.1.1
  have kp := hp.1.1
  have t0 := hR.2.2.2.2.2.2.2.2.1.1
  have hg := hR.2.2.2.2.2.2.2.2.2
  have hp0 := hp
  obtain ⟨⟨-, -, -, -, -, -, e9, e8, -⟩, z3, z4, z5, r, r1, r2, r3, r4⟩ := hp0
  rcases e8 with ⟨-, e, -⟩ | ⟨k, k1, k2, k3, k4, k5, k6⟩
  · exact absurd e h7
  obtain ⟨q1, q2, q3, q4, zc, q5, y, q6, q7, q8⟩ := hq
  have nf : cm 3 = 200 ∨ cm 3 = 304 := Or.inr h3
  have ea1 : m_an1 s cm w = m_rep s (w 0) (if w 7 = w 4 then 304 else 200) (w 7) (s.1 805 0 - cm 14) 3 := by
    unfold m_an1
    rw [if_pos nf, if_pos h3, if_neg (show ¬ cm 3 = 200 by rw [h3]; decide)]
  have xa : xw (lP [(360, g.1 k), (361, g.1 k)]) K I F K (ex_ui I 361 (g.1 k) 0 (cm 14)) (ex_uf F 360 (g.1 k) 0 (some zc)) := xw_trans (xw_uf (by simp [lP])) (xw_ui (by simp [lP]))
  have ia : imm (lP [(360, g.1 k), (361, g.1 k)]) := im_l (by simp [xmut])
  have hN := hg.2.2.2.1
  have y1 := ct_x xa ia q6
  have R1 : Rc K (ex_ui I 361 (g.1 k) 0 (cm 14)) (ex_uf F 360 (g.1 k) 0 (some zc)) a g t (tu s 14 ((s.2 14).map (cfr (w 6) cm))) := by
    obtain ⟨S, c, s1, s2, s3⟩ := hR.2.2.1
    refine Rc_gen hR xa ia (Or.inl ⟨⟨by simp [lP], by simp [lP]⟩, rfl, rfl⟩) (Or.inr ⟨S, c, s1, st_rep_x xa ia (by simp [lP]) (by simp [lP]) (by simp [lP]) s2, ?_⟩) (Or.inl ⟨⟨by simp [lP], by simp [lP]⟩, tu_ne _ _ (by decide)⟩) (Or.inl ⟨by simp [lP], rfl, rfl, rfl, rfl⟩) (fun u hu _ => Or.inl ⟨⟨by simp [lP], by simp [lP], by simp [lP]⟩, rfl, rfl, rfl⟩) (fun u hu hz => Or.inl ⟨by simp [cnP, lP], nqP_all (fun _ => by simp [lP]) (fun _ => by simp [lP]) (fun _ => by simp [lP]) (fun _ => by simp [lP]) _, rfl, rfl, rfl, rfl, tu_ne _ _ (by omega)⟩) (Or.inl ⟨by simp [lP], fun _ _ => ⟨by simp [lP], by simp [lP], by simp [lP], by simp [lP]⟩, rfl, rfl, rfl, rfl⟩) (Or.inl ⟨⟨by simp [lP], by simp [lP], by simp [lP]⟩, rfl, rfl, rfl⟩) ⟨rfl, rfl⟩
    rw [tu_at]
    refine f2_mapr _ (fun p' row h => ?_) s3
    have h0 := h
    obtain ⟨hE, k', j1, j2, j3, j4⟩ := h0
    unfold cfr
    by_cases e : row 0 = w 6
    · rw [if_pos e]
      have ek : k' = k := (nI_eq (by omega) (by omega)).mp (by rw [← j1, e, k1])
      subst ek
      subst j4
      obtain ⟨n1, n2, n3, n4, n5, ⟨q', c', n6, n7⟩, -⟩ := hE
      refine ⟨⟨n1, ?_, ?_, ?_, ?_, ⟨q', c', ?_, Rs_x xa ia n7⟩, zc, ?_, ?_⟩, k', j1, j2, j3, rfl⟩
      · rw [ex_ui_f _ _ _ _ (by decide)]; exact n2
      · rw [ex_ui_f _ _ _ _ (by decide)]; exact n3
      · rw [ex_ui_f _ _ _ _ (by decide)]; exact n4
      · rw [ex_ui_eq]; rfl
      · rw [ex_uf_f _ _ _ _ (by decide)]; exact n6
      · rw [ex_uf_eq]
      · refine Ctl_x xa ia ⟨y, q6, q7, fun j hj => ?_⟩
        rw [q8 j hj]
        rcases (by omega : j = 0 ∨ j = 1 ∨ j = 2 ∨ j = 3) with rfl | rfl | rfl | rfl <;> rfl
    · rw [if_neg e]
      have np : p' ≠ g.1 k := fun w' => e (by
        have := (hg.2.2.2.2 k k2 k3).2 k' j2 j3 (by rw [j4, w'])
        rw [j1, this, k1])
      exact Er_x xa ia (by simp [lP, np]) (by simp [lP, np]) h
  have b1 : ex_ui I 361 (g.1 k) 0 (cm 14) 361 (g.1 k) 0 = cm 14 := ex_ui_eq _ _ _ _ _
  have b2 : ex_ui I 361 (g.1 k) 0 (cm 14) 359 (g.1 k) 0 = w 7 := by rw [ex_ui_f _ _ _ _ (by decide)]; exact k6
  have b3 : ex_ui I 361 (g.1 k) 0 (cm 14) 108 (a 0) 0 = s.1 805 0 := by rw [ex_ui_f _ _ _ _ (by decide)]; exact t0
  have b4 : ex_ui I 361 (g.1 k) 0 (cm 14) 489 p 0 = w 4 := by rw [ex_ui_f _ _ _ _ (by decide)]; exact e9
  have b5 : ex_uf F 360 (g.1 k) 0 (some zc) 360 (g.1 k) 0 = some zc := ex_uf_eq _ _ _ _ _
  have b6 : ex_ui I 361 (g.1 k) 0 (cm 14) 21 y = I 21 y := y1.2
  have XA : xw (sfP p) K I F K (ex_ui I 361 (g.1 k) 0 (cm 14)) (ex_uf F 360 (g.1 k) 0 (some zc)) := xw_trans (xw_uf (by simp [sfP])) (xw_ui (by simp [sfP]))
  refine s_FC_settleFound_0 ?_
  refine s_FC_settleFound_1 (by first | rfl | assumption | (simp [*]; done)) (by first | rfl | assumption | (simp [*]; done)) ?_
  refine s_FC_settleFound_4 ?_
  refine s_FC_settleFound_6 ?_
  refine s_FC_settleFound_7 (by rfl) (by exact hm) ?_
  refine s_FC_settleFound_10 ?_
  refine s_FC_settleFound_13 (fun h13 => absurd h13 (by rw [m3, h3]; exact fun z => z rfl)) (fun h13 => ?_)
  refine s_FC_settleFound_16 ?_
  refine s_FC_settleFound_18 (fun h18 => absurd h18 (by rw [k4] at h18; cases h18)) (fun ah18 h18 => ?_)
  refine s_FC_settleFound_21 ?_
  refine s_FC_settleFound_23 ?_
  refine s_FC_settleFound_24 (by rfl) (by exact q1) ?_
  refine s_FC_settleFound_27 (by exact k4) (by exact k5) ?_
  refine s_FC_settleFound_30 ?_
  refine s_FC_settleFound_32 ?_
  refine s_FC_settleFound_33 (by rfl) (by exact hm) ?_
  refine s_FC_settleFound_36 (by exact k4) (by exact k5) ?_
  rw [q5, m14, k4]
  have y1' := y1.1
  generalize ex_ui I 361 (g.1 k) 0 (cm 14) = I1 at R1 b1 b2 b3 b4 b6 XA xa y1' ⊢
  generalize ex_uf F 360 (g.1 k) 0 (some zc) = F1 at R1 b5 XA xa y1' ⊢
  refine s_FC_settleFound_39 ?_
  refine s_FC_settleFound_40 ?_
  refine s_FC_settleFound_42 (by rfl) (by exact k5) ?_
  refine s_FC_settleFound_45 ?_
  refine s_FC_settleFound_47 ?_
  refine s_FC_settleFound_48 (by first | rfl | assumption | (simp [*]; done)) (by first | rfl | assumption | (simp [*]; done)) ?_
  rw [b2, b3]
  refine s_FC_settleFound_51 (b1 := 0) (b2 := b) (by rfl) (by exact k5) (ex_up (d := d) (by omega) (sp_age k5)) ?_ (by omega)
  rintro _ _ _ _ ⟨rfl, rfl, rfl, rfl⟩
  dsimp only [Option.toList, List.cons_append, List.nil_append]
  rw [b1]
  refine s_FC_settleFound_54 ?_
  refine s_FC_settleFound_55 (b1 := 0) (b2 := b) (by rfl) (by exact kp) (ex_up (d := d) (by omega) (sp_answerOk kp b4)) ?_ (by omega)
  rintro _ _ I2 _ ⟨rfl, rfl, rfl, x2', a1, a2, a3, a4⟩
  dsimp only [Option.toList, List.cons_append, List.nil_append]
  have xr : xw (rP g r) K I1 F1 K I2 F1 := by rw [← r4] at x2'; exact x2'
  have R2 := Rc_rep (c := if w 7 = w 4 then 304 else 200) (t1 := w 7) (ag := s.1 805 0 - cm 14) (w := 3) R1 r2 r3 xr (by rw [r4]; exact a1) (by rw [r4]; exact a2) (by rw [r4]; exact a3) (by rw [r4]; exact a4) (fun u hu hut w' hw' => by
    rw [tu_ne _ _ (by omega)] at hw'
    rw [← r1]
    exact hx u hu hut w' hw')
  rw [← r1, m_rep_tu, ← ea1] at R2
  have XB : xw (sfP p) K I F K I2 F1 := xw_trans XA (xw_mono x2' (fun f c _ h => by simp only [sfP]; exact Or.inr (Or.inr (Or.inr (Or.inr (Or.inr h))))))
  have q14 : (m_an1 s cm w).2 14 = s.2 14 := by rw [an1_2]
  have i21 : I2 21 y = I 21 y := by rw [xw_i x2' (k := 21) (by decide) (by rw [q6.2.2]) (fun w => by rcases w with ⟨w | w | w | w, -⟩ <;> exact absurd w (by decide)), b6]
  obtain ⟨S, c, s1, s2, s3⟩ := R2.2.2.1
  rw [tu_at] at s3
  have hsc := sp_sconfirm (Γ := Γ) (d := d) (b := 0) s2 k5 b5 y1'
  have hal : alw (I2 21 y) = stb (cm 10) (cm 11) := by rw [i21, ← alw_stb _ q7, q8 0 (by decide), q8 1 (by decide)]
  rw [hal] at hsc
  have x2s : F1 101 (a 0) 0 = some (a 3) := by rw [xw_f xa (by decide) x0 (by simp [lP])]; exact x2
  refine s_FC_settleFound_58 ?_
  refine s_FC_settleFound_59 (by first | rfl | assumption | (simp [*]; done)) (by first | rfl | assumption | (simp [*]; done)) ?_
  refine s_FC_settleFound_62 ?_
  refine s_FC_settleFound_64 (b1 := 0) (b2 := b) (by exact x2s) (by exact s2.1) (hsc) ?_ (by omega)
  rintro _ _ I3 F3 ⟨rfl, rfl, f3, g3⟩
  dsimp only [Option.toList, List.cons_append, List.nil_append]
  refine s_FC_settleFound_67 ?_
  refine ⟨rfl, rfl, xw_trans XB (sf_st (xs_of f3)), ?_⟩
  unfold m_an2
  rw [if_neg (by rw [h3]; decide), if_pos h3, q14]
  have hfx : fix (fun p' => decide (p' = g.1 k)) S 0 = fix (fun row => decide (row 0 = w 6)) (s.2 14) 0 := by
    have e1 : fix (fun p' => decide (p' = g.1 k)) S 0 = fix (fun row => decide (row 0 = w 6)) ((s.2 14).map (cfr (w 6) cm)) 0 := f2_fix (fun p' row h => by
      obtain ⟨-, k', j1, j2, j3, j4⟩ := h
      have hiff : p' = g.1 k ↔ row 0 = w 6 := by
        constructor
        · intro e
          have := (hg.2.2.2.2 k k2 k3).2 k' j2 j3 (by rw [j4, e])
          rw [j1, this, k1]
        · intro e
          have ek : k' = k := (nI_eq (by omega) (by omega)).mp (by rw [← j1, e, k1])
          rw [← j4, ek]
      by_cases e : p' = g.1 k
      · rw [decide_eq_true e, decide_eq_true (hiff.mp e)]
      · rw [decide_eq_false e, decide_eq_false (fun z => e (hiff.mpr z))]) 0 s3
    rw [e1]
    have e2 : ∀ (M : List (Nat → Int32)) i, fix (fun row => decide (row 0 = w 6)) (M.map (cfr (w 6) cm)) i = fix (fun row => decide (row 0 = w 6)) M i := by
      intro M
      induction M with
      | nil => intro i; rfl
      | cons x M ih =>
        intro i
        rw [List.map_cons, fix, fix, ih]
        have : cfr (w 6) cm x 0 = x 0 := by
          unfold cfr
          split <;> rfl
        rw [this]
    exact e2 _ _
  unfold cfS at g3
  rw [hfx] at g3
  unfold m_conf
  cases hfi : fix (fun row => decide (row 0 = w 6)) (s.2 14) 0 with
  | none =>
    rw [hfi] at g3
    have em := cfr_none (cm := cm) hfi
    rw [em] at R2 s3
    have ei : tu (m_an1 s cm w) 14 (s.2 14) = m_an1 s cm w := by rw [← q14]; exact tu_id _ _
    have R3 := Rc_st1 (L := s.2 14) R2 (xs_of f3) ⟨S, c, s1, g3, by rw [tu_at]; exact f2_mono (fun p _ row h => Er_st f3 h) s3⟩
    rw [ei] at R3
    rw [ei] at R3
    exact R3
  | some e =>
    rw [hfi] at g3
    simp only [] at g3 ⊢
    obtain ⟨-, row, hrow, hrn⟩ := fix_lt _ _ _ _ hfi
    rw [Nat.sub_zero] at hrow
    have hrn' : row 0 = w 6 := by simpa using hrn
    rw [q14, hrow]
    simp only []
    have her := cfr_erase (cm := cm) hpw hrow hrn'
    have hrm : ((s.2 14).map (cfr (w 6) cm))[e]? = some (crw row cm) := by
      rw [List.getElem?_map, hrow]
      show some (cfr (w 6) cm row) = _
      unfold cfr
      rw [if_pos hrn']
    obtain ⟨pe, hpe, hEe⟩ := f2_getr s3 hrm
    have hpek : pe = g.1 k := by
      obtain ⟨-, k', j1, j2, j3, j4⟩ := hEe
      have ek : k' = k := (nI_eq (by omega) (by omega)).mp (by rw [← j1, show crw row cm 0 = row 0 from rfl, hrn', k1])
      rw [← j4, ek]
    rw [hpek] at hEe
    have base : f2 (Er K I3 F3 g) (S.eraseIdx e) ((s.2 14).eraseIdx e) := by
      have := f2_erase e (f2_mono (fun p _ row h => Er_st f3 h) s3)
      rw [her] at this
      exact this
    by_cases hst : stb (cm 10) (cm 11) = true
    · rw [if_pos hst] at g3
      have hbi : bi (stb (cm 10) (cm 11)) = 1 := by unfold bi; rw [if_pos hst]
      rw [hbi, if_neg (by decide)]
      have R3 := Rc_st1 (L := (s.2 14).eraseIdx e ++ [crw row cm]) R2 (xs_of f3) ⟨_, c, s1, g3, by rw [tu_at]; exact f2_app base ⟨Er_st f3 hEe, trivial⟩⟩
      rw [tu_tu] at R3
      exact R3
    · rw [if_neg hst] at g3
      have hbi : bi (stb (cm 10) (cm 11)) = 0 := by unfold bi; rw [if_neg hst]
      rw [hbi, if_pos rfl]
      have R3 := Rc_st1 (L := (s.2 14).eraseIdx e) R2 (xs_of f3) ⟨_, c, s1, g3, by rw [tu_at]; exact base⟩
      rw [tu_tu] at R3
      exact R3
