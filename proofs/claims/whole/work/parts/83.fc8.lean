/-! The class: what an origin answers -/
theorem cw_id {s : MS} {k i : Nat} {x : Int32} (h : s.1 k i = x) : cw s k i x = s := by
  refine Prod.ext ?_ rfl
  funext j
  by_cases e : j = k
  · subst e
    rw [cw_at]
    funext u
    show (if u = i then x else s.1 j u) = s.1 j u
    by_cases e2 : u = i
    · rw [if_pos e2, e2, h]
    · rw [if_neg e2]
  · rw [cw_ne _ _ _ e]
theorem Rc_wd {K : ex_K} {I : ex_I} {F : ex_F} {a : Nat → Nat} {g : GH} {z p : Nat} {s : MS} (hR : Rc K I F a g z s) : Rc K I (ex_uf F 31 (a 8) p (some (a 7))) a g z (cw s 8 p 0) := by
  have xr : xw (lP [(31, a 8)]) K I F K I (ex_uf F 31 (a 8) p (some (a 7))) := xw_uf (by simp [lP])
  have ir : imm (lP [(31, a 8)]) := im_l (by simp [xmut])
  refine Rc_gen hR xr ir (Or.inl ⟨⟨by simp [lP], by simp [lP]⟩, rfl, rfl⟩) (Or.inl ⟨⟨by simp [lP], by simp [lP], by simp [lP], fun _ => ⟨by simp [lP], by simp [lP]⟩⟩, rfl, rfl⟩) (Or.inl ⟨⟨by simp [lP], by simp [lP]⟩, rfl⟩) (Or.inr (fun u hu => ?_)) (fun u hu _ => Or.inl ⟨⟨by simp [lP], by simp [lP], by simp [lP]⟩, rfl, rfl, cw_ne _ _ _ (by omega)⟩) (fun u hu hz => Or.inl ⟨by simp [cnP, lP], nqP_all (fun _ => by simp [lP]) (fun _ => by simp [lP]) (fun _ => by simp [lP]) (fun _ => by simp [lP]) _, rfl, rfl, rfl, rfl, rfl⟩) (Or.inl ⟨by simp [lP], fun _ _ => ⟨by simp [lP], by simp [lP], by simp [lP], by simp [lP]⟩, rfl, rfl, rfl, rfl⟩) (Or.inl ⟨⟨by simp [lP], by simp [lP], by simp [lP]⟩, rfl, rfl, rfl⟩) ⟨rfl, rfl⟩
  have e8 : (cw s 8 p 0).1 8 u = if u = p then 0 else s.1 8 u := by rw [cw_at]; rfl
  rw [e8]
  by_cases e : u = p
  · subst e
    exact ⟨a 7, by rw [ex_uf_eq], Or.inl ⟨if_pos rfl, rfl⟩⟩
  · rw [if_neg e]
    obtain ⟨w, w1, w2⟩ := hR.2.2.2.2.1 u hu
    refine ⟨w, ?_, ?_⟩
    · rw [ex_uf_at]
      simp only [if_neg e]
      exact w1
    · rcases w2 with w2 | ⟨w2, w3⟩
      · exact Or.inl w2
      · exact Or.inr ⟨w2, Rs_x xr ir w3⟩
theorem rnw_put0 {s : MS} {p : Nat} {cm : Nat → Int32} (h3 : cm 3 = 2) (h8 : s.1 8 p = 0) : rnw s (m_wks s p cm) p (cm 7) 0 cn_none := by
  have e : m_wks s p cm = m_wk2 (cw (cw (cw (cw (cw (cw s 806 0 (s.1 806 0 + 1)) 11 (4 * p) 0) 11 (4 * p + 1) (-1)) 11 (4 * p + 2) (-1)) 11 (4 * p + 3) (-1)) 10 p 0) p (cm 7) := by
    unfold m_wks
    rw [if_neg (by rw [h3]; decide), if_pos h3, if_pos h8]
  rw [e]
  have h11 : (m_wk2 (cw (cw (cw (cw (cw (cw s 806 0 (s.1 806 0 + 1)) 11 (4 * p) 0) 11 (4 * p + 1) (-1)) 11 (4 * p + 2) (-1)) 11 (4 * p + 3) (-1)) 10 p 0) p (cm 7)).1 11 = upd1 (upd1 (upd1 (upd1 (s.1 11) (4 * p) 0) (4 * p + 1) (-1)) (4 * p + 2) (-1)) (4 * p + 3) (-1) := rfl
  obtain ⟨u1, u2⟩ := up_4 (s.1 11) 0 (-1) (-1) (-1) p
  have v8 : ∀ q, (m_wk2 (cw (cw (cw (cw (cw (cw s 806 0 (s.1 806 0 + 1)) 11 (4 * p) 0) 11 (4 * p + 1) (-1)) 11 (4 * p + 2) (-1)) 11 (4 * p + 3) (-1)) 10 p 0) p (cm 7)).1 8 q = if q = p then s.1 806 0 + 1 else s.1 8 q := fun q => by
    unfold m_wk2
    rw [cw_ne _ _ _ (by decide), cw_at]
    show (if q = p then _ else _) = _
    rfl
  have v9 : ∀ q, (m_wk2 (cw (cw (cw (cw (cw (cw s 806 0 (s.1 806 0 + 1)) 11 (4 * p) 0) 11 (4 * p + 1) (-1)) 11 (4 * p + 2) (-1)) 11 (4 * p + 3) (-1)) 10 p 0) p (cm 7)).1 9 q = if q = p then cm 7 else s.1 9 q := fun q => rfl
  have v10 : ∀ q, (m_wk2 (cw (cw (cw (cw (cw (cw s 806 0 (s.1 806 0 + 1)) 11 (4 * p) 0) 11 (4 * p + 1) (-1)) 11 (4 * p + 2) (-1)) 11 (4 * p + 3) (-1)) 10 p 0) p (cm 7)).1 10 q = if q = p then 0 else s.1 10 q := fun q => rfl
  refine ⟨fun k hk => ?_, rfl, fun q hq => ⟨?_, ?_, ?_, fun j hj => ?_⟩, rfl, ?_, ?_, ?_, fun j hj => ?_⟩
  · unfold m_wk2
    rw [cw_ne _ _ _ (fun e => hk (by rw [e]; decide)), cw_ne _ _ _ (fun e => hk (by rw [e]; decide)), cw_ne _ _ _ (fun e => hk (by rw [e]; decide)), cw_ne _ _ _ (fun e => hk (by rw [e]; decide)), cw_ne _ _ _ (fun e => hk (by rw [e]; decide)), cw_ne _ _ _ (fun e => hk (by rw [e]; decide)), cw_ne _ _ _ (fun e => hk (by rw [e]; decide)), cw_ne _ _ _ (fun e => hk (by rw [e]; decide))]
  · rw [v8, if_neg hq]
  · rw [v9, if_neg hq]
  · rw [v10, if_neg hq]
  · rw [h11]; exact u2 q hq j hj
  · rw [v8, if_pos rfl]
  · rw [v9, if_pos rfl]
  · rw [v10, if_pos rfl]
  · rw [h11, u1 j hj]
    rcases (by omega : j = 0 ∨ j = 1 ∨ j = 2 ∨ j = 3) with rfl | rfl | rfl | rfl <;> rfl
theorem rnw_put1 {s : MS} {p : Nat} {cm : Nat → Int32} (h3 : cm 3 = 2) (h8 : ¬ s.1 8 p = 0) : rnw s (m_wks s p cm) p (cm 7) (s.1 10 p) (fun j => s.1 11 (4 * p + j)) := by
  have e : m_wks s p cm = m_wk2 (cw (cw s 806 0 (s.1 806 0 + 1)) 10 p (s.1 10 p)) p (cm 7) := by
    unfold m_wks
    rw [if_neg (by rw [h3]; decide), if_pos h3, if_neg h8]
  rw [e]
  have v8 : ∀ q, (m_wk2 (cw (cw s 806 0 (s.1 806 0 + 1)) 10 p (s.1 10 p)) p (cm 7)).1 8 q = if q = p then s.1 806 0 + 1 else s.1 8 q := fun q => rfl
  have v9 : ∀ q, (m_wk2 (cw (cw s 806 0 (s.1 806 0 + 1)) 10 p (s.1 10 p)) p (cm 7)).1 9 q = if q = p then cm 7 else s.1 9 q := fun q => rfl
  have v10 : ∀ q, (m_wk2 (cw (cw s 806 0 (s.1 806 0 + 1)) 10 p (s.1 10 p)) p (cm 7)).1 10 q = if q = p then s.1 10 p else s.1 10 q := fun q => rfl
  refine ⟨fun k hk => ?_, rfl, fun q hq => ⟨?_, ?_, ?_, fun j hj => rfl⟩, rfl, ?_, ?_, ?_, fun j hj => rfl⟩
  · unfold m_wk2
    rw [cw_ne _ _ _ (fun e => hk (by rw [e]; decide)), cw_ne _ _ _ (fun e => hk (by rw [e]; decide)), cw_ne _ _ _ (fun e => hk (by rw [e]; decide)), cw_ne _ _ _ (fun e => hk (by rw [e]; decide))]
  · rw [v8, if_neg hq]
  · rw [v9, if_neg hq]
  · rw [v10, if_neg hq]
  · rw [v8, if_pos rfl]
  · rw [v9, if_pos rfl]
  · rw [v10, if_pos rfl]
theorem sp_ansO {Γ : ex_G} {d : Nat} {K : ex_K} {I : ex_I} {F : ex_F} {b : Nat} {z p mp q : Nat} {a : Nat → Nat} {g : GH} {s : MS} {cm : Nat → Int32} (hR : Rc K I F a g z s) (hM : Ms K I F mp cm) (h1 : cm 1 = 0) (h2 : ¬ cm 2 = 0) (hq : F 553 mp 0 = some q) (hp : p < 8) (h5 : cm 5 = nI p) (hk : cm 3 = 1 ∨ cm 3 = 2 ∨ cm 3 = 3) (hy : ¬ s.1 8 p = 0 → s.1 10 p = 0 ∨ s.1 10 p = 1) (h0 : ¬ s.1 806 0 + 1 = 0) :
    ex_E Γ (d + 3) M_FC_answerOfOrigin 0 [some (.inr (some (a 0))), some (.inr (some mp)), some (.inr (some q)), none, none] [] K I F (b + 2) (fun r K' I' F' => ∃ ans, r = some (.inr (some ans)) ∧ xw (lP [(109, a 0), (31, a 8)]) K I F K' I' F' ∧ Rc K' I' F' a g z (m_wks s p cm) ∧ Ms K' I' F' ans (m_wkr s (cm 0) (cm 2) p cm)) := by
  obtain ⟨x0, x1, x2, x3, x4, x5, x6, x7, x8⟩ := hR.1.1
  obtain ⟨q', q1, q2, q3, q4, q5, q6⟩ := hM.2.2.2.2.2.2.2.2.1 h1 h2
  have eq : q' = q := by rw [hq] at q1; cases q1; rfl
  subst eq
  have t0 := hR.2.2.2.2.2.2.2.2.1.1
  have kr : (K (a 8)).1 = 31 := by rw [hR.1.2.1.2.1]
  have kr2 : (K (a 8)).2 = 8 := by rw [hR.1.2.1.2.1]
  have ka := hR.1.2.1.2.2.2.2.2.1
  obtain ⟨w, w1, w2⟩ := hR.2.2.2.2.1 p hp
  have hv : (K w).1 = 4 ∧ I 292 w 0 = s.1 8 p := by
    rcases w2 with ⟨e1, e2⟩ | ⟨e1, e2⟩
    · rw [e1, e2]
      exact ⟨hR.1.2.1.2.2.2.2.2.1, hR.1.2.1.2.2.2.2.2.2.1⟩
    · exact ⟨e2.1, e2.2.1⟩
  rcases hk with hk | hk | hk

  · by_cases hz : s.1 8 p = 0
    · refine s_FC_answerOfOrigin_0 ?_
      refine s_FC_answerOfOrigin_1 (by first | rfl | assumption | (simp [*]; done)) (by first | rfl | assumption | (simp [*]; done)) ?_
      refine s_FC_answerOfOrigin_4 ?_
      refine s_FC_answerOfOrigin_5 (by rfl) (by exact q2) ?_
      rw [q4, h5]
      refine s31_FC_answerOfOrigin_8 (by exact x5) (by exact kr) (by rw [kr2]; exact vp_in_nI hp (by omega)) ?_
      rw [nI_clamp (by omega), w1]
      refine s_FC_answerOfOrigin_9 ?_
      refine s_FC_answerOfOrigin_10 ?_
      refine s_FC_answerOfOrigin_11 (by rfl) (by exact q2) ?_
      refine s_FC_answerOfOrigin_14 ?_
      refine s_FC_answerOfOrigin_15 (fun h15 => ?_) (fun h15 => absurd h15 (by rw [q3, hk]; decide))
      refine s_FC_answerOfOrigin_51 ?_
      refine s_FC_answerOfOrigin_52 (b1 := 0) (b2 := b + 2) (by rfl) (by exact hv.1) (ex_up (d := d) (by omega) (sp_isAbsent hv.1 hv.2)) ?_ (by omega)
      rintro _ _ _ _ ⟨rfl, rfl, rfl, rfl⟩
      dsimp only [Option.toList, List.cons_append, List.nil_append]
      refine s_FC_answerOfOrigin_55 (fun h55 => absurd h55 (by rw [if_pos hz]; decide)) (fun h55 => ?_)
      refine s_FC_answerOfOrigin_58 (fun n58 fn58 => ?_)
      have xn : xw (fun _ _ => False) K I F (ex_nk K n58 8 0) (ex_ni I n58) (ex_nr F n58) := xw_new fn58
      have i0 : imm (fun _ _ => False) := fun _ _ h => h.elim
      have k8 : (ex_nk K n58 8 0 n58).1 = 8 := by rw [ex_nk_at]
      have M1 := Ms_x xn i0 hM
      have nm : mp ≠ n58 := fun e => by have := hM.1; rw [e, fn58] at this; exact absurd this (by decide)
      have mk : ∀ {K' : ex_K} {I' : ex_I} {F' : ex_F}, xw (fun _ c => c = n58) (ex_nk K n58 8 0) (ex_ni I n58) (ex_nr F n58) K' I' F' → xw (fun _ _ => False) K I F K' I' F' := fun h => xw_made fn58 h
      generalize ex_nk K n58 8 0 = K1 at xn k8 M1 mk ⊢
      generalize ex_ni I n58 = I1 at xn M1 mk ⊢
      generalize ex_nr F n58 = F1 at xn M1 mk ⊢
      refine s_FC_answerOfOrigin_61 ?_
      refine s_FC_answerOfOrigin_62 ?_
      refine s_FC_answerOfOrigin_63 ?_
      refine s_FC_answerOfOrigin_66 (b1 := 0) (b2 := b) (by first | rfl | assumption | (simp [*]; done)) (ex_up (by omega) (sp_msg2 (d := d) k8 M1.1 nm M1.2.1 M1.2.2.2.1 (by decide))) ?_ (by omega)
      rintro _ _ I2 F2 ⟨rfl, rfl, x2, m2⟩
      dsimp only [Option.toList, List.cons_append, List.nil_append]
      refine s_FC_answerOfOrigin_69 ?_
      have xf := mk x2
      refine ⟨n58, rfl, xw_mono xf (fun _ _ _ h => h.elim), ?_, ?_⟩
      · unfold m_wks
        rw [if_pos hk]
        exact Rc_0 xf hR
      · unfold m_wkr
        rw [if_pos hk, if_pos hz]
        exact m2
    · refine s_FC_answerOfOrigin_0 ?_
      refine s_FC_answerOfOrigin_1 (by first | rfl | assumption | (simp [*]; done)) (by first | rfl | assumption | (simp [*]; done)) ?_
      refine s_FC_answerOfOrigin_4 ?_
      refine s_FC_answerOfOrigin_5 (by rfl) (by exact q2) ?_
      rw [q4, h5]
      refine s31_FC_answerOfOrigin_8 (by exact x5) (by exact kr) (by rw [kr2]; exact vp_in_nI hp (by omega)) ?_
      rw [nI_clamp (by omega), w1]
      refine s_FC_answerOfOrigin_9 ?_
      refine s_FC_answerOfOrigin_10 ?_
      refine s_FC_answerOfOrigin_11 (by rfl) (by exact q2) ?_
      refine s_FC_answerOfOrigin_14 ?_
      refine s_FC_answerOfOrigin_15 (fun h15 => ?_) (fun h15 => absurd h15 (by rw [q3, hk]; decide))
      refine s_FC_answerOfOrigin_51 ?_
      refine s_FC_answerOfOrigin_52 (b1 := 0) (b2 := b + 2) (by rfl) (by exact hv.1) (ex_up (d := d) (by omega) (sp_isAbsent hv.1 hv.2)) ?_ (by omega)
      rintro _ _ _ _ ⟨rfl, rfl, rfl, rfl⟩
      dsimp only [Option.toList, List.cons_append, List.nil_append]
      refine s_FC_answerOfOrigin_55 (fun h55 => ?_) (fun h55 => absurd h55 (by rw [if_neg hz]; exact fun z => z rfl))
      refine s_FC_answerOfOrigin_70 ?_
      refine s_FC_answerOfOrigin_71 (by rfl) (by exact q2) ?_
      refine s_FC_answerOfOrigin_74 ?_
      refine s_FC_answerOfOrigin_75 (fun h75 => ?_) (fun h75 => absurd h75 (by rw [q3, hk]; decide))
      have hrs : Rs K I F w (s.1 8 p) (s.1 9 p) (s.1 10 p) (fun j => s.1 11 (4 * p + j)) := by
        rcases w2 with ⟨e1, -⟩ | ⟨-, e2⟩
        · exact absurd e1 hz
        · exact e2
      refine s_FC_answerOfOrigin_103 ?_
      refine s_FC_answerOfOrigin_104 ?_
      refine s_FC_answerOfOrigin_105 (by rfl) (by exact q2) ?_
      rw [q5]
      refine s_FC_answerOfOrigin_108 (b1 := 0) (b2 := b + 2) (by rfl) (by exact hv.1) (ex_up (d := d) (by omega) (sp_tagFor hrs (hy hz))) ?_ (by omega)
      rintro _ _ _ _ ⟨rfl, rfl, rfl, rfl⟩
      dsimp only [Option.toList, List.cons_append, List.nil_append]
      refine s_FC_answerOfOrigin_111 ?_
      refine s_FC_answerOfOrigin_113 (fun n113 fn113 => ?_)
      have xn : xw (fun _ _ => False) K I F (ex_nk K n113 8 0) (ex_ni I n113) (ex_nr F n113) := xw_new fn113
      have i0 : imm (fun _ _ => False) := fun _ _ h => h.elim
      have k8 : (ex_nk K n113 8 0 n113).1 = 8 := by rw [ex_nk_at]
      have M1 := Ms_x xn i0 hM
      have nm : mp ≠ n113 := fun e => by have := hM.1; rw [e, fn113] at this; exact absurd this (by decide)
      have kx : (ex_nk K n113 8 0 (a 0)).1 = 1 := xw_K xn (by decide) x0
      have t1 : ex_ni I n113 108 (a 0) 0 = s.1 805 0 := by rw [xw_i xn (by decide) x0 id]; exact t0
      have mk : ∀ {K' : ex_K} {I' : ex_I} {F' : ex_F}, xw (fun _ c => c = n113) (ex_nk K n113 8 0) (ex_ni I n113) (ex_nr F n113) K' I' F' → xw (fun _ _ => False) K I F K' I' F' := fun h => xw_made fn113 h
      generalize ex_nk K n113 8 0 = K1 at xn k8 M1 mk kx ⊢
      generalize ex_ni I n113 = I1 at xn M1 mk t1 ⊢
      generalize ex_nr F n113 = F1 at xn M1 mk ⊢
      have m4' : I1 552 mp 0 = cm 4 := M1.2.2.2.2.2.1
      refine s_FC_answerOfOrigin_116 ?_
      refine s_FC_answerOfOrigin_117 ?_
      refine s_FC_answerOfOrigin_118 ?_
      refine s_FC_answerOfOrigin_119 (by rfl) (by exact M1.1) ?_
      refine s_FC_answerOfOrigin_122 ?_
      refine s_FC_answerOfOrigin_124 (fun h124 => ?_) (fun h124 => ?_)
      · refine s_FC_answerOfOrigin_133 ?_
        refine s_FC_answerOfOrigin_136 ?_
        refine s_FC_answerOfOrigin_138 ?_
        refine s_FC_answerOfOrigin_139 ?_
        refine s_FC_answerOfOrigin_140 (by rfl) (by exact kx) ?_
        rw [t1]
        refine s_FC_answerOfOrigin_143 (b1 := 0) (b2 := b) (by first | rfl | assumption | (simp [*]; done)) (ex_up (by omega) (sp_msg3 (d := d) k8 M1.1 nm)) ?_ (by omega)
        rintro _ _ I2 F2 ⟨rfl, rfl, x2, m1, m2, m3, m4, m5, m6, m7, m8⟩
        dsimp only [Option.toList, List.cons_append, List.nil_append]
        refine s_FC_answerOfOrigin_146 ?_
        have xf := mk x2
        have hr2 := Rs_x xf i0 hrs
        rw [m4'] at h124
        have est : (if cm 4 = m_tg s p (cm 6) then (304 : Int32) else 200) = 200 := if_neg h124
        refine ⟨n113, rfl, xw_mono xf (fun _ _ _ h => h.elim), ?_, ?_⟩
        · unfold m_wks
          rw [if_pos hk]
          exact Rc_0 xf hR
        · unfold m_wkr
          rw [if_pos hk, if_neg hz]
          refine ⟨k8, m1.trans M1.2.1, m2, m3.trans M1.2.2.2.1, ?_, m5, m6, fun e => absurd (show (1 : Int32) = 0 from e) (by decide), fun e => absurd (show (1 : Int32) = 0 from e) (by decide), fun _ _ => ⟨w, m8, ?_⟩, fun _ e => absurd ?_ e⟩
          · rw [m4]
            exact est.symm
          · exact Rs_c hr2 (fun j hj => by rcases (by omega : j = 0 ∨ j = 1 ∨ j = 2 ∨ j = 3) with rfl | rfl | rfl | rfl <;> rfl)
          · show (if cm 4 = m_tg s p (cm 6) then (304 : Int32) else 200) = 200 ∨ (if cm 4 = m_tg s p (cm 6) then (304 : Int32) else 200) = 304
            rw [est]
            decide
      · refine s_FC_answerOfOrigin_127 ?_
        refine s_FC_answerOfOrigin_130 ?_
        refine s_FC_answerOfOrigin_136 ?_
        refine s_FC_answerOfOrigin_138 ?_
        refine s_FC_answerOfOrigin_139 ?_
        refine s_FC_answerOfOrigin_140 (by rfl) (by exact kx) ?_
        rw [t1]
        refine s_FC_answerOfOrigin_143 (b1 := 0) (b2 := b) (by first | rfl | assumption | (simp [*]; done)) (ex_up (by omega) (sp_msg3 (d := d) k8 M1.1 nm)) ?_ (by omega)
        rintro _ _ I2 F2 ⟨rfl, rfl, x2, m1, m2, m3, m4, m5, m6, m7, m8⟩
        dsimp only [Option.toList, List.cons_append, List.nil_append]
        refine s_FC_answerOfOrigin_146 ?_
        have xf := mk x2
        have hr2 := Rs_x xf i0 hrs
        rw [m4'] at h124
        have est : (if cm 4 = m_tg s p (cm 6) then (304 : Int32) else 200) = 304 := if_pos h124
        refine ⟨n113, rfl, xw_mono xf (fun _ _ _ h => h.elim), ?_, ?_⟩
        · unfold m_wks
          rw [if_pos hk]
          exact Rc_0 xf hR
        · unfold m_wkr
          rw [if_pos hk, if_neg hz]
          refine ⟨k8, m1.trans M1.2.1, m2, m3.trans M1.2.2.2.1, ?_, m5, m6, fun e => absurd (show (1 : Int32) = 0 from e) (by decide), fun e => absurd (show (1 : Int32) = 0 from e) (by decide), fun _ _ => ⟨w, m8, ?_⟩, fun _ e => absurd ?_ e⟩
          · rw [m4]
            exact est.symm
          · exact Rs_c hr2 (fun j hj => by rcases (by omega : j = 0 ∨ j = 1 ∨ j = 2 ∨ j = 3) with rfl | rfl | rfl | rfl <;> rfl)
          · show (if cm 4 = m_tg s p (cm 6) then (304 : Int32) else 200) = 200 ∨ (if cm 4 = m_tg s p (cm 6) then (304 : Int32) else 200) = 304
            rw [est]
            decide
  · by_cases hz : s.1 8 p = 0
    · refine s_FC_answerOfOrigin_0 ?_
      refine s_FC_answerOfOrigin_1 (by first | rfl | assumption | (simp [*]; done)) (by first | rfl | assumption | (simp [*]; done)) ?_
      refine s_FC_answerOfOrigin_4 ?_
      refine s_FC_answerOfOrigin_5 (by rfl) (by exact q2) ?_
      rw [q4, h5]
      refine s31_FC_answerOfOrigin_8 (by exact x5) (by exact kr) (by rw [kr2]; exact vp_in_nI hp (by omega)) ?_
      rw [nI_clamp (by omega), w1]
      refine s_FC_answerOfOrigin_9 ?_
      refine s_FC_answerOfOrigin_10 ?_
      refine s_FC_answerOfOrigin_11 (by rfl) (by exact q2) ?_
      refine s_FC_answerOfOrigin_14 ?_
      refine s_FC_answerOfOrigin_15 (fun h15 => absurd h15 (by rw [q3, hk]; exact fun z => z rfl)) (fun h15 => ?_)
      have hw7 : w = a 7 := by
        rcases w2 with ⟨-, e⟩ | ⟨e, -⟩
        · exact e
        · exact absurd hz e
      have ha := hR.1.2.1.2.2.2.2.2
      obtain ⟨zc, r5, r6⟩ : ∃ zc, F 295 w 0 = some zc ∧ Ctl K I F zc (cn_none) := by rw [hw7]; exact ha.2.2.2.2
      have e294 : I 294 w 0 = 0 := by rw [hw7]; exact ha.2.2.2.1
      refine s_FC_answerOfOrigin_18 ?_
      refine s_FC_answerOfOrigin_19 ?_
      refine s_FC_answerOfOrigin_20 (by rfl) (by exact q2) ?_
      refine s_FC_answerOfOrigin_23 ?_
      refine s_FC_answerOfOrigin_24 (by rfl) (by exact q2) ?_
      refine s_FC_answerOfOrigin_27 ?_
      refine s_FC_answerOfOrigin_28 (by rfl) (by exact hv.1) ?_
      refine s_FC_answerOfOrigin_31 ?_
      refine s_FC_answerOfOrigin_32 (by rfl) (by exact hv.1) ?_
      rw [q4, h5, q6, e294, r5]
      refine s_FC_answerOfOrigin_35 (b1 := 0 + 1) (b2 := b + 1) (by rfl) (by exact x0) (sp_renew (d := d) (b := 0) hR hp r6 (Or.inl rfl) (rnw_put0 hk hz) h0) ?_ (by omega)
      rintro _ Ka Ia Fa ⟨rfl, X1, R1⟩
      dsimp only [Option.toList, List.cons_append, List.nil_append]
      refine s_FC_answerOfOrigin_38 ?_
      refine s_FC_answerOfOrigin_39 (fun n39 fn39 => ?_)
      have hM1 := Ms_x X1 (im_l (by simp [xmut])) hM
      have xn : xw (fun _ _ => False) Ka Ia Fa (ex_nk Ka n39 8 0) (ex_ni Ia n39) (ex_nr Fa n39) := xw_new fn39
      have i0 : imm (fun _ _ => False) := fun _ _ h => h.elim
      have k8 : (ex_nk Ka n39 8 0 n39).1 = 8 := by rw [ex_nk_at]
      have M1 := Ms_x xn i0 hM1
      have nm : mp ≠ n39 := fun e => by have := hM1.1; rw [e, fn39] at this; exact absurd this (by decide)
      have mk : ∀ {K' : ex_K} {I' : ex_I} {F' : ex_F}, xw (fun _ c => c = n39) (ex_nk Ka n39 8 0) (ex_ni Ia n39) (ex_nr Fa n39) K' I' F' → xw (fun _ _ => False) Ka Ia Fa K' I' F' := fun h => xw_made fn39 h
      generalize ex_nk Ka n39 8 0 = K1 at xn k8 M1 mk ⊢
      generalize ex_ni Ia n39 = I1 at xn M1 mk ⊢
      generalize ex_nr Fa n39 = F1 at xn M1 mk ⊢
      refine s_FC_answerOfOrigin_42 ?_
      refine s_FC_answerOfOrigin_43 ?_
      refine s_FC_answerOfOrigin_44 ?_
      refine s_FC_answerOfOrigin_47 (b1 := 0) (b2 := b) (by first | rfl | assumption | (simp [*]; done)) (ex_up (by omega) (sp_msg2 (d := d) k8 M1.1 nm M1.2.1 M1.2.2.2.1 (by decide))) ?_ (by omega)
      rintro _ _ I2 F2 ⟨rfl, rfl, x2, m2⟩
      dsimp only [Option.toList, List.cons_append, List.nil_append]
      refine s_FC_answerOfOrigin_50 ?_
      have xf := mk x2
      refine ⟨n39, rfl, xw_trans X1 (xw_mono xf (fun _ _ _ h => h.elim)), Rc_0 xf R1, ?_⟩
      unfold m_wkr
      rw [if_neg (by rw [hk]; decide), if_pos hk]
      exact m2
    · refine s_FC_answerOfOrigin_0 ?_
      refine s_FC_answerOfOrigin_1 (by first | rfl | assumption | (simp [*]; done)) (by first | rfl | assumption | (simp [*]; done)) ?_
      refine s_FC_answerOfOrigin_4 ?_
      refine s_FC_answerOfOrigin_5 (by rfl) (by exact q2) ?_
      rw [q4, h5]
      refine s31_FC_answerOfOrigin_8 (by exact x5) (by exact kr) (by rw [kr2]; exact vp_in_nI hp (by omega)) ?_
      rw [nI_clamp (by omega), w1]
      refine s_FC_answerOfOrigin_9 ?_
      refine s_FC_answerOfOrigin_10 ?_
      refine s_FC_answerOfOrigin_11 (by rfl) (by exact q2) ?_
      refine s_FC_answerOfOrigin_14 ?_
      refine s_FC_answerOfOrigin_15 (fun h15 => absurd h15 (by rw [q3, hk]; exact fun z => z rfl)) (fun h15 => ?_)
      have hrs : Rs K I F w (s.1 8 p) (s.1 9 p) (s.1 10 p) (fun j => s.1 11 (4 * p + j)) := by
        rcases w2 with ⟨e1, -⟩ | ⟨-, e2⟩
        · exact absurd e1 hz
        · exact e2
      obtain ⟨zc, r5, r6⟩ : ∃ zc, F 295 w 0 = some zc ∧ Ctl K I F zc (fun j => s.1 11 (4 * p + j)) := hrs.2.2.2.2
      have e294 : I 294 w 0 = s.1 10 p := hrs.2.2.2.1
      refine s_FC_answerOfOrigin_18 ?_
      refine s_FC_answerOfOrigin_19 ?_
      refine s_FC_answerOfOrigin_20 (by rfl) (by exact q2) ?_
      refine s_FC_answerOfOrigin_23 ?_
      refine s_FC_answerOfOrigin_24 (by rfl) (by exact q2) ?_
      refine s_FC_answerOfOrigin_27 ?_
      refine s_FC_answerOfOrigin_28 (by rfl) (by exact hv.1) ?_
      refine s_FC_answerOfOrigin_31 ?_
      refine s_FC_answerOfOrigin_32 (by rfl) (by exact hv.1) ?_
      rw [q4, h5, q6, e294, r5]
      refine s_FC_answerOfOrigin_35 (b1 := 0 + 1) (b2 := b + 1) (by rfl) (by exact x0) (sp_renew (d := d) (b := 0) hR hp r6 (hy hz) (rnw_put1 hk hz) h0) ?_ (by omega)
      rintro _ Ka Ia Fa ⟨rfl, X1, R1⟩
      dsimp only [Option.toList, List.cons_append, List.nil_append]
      refine s_FC_answerOfOrigin_38 ?_
      refine s_FC_answerOfOrigin_39 (fun n39 fn39 => ?_)
      have hM1 := Ms_x X1 (im_l (by simp [xmut])) hM
      have xn : xw (fun _ _ => False) Ka Ia Fa (ex_nk Ka n39 8 0) (ex_ni Ia n39) (ex_nr Fa n39) := xw_new fn39
      have i0 : imm (fun _ _ => False) := fun _ _ h => h.elim
      have k8 : (ex_nk Ka n39 8 0 n39).1 = 8 := by rw [ex_nk_at]
      have M1 := Ms_x xn i0 hM1
      have nm : mp ≠ n39 := fun e => by have := hM1.1; rw [e, fn39] at this; exact absurd this (by decide)
      have mk : ∀ {K' : ex_K} {I' : ex_I} {F' : ex_F}, xw (fun _ c => c = n39) (ex_nk Ka n39 8 0) (ex_ni Ia n39) (ex_nr Fa n39) K' I' F' → xw (fun _ _ => False) Ka Ia Fa K' I' F' := fun h => xw_made fn39 h
      generalize ex_nk Ka n39 8 0 = K1 at xn k8 M1 mk ⊢
      generalize ex_ni Ia n39 = I1 at xn M1 mk ⊢
      generalize ex_nr Fa n39 = F1 at xn M1 mk ⊢
      refine s_FC_answerOfOrigin_42 ?_
      refine s_FC_answerOfOrigin_43 ?_
      refine s_FC_answerOfOrigin_44 ?_
      refine s_FC_answerOfOrigin_47 (b1 := 0) (b2 := b) (by first | rfl | assumption | (simp [*]; done)) (ex_up (by omega) (sp_msg2 (d := d) k8 M1.1 nm M1.2.1 M1.2.2.2.1 (by decide))) ?_ (by omega)
      rintro _ _ I2 F2 ⟨rfl, rfl, x2, m2⟩
      dsimp only [Option.toList, List.cons_append, List.nil_append]
      refine s_FC_answerOfOrigin_50 ?_
      have xf := mk x2
      refine ⟨n39, rfl, xw_trans X1 (xw_mono xf (fun _ _ _ h => h.elim)), Rc_0 xf R1, ?_⟩
      unfold m_wkr
      rw [if_neg (by rw [hk]; decide), if_pos hk]
      exact m2
  · by_cases hz : s.1 8 p = 0
    · refine s_FC_answerOfOrigin_0 ?_
      refine s_FC_answerOfOrigin_1 (by first | rfl | assumption | (simp [*]; done)) (by first | rfl | assumption | (simp [*]; done)) ?_
      refine s_FC_answerOfOrigin_4 ?_
      refine s_FC_answerOfOrigin_5 (by rfl) (by exact q2) ?_
      rw [q4, h5]
      refine s31_FC_answerOfOrigin_8 (by exact x5) (by exact kr) (by rw [kr2]; exact vp_in_nI hp (by omega)) ?_
      rw [nI_clamp (by omega), w1]
      refine s_FC_answerOfOrigin_9 ?_
      refine s_FC_answerOfOrigin_10 ?_
      refine s_FC_answerOfOrigin_11 (by rfl) (by exact q2) ?_
      refine s_FC_answerOfOrigin_14 ?_
      refine s_FC_answerOfOrigin_15 (fun h15 => ?_) (fun h15 => absurd h15 (by rw [q3, hk]; decide))
      refine s_FC_answerOfOrigin_51 ?_
      refine s_FC_answerOfOrigin_52 (b1 := 0) (b2 := b + 2) (by rfl) (by exact hv.1) (ex_up (d := d) (by omega) (sp_isAbsent hv.1 hv.2)) ?_ (by omega)
      rintro _ _ _ _ ⟨rfl, rfl, rfl, rfl⟩
      dsimp only [Option.toList, List.cons_append, List.nil_append]
      refine s_FC_answerOfOrigin_55 (fun h55 => absurd h55 (by rw [if_pos hz]; decide)) (fun h55 => ?_)
      refine s_FC_answerOfOrigin_58 (fun n58 fn58 => ?_)
      have xn : xw (fun _ _ => False) K I F (ex_nk K n58 8 0) (ex_ni I n58) (ex_nr F n58) := xw_new fn58
      have i0 : imm (fun _ _ => False) := fun _ _ h => h.elim
      have k8 : (ex_nk K n58 8 0 n58).1 = 8 := by rw [ex_nk_at]
      have M1 := Ms_x xn i0 hM
      have nm : mp ≠ n58 := fun e => by have := hM.1; rw [e, fn58] at this; exact absurd this (by decide)
      have mk : ∀ {K' : ex_K} {I' : ex_I} {F' : ex_F}, xw (fun _ c => c = n58) (ex_nk K n58 8 0) (ex_ni I n58) (ex_nr F n58) K' I' F' → xw (fun _ _ => False) K I F K' I' F' := fun h => xw_made fn58 h
      generalize ex_nk K n58 8 0 = K1 at xn k8 M1 mk ⊢
      generalize ex_ni I n58 = I1 at xn M1 mk ⊢
      generalize ex_nr F n58 = F1 at xn M1 mk ⊢
      refine s_FC_answerOfOrigin_61 ?_
      refine s_FC_answerOfOrigin_62 ?_
      refine s_FC_answerOfOrigin_63 ?_
      refine s_FC_answerOfOrigin_66 (b1 := 0) (b2 := b) (by first | rfl | assumption | (simp [*]; done)) (ex_up (by omega) (sp_msg2 (d := d) k8 M1.1 nm M1.2.1 M1.2.2.2.1 (by decide))) ?_ (by omega)
      rintro _ _ I2 F2 ⟨rfl, rfl, x2, m2⟩
      dsimp only [Option.toList, List.cons_append, List.nil_append]
      refine s_FC_answerOfOrigin_69 ?_
      have xf := mk x2
      refine ⟨n58, rfl, xw_mono xf (fun _ _ _ h => h.elim), ?_, ?_⟩
      · unfold m_wks
        rw [if_neg (by rw [hk]; decide), if_neg (by rw [hk]; decide), cw_id hz]
        exact Rc_0 xf hR
      · unfold m_wkr
        rw [if_neg (by rw [hk]; decide), if_neg (by rw [hk]; decide), if_pos hz]
        exact m2
    · refine s_FC_answerOfOrigin_0 ?_
      refine s_FC_answerOfOrigin_1 (by first | rfl | assumption | (simp [*]; done)) (by first | rfl | assumption | (simp [*]; done)) ?_
      refine s_FC_answerOfOrigin_4 ?_
      refine s_FC_answerOfOrigin_5 (by rfl) (by exact q2) ?_
      rw [q4, h5]
      refine s31_FC_answerOfOrigin_8 (by exact x5) (by exact kr) (by rw [kr2]; exact vp_in_nI hp (by omega)) ?_
      rw [nI_clamp (by omega), w1]
      refine s_FC_answerOfOrigin_9 ?_
      refine s_FC_answerOfOrigin_10 ?_
      refine s_FC_answerOfOrigin_11 (by rfl) (by exact q2) ?_
      refine s_FC_answerOfOrigin_14 ?_
      refine s_FC_answerOfOrigin_15 (fun h15 => ?_) (fun h15 => absurd h15 (by rw [q3, hk]; decide))
      refine s_FC_answerOfOrigin_51 ?_
      refine s_FC_answerOfOrigin_52 (b1 := 0) (b2 := b + 2) (by rfl) (by exact hv.1) (ex_up (d := d) (by omega) (sp_isAbsent hv.1 hv.2)) ?_ (by omega)
      rintro _ _ _ _ ⟨rfl, rfl, rfl, rfl⟩
      dsimp only [Option.toList, List.cons_append, List.nil_append]
      refine s_FC_answerOfOrigin_55 (fun h55 => ?_) (fun h55 => absurd h55 (by rw [if_neg hz]; exact fun z => z rfl))
      refine s_FC_answerOfOrigin_70 ?_
      refine s_FC_answerOfOrigin_71 (by rfl) (by exact q2) ?_
      refine s_FC_answerOfOrigin_74 ?_
      refine s_FC_answerOfOrigin_75 (fun h75 => absurd h75 (by rw [q3, hk]; exact fun z => z rfl)) (fun h75 => ?_)
      refine s_FC_answerOfOrigin_78 ?_
      refine s_FC_answerOfOrigin_79 (by first | rfl | assumption | (simp [*]; done)) (by first | rfl | assumption | (simp [*]; done)) ?_
      refine s_FC_answerOfOrigin_82 ?_
      refine s_FC_answerOfOrigin_83 (by rfl) (by exact q2) ?_
      refine s_FC_answerOfOrigin_86 ?_
      refine s_FC_answerOfOrigin_87 (by first | rfl | assumption | (simp [*]; done)) (by first | rfl | assumption | (simp [*]; done)) ?_
      rw [q4, h5, x4]
      refine s31_FC_answerOfOrigin_90 (by exact x5) (by exact kr) (by intro w hw; cases hw; exact ka) (by rw [kr2]; exact vp_in_nI hp (by omega)) ?_
      rw [nI_clamp (by omega)]
      have xr : xw (lP [(31, a 8)]) K I F K I (ex_uf F 31 (a 8) p (some (a 7))) := xw_uf (by simp [lP])
      have ir : imm (lP [(31, a 8)]) := im_l (by simp [xmut])
      have R1 := Rc_wd (p := p) hR
      have hM1 := Ms_x xr ir hM
      generalize ex_uf F 31 (a 8) p (some (a 7)) = Fa at xr R1 hM1 ⊢
      refine s_FC_answerOfOrigin_91 (fun n91 fn91 => ?_)
      have xn : xw (fun _ _ => False) K I Fa (ex_nk K n91 8 0) (ex_ni I n91) (ex_nr Fa n91) := xw_new fn91
      have i0 : imm (fun _ _ => False) := fun _ _ h => h.elim
      have k8 : (ex_nk K n91 8 0 n91).1 = 8 := by rw [ex_nk_at]
      have M1 := Ms_x xn i0 hM1
      have nm : mp ≠ n91 := fun e => by have := hM1.1; rw [e, fn91] at this; exact absurd this (by decide)
      have mk : ∀ {K' : ex_K} {I' : ex_I} {F' : ex_F}, xw (fun _ c => c = n91) (ex_nk K n91 8 0) (ex_ni I n91) (ex_nr Fa n91) K' I' F' → xw (fun _ _ => False) K I Fa K' I' F' := fun h => xw_made fn91 h
      generalize ex_nk K n91 8 0 = K1 at xn k8 M1 mk ⊢
      generalize ex_ni I n91 = I1 at xn M1 mk ⊢
      generalize ex_nr Fa n91 = F1 at xn M1 mk ⊢
      refine s_FC_answerOfOrigin_94 ?_
      refine s_FC_answerOfOrigin_95 ?_
      refine s_FC_answerOfOrigin_96 ?_
      refine s_FC_answerOfOrigin_99 (b1 := 0) (b2 := b) (by first | rfl | assumption | (simp [*]; done)) (ex_up (by omega) (sp_msg2 (d := d) k8 M1.1 nm M1.2.1 M1.2.2.2.1 (by decide))) ?_ (by omega)
      rintro _ _ I2 F2 ⟨rfl, rfl, x2, m2⟩
      dsimp only [Option.toList, List.cons_append, List.nil_append]
      refine s_FC_answerOfOrigin_102 ?_
      have xf := mk x2
      refine ⟨n91, rfl, xw_trans (xw_mono xr (fun f c _ h => by simp [lP] at h ⊢; exact Or.inr h)) (xw_mono xf (fun _ _ _ h => h.elim)), ?_, ?_⟩
      · unfold m_wks
        rw [if_neg (by rw [hk]; decide), if_neg (by rw [hk]; decide)]
        exact Rc_0 xf R1
      · unfold m_wkr
        rw [if_neg (by rw [hk]; decide), if_neg (by rw [hk]; decide), if_neg hz]
        exact m2
