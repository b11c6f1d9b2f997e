/-! The class: get -/
theorem sp_takeR {Γ : ex_G} {d : Nat} {K : ex_K} {I : ex_I} {F : ex_F} {b : Nat} {dr tx n : Nat} {X : Nat → Int32} (hd : dr_ok K F dr tx) (hl : I 229 dr 0 = nI n) (h40 : n ≤ 40) (hX : I 22 tx = X) :
    ex_E Γ (d + 7) M_Drf_takeControl 0 [some (.inr (some dr)), none, none, none] [] K I F (b + 2) (fun r K' I' F' => ∃ q, r = some (.inr (some q)) ∧ xw (lP [(229, dr)]) K I F K' I' F' ∧ (∀ j, I' 229 dr j = if j = 0 then 0 else I 229 dr j) ∧ Ctl K' I' F' q (tx_4 (tx_all X n))) := by
  refine ex_post (fun r K' I' F' h => ?_) (sp_takeControl hd hl h40)
  obtain ⟨q, y, N, rfl, fq, fy, nqy, rfl, rfl, rfl, hN⟩ := h
  rw [hX] at hN
  have na : ∀ c, (K c).1 ≠ 0 → c ≠ q ∧ c ≠ y := fun c hc => ⟨fun e => hc (by rw [e]; exact fq), fun e => hc (by rw [e]; exact fy)⟩
  have k1 : (K dr).1 ≠ 0 := by rw [hd.1]; decide
  obtain ⟨n1, n2⟩ := na dr k1
  have x0 : xw (lP [(229, dr)]) K I F (ex_nk (ex_nk K q 2 0) y 21 7) (ex_ui (ex_wi (ex_ni (ex_ni I q) y) 21 y N) 229 dr 0 0) (ex_uf (ex_nr (ex_nr F q) y) 164 q 0 (some y)) := by
    intro c hc
    obtain ⟨e1, e2⟩ := na c hc
    refine ⟨by rw [ex_nk_ne _ _ _ e2, ex_nk_ne _ _ _ e1], fun f hf => ⟨?_, ?_⟩⟩
    · by_cases e : c = dr
      · subst e
        have : f ≠ 229 := fun w => hf (by rw [w]; simp [lP])
        rw [ex_ui_f _ _ _ _ this]
        simp only [ex_wi_ne _ _ _ e2, ex_ni_ne _ e2, ex_ni_ne _ e1]
      · simp only [ex_ui_ne _ _ _ _ e, ex_wi_ne _ _ _ e2, ex_ni_ne _ e2, ex_ni_ne _ e1]
    · simp only [ex_uf_ne _ _ _ _ e1, ex_nr_ne _ e2, ex_nr_ne _ e1]
  refine ⟨q, rfl, x0, fun j => ?_, ⟨y, ⟨?_, ?_, ?_⟩, fun j hj => ?_, fun j hj => ?_⟩⟩
  · rw [ex_ui_at]
    simp only [ex_wi_ne _ _ _ n2, ex_ni_ne _ n2, ex_ni_ne _ n1]
  · rw [ex_nk_ne _ _ _ nqy, ex_nk_at]
  · rw [ex_uf_eq]
  · rw [ex_nk_at]
  · rw [ex_ui_f _ _ _ _ (by decide), ex_wi_at, hN j hj]
    exact tx_all_nn _ _ j hj
  · rw [ex_ui_f _ _ _ _ (by decide), ex_wi_at]
    exact tx_4_c hN j hj
theorem Rc_parse {K : ex_K} {I I' : ex_I} {F F' : ex_F} {a : Nat → Nat} {g : GH} {z n : Nat} {s : MS} (hR : Rc K I F a g z s) (xr : xw (lP [(229, a 1)]) K I F K I' F') (h0 : I' 229 (a 1) 0 = 0) : Rc K I' F' a g z (m_parse s n) := by
  have ir : imm (lP [(229, a 1)]) := im_l (by simp [xmut])
  have hd := hR.1.2.1.1
  refine Rc_gen hR xr ir (Or.inr ⟨?_, ?_, 0, rfl, by omega⟩) (Or.inl ⟨⟨by simp [lP], by simp [lP], by simp [lP], fun _ => ⟨by simp [lP], by simp [lP]⟩⟩, rfl, rfl⟩) (Or.inl ⟨⟨by simp [lP], by simp [lP]⟩, rfl⟩) (Or.inl ⟨by simp [lP], rfl, rfl, rfl, rfl⟩) (fun u hu _ => Or.inl ⟨⟨by simp [lP], by simp [lP], by simp [lP]⟩, rfl, rfl, ?_⟩) (fun u hu hz => Or.inl ⟨by simp [cnP, lP], nqP_all (fun _ => by simp [lP]) (fun _ => by simp [lP]) (fun _ => by simp [lP]) (fun _ => by simp [lP]) _, rfl, rfl, rfl, rfl, rfl⟩) (Or.inl ⟨by simp [lP], fun _ _ => ⟨by simp [lP], by simp [lP], by simp [lP], by simp [lP]⟩, rfl, rfl, rfl, rfl⟩) (Or.inl ⟨⟨by simp [lP], by simp [lP], by simp [lP]⟩, rfl, rfl, rfl⟩) ⟨rfl, rfl⟩
  · rw [xw_i xr (k := 22) (by decide) (by rw [hd.2.2]) (by simp [lP])]
    exact hR.2.1.1
  · rw [h0]
    unfold m_parse
    rw [cw_at]
    exact (if_pos rfl).symm
  · unfold m_parse
    rw [cw_ne _ _ _ (by omega), cu_ne _ _ (by omega)]
theorem sp_getC_no {Γ : ex_G} {d : Nat} {K : ex_K} {I : ex_I} {F : ex_F} {b : Nat} {a : Nat → Nat} {g : GH} {s : MS} (hR : Rc K I F a g 3 s) {x v tag : Int32} (hx : (x < 0 ∨ nI 8 ≤ x) ∨ ((¬ x < 0 ∧ ¬ nI 8 ≤ x) ∧ (v < 0 ∨ ¬ v ≤ 3 ∨ tag < 0))) :
    ex_E Γ (d + 1) M_FC_get 0 [some (.inr (some (a 0))), some (.inl x), some (.inl v), some (.inl tag), none] [] K I F b (fun r K' I' F' => r = some (.inl (-1)) ∧ ∃ g', Rc K' I' F' a g' 3 (s)) := by
  obtain ⟨x0, x1, x2, x3, x4, x5, x6, x7, x8⟩ := hR.1.1
  rcases hx with hx | ⟨hx1, hx2⟩
  · refine s_FC_get_0 ?_
    refine s_FC_get_1 (b1 := 0) (b2 := b)  (sp_isPathFC_no hx) ?_ (by omega)
    rintro _ _ _ _ ⟨rfl, rfl, rfl, rfl⟩
    dsimp only [Option.toList, List.cons_append, List.nil_append]
    refine s_FC_get_4 (fun h4 => ?_) (fun h4 => absurd h4 (by exact fun z => z rfl))
    refine s_FC_get_20 ?_
    refine s_FC_get_21 ?_
    exact ⟨rfl, g, hR⟩
  · obtain ⟨p, hp, rfl⟩ := ((pk_ix x (n := 8) (by decide)).resolve_left hx1.1).resolve_left hx1.2
    have v4 : ∀ v : Int32, ¬ v ≤ 3 → 4 ≤ v := fun v h => by
      have h := Int32.not_le.mp h
      rw [Int32.lt_iff_toInt_lt, show (3 : Int32).toInt = 3 from rfl] at h
      rw [Int32.le_iff_toInt_le, show (4 : Int32).toInt = 4 from rfl]
      omega
    refine s_FC_get_0 ?_
    refine s_FC_get_1 (b1 := 0) (b2 := b)  (sp_isPathFC hp) ?_ (by omega)
    rintro _ _ _ _ ⟨rfl, rfl, rfl, rfl⟩
    dsimp only [Option.toList, List.cons_append, List.nil_append]
    refine s_FC_get_4 (fun h4 => absurd h4 (by decide)) (fun h4 => ?_)
    refine s_FC_get_7 ?_
    refine s_FC_get_8 (fun h8 => ?_) (fun h8 => ?_)
    · refine s_FC_get_20 ?_
      refine s_FC_get_21 ?_
      exact ⟨rfl, g, hR⟩
    · refine s_FC_get_11 ?_
      refine s_FC_get_12 ?_
      refine s_FC_get_13 (fun h13 => ?_) (fun h13 => ?_)
      · refine s_FC_get_20 ?_
        refine s_FC_get_21 ?_
        exact ⟨rfl, g, hR⟩
      · refine s_FC_get_16 ?_
        refine s_FC_get_17 (fun h17 => absurd h17 (by exact fun z => absurd (((hx2.resolve_left h8).resolve_left (fun q => h13 (v4 _ q)))) (Int32.not_lt.mpr h17))) (fun h17 => ?_)
        refine s_FC_get_20 ?_
        refine s_FC_get_21 ?_
        exact ⟨rfl, g, hR⟩
theorem sp_getC {Γ : ex_G} {d : Nat} {K : ex_K} {I : ex_I} {F : ex_F} {b : Nat} {a : Nat → Nat} {g : GH} {s : MS} (hR : Rc K I F a g 3 s) {N p n : Nat} {v tag : Int32} (hJ : J N 3 3 s) (hN : N < 1000) (hp : p < 8) (hv0 : ¬ v < 0) (hv3 : v ≤ 3) (ht0 : 0 ≤ tag) (hs : s.1 808 0 = nI n) (hn : n ≤ 40) :
    ex_E Γ (d + 8) M_FC_get 0 [some (.inr (some (a 0))), some (.inl (nI p)), some (.inl v), some (.inl tag), none] [] K I F (b + 4) (fun r K' I' F' => r = some (.inl (s.1 820 0 + 1)) ∧ ∃ g', Rc K' I' F' a g' 3 (m_get s p v tag n)) := by
  obtain ⟨x0, x1, x2, x3, x4, x5, x6, x7, x8⟩ := hR.1.1
  have hg := hR.2.2.2.2.2.2.2.2.2
  have t0 := hR.2.2.2.2.2.2.2.2.1.2.2
  have hm := m_next_e hR
  have m0 := hJ.1.1 820 (by decide)
  have hM : g.2.2.1 + 1 < 2 ^ 30 := by
    have := m0.2
    rw [hg.1, nI_toInt (by have := hg.2.1; omega)] at this
    omega
  have y5 := hR.1.2.1.2.2.2.2.1
  have hd := hR.1.2.1.1
  obtain ⟨c1, c2, -⟩ := hR.2.1
  have v4 : ¬ 4 ≤ v := fun h => by
    rw [Int32.le_iff_toInt_le, show (4 : Int32).toInt = 4 from rfl] at h
    rw [Int32.le_iff_toInt_le, show (3 : Int32).toInt = 3 from rfl] at hv3
    omega
  refine s_FC_get_0 ?_
  refine s_FC_get_1 (b1 := 0) (b2 := b + 4)  (ex_up (d := d) (by omega) (sp_isPathFC hp)) ?_ (by omega)
  rintro _ _ _ _ ⟨rfl, rfl, rfl, rfl⟩
  dsimp only [Option.toList, List.cons_append, List.nil_append]
  refine s_FC_get_4 (fun h4 => absurd h4 (by decide)) (fun h4 => ?_)
  refine s_FC_get_7 ?_
  refine s_FC_get_8 (fun h8 => absurd h8 (by exact hv0)) (fun h8 => ?_)
  refine s_FC_get_11 ?_
  refine s_FC_get_12 ?_
  refine s_FC_get_13 (fun h13 => absurd h13 (by exact v4)) (fun h13 => ?_)
  refine s_FC_get_16 ?_
  refine s_FC_get_17 (fun h17 => ?_) (fun h17 => absurd h17 (by exact fun z => z ht0))
  refine s_FC_get_22 (fun n22 fn22 => ?_)
  have xn : xw (fun _ _ => False) K I F (ex_nk K n22 7 0) (ex_ni I n22) (ex_nr F n22) := xw_new fn22
  have k7 : (ex_nk K n22 7 0 n22).1 = 7 := by rw [ex_nk_at]
  have R0 := Rc_0 xn hR
  have hd1 := R0.1.2.1.1
  have x1' := R0.1.1.2.1
  have kx : (ex_nk K n22 7 0 (a 0)).1 = 1 := xw_K xn (by decide) x0
  have b1 : ex_ni I n22 110 (a 0) 0 = s.1 820 0 := by rw [xw_i xn (by decide) x0 id]; exact t0
  have z1 : ∀ f, ex_ni I n22 f n22 0 = 0 := fun f => by rw [ex_ni_at]
  have z2 : ∀ f, ex_nr F n22 f n22 0 = none := fun f => by rw [ex_nr_at]
  have nx : a 0 ≠ n22 := fun e => by rw [← e, x0] at fn22; exact absurd fn22 (by decide)
  have nd : a 1 ≠ n22 := fun e => by rw [← e, hd.1] at fn22; exact absurd fn22 (by decide)
  have nxd : a 0 ≠ a 1 := fun e => by have := hd.1; rw [← e, x0] at this; exact absurd this (by decide)
  have c1' := R0.2.1.1
  have c2' := R0.2.1.2.1
  have c9 : ex_ni I n22 229 (a 1) = I 229 (a 1) := xw_i xn (by decide) hd.1 id
  generalize ex_nk K n22 7 0 = K1 at xn k7 kx R0 hd1 x1' ⊢
  generalize ex_ni I n22 = I1 at xn b1 z1 R0 c1' c2' c9 ⊢
  generalize ex_nr F n22 = F1 at xn z2 R0 hd1 x1' ⊢
  have dX : ex_ui I1 110 (a 0) 0 (s.1 820 0 + 1) 22 (a 2) = s.1 3 := by rw [ex_ui_f _ _ _ _ (by decide)]; exact c1'
  have dL : ex_ui I1 110 (a 0) 0 (s.1 820 0 + 1) 229 (a 1) 0 = nI n := by rw [ex_ui_f _ _ _ _ (by decide), c2']; exact hs
  refine s_FC_get_25 ?_
  refine s_FC_get_26 ?_
  refine s_FC_get_27 (b1 := 0) (b2 := b + 3) (by rfl) (by exact kx) (ex_up (d := d) (by omega) (sp_nextReq kx b1)) ?_ (by omega)
  rintro _ _ _ _ ⟨rfl, rfl, rfl, rfl⟩
  dsimp only [Option.toList, List.cons_append, List.nil_append]
  refine s_FC_get_30 ?_
  refine s_FC_get_31 ?_
  refine s_FC_get_32 ?_
  refine s_FC_get_33 ?_
  refine s_FC_get_34 (by first | rfl | assumption | (simp [*]; done)) (by first | rfl | assumption | (simp [*]; done)) ?_
  refine s_FC_get_37 (b1 := 0 + 2) (b2 := b + 1) (by exact x1') (by exact hd1.1) (sp_takeR (d := d) (b := 0) hd1 dL hn dX) ?_ (by omega)
  rintro _ K2 I2 F2 ⟨q, rfl, xt, h229, hC⟩
  dsimp only [Option.toList, List.cons_append, List.nil_append]
  have k72 : (K2 n22).1 = 7 := xw_K xt (by decide) k7
  refine s_FC_get_40 (b1 := 0) (b2 := b + 1) (by first | rfl | assumption | (simp [*]; done)) (ex_up (by omega) (sp_req (d := d) (p := q) k72)) ?_ (by omega)
  rintro _ _ I3 F3 ⟨rfl, rfl, x3', ⟨r1, r2, r3, r4, r5, r6⟩, r7, r9, r10, r11, r12, r13⟩
  dsimp only [Option.toList, List.cons_append, List.nil_append]
  refine s_FC_get_43 ?_
  rw [hm] at r1 xt h229
  have xa : xw (fun f c => lP [(110, a 0), (229, a 1)] f c ∨ c = n22) K I F K2 I3 F3 := xw_trans (xw_mono xn (fun _ _ _ h => h.elim)) (xw_trans (xw_ui (I := I1) (g := 110) (a := a 0) (i := 0) (x := nI (g.2.2.1 + 1)) (Or.inl (by simp [lP]))) (xw_trans (xw_mono xt (fun f q _ h => Or.inl (by simp [lP] at h ⊢; exact Or.inr h))) (xw_mono x3' (fun _ _ _ h => Or.inr h))))
  have xb := xw_drop fn22 xa
  have kd2 : (K2 (a 1)).1 = 3 := xw_K xb (by decide) hd.1
  have kx2 : (K2 (a 0)).1 = 1 := xw_K xb (by decide) x0
  have j229 : I3 229 (a 1) 0 = 0 := by
    rw [(xw_ne x3' (c := a 1) (by rw [kd2]; decide) nd).2 229 |>.1, h229 0]
    rfl
  have xv0 : xw (lP [(229, a 1)]) K I F K (ex_wi I 229 (a 1) (I3 229 (a 1))) (ex_wf F 229 (a 1) (F3 229 (a 1))) := xw_trans (xw_wi (by simp [lP])) (xw_wf (by simp [lP]))
  have Rv : Rc K (ex_wi I 229 (a 1) (I3 229 (a 1))) (ex_wf F 229 (a 1) (F3 229 (a 1))) a g 3 (m_parse s n) := Rc_parse hR xv0 (by rw [ex_wi_at]; exact j229)
  have xv : xw (lP [(110, a 0)]) K (ex_wi I 229 (a 1) (I3 229 (a 1))) (ex_wf F 229 (a 1) (F3 229 (a 1))) K2 I3 F3 := fun c hc => by
    refine ⟨(xb c hc).1, fun f hf => ?_⟩
    by_cases e1 : f = 229
    · by_cases e2 : c = a 1
      · subst e1 e2
        rw [ex_wi_at, ex_wf_at]
        exact ⟨rfl, rfl⟩
      · rw [ex_wi_ne _ _ _ e2, ex_wf_ne _ _ _ e2]
        exact (xb c hc).2 f (by simp [lP, e2] at hf ⊢; exact hf)
    · rw [ex_wi_f _ _ _ e1, ex_wf_f _ _ _ e1]
      exact (xb c hc).2 f (by simp [lP, e1] at hf ⊢; exact hf)
  have x8' : F3 107 (a 0) 0 = some (a 11) := by rw [xw_f xb (by decide) x0 (by simp [lP])]; exact x8
  have y5' : K2 (a 11) = (34, 16) := xw_k xb (by decide) y5
  have i110 : I3 110 (a 0) 0 = nI (g.2.2.1 + 1) := by
    rw [(xw_ne x3' (c := a 0) (by rw [kx2]; decide) nx).2 110 |>.1, xw_i xt (by decide) kx (by simp [lP]), ex_ui_eq]
  have nn : ∀ f, I2 f n22 0 = 0 := fun f => by
    rw [xw_i xt (by decide) k7 (by simp [lP]; exact fun _ => Ne.symm nd), ex_ui_ne _ _ _ _ (Ne.symm nx)]
    exact z1 f
  have o5 : F3 491 n22 0 = none := by
    rw [r13, xw_f xt (by decide) k7 (by simp [lP])]
    exact z2 _
  have o1 := r9.trans (nn _)
  have o2 := r10.trans (nn _)
  have o3 := r11.trans (nn _)
  have o4 := r12.trans (nn _)
  refine s_FC_get_45 ?_
  refine s_FC_get_46 ?_
  refine s_FC_get_48 (b1 := 0) (b2 := b + 1) (by rfl) (by exact kx2) (ex_up (by omega) (sp_keep (d := d) kx2 x8' y5' k72 r1 hM)) ?_ (by omega)
  rintro _ _ _ _ ⟨rfl, rfl, rfl, rfl⟩
  dsimp only [Option.toList, List.cons_append, List.nil_append]
  have xk : xw (lP (nPl a)) K2 I3 F3 K2 I3 (ex_uf F3 34 (a 11) (sl (g.2.2.1 + 1)) (some n22)) := xw_uf (by simp [lP, nPl])
  have ik : imm (lP (nPl a)) := im_l (by simp [nPl, xmut])
  have xm : xw (lP (nPl a)) K (ex_wi I 229 (a 1) (I3 229 (a 1))) (ex_wf F 229 (a 1) (F3 229 (a 1))) K2 I3 F3 := xw_mono xv (fun f q _ h => by simp [lP, nPl] at h ⊢; exact Or.inl h)
  have R1 := Rc_next (p := n22) Rv hM (xw_trans xm xk) k72 r1 o1 o2 o3 o4 (fun j => by
    rw [ex_uf_at]
    by_cases e : j = sl (g.2.2.1 + 1)
    · simp only [if_pos e]
    · simp only [if_neg e]
      rw [xw_f xv (k := 34) (by decide) (by rw [y5]) (by simp [lP])]) i110
  have hC1 : Ctl K2 I3 F3 q (tx_4 (tx_all (s.1 3) n)) := Ctl_z x3' (by rw [k72]; decide) (by rw [k72]; decide) hC
  have hC2 : Ctl K2 I3 (ex_uf F3 34 (a 11) (sl (g.2.2.1 + 1)) (some n22)) q ((m_next (m_parse s n)).1 5) := by
    have e5 : (m_next (m_parse s n)).1 5 = tx_4 (tx_all (s.1 3) n) := by
      unfold m_next
      rw [m_rep_1 _ _ _ _ _ _ (by decide)]
      rfl
    rw [e5]
    exact Ctl_x xk ik hC1
  have f490 : ex_uf F3 34 (a 11) (sl (g.2.2.1 + 1)) (some n22) 490 n22 0 = some q := by rw [ex_uf_f _ _ _ _ (by decide)]; exact r7
  have f491 : ex_uf F3 34 (a 11) (sl (g.2.2.1 + 1)) (some n22) 491 n22 0 = none := by rw [ex_uf_f _ _ _ _ (by decide)]; exact o5
  have hJ1 : J (N + 1) 3 3 (m_next (m_parse s n)) := J_next (J_up (J_parse hJ n)) (by omega) (by show (s.1 820 0).toInt + 1 ≤ _; omega)
  have hfr := J_fresh (J_parse hJ n) (by omega)
  have hm' : (m_parse s n).1 820 0 + 1 = nI (g.2.2.1 + 1) := hm
  rw [hm'] at hfr
  have hdl := sp_deal (Γ := Γ) (d := d) (b := b) (p := n22) (pp := p) (rn := g.2.2.1 + 1) (zc := q) (v := v) (tag := tag) R1 (by omega) (Nat.le_refl _) (if_pos rfl) k72 r1 r2 r3 r4 r5 r6 f490 hC2 f491 o2 o3 o4 (fun u hu w' hw' e => hfr u hu w' hw' e.symm) hJ1 (by omega) hp
  generalize ex_uf F3 34 (a 11) (sl (g.2.2.1 + 1)) (some n22) = F4 at R1 hdl ⊢
  refine s_FC_get_51 ?_
  refine s_FC_get_52 ?_
  refine s_FC_get_54 (b1 := b + 1) (b2 := 0) (by rfl) (by exact kx2) (ex_up (by omega) hdl) ?_ (by omega)
  rintro _ K5 I5 F5 ⟨rfl, X5, R5⟩
  dsimp only [Option.toList, List.cons_append, List.nil_append]
  have k3 : (K5 n22).1 = 7 := xw_K X5 (by decide) k72
  have e4 : I5 484 n22 0 = nI (g.2.2.1 + 1) := by rw [xw_i X5 (by decide) k72 (by decide)]; exact r1
  refine s_FC_get_57 ?_
  refine s_FC_get_59 (by rfl) (by exact k3) ?_
  refine s_FC_get_62 ?_
  rw [e4, hm]
  refine ⟨rfl, gN g n22, ?_⟩
  unfold m_get
  rw [hm]
  exact R5
