/-! The class: requests -/
theorem xw_drop {P : Nat → Nat → Prop} {K K' : ex_K} {I I' : ex_I} {F F' : ex_F} {n : Nat} (fn : (K n).1 = 0) (h : xw (fun f c => P f c ∨ c = n) K I F K' I' F') : xw P K I F K' I' F' := fun c hc => by
  have e : c ≠ n := fun w => hc (by rw [w]; exact fn)
  exact ⟨(h c hc).1, fun f hf => (h c hc).2 f (fun w => w.elim hf e)⟩
theorem sp_nextReq {Γ : ex_G} {d : Nat} {K : ex_K} {I : ex_I} {F : ex_F} {b : Nat} {x : Nat} {v : Int32} (hx : (K x).1 = 1) (hv : I 110 x 0 = v) :
    ex_E Γ d M_FC_nextRequest 0 [some (.inr (some x))] [] K I F b (fun r K' I' F' => r = some (.inl (v + 1)) ∧ K = K' ∧ ex_ui I 110 x 0 (v + 1) = I' ∧ F = F') := by
  subst hv
  refine s_FC_nextRequest_0 ?_
  refine s_FC_nextRequest_1 ?_
  refine s_FC_nextRequest_2 (by first | rfl | assumption | (simp [*]; done)) (by first | rfl | assumption | (simp [*]; done)) ?_
  refine s_FC_nextRequest_5 ?_
  refine s_FC_nextRequest_6 ?_
  refine s_FC_nextRequest_7 (by first | rfl | assumption | (simp [*]; done)) (by first | rfl | assumption | (simp [*]; done)) ?_
  refine s_FC_nextRequest_10 ?_
  refine s_FC_nextRequest_11 (by first | rfl | assumption | (simp [*]; done)) (by first | rfl | assumption | (simp [*]; done)) ?_
  refine s_FC_nextRequest_14 ?_
  rw [ex_ui_eq]
  exact ⟨rfl, rfl, rfl, rfl⟩
theorem sp_keep {Γ : ex_G} {d : Nat} {K : ex_K} {I : ex_I} {F : ex_F} {b : Nat} {x l p r : Nat} (hx : (K x).1 = 1) (hl : F 107 x 0 = some l) (kl : K l = (34, 16)) (hp : (K p).1 = 7) (hn : I 484 p 0 = nI r) (hr : r < 2 ^ 30) :
    ex_E Γ (d + 2) M_FC_keepRequest 0 [some (.inr (some x)), some (.inr (some p))] [] K I F b (fun r0 K' I' F' => r0 = none ∧ K = K' ∧ I = I' ∧ ex_uf F 34 l (sl r) (some p) = F') := by
  have k1 : (K l).1 = 34 := by rw [kl]
  have k2 : (K l).2 = 16 := by rw [kl]
  have hs16 : sl r < 16 := by rw [sl_eq]; omega
  refine s_FC_keepRequest_0 ?_
  refine s_FC_keepRequest_1 (by first | rfl | assumption | (simp [*]; done)) (by first | rfl | assumption | (simp [*]; done)) ?_
  refine s_FC_keepRequest_4 ?_
  refine s_FC_keepRequest_5 (by first | rfl | assumption | (simp [*]; done)) (by first | rfl | assumption | (simp [*]; done)) ?_
  rw [hn]
  refine s_FC_keepRequest_8 (b1 := 0) (b2 := b)  (sp_slotOf hr) ?_ (by omega)
  rintro _ _ _ _ ⟨rfl, rfl, rfl, rfl⟩
  dsimp only [Option.toList, List.cons_append, List.nil_append]
  refine s_FC_keepRequest_11 ?_
  refine s34_FC_keepRequest_12 (by exact hl) (by exact k1) (by intro y hy; cases hy; exact hp) (by rw [k2]; exact vp_in_nI hs16 (by omega)) ?_
  refine s_FC_keepRequest_13 ?_
  rw [nI_clamp (by omega)]
  exact ⟨rfl, rfl, rfl, rfl⟩
theorem sp_passOn {Γ : ex_G} {d : Nat} {K : ex_K} {I : ex_I} {F : ex_F} {b : Nat} {a : Nat → Nat} {g : GH} {s : MS} (hR : Rc K I F a g 3 s) {p pp : Nat} {w : Nat → Int32} (hp : Rw K I F g p w) (hpp : pp < 8) (h2 : w 2 = nI pp) (hx : ∀ u, u < 3 → ∀ w', w' ∈ s.2 (100 + u) → ¬ w' 0 = w 0) (h0 : ¬ s.1 24 (own pp) + 1 = 0) :
    ex_E Γ (d + 4) M_FC_passOn 0 [some (.inr (some (a 0))), some (.inr (some p))] [] K I F (b + 1) (fun r K' I' F' => r = none ∧ xi K I F K' I' F' ∧ Rc K' I' F' a g 3 (m_adm s (own pp) w)) := by
  obtain ⟨x0, x1, x2, x3, x4, x5, x6, x7, x8⟩ := hR.1.1
  have ho := own3 pp hpp
  obtain ⟨t1, t2, t3, t4, -⟩ := hR.1.2.2.1 (own pp) ho
  have kc : (K (a 10)).1 = 33 := by rw [hR.1.2.1.2.2.2.1]
  have kc2 : (K (a 10)).2 = 3 := by rw [hR.1.2.1.2.2.2.1]
  have t0 := hR.2.2.2.2.2.2.2.2.1.1
  have kp := hp.1.1
  have e486 : I 486 p 0 = nI pp := by rw [hp.1.2.2.2.1, h2]
  refine s_FC_passOn_0 ?_
  refine s_FC_passOn_1 (by first | rfl | assumption | (simp [*]; done)) (by first | rfl | assumption | (simp [*]; done)) ?_
  refine s_FC_passOn_4 ?_
  refine s_FC_passOn_5 (by first | rfl | assumption | (simp [*]; done)) (by first | rfl | assumption | (simp [*]; done)) ?_
  rw [e486]
  refine s_FC_passOn_8 (b1 := 0) (b2 := b + 1)  (ex_up (d := d) (by omega) (sp_ownerOf hpp)) ?_ (by omega)
  rintro _ _ _ _ ⟨rfl, rfl, rfl, rfl⟩
  dsimp only [Option.toList, List.cons_append, List.nil_append]
  refine s33_FC_passOn_11 (by exact x7) (by exact kc) (by rw [kc2]; exact vp_in_nI ho (by omega)) ?_
  refine s_FC_passOn_12 ?_
  refine s_FC_passOn_13 ?_
  refine s_FC_passOn_14 (by first | rfl | assumption | (simp [*]; done)) (by first | rfl | assumption | (simp [*]; done)) ?_
  refine s_FC_passOn_17 ?_
  refine s_FC_passOn_18 (by first | rfl | assumption | (simp [*]; done)) (by first | rfl | assumption | (simp [*]; done)) ?_
  rw [t0, x3]
  refine s_FC_passOn_21 (b1 := b + 1) (b2 := 0) (by rw [nI_clamp (by omega)]; exact t3) (by exact t4) (sp_admit hR ho hp hx h0) ?_ (by omega)
  rintro _ K1 I1 F1 ⟨rfl, X1, R1⟩
  dsimp only [Option.toList, List.cons_append, List.nil_append]
  refine s_FC_passOn_24 ?_
  exact ⟨rfl, X1, R1⟩
theorem m_pass_adm (s : MS) (r kind : Int32) (p : Nat) (v tag n : Int32) : m_pass s r kind p v tag n = m_adm s (own p) (prw (s.1 5) r kind (nI p) v tag n (m_ent s kind (nI p) v)) := rfl
theorem sp_makeChange {Γ : ex_G} {d : Nat} {K : ex_K} {I : ex_I} {F : ex_F} {b : Nat} {a : Nat → Nat} {g : GH} {s : MS} (hR : Rc K I F a g 3 s) {N pp : Nat} {kd sz : Int32} (hJ : J N 3 3 s) (hN : N < 1000) (hpp : pp < 8) (hk : ¬ kd = 1) :
    ex_E Γ (d + 5) M_FC_makeChange 0 [some (.inr (some (a 0))), some (.inl kd), some (.inl (nI pp)), some (.inl sz), none] [] K I F (b + 4) (fun r K' I' F' => r = some (.inl (s.1 820 0 + 1)) ∧ ∃ g', Rc K' I' F' a g' 3 (m_pass (m_next s) (s.1 820 0 + 1) kd pp 0 0 sz)) := by
  obtain ⟨x0, x1, x2, x3, x4, x5, x6, x7, x8⟩ := hR.1.1
  have hg := hR.2.2.2.2.2.2.2.2.2
  have t0 := hR.2.2.2.2.2.2.2.2.1.2.2
  have hm := m_next_e hR
  have m0 := hJ.1.1 820 (by decide)
  have hM : g.2.2.1 + 1 < 2 ^ 30 := by
    have := m0.2
    rw [hg.1, nI_toInt (by have := hg.2.1; omega)] at this
    omega
  have y5 := hR.1.2.1.2.2.2.2.1
  refine s_FC_makeChange_0 (fun n0 fn0 => ?_)
  have xn : xw (fun _ _ => False) K I F (ex_nk K n0 7 0) (ex_ni I n0) (ex_nr F n0) := xw_new fn0
  have k7 : (ex_nk K n0 7 0 n0).1 = 7 := by rw [ex_nk_at]
  have kx : (ex_nk K n0 7 0 (a 0)).1 = 1 := xw_K xn (by decide) x0
  have b1 : ex_ni I n0 110 (a 0) 0 = s.1 820 0 := by rw [xw_i xn (by decide) x0 id]; exact t0
  have z1 : ∀ f, ex_ni I n0 f n0 0 = 0 := fun f => by rw [ex_ni_at]
  have z2 : ∀ f, ex_nr F n0 f n0 0 = none := fun f => by rw [ex_nr_at]
  have nx : a 0 ≠ n0 := fun e => by rw [← e, x0] at fn0; exact absurd fn0 (by decide)
  generalize ex_nk K n0 7 0 = K1 at xn k7 kx ⊢
  generalize ex_ni I n0 = I1 at xn b1 z1 ⊢
  generalize ex_nr F n0 = F1 at xn z2 ⊢
  refine s_FC_makeChange_3 ?_
  refine s_FC_makeChange_4 ?_
  refine s_FC_makeChange_5 (b1 := 0) (b2 := b + 3) (by rfl) (by exact kx) (ex_up (d := d) (by omega) (sp_nextReq kx b1)) ?_ (by omega)
  rintro _ _ _ _ ⟨rfl, rfl, rfl, rfl⟩
  dsimp only [Option.toList, List.cons_append, List.nil_append]
  refine s_FC_makeChange_8 ?_
  refine s_FC_makeChange_9 ?_
  refine s_FC_makeChange_10 ?_
  refine s_FC_makeChange_11 (b1 := 0 + 2) (b2 := b + 1) (by first | rfl | assumption | (simp [*]; done)) (ex_up (by omega) (sp_req2 (d := d) (b := 0) k7)) ?_ (by omega)
  rintro _ K2 I2 F2 ⟨rfl, k72, x2, ⟨r1, r2, r3, r4, r5, r6⟩, ⟨cz, cy, r7, r8⟩, r9, r10, r11, r12, r13⟩
  dsimp only [Option.toList, List.cons_append, List.nil_append]
  refine s_FC_makeChange_14 ?_
  rw [hm] at r1 x2
  have xa : xw (fun f c => lP [(110, a 0)] f c ∨ c = n0) K I F K2 I2 F2 := xw_trans (xw_mono xn (fun _ _ _ h => h.elim)) (xw_trans (xw_ui (I := I1) (g := 110) (a := a 0) (i := 0) (x := nI (g.2.2.1 + 1)) (Or.inl (by simp [lP]))) (xw_mono x2 (fun _ _ _ h => Or.inr h)))
  have xb := xw_drop fn0 xa
  have i110 : I2 110 (a 0) 0 = nI (g.2.2.1 + 1) := by
    have := (xw_ne x2 (c := a 0) (by rw [kx]; decide) nx).2 110
    rw [this.1, ex_ui_eq]
  have x8' : F2 107 (a 0) 0 = some (a 11) := by rw [xw_f xb (by decide) x0 (by simp [lP])]; exact x8
  have y5' : K2 (a 11) = (34, 16) := xw_k xb (by decide) y5
  have kx2 : (K2 (a 0)).1 = 1 := xw_K xb (by decide) x0
  have o1 : I2 492 n0 0 = 0 := by rw [r9, ex_ui_ne _ _ _ _ (Ne.symm nx)]; exact z1 _
  have o2 : I2 493 n0 0 = 0 := by rw [r10, ex_ui_ne _ _ _ _ (Ne.symm nx)]; exact z1 _
  have o3 : I2 494 n0 0 = 0 := by rw [r11, ex_ui_ne _ _ _ _ (Ne.symm nx)]; exact z1 _
  have o4 : I2 495 n0 0 = 0 := by rw [r12, ex_ui_ne _ _ _ _ (Ne.symm nx)]; exact z1 _
  have o5 : F2 491 n0 0 = none := by rw [r13]; exact z2 _
  refine s_FC_makeChange_16 ?_
  refine s_FC_makeChange_17 ?_
  refine s_FC_makeChange_19 (b1 := 0) (b2 := b + 1) (by rfl) (by exact kx2) (ex_up (by omega) (sp_keep (d := d) kx2 x8' y5' k72 r1 hM)) ?_ (by omega)
  rintro _ _ _ _ ⟨rfl, rfl, rfl, rfl⟩
  dsimp only [Option.toList, List.cons_append, List.nil_append]
  have xk : xw (lP (nPl a)) K2 I2 F2 K2 I2 (ex_uf F2 34 (a 11) (sl (g.2.2.1 + 1)) (some n0)) := xw_uf (by simp [lP, nPl])
  have ik : imm (lP (nPl a)) := im_l (by simp [nPl, xmut])
  have xm : xw (lP (nPl a)) K I F K2 I2 F2 := xw_mono xb (fun f q _ h => by simp [lP, nPl] at h ⊢; exact Or.inl h)
  have R1 := Rc_next (p := n0) hR hM (xw_trans xm xk) k72 r1 o1 o2 o3 o4 (fun j => by
    rw [ex_uf_at]
    by_cases e : j = sl (g.2.2.1 + 1)
    · simp only [if_pos e]
    · simp only [if_neg e]
      rw [xw_f xb (k := 34) (by decide) (by rw [y5]) (by simp [lP])]) i110
  have w1 : Rw K2 I2 (ex_uf F2 34 (a 11) (sl (g.2.2.1 + 1)) (some n0)) (gN g n0) n0 (prw ((m_next s).1 5) (s.1 820 0 + 1) kd (nI pp) 0 0 sz (m_ent (m_next s) kd (nI pp) 0)) := by
    have em : m_ent (m_next s) kd (nI pp) 0 = none := if_neg hk
    rw [em]
    refine ⟨⟨k72, ?_, r2, r3, r4, r5, r6, Or.inl ⟨rfl, rfl, ?_⟩, cz, ?_, ⟨cy, r8.1, ?_, r8.2.2⟩, fun e => absurd e hk⟩, o2, o3, o4, g.2.2.1 + 1, hm, by omega, Nat.le_refl _, if_pos rfl⟩
    · rw [r1]; exact hm.symm
    · rw [ex_uf_f _ _ _ _ (by decide)]; exact o5
    · rw [ex_uf_f _ _ _ _ (by decide)]; exact r7
    · rw [ex_uf_f _ _ _ _ (by decide)]; exact r8.2.1
  have hf := J_fresh hJ (by omega)
  have e24 : (m_next s).1 24 (own pp) = s.1 24 (own pp) := by
    unfold m_next
    rw [m_rep_1 _ _ _ _ _ _ (by decide)]
    rfl
  have hpo := sp_passOn (Γ := Γ) (d := d) (b := b) R1 w1 hpp rfl (fun u hu w' hw' e => hf u hu w' hw' e.symm) (by rw [e24]; exact J_24 hJ (by omega) (own3 pp hpp))
  generalize ex_uf F2 34 (a 11) (sl (g.2.2.1 + 1)) (some n0) = F3 at R1 w1 hpo ⊢
  refine s_FC_makeChange_22 ?_
  refine s_FC_makeChange_23 ?_
  refine s_FC_makeChange_25 (b1 := b + 1) (b2 := 0) (by rfl) (by exact kx2) (hpo) ?_ (by omega)
  rintro _ K4 I4 F4 ⟨rfl, X4, R4⟩
  dsimp only [Option.toList, List.cons_append, List.nil_append]
  have k3 : (K4 n0).1 = 7 := xw_K X4 (by decide) k72
  have e4 : I4 484 n0 0 = nI (g.2.2.1 + 1) := by rw [xw_i X4 (by decide) k72 (by decide)]; exact r1
  refine s_FC_makeChange_28 ?_
  refine s_FC_makeChange_30 (by rfl) (by exact k3) ?_
  refine s_FC_makeChange_33 ?_
  rw [e4, ← hm]
  exact ⟨rfl, gN g n0, by rw [m_pass_adm]; exact R4⟩
theorem sp_putC {Γ : ex_G} {d : Nat} {K : ex_K} {I : ex_I} {F : ex_F} {b : Nat} {a : Nat → Nat} {g : GH} {s : MS} (hR : Rc K I F a g 3 s) {N p : Nat} {y : Int32} (hJ : J N 3 3 s) (hN : N < 1000) (hp : p < 8) (h1 : ¬ y < 1) (h9 : y ≤ 9) :
    ex_E Γ (d + 6) M_FC_put 0 [some (.inr (some (a 0))), some (.inl (nI p)), some (.inl y)] [] K I F (b + 4) (fun r K' I' F' => r = some (.inl (s.1 820 0 + 1)) ∧ ∃ g', Rc K' I' F' a g' 3 (m_put s p y)) := by
  obtain ⟨x0, x1, x2, x3, x4, x5, x6, x7, x8⟩ := hR.1.1
  refine s_FC_put_0 ?_
  refine s_FC_put_1 (b1 := 0) (b2 := b + 4)  (ex_up (d := d) (by omega) (sp_isPathFC hp)) ?_ (by omega)
  rintro _ _ _ _ ⟨rfl, rfl, rfl, rfl⟩
  dsimp only [Option.toList, List.cons_append, List.nil_append]
  refine s_FC_put_4 (fun h4 => absurd h4 (by decide)) (fun h4 => ?_)
  refine s_FC_put_7 ?_
  refine s_FC_put_8 (b1 := 0) (b2 := b + 4)  (ex_up (d := d) (by omega) (sp_isSize h1 h9)) ?_ (by omega)
  rintro _ _ _ _ ⟨rfl, rfl, rfl, rfl⟩
  dsimp only [Option.toList, List.cons_append, List.nil_append]
  refine s_FC_put_11 (fun h11 => ?_) (fun h11 => absurd h11 (by decide))
  refine s_FC_put_16 ?_
  refine s_FC_put_17 ?_
  refine s_FC_put_18 ?_
  refine s_FC_put_19 ?_
  refine s_FC_put_20 (b1 := b + 4) (b2 := 0) (by rfl) (by exact x0) (sp_makeChange hR hJ hN hp (by decide)) ?_ (by omega)
  rintro _ K4 I4 F4 ⟨rfl, g4, R4⟩
  dsimp only [Option.toList, List.cons_append, List.nil_append]
  refine s_FC_put_23 ?_
  exact ⟨rfl, g4, R4⟩
theorem sp_deleteC {Γ : ex_G} {d : Nat} {K : ex_K} {I : ex_I} {F : ex_F} {b : Nat} {a : Nat → Nat} {g : GH} {s : MS} (hR : Rc K I F a g 3 s) {N p : Nat} (hJ : J N 3 3 s) (hN : N < 1000) (hp : p < 8)  :
    ex_E Γ (d + 6) M_FC_delete 0 [some (.inr (some (a 0))), some (.inl (nI p))] [] K I F (b + 4) (fun r K' I' F' => r = some (.inl (s.1 820 0 + 1)) ∧ ∃ g', Rc K' I' F' a g' 3 (m_del s p)) := by
  obtain ⟨x0, x1, x2, x3, x4, x5, x6, x7, x8⟩ := hR.1.1
  refine s_FC_delete_0 ?_
  refine s_FC_delete_1 (b1 := 0) (b2 := b + 4)  (ex_up (d := d) (by omega) (sp_isPathFC hp)) ?_ (by omega)
  rintro _ _ _ _ ⟨rfl, rfl, rfl, rfl⟩
  dsimp only [Option.toList, List.cons_append, List.nil_append]
  refine s_FC_delete_4 (fun h4 => ?_) (fun h4 => absurd h4 (by decide))
  refine s_FC_delete_9 ?_
  refine s_FC_delete_10 ?_
  refine s_FC_delete_11 ?_
  refine s_FC_delete_12 ?_
  refine s_FC_delete_13 (b1 := b + 4) (b2 := 0) (by rfl) (by exact x0) (sp_makeChange hR hJ hN hp (by decide)) ?_ (by omega)
  rintro _ K4 I4 F4 ⟨rfl, g4, R4⟩
  dsimp only [Option.toList, List.cons_append, List.nil_append]
  refine s_FC_delete_16 ?_
  exact ⟨rfl, g4, R4⟩
theorem sp_putC_no {Γ : ex_G} {d : Nat} {K : ex_K} {I : ex_I} {F : ex_F} {b : Nat} {a : Nat → Nat} {g : GH} {s : MS} (hR : Rc K I F a g 3 s) {x y : Int32} (hx : (x < 0 ∨ nI 8 ≤ x) ∨ ((¬ x < 0 ∧ ¬ nI 8 ≤ x) ∧ (y < 1 ∨ ¬ y ≤ 9))) :
    ex_E Γ (d + 1) M_FC_put 0 [some (.inr (some (a 0))), some (.inl x), some (.inl y)] [] K I F b (fun r K' I' F' => r = some (.inl (-1)) ∧ ∃ g', Rc K' I' F' a g' 3 (s)) := by
  obtain ⟨x0, x1, x2, x3, x4, x5, x6, x7, x8⟩ := hR.1.1
  rcases hx with hx | ⟨hx1, hx2⟩
  · refine s_FC_put_0 ?_
    refine s_FC_put_1 (b1 := 0) (b2 := b)  (sp_isPathFC_no hx) ?_ (by omega)
    rintro _ _ _ _ ⟨rfl, rfl, rfl, rfl⟩
    dsimp only [Option.toList, List.cons_append, List.nil_append]
    refine s_FC_put_4 (fun h4 => ?_) (fun h4 => absurd h4 (by exact fun z => z rfl))
    refine s_FC_put_14 ?_
    refine s_FC_put_15 ?_
    exact ⟨rfl, g, hR⟩
  · obtain ⟨p, hp, rfl⟩ := ((pk_ix x (n := 8) (by decide)).resolve_left hx1.1).resolve_left hx1.2
    refine s_FC_put_0 ?_
    refine s_FC_put_1 (b1 := 0) (b2 := b)  (sp_isPathFC hp) ?_ (by omega)
    rintro _ _ _ _ ⟨rfl, rfl, rfl, rfl⟩
    dsimp only [Option.toList, List.cons_append, List.nil_append]
    refine s_FC_put_4 (fun h4 => absurd h4 (by decide)) (fun h4 => ?_)
    refine s_FC_put_7 ?_
    refine s_FC_put_8 (b1 := 0) (b2 := b)  (sp_isSize_no hx2) ?_ (by omega)
    rintro _ _ _ _ ⟨rfl, rfl, rfl, rfl⟩
    dsimp only [Option.toList, List.cons_append, List.nil_append]
    refine s_FC_put_11 (fun h11 => absurd h11 (by decide)) (fun h11 => ?_)
    refine s_FC_put_14 ?_
    refine s_FC_put_15 ?_
    exact ⟨rfl, g, hR⟩
theorem sp_deleteC_no {Γ : ex_G} {d : Nat} {K : ex_K} {I : ex_I} {F : ex_F} {b : Nat} {a : Nat → Nat} {g : GH} {s : MS} (hR : Rc K I F a g 3 s) {x : Int32} (hx : x < 0 ∨ nI 8 ≤ x) :
    ex_E Γ (d + 1) M_FC_delete 0 [some (.inr (some (a 0))), some (.inl x)] [] K I F b (fun r K' I' F' => r = some (.inl (-1)) ∧ ∃ g', Rc K' I' F' a g' 3 (s)) := by
  refine s_FC_delete_0 ?_
  refine s_FC_delete_1 (b1 := 0) (b2 := b)  (sp_isPathFC_no hx) ?_ (by omega)
  rintro _ _ _ _ ⟨rfl, rfl, rfl, rfl⟩
  dsimp only [Option.toList, List.cons_append, List.nil_append]
  refine s_FC_delete_4 (fun h4 => absurd h4 (by decide)) (fun h4 => ?_)
  refine s_FC_delete_7 ?_
  refine s_FC_delete_8 ?_
  exact ⟨rfl, g, hR⟩
