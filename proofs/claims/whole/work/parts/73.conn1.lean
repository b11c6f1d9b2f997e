/-! The class: connections -/
theorem sp_sendC {Γ : ex_G} {d : Nat} {K : ex_K} {I : ex_I} {F : ex_F} {b : Nat} {p z : Nat} {a : Nat → Nat} {g : GH} {s : MS} {row : Nat → Int32} (hR : Rc K I F a g z s) (hp : Ms K I F p row) :
    ex_E Γ d M_UW_send 0 [some (.inr (some (a 5))), some (.inr (some p))] [] K I F b (fun r K' I' F' => (∃ x, r = some (.inl x)) ∧ K = K' ∧ xw (uP a) K I F K I' F' ∧ Rc K I' F' a g z (tu s 31 (m_snd (s.2 31) row))) := by
  obtain ⟨U, hu, hU⟩ := hR.2.2.2.1
  have hl := f2_len hU
  have h16 := hu.2.2.2.2.1
  by_cases h : U.length < 16
  · refine ex_post (fun r K' I' F' q => ?_) (sp_send hu h hp.1)
    obtain ⟨rfl, rfl, rfl, rfl⟩ := q
    exact ⟨⟨_, rfl⟩, rfl, xw_trans (xw_ui (Or.inl ⟨rfl, rfl⟩)) (xw_uf (Or.inr ⟨rfl, rfl⟩)), (Rc_sent hR hu hU h hp).1⟩
  · refine ex_post (fun r K' I' F' q => ?_) (sp_send_no hu (by omega))
    obtain ⟨rfl, rfl, rfl, rfl⟩ := q
    refine ⟨⟨_, rfl⟩, rfl, xw_rfl, ?_⟩
    rw [m_snd_no _ (by omega), tu_id]
    exact hR
def tfP (cn qa : Nat) : Nat → Nat → Prop := fun f q => ((f = 743 ∨ f = 745) ∧ q = cn) ∨ (f = 34 ∧ q = qa)
theorem im_tf {cn qa : Nat} : imm (tfP cn qa) := fun f q h => by rcases h with ⟨rfl | rfl, -⟩ | ⟨rfl, -⟩ <;> decide
theorem lp_takeFirst {Γ : ex_G} {d : Nat} {K : ex_K} {I : ex_I} {F : ex_F} {b : Nat} {Q : Option ex_V → ex_K → ex_I → ex_F → Prop} {l1 : Option ex_V} {cn qa n : Nat} {X : Nat → Option Nat} (u1 : (K cn).1 = 11) (u2 : F 742 cn 0 = some qa) (u3 : K qa = (34, 4)) (u4 : I 743 cn 0 = nI n) (hn : n < 4) (hX : ∀ j y, X j = some y → (K y).1 = 7)
    (kk : ex_E Γ d M_Con_takeFirst 52 [some (.inr (some cn)), l1, some (.inl (nI n))] [] K I (ex_wf F 34 qa (shf X 0 n 1)) b Q) :
    ∀ m j F', n - j = m → j ≤ n → F' = ex_wf F 34 qa (shf X 0 j 1) → ex_E Γ d M_Con_takeFirst 24 [some (.inr (some cn)), l1, some (.inl (nI j))] [] K I F' b Q := by
  have k1 : (K qa).1 = 34 := by rw [u3]
  have k2 : (K qa).2 = 4 := by rw [u3]
  have g2 : ∀ Y, ex_wf F 34 qa Y 742 cn 0 = some qa := fun Y => by rw [ex_wf_f _ _ _ (by decide)]; exact u2
  intro m
  induction m with
  | zero =>
    intro j F' hm h2 hF
    subst hF
    have e : j = n := by omega
    subst e
    refine s_Con_takeFirst_24 ?_
    refine s_Con_takeFirst_25 ?_
    refine s_Con_takeFirst_26 (by first | rfl | assumption | (simp [*]; done)) (by first | rfl | assumption | (simp [*]; done)) ?_
    refine s_Con_takeFirst_29 (fun h29 => ?_) (fun h29 => absurd h29 (by rw [u4]; exact fun q => q (nI_le (Nat.le_refl _) (by omega))))
    exact kk
  | succ m ih =>
    intro j F' hm h2 hF
    subst hF
    refine s_Con_takeFirst_24 ?_
    refine s_Con_takeFirst_25 ?_
    refine s_Con_takeFirst_26 (by first | rfl | assumption | (simp [*]; done)) (by first | rfl | assumption | (simp [*]; done)) ?_
    refine s_Con_takeFirst_29 (fun h29 => absurd h29 (by rw [u4]; exact nI_ge (by omega) (by omega))) (fun h29 => ?_)
    refine s_Con_takeFirst_32 ?_
    refine s_Con_takeFirst_33 (by first | rfl | assumption | (simp [*]; done)) (by first | rfl | assumption | (simp [*]; done)) ?_
    refine s_Con_takeFirst_36 ?_
    refine s_Con_takeFirst_37 ?_
    refine s_Con_takeFirst_38 (by first | rfl | assumption | (simp [*]; done)) (by first | rfl | assumption | (simp [*]; done)) ?_
    refine s_Con_takeFirst_41 ?_
    refine s_Con_takeFirst_42 ?_
    refine s_Con_takeFirst_43 ?_
    refine s34_Con_takeFirst_44 (by exact g2 _) (by exact k1) (by rw [k2, nI_1]; exact vp_in_nI (by omega) (by omega)) ?_
    refine s34_Con_takeFirst_45 (by exact g2 _) (by exact k1) (by intro y hy; rw [ex_wf_at, nI_1, nI_clamp (by omega), shf_up _ _ _ (by omega)] at hy; exact hX _ y hy) (by rw [k2]; exact vp_in_nI (by omega) (by omega)) ?_
    refine s_Con_takeFirst_46 ?_
    refine s_Con_takeFirst_49 ?_
    have e : ex_uf (ex_wf F 34 qa (shf X 0 j 1)) 34 qa (nI j).toNatClampNeg (ex_wf F 34 qa (shf X 0 j 1) 34 qa (nI j + 1).toNatClampNeg) = ex_wf F 34 qa (shf X 0 (j + 1) 1) := by
      rw [ex_wf_u, ex_wf_at, nI_1, nI_clamp (by omega), nI_clamp (by omega), shf_up _ _ _ (by omega), shf_s _ _ (Nat.zero_le _)]
    rw [e, nI_1]
    exact ih (j + 1) _ (by omega) (by omega) rfl
theorem sp_takeFirst {Γ : ex_G} {d : Nat} {K : ex_K} {I : ex_I} {F : ex_F} {b : Nat} {t : Nat} {a : Nat → Nat} {g : GH} {w : Nat → Int32} {Q : List (Nat → Int32)} (hf : fx_ok K I F a) (ht : t < 3) (hq : c_q K I F g (a (30 + t)) (a (40 + t)) (w :: Q)) :
    ex_E Γ d M_Con_takeFirst 0 [some (.inr (some (a (30 + t)))), none, none] [] K I F b (fun r K' I' F' => ∃ p, r = some (.inr (some p)) ∧ K = K' ∧ xw (tfP (a (30 + t)) (a (40 + t))) K I F K I' F' ∧ Rw K I' F' g p w ∧ c_q K I' F' g (a (30 + t)) (a (40 + t)) Q ∧ F' 745 (a (30 + t)) 0 = none) := by
  obtain ⟨-, -, -, u1, -, -, -, u2, u3⟩ := hf.2.2.1 t ht
  generalize a (30 + t) = cn at u1 u2 hq ⊢
  generalize a (40 + t) = qa at u2 u3 hq ⊢
  obtain ⟨L, q1, q2, q3, q4, q5⟩ := hq
  have k1 : (K qa).1 = 34 := by rw [u3]
  have k2 : (K qa).2 = 4 := by rw [u3]
  have hlen := f2_len q1
  obtain ⟨p, L', rfl⟩ := List.exists_cons_of_length_pos (l := L) (by rw [hlen]; simp)
  have hp := q1.1
  simp only [List.length_cons] at q2 q3 hlen
  have h0 : F 34 qa 0 = some p := q4 0 p rfl
  have c0 : I 743 cn 0 - 1 = nI Q.length := by rw [q2, nI_pred]
  refine s_Con_takeFirst_0 ?_
  refine s_Con_takeFirst_1 (by first | rfl | assumption | (simp [*]; done)) (by first | rfl | assumption | (simp [*]; done)) ?_
  refine s_Con_takeFirst_4 ?_
  refine s34_Con_takeFirst_5 (by exact u2) (by exact k1) (by rw [k2]; exact vp_in_nI (n := 0) (by omega) (by omega)) ?_
  refine s_Con_takeFirst_6 ?_
  refine s_Con_takeFirst_7 ?_
  refine s_Con_takeFirst_8 ?_
  refine s_Con_takeFirst_9 (by first | rfl | assumption | (simp [*]; done)) (by first | rfl | assumption | (simp [*]; done)) ?_
  refine s_Con_takeFirst_12 ?_
  refine s_Con_takeFirst_13 ?_
  refine s_Con_takeFirst_14 (by first | rfl | assumption | (simp [*]; done)) (by first | rfl | assumption | (simp [*]; done)) ?_
  refine s_Con_takeFirst_17 ?_
  refine s_Con_takeFirst_18 ?_
  refine s_Con_takeFirst_19 (by first | rfl | assumption | (simp [*]; done)) (by first | rfl | assumption | (simp [*]; done)) ?_
  refine s_Con_takeFirst_22 ?_
  refine s_Con_takeFirst_23 ?_
  rw [show ((0 : Int32)).toNatClampNeg = 0 from rfl, h0, c0]
  have c1 : ex_ui I 743 cn 0 (nI Q.length) 743 cn 0 = nI Q.length := ex_ui_eq _ _ _ _ _
  have g2 : ex_uf F 745 cn 0 none 742 cn 0 = some qa := by rw [ex_uf_f _ _ _ _ (by decide)]; exact u2
  refine lp_takeFirst (n := Q.length) (X := F 34 qa) u1 g2 u3 c1 (by omega) q5 ?_ _ 0 _ rfl (by omega) (by rw [shf_0, show F 34 qa = ex_uf F 745 cn 0 none 34 qa from by rw [ex_uf_f _ _ _ _ (by decide)], ex_wf_id])
  refine s_Con_takeFirst_52 ?_
  refine s_Con_takeFirst_53 (by first | rfl | assumption | (simp [*]; done)) (by first | rfl | assumption | (simp [*]; done)) ?_
  refine s_Con_takeFirst_56 ?_
  refine s_Con_takeFirst_57 (by first | rfl | assumption | (simp [*]; done)) (by first | rfl | assumption | (simp [*]; done)) ?_
  refine s_Con_takeFirst_60 ?_
  refine s34_Con_takeFirst_61 (by rw [ex_wf_f _ _ _ (by decide)]; exact g2) (by exact k1) (by intro y hy; cases hy) (by rw [k2, c1]; exact vp_in_nI (by omega) (by omega)) ?_
  refine s_Con_takeFirst_62 ?_
  refine s_Con_takeFirst_63 ?_
  rw [c1, nI_clamp (by omega), ex_wf_u]
  have x1 : xw (tfP cn qa) K I F K (ex_ui I 743 cn 0 (nI Q.length)) (ex_wf (ex_uf F 745 cn 0 none) 34 qa (fun j => if j = Q.length then none else shf (F 34 qa) 0 Q.length 1 j)) := xw_trans (xw_trans (xw_ui (Or.inl ⟨Or.inl rfl, rfl⟩)) (xw_uf (Or.inl ⟨Or.inr rfl, rfl⟩))) (xw_wf (Or.inr ⟨rfl, rfl⟩))
  have np : ∀ f q, f ≠ 743 → f ≠ 745 → f ≠ 34 → ¬ tfP cn qa f q := fun f q n1 n2 n3 h => by rcases h with ⟨h | h, -⟩ | ⟨h, -⟩ <;> contradiction
  have nx : ∀ p w, Rw K I F g p w → Rw K (ex_ui I 743 cn 0 (nI Q.length)) (ex_wf (ex_uf F 745 cn 0 none) 34 qa (fun j => if j = Q.length then none else shf (F 34 qa) 0 Q.length 1 j)) g p w := fun p w h => Rw_x x1 im_tf (np _ _ (by decide) (by decide) (by decide)) (np _ _ (by decide) (by decide) (by decide)) (np _ _ (by decide) (by decide) (by decide)) (np _ _ (by decide) (by decide) (by decide)) h
  refine ⟨p, rfl, rfl, x1, nx p w hp, ⟨L', f2_mono (fun p _ w h => nx p w h) q1.2, c1, by omega, fun i q hi => ?_, fun j y hy => ?_⟩, ?_⟩
  · rw [ex_wf_at]
    have hj := (List.getElem?_eq_some_iff.mp hi).1
    simp only [if_neg (show ¬ i = Q.length by omega)]
    have := shf_erase (X := F 34 qa) (L := p :: L') (i := 0) (by simp) q4 i q hi
    rw [List.length_cons, show L'.length + 1 - 1 = Q.length by omega] at this
    exact this
  · rw [ex_wf_at] at hy
    by_cases e : j = Q.length
    · simp only [if_pos e] at hy
      cases hy
    · simp only [if_neg e] at hy
      unfold shf at hy
      split at hy
      · exact q5 _ y hy
      · exact q5 _ y hy
  · rw [ex_wf_f _ _ _ (by decide), ex_uf_eq]
theorem sp_beginNext {Γ : ex_G} {d : Nat} {K : ex_K} {I : ex_I} {F : ex_F} {b : Nat} {t : Nat} {a : Nat → Nat} {g : GH} {s : MS} (hR : Rc K I F a g t s) (ht : t < 3) (hn : c_n I (a (30 + t)) (s.1 24 t) (s.1 25 t) (s.1 26 t) (s.1 27 t) (s.2 (100 + t))) (hq : c_q K I F g (a (30 + t)) (a (40 + t)) (s.2 (100 + t))) (hw : s.2 (100 + t) = [] → F 745 (a (30 + t)) 0 = none) (h0 : ¬ s.1 24 t + 1 = 0) :
    ex_E Γ (d + 2) M_Con_beginNext 0 [some (.inr (some (a (30 + t)))), some (.inl (s.1 805 0)), some (.inr (some (a 5)))] [] K I F (b + 1) (fun r K' I' F' => r = none ∧ xi K I F K' I' F' ∧ Rc K' I' F' a g 3 (m_beg s t)) := by
  have hT := hR.1.2.2.1 t ht
  obtain ⟨-, -, -, u1, u5, -, -, u2, u3⟩ := hT
  have kq : (K (a (40 + t))).1 = 34 := by rw [u3]
  have hl : I 743 (a (30 + t)) 0 = nI (s.2 (100 + t)).length ∧ (s.2 (100 + t)).length ≤ 4 := by
    obtain ⟨L, q1, q2, q3, q4⟩ := hq
    exact ⟨q2, q3⟩
  unfold m_beg
  cases hQ : s.2 (100 + t) with
  | nil =>
    refine s_Con_beginNext_0 ?_
    refine s_Con_beginNext_1 (by first | rfl | assumption | (simp [*]; done)) (by first | rfl | assumption | (simp [*]; done)) ?_
    refine s_Con_beginNext_4 (fun h4 => absurd h4 (by rw [hl.1, hQ]; exact fun z => z rfl)) (fun h4 => ?_)
    refine s_Con_beginNext_7 ?_
    rw [hQ] at hn hq
    refine ⟨rfl, xi_rfl, Rc_close hR ht (by rw [hQ]; exact ⟨hn, hq, fun _ => hw hQ, fun w Q' e => by cases e⟩)⟩
  | cons w Q =>
    simp only []
    have hd0 : s.1 27 t = 0 := by
      by_cases e : s.1 27 t = 0
      · exact e
      · have := (hn.2.2.2 e).2
        rw [hQ] at this
        cases this
    refine s_Con_beginNext_0 ?_
    refine s_Con_beginNext_1 (by first | rfl | assumption | (simp [*]; done)) (by first | rfl | assumption | (simp [*]; done)) ?_
    refine s_Con_beginNext_4 (fun h4 => ?_) (fun h4 => absurd h4 (by rw [hl.1, hQ]; exact nI_ne0 (by simp) (by have := hl.2; rw [hQ] at this; omega)))
    refine s_Con_beginNext_8 ?_
    refine s_Con_beginNext_9 ?_
    refine s_Con_beginNext_10 (by first | rfl | assumption | (simp [*]; done)) (by first | rfl | assumption | (simp [*]; done)) ?_
    refine s_Con_beginNext_13 ?_
    refine s_Con_beginNext_14 ?_
    refine s_Con_beginNext_15 (by first | rfl | assumption | (simp [*]; done)) (by first | rfl | assumption | (simp [*]; done)) ?_
    refine s_Con_beginNext_18 ?_
    rw [hn.2.1]
    have x0 : xw (hP a t) K I F K (ex_ui I 744 (a (30 + t)) 0 (s.1 24 t + 1)) F := xw_ui (Or.inl ⟨by decide, rfl⟩)
    have R0 : Rc K (ex_ui I 744 (a (30 + t)) 0 (s.1 24 t + 1)) F a g t (cw s 24 t (s.1 24 t + 1)) := Rc_h hR ht x0 (fun k hk => cw_ne _ _ _ (fun e => hk (by rw [e]; decide))) (fun k u hu => by
      by_cases e : k = 24
      · subst e
        rw [cw_at]
        exact if_neg hu
      · rw [cw_ne _ _ _ e]) (fun j hj => rfl)
    have nq0 : nqP (hP a t) K I (s.2 (100 + t)) := nqP_all (fun _ => by simp [hP]) (fun _ => by simp [hP]) (fun _ => by simp [hP]) (fun _ => by simp [hP]) _
    have q0 : c_q K (ex_ui I 744 (a (30 + t)) 0 (s.1 24 t + 1)) F g (a (30 + t)) (a (40 + t)) (s.2 (100 + t)) := c_q_x (xw_ui (P := lP [(744, a (30 + t))]) (by simp [lP])) (im_l (by simp [xmut])) u1 kq (by simp [lP]) (by simp [lP]) (nqP_all (fun _ => by simp [lP]) (fun _ => by simp [lP]) (fun _ => by simp [lP]) (fun _ => by simp [lP]) _) hq
    have a1 : ex_ui I 744 (a (30 + t)) 0 (s.1 24 t + 1) 744 (a (30 + t)) 0 = s.1 24 t + 1 := ex_ui_eq _ _ _ _ _
    have a2 : ex_ui I 744 (a (30 + t)) 0 (s.1 24 t + 1) 748 (a (30 + t)) 0 = s.1 27 t := by rw [ex_ui_f _ _ _ _ (by decide)]; exact hn.1
    have a3 : ex_ui I 744 (a (30 + t)) 0 (s.1 24 t + 1) 747 (a (30 + t)) 0 = s.1 26 t := by rw [ex_ui_f _ _ _ _ (by decide)]; exact hn.2.2.1 hd0
    have xx : xi K I F K (ex_ui I 744 (a (30 + t)) 0 (s.1 24 t + 1)) F := xi_of x0 im_h
    generalize ex_ui I 744 (a (30 + t)) 0 (s.1 24 t + 1) = I0 at x0 R0 q0 a1 a2 a3 xx ⊢
    refine s_Con_beginNext_19 (fun n19 fn19 => ?_)
    have xn : xw (fun _ _ => False) K I0 F (ex_nk K n19 8 0) (ex_ni I0 n19) (ex_nr F n19) := xw_new fn19
    have R1 := Rc_0 xn R0
    have i0 : imm (fun _ _ => False) := fun _ _ h => h.elim
    have q1 : c_q (ex_nk K n19 8 0) (ex_ni I0 n19) (ex_nr F n19) g (a (30 + t)) (a (40 + t)) (s.2 (100 + t)) := c_q_x xn i0 u1 kq id id (nqP_all (fun _ => id) (fun _ => id) (fun _ => id) (fun _ => id) _) q0
    have k8 : (ex_nk K n19 8 0 n19).1 = 8 := by rw [ex_nk_at]
    have b1 : ex_ni I0 n19 744 (a (30 + t)) 0 = s.1 24 t + 1 := by rw [xw_i xn (by decide) u1 id]; exact a1
    have mk : ∀ {K' : ex_K} {I' : ex_I} {F' : ex_F}, xw (fun _ c => c = n19) (ex_nk K n19 8 0) (ex_ni I0 n19) (ex_nr F n19) K' I' F' → xw (fun _ _ => False) K I0 F K' I' F' := fun h => xw_made fn19 h
    obtain ⟨-, -, -, v1, v5, -, -, v2, v3⟩ := R1.1.2.2.1 t ht
    have kq1 : (ex_nk K n19 8 0 (a (40 + t))).1 = 34 := by rw [v3]
    have kq2 : (ex_nk K n19 8 0 (a (40 + t))).2 = 4 := by rw [v3]
    have kx : (ex_nk K n19 8 0 (a 5)).1 = 9 := by
      obtain ⟨U, hu, -⟩ := R1.2.2.2.1
      exact hu.1
    generalize ex_nk K n19 8 0 = K1 at R1 q1 k8 b1 mk v1 v2 v3 v5 kq1 kq2 kx ⊢
    generalize ex_ni I0 n19 = I1 at R1 q1 b1 mk v2 v5 ⊢
    generalize ex_nr F n19 = F1 at R1 q1 mk v2 v5 ⊢
    have q1' := q1
    obtain ⟨L, q2, q3, q4, q5, q6⟩ := q1'
    rw [hQ] at q2
    obtain ⟨p0, L', rfl⟩ := List.exists_cons_of_length_pos (l := L) (by rw [f2_len q2]; simp)
    have hr0 := q2.1.1
    have e0 : F1 34 (a (40 + t)) 0 = some p0 := q5 0 p0 rfl
    refine s_Con_beginNext_22 ?_
    refine s_Con_beginNext_23 ?_
    refine s_Con_beginNext_24 (by first | rfl | assumption | (simp [*]; done)) (by first | rfl | assumption | (simp [*]; done)) ?_
    refine s_Con_beginNext_27 ?_
    refine s_Con_beginNext_28 (by first | rfl | assumption | (simp [*]; done)) (by first | rfl | assumption | (simp [*]; done)) ?_
    refine s_Con_beginNext_31 ?_
    refine s_Con_beginNext_32 (by first | rfl | assumption | (simp [*]; done)) (by first | rfl | assumption | (simp [*]; done)) ?_
    refine s_Con_beginNext_35 ?_
    refine s34_Con_beginNext_36 (by exact v2) (by exact kq1) (by rw [kq2]; exact vp_in_nI (n := 0) (by omega) (by omega)) ?_
    rw [show ((0 : Int32)).toNatClampNeg = 0 from rfl, e0, v5, b1]
    refine s_Con_beginNext_37 (b1 := 0) (b2 := b) (by first | rfl | assumption | (simp [*]; done)) (sp_msgQ k8 hr0) ?_ (by omega)
    rintro _ _ I2 F2 ⟨rfl, rfl, x2, m2⟩
    dsimp only [Option.toList, List.cons_append, List.nil_append]
    have m2' := m2 h0
    have xf := mk x2
    have R2 := Rc_0 xf R0
    have q2' : c_q K1 I2 F2 g (a (30 + t)) (a (40 + t)) (s.2 (100 + t)) := c_q_x xf i0 u1 kq id id (nqP_all (fun _ => id) (fun _ => id) (fun _ => id) (fun _ => id) _) q0
    have c1 : I2 744 (a (30 + t)) 0 = s.1 24 t + 1 := by rw [xw_i xf (by decide) u1 id]; exact a1
    have c2 : I2 748 (a (30 + t)) 0 = s.1 27 t := by rw [xw_i xf (by decide) u1 id]; exact a2
    have c3 : I2 747 (a (30 + t)) 0 = s.1 26 t := by rw [xw_i xf (by decide) u1 id]; exact a3
    refine s_Con_beginNext_40 (by first | rfl | assumption | (simp [*]; done)) (by first | rfl | assumption | (simp [*]; done)) ?_
    refine s_Con_beginNext_43 ?_
    refine s_Con_beginNext_44 ?_
    refine s_Con_beginNext_45 (by first | rfl | assumption | (simp [*]; done)) (by first | rfl | assumption | (simp [*]; done)) ?_
    refine s_Con_beginNext_48 ?_
    refine s_Con_beginNext_49 ?_
    refine s_Con_beginNext_50 (by first | rfl | assumption | (simp [*]; done)) (by first | rfl | assumption | (simp [*]; done)) ?_
    rw [ex_uf_eq]
    have x3 : xw (lP [(745, a (30 + t)), (746, a (30 + t))]) K1 I2 F2 K1 (ex_ui I2 746 (a (30 + t)) 0 (s.1 805 0)) (ex_uf F2 745 (a (30 + t)) 0 (some n19)) := xw_trans (xw_uf (by simp [lP])) (xw_ui (by simp [lP]))
    have i3 : imm (lP [(745, a (30 + t)), (746, a (30 + t))]) := im_l (by simp [xmut])
    have x3' : xw (hP a t) K1 I2 F2 K1 (ex_ui I2 746 (a (30 + t)) 0 (s.1 805 0)) (ex_uf F2 745 (a (30 + t)) 0 (some n19)) := xw_trans (xw_uf (Or.inl ⟨by decide, rfl⟩)) (xw_ui (Or.inl ⟨by decide, rfl⟩))
    have R3 : Rc K1 (ex_ui I2 746 (a (30 + t)) 0 (s.1 805 0)) (ex_uf F2 745 (a (30 + t)) 0 (some n19)) a g t (cw (cw s 24 t (s.1 24 t + 1)) 25 t (s.1 805 0)) := Rc_h R2 ht x3' (fun k hk => cw_ne _ _ _ (fun e => hk (by rw [e]; decide))) (fun k u hu => by
      by_cases e : k = 25
      · subst e
        rw [cw_at]
        exact if_neg hu
      · rw [cw_ne _ _ _ e]) (fun j hj => rfl)
    have m3 := Ms_x x3 i3 m2'
    have q3' : c_q K1 (ex_ui I2 746 (a (30 + t)) 0 (s.1 805 0)) (ex_uf F2 745 (a (30 + t)) 0 (some n19)) g (a (30 + t)) (a (40 + t)) (s.2 (100 + t)) := c_q_x x3 i3 v1 kq1 (by simp [lP]) (by simp [lP]) (nqP_all (fun _ => by simp [lP]) (fun _ => by simp [lP]) (fun _ => by simp [lP]) (fun _ => by simp [lP]) _) q2'
    have d1 : ex_ui I2 746 (a (30 + t)) 0 (s.1 805 0) 744 (a (30 + t)) 0 = s.1 24 t + 1 := by rw [ex_ui_f _ _ _ _ (by decide)]; exact c1
    have d2 : ex_ui I2 746 (a (30 + t)) 0 (s.1 805 0) 748 (a (30 + t)) 0 = s.1 27 t := by rw [ex_ui_f _ _ _ _ (by decide)]; exact c2
    have d3 : ex_ui I2 746 (a (30 + t)) 0 (s.1 805 0) 747 (a (30 + t)) 0 = s.1 26 t := by rw [ex_ui_f _ _ _ _ (by decide)]; exact c3
    have d4 : ex_ui I2 746 (a (30 + t)) 0 (s.1 805 0) 746 (a (30 + t)) 0 = s.1 805 0 := ex_ui_eq _ _ _ _ _
    have d5 : ex_uf F2 745 (a (30 + t)) 0 (some n19) 745 (a (30 + t)) 0 = some n19 := ex_uf_eq _ _ _ _ _
    have xx3 := xi_trans xx (xi_trans (xi_0 xf) (xi_of x3 i3))
    generalize ex_ui I2 746 (a (30 + t)) 0 (s.1 805 0) = I3 at R3 m3 q3' d1 d2 d3 d4 xx3 ⊢
    generalize ex_uf F2 745 (a (30 + t)) 0 (some n19) = F3 at R3 m3 q3' d5 xx3 ⊢
    refine s_Con_beginNext_53 (b1 := 0) (b2 := b) (by rfl) (by exact kx) (sp_sendC R3 m3) ?_ (by omega)
    rintro r4 _ I4 F4 ⟨⟨x4, rfl⟩, rfl, xu, R4⟩
    dsimp only [Option.toList, List.cons_append, List.nil_append]
    refine s_Con_beginNext_56 ?_
    refine s_Con_beginNext_57 ?_
    have iu : imm (uP a) := im_u
    have s1 : (cw (cw s 24 t (s.1 24 t + 1)) 25 t (s.1 805 0)).2 (100 + t) = w :: Q := hQ
    have s2 : (cw (cw s 24 t (s.1 24 t + 1)) 25 t (s.1 805 0)).1 24 t = s.1 24 t + 1 := by rw [cw_ne _ _ _ (by decide), cw_at]; exact if_pos rfl
    have s3 : (cw (cw s 24 t (s.1 24 t + 1)) 25 t (s.1 805 0)).1 25 t = s.1 805 0 := by rw [cw_at]; exact if_pos rfl
    have e1 : m_sf (cw (cw s 24 t (s.1 24 t + 1)) 25 t (s.1 805 0)) t = tu (cw (cw s 24 t (s.1 24 t + 1)) 25 t (s.1 805 0)) 31 (m_snd ((cw (cw s 24 t (s.1 24 t + 1)) 25 t (s.1 805 0)).2 31) (rqr (nI t) (s.1 24 t + 1) w)) := by
      unfold m_sf
      rw [s1, s2]
    rw [e1]
    refine ⟨rfl, xi_trans xx3 (xi_of xu iu), Rc_close R4 ht ?_⟩
    have t1 : ∀ Y k, (tu (cw (cw s 24 t (s.1 24 t + 1)) 25 t (s.1 805 0)) 31 Y).1 k = (cw (cw s 24 t (s.1 24 t + 1)) 25 t (s.1 805 0)).1 k := fun _ _ => rfl
    rw [t1, t1, t1, t1, s2, s3, tu_ne _ _ (show 100 + t ≠ 31 by omega), s1, cw_ne _ _ _ (show 26 ≠ 25 by decide), cw_ne _ _ _ (show 26 ≠ 24 by decide), cw_ne _ _ _ (show 27 ≠ 25 by decide), cw_ne _ _ _ (show 27 ≠ 24 by decide)]
    rw [hQ] at q3'
    have c4 := c_q_x xu iu v1 kq1 (by simp [uP]) (by simp [uP]) (nqP_all (fun _ => by simp [uP]) (fun _ => by simp [uP]) (fun _ => by simp [uP]) (fun _ => by simp [uP]) _) q3'
    refine ⟨⟨?_, ?_, fun _ => ?_, fun e => absurd hd0 e⟩, c4, fun e => (by cases e), fun w' Q' e => ?_⟩
    · rw [xw_i xu (by decide) v1 (by simp [uP])]; exact d2
    · rw [xw_i xu (by decide) v1 (by simp [uP])]; exact d1
    · rw [xw_i xu (by decide) v1 (by simp [uP])]; exact d3
    · cases e
      refine ⟨?_, n19, ?_, Ms_x xu iu m3⟩
      · rw [xw_i xu (by decide) v1 (by simp [uP])]; exact d4
      · rw [xw_f xu (by decide) v1 (by simp [uP])]; exact d5
