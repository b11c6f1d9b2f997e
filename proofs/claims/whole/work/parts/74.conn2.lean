/-! The class: connections give up, go down, hear, take in -/
theorem m_rep_tu (s : MS) (k : Nat) (L : List (Nat → Int32)) (r c t1 ag w : Int32) : m_rep (tu s k L) r c t1 ag w = tu (m_rep s r c t1 ag w) k L := by
  unfold m_rep
  show (if s.1 820 0 - 16 < r then _ else _) = _
  split <;> rfl
theorem cw_u (s : MS) (k : Nat) {i u : Nat} (x : Int32) (j : Nat) (h : u ≠ i) : (cw s k i x).1 j u = s.1 j u := by
  by_cases e : j = k
  · subst e
    rw [cw_at]
    exact if_neg h
  · rw [cw_ne _ _ _ e]
def mdP (qa : Nat) : Nat → Nat → Prop := fun f q => f = 492 ∨ (f = 34 ∧ q = qa)
theorem im_md {qa : Nat} : imm (mdP qa) := fun f q h => by rcases h with rfl | ⟨rfl, -⟩ <;> decide
/-- a status is written -/
theorem Rc_stat {K : ex_K} {I : ex_I} {F : ex_F} {a : Nat → Nat} {g : GH} {z p : Nat} {s : MS} {w : Nat → Int32} {c : Int32} (hR : Rc K I F a g z s) (hw : Rw K I F g p w) (hq : ∀ t, t < 3 → t ≠ z → ∀ w', w' ∈ s.2 (100 + t) → ¬ w' 0 = w 0) : Rc K (ex_ui I 492 p 0 c) F a g z (m_rep s (w 0) c 0 0 0) := by
  obtain ⟨w1, w2, w3, w4, r, w5, w6, w7, w8⟩ := hw
  rw [w5] at hq ⊢
  subst w8
  refine Rc_rep hR w6 w7 (xw_ui ⟨Or.inl rfl, rfl⟩) (ex_ui_eq _ _ _ _ _) ?_ ?_ ?_ hq
  · rw [ex_ui_f _ _ _ _ (by decide)]; exact w2
  · rw [ex_ui_f _ _ _ _ (by decide)]; exact w3
  · rw [ex_ui_f _ _ _ _ (by decide)]; exact w4
theorem Rc_q {K : ex_K} {I : ex_I} {F : ex_F} {a : Nat → Nat} {g : GH} {t : Nat} {s : MS} (hR : Rc K I F a g t s) (ht : t < 3) (Q : List (Nat → Int32)) : Rc K I F a g t (tu s (100 + t) Q) := Rc_h hR ht xw_rfl (fun _ _ => rfl) (fun _ _ _ => rfl) (fun j hj => tu_ne _ _ hj)
theorem Rc_c {K : ex_K} {I : ex_I} {F : ex_F} {a : Nat → Nat} {g : GH} {t k : Nat} {s : MS} {x : Int32} (hR : Rc K I F a g t s) (ht : t < 3) (hk : k ∈ [24, 25, 26, 27]) : Rc K I F a g t (cw s k t x) := Rc_h hR ht xw_rfl (fun j hj => cw_ne _ _ _ (fun e => hj (by rw [e]; exact hk))) (fun j u hu => by
  by_cases e : j = k
  · subst e
    rw [cw_at]
    exact if_neg hu
  · rw [cw_ne _ _ _ e]) (fun _ _ => rfl)
theorem Rw_s {K : ex_K} {I : ex_I} {F : ex_F} {g : GH} {q p : Nat} {w : Nat → Int32} {c : Int32} (h : Rw K I F g p w) : Rw K (ex_ui I 492 q 0 c) F g p w := Rw_x (xw_ui (P := lP [(492, q)]) (by simp [lP])) (im_l (by simp [xmut])) (by simp [lP]) (by simp [lP]) (by simp [lP]) (by simp [lP]) h
theorem Rw_a {K : ex_K} {I : ex_I} {F : ex_F} {g : GH} {q i p : Nat} {w : Nat → Int32} {x : Option Nat} (h : Rw K I F g p w) : Rw K I (ex_uf F 34 q i x) g p w := Rw_x (xw_uf (P := lP [(34, q)]) (by simp [lP])) (im_l (by simp [xmut])) (by simp [lP]) (by simp [lP]) (by simp [lP]) (by simp [lP]) h
theorem lp_markDown {Γ : ex_G} {d : Nat} {K : ex_K} {b : Nat} {Q : Option ex_V → ex_K → ex_I → ex_F → Prop} {t : Nat} {a : Nat → Nat} {g : GH} {x : Int32} (ht : t < 3) : ∀ Q0 L j s I F, Rc K I F a g t s → f2 (Rw K I F g) L Q0 → (∀ i p, L[i]? = some p → F 34 (a (40 + t)) (j + i) = some p) → (∀ i y, F 34 (a (40 + t)) i = some y → (K y).1 = 7) → I 743 (a (30 + t)) 0 = nI (j + L.length) → j + L.length ≤ 4 → (∀ u, u < 3 → u ≠ t → ∀ w', w' ∈ s.2 (100 + u) → ∀ w, w ∈ Q0 → ¬ w' 0 = w 0) →
    (∀ I' F' l2, Rc K I' F' a g t (m_reps t Q0 s) → xw (mdP (a (40 + t))) K I F K I' F' → (∀ i y, F' 34 (a (40 + t)) i = some y → (K y).1 = 7) → ex_E Γ d M_Con_markDown 45 [some (.inr (some (a (30 + t)))), some (.inl x), l2] [] K I' F' b Q) →
    ex_E Γ d M_Con_markDown 12 [some (.inr (some (a (30 + t)))), some (.inl x), some (.inl (nI j))] [] K I F b Q := by
  intro Q0
  induction Q0 with
  | nil =>
    intro L j s I F hR h2 hF hT hc hl hx kk
    obtain ⟨-, -, -, u1, -, -, -, u2, u3⟩ := hR.1.2.2.1 t ht
    have hL : L.length = 0 := f2_len h2
    rw [hL, Nat.add_zero] at hc
    refine s_Con_markDown_12 ?_
    refine s_Con_markDown_13 ?_
    refine s_Con_markDown_14 (by first | rfl | assumption | (simp [*]; done)) (by first | rfl | assumption | (simp [*]; done)) ?_
    refine s_Con_markDown_17 (fun h17 => ?_) (fun h17 => absurd h17 (by rw [hc]; exact fun q => q (nI_le (Nat.le_refl _) (by omega))))
    exact kk _ _ _ hR xw_rfl hT
  | cons w Q0 ih =>
    intro L j s I F hR h2 hF hT hc hl hx kk
    obtain ⟨-, -, -, u1, -, -, -, u2, u3⟩ := hR.1.2.2.1 t ht
    have k1 : (K (a (40 + t))).1 = 34 := by rw [u3]
    have k2 : (K (a (40 + t))).2 = 4 := by rw [u3]
    obtain ⟨p, L', rfl⟩ := List.exists_cons_of_length_pos (l := L) (by rw [f2_len h2]; simp)
    have hp := h2.1
    have h0 : F 34 (a (40 + t)) j = some p := hF 0 p rfl
    rw [List.length_cons] at hc hl
    refine s_Con_markDown_12 ?_
    refine s_Con_markDown_13 ?_
    refine s_Con_markDown_14 (by first | rfl | assumption | (simp [*]; done)) (by first | rfl | assumption | (simp [*]; done)) ?_
    refine s_Con_markDown_17 (fun h17 => absurd h17 (by rw [hc]; exact nI_ge (by omega) (by omega))) (fun h17 => ?_)
    refine s_Con_markDown_20 ?_
    refine s_Con_markDown_21 (by first | rfl | assumption | (simp [*]; done)) (by first | rfl | assumption | (simp [*]; done)) ?_
    refine s_Con_markDown_24 ?_
    refine s34_Con_markDown_25 (by exact u2) (by exact k1) (by rw [k2]; exact vp_in_nI (by omega) (by omega)) ?_
    refine s_Con_markDown_26 ?_
    refine s_Con_markDown_29 (by rw [nI_clamp (by omega)]; exact h0) (by exact hp.1.1) ?_
    refine s_Con_markDown_32 ?_
    refine s_Con_markDown_33 (by first | rfl | assumption | (simp [*]; done)) (by first | rfl | assumption | (simp [*]; done)) ?_
    refine s_Con_markDown_36 ?_
    refine s_Con_markDown_37 ?_
    refine s34_Con_markDown_38 (by exact u2) (by exact k1) (by intro y hy; cases hy) (by rw [k2]; exact vp_in_nI (by omega) (by omega)) ?_
    refine s_Con_markDown_39 ?_
    refine s_Con_markDown_42 ?_
    rw [nI_clamp (by omega), nI_1]
    have R1 : Rc K (ex_ui I 492 p 0 502) F a g t (m_rep s (w 0) 502 0 0 0) := Rc_stat hR hp (fun u hu hut w' hw' => hx u hu hut w' hw' w List.mem_cons_self)
    have R2 : Rc K (ex_ui I 492 p 0 502) (ex_uf F 34 (a (40 + t)) j none) a g t (tu (m_rep s (w 0) 502 0 0 0) (100 + t) Q0) := Rc_q (Rc_h (s' := m_rep s (w 0) 502 0 0 0) R1 ht (xw_uf (Or.inr ⟨rfl, rfl⟩)) (fun _ _ => rfl) (fun _ _ _ => rfl) (fun _ _ => rfl)) ht Q0
    have x2 : xw (mdP (a (40 + t))) K I F K (ex_ui I 492 p 0 502) (ex_uf F 34 (a (40 + t)) j none) := xw_trans (xw_ui (Or.inl rfl)) (xw_uf (Or.inr ⟨rfl, rfl⟩))
    refine ih L' (j + 1) _ _ _ R2 (f2_mono (fun p _ w h => Rw_a (Rw_s h)) h2.2) (fun i q hi => ?_) (fun i y hy => ?_) ?_ (by omega) (fun u hu hut w' hw' w2 hw2 => ?_) (fun I' F' l2 r1 r2 r3 => kk I' F' l2 r1 (xw_trans x2 r2) r3)
    · rw [ex_uf_at]
      simp only [if_neg (show ¬ j + 1 + i = j by omega)]
      have := hF (i + 1) q hi
      rw [show j + 1 + i = j + (i + 1) by omega]
      exact this
    · rw [ex_uf_at] at hy
      by_cases e : i = j
      · simp only [if_pos e] at hy
        cases hy
      · simp only [if_neg e] at hy
        exact hT i y hy
    · rw [ex_ui_f _ _ _ _ (by decide), hc]
      congr 1
      omega
    · rw [tu_ne _ _ (show 100 + u ≠ 100 + t by omega), m_rep_2] at hw'
      exact hx u hu hut w' hw' w2 (List.mem_cons_of_mem _ hw2)
theorem sp_markDown {Γ : ex_G} {d : Nat} {K : ex_K} {I : ex_I} {F : ex_F} {b : Nat} {t : Nat} {a : Nat → Nat} {g : GH} {s : MS} {x : Int32} {Q : List (Nat → Int32)} (hR : Rc K I F a g t s) (ht : t < 3) (hq : c_q K I F g (a (30 + t)) (a (40 + t)) Q) (hx : ∀ u, u < 3 → u ≠ t → ∀ w', w' ∈ s.2 (100 + u) → ∀ w, w ∈ Q → ¬ w' 0 = w 0) :
    ex_E Γ d M_Con_markDown 0 [some (.inr (some (a (30 + t)))), some (.inl x), none] [] K I F b (fun r K' I' F' => r = none ∧ K = K' ∧ xi K I F K I' F' ∧ Rc K I' F' a g t (m_reps t Q s) ∧ c_q K I' F' g (a (30 + t)) (a (40 + t)) [] ∧ I' 748 (a (30 + t)) 0 = 1 ∧ I' 749 (a (30 + t)) 0 = x ∧ I' 744 (a (30 + t)) 0 = I 744 (a (30 + t)) 0 ∧ F' 745 (a (30 + t)) 0 = F 745 (a (30 + t)) 0) := by
  obtain ⟨-, -, -, u1, -, -, -, u2, u3⟩ := hR.1.2.2.1 t ht
  obtain ⟨L, q1, q2, q3, q4, q5⟩ := hq
  have hlen := f2_len q1
  refine s_Con_markDown_0 ?_
  refine s_Con_markDown_1 ?_
  refine s_Con_markDown_2 (by exact Or.inr rfl) (by rfl) (by exact u1) ?_
  refine s_Con_markDown_5 ?_
  refine s_Con_markDown_6 ?_
  refine s_Con_markDown_7 (by first | rfl | assumption | (simp [*]; done)) (by first | rfl | assumption | (simp [*]; done)) ?_
  refine s_Con_markDown_10 ?_
  refine s_Con_markDown_11 ?_
  have x0 : xw (lP [(748, a (30 + t)), (749, a (30 + t))]) K I F K (ex_ui (ex_ui I 748 (a (30 + t)) 0 1) 749 (a (30 + t)) 0 x) F := xw_trans (xw_ui (by simp [lP])) (xw_ui (by simp [lP]))
  have i0 : imm (lP [(748, a (30 + t)), (749, a (30 + t))]) := im_l (by simp [xmut])
  have R0 : Rc K (ex_ui (ex_ui I 748 (a (30 + t)) 0 1) 749 (a (30 + t)) 0 x) F a g t s := Rc_h hR ht (xw_trans (xw_ui (Or.inl ⟨by decide, rfl⟩)) (xw_ui (Or.inl ⟨by decide, rfl⟩))) (fun _ _ => rfl) (fun _ _ _ => rfl) (fun _ _ => rfl)
  have a1 : ex_ui (ex_ui I 748 (a (30 + t)) 0 1) 749 (a (30 + t)) 0 x 748 (a (30 + t)) 0 = 1 := by rw [ex_ui_f _ _ _ _ (by decide), ex_ui_eq]
  have a2 : ex_ui (ex_ui I 748 (a (30 + t)) 0 1) 749 (a (30 + t)) 0 x 749 (a (30 + t)) 0 = x := ex_ui_eq _ _ _ _ _
  have a3 : ex_ui (ex_ui I 748 (a (30 + t)) 0 1) 749 (a (30 + t)) 0 x 744 (a (30 + t)) 0 = I 744 (a (30 + t)) 0 := by rw [ex_ui_f _ _ _ _ (by decide), ex_ui_f _ _ _ _ (by decide)]
  have a4 : ex_ui (ex_ui I 748 (a (30 + t)) 0 1) 749 (a (30 + t)) 0 x 743 (a (30 + t)) 0 = nI (0 + L.length) := by rw [ex_ui_f _ _ _ _ (by decide), ex_ui_f _ _ _ _ (by decide), q2, hlen, Nat.zero_add]
  have q1' : f2 (Rw K (ex_ui (ex_ui I 748 (a (30 + t)) 0 1) 749 (a (30 + t)) 0 x) F g) L Q := f2_mono (fun p _ w h => Rw_x x0 i0 (by simp [lP]) (by simp [lP]) (by simp [lP]) (by simp [lP]) h) q1
  generalize ex_ui (ex_ui I 748 (a (30 + t)) 0 1) 749 (a (30 + t)) 0 x = I0 at x0 R0 a1 a2 a3 a4 q1' ⊢
  refine lp_markDown ht Q L 0 s I0 F R0 q1' (fun i p hi => by rw [Nat.zero_add]; exact q4 i p hi) q5 a4 (by omega) hx (fun I1 F1 l2 R1 x1 t1 => ?_)
  refine s_Con_markDown_45 ?_
  refine s_Con_markDown_46 ?_
  refine s_Con_markDown_47 (by first | rfl | assumption | (simp [*]; done)) (by first | rfl | assumption | (simp [*]; done)) ?_
  refine s_Con_markDown_50 ?_
  have R2 : Rc K (ex_ui I1 743 (a (30 + t)) 0 0) F1 a g t (m_reps t Q s) := Rc_h R1 ht (xw_ui (Or.inl ⟨by decide, rfl⟩)) (fun _ _ => rfl) (fun _ _ _ => rfl) (fun _ _ => rfl)
  have n1 : ∀ f, f ≠ 492 → f ≠ 34 → ¬ mdP (a (40 + t)) f (a (30 + t)) := fun f f1 f2 h => by rcases h with h | ⟨h, -⟩ <;> contradiction
  refine ⟨rfl, rfl, xi_trans (xi_of x0 i0) (xi_trans (xi_of x1 im_md) (xw_ui (show 743 ∈ xmut by decide))), R2, ⟨[], trivial, ?_, by simp, fun i p hi => by simp at hi, t1⟩, ?_, ?_, ?_, ?_⟩
  · rw [ex_ui_eq]; rfl
  · rw [ex_ui_f _ _ _ _ (by decide), xw_i x1 (by decide) u1 (n1 _ (by decide) (by decide))]; exact a1
  · rw [ex_ui_f _ _ _ _ (by decide), xw_i x1 (by decide) u1 (n1 _ (by decide) (by decide))]; exact a2
  · rw [ex_ui_f _ _ _ _ (by decide), xw_i x1 (by decide) u1 (n1 _ (by decide) (by decide))]; exact a3
  · rw [xw_f x1 (by decide) u1 (n1 _ (by decide) (by decide))]
theorem J_24 {N bb z t : Nat} {s : MS} (hJ : J N bb z s) (hN : N ≤ 1000) (ht : t < 3) : ¬ s.1 24 t + 1 = 0 := by
  obtain ⟨a1, a2, -⟩ := hJ.1.2 t ht
  have := jinc a1 (by omega)
  refine jne ?_
  rw [this, Int32.toInt_zero]
  omega
theorem J_x {N bb z t : Nat} {s : MS} (hJ : J N bb z s) (ht : t < 3) : ∀ u, u < 3 → u ≠ t → ∀ w', w' ∈ s.2 (100 + u) → ∀ w, w ∈ s.2 (100 + t) → ¬ w' 0 = w 0 := fun u hu hut w' hw' w hw => hJ.2.2.1.2 u t hu ht hut w' w hw' hw
theorem sp_cgiveUp {Γ : ex_G} {d : Nat} {K : ex_K} {I : ex_I} {F : ex_F} {b : Nat} {t : Nat} {a : Nat → Nat} {g : GH} {s : MS} {w : Nat → Int32} {Q : List (Nat → Int32)} (hR : Rc K I F a g 3 s) (ht : t < 3) {N bb : Nat} (hJ : J N bb 3 s) (hN : N ≤ 1000) (h27 : s.1 27 t = 0) (hQ : s.2 (100 + t) = w :: Q) :
    ex_E Γ (d + 3) M_Con_giveUp 0 [some (.inr (some (a (30 + t)))), some (.inl (s.1 805 0)), some (.inr (some (a 5)))] [] K I F (b + 1) (fun r K' I' F' => r = none ∧ xi K I F K' I' F' ∧ Rc K' I' F' a g 3 (m_gu s t)) := by
  obtain ⟨R0, hn, hq, hw⟩ := Rc_open hR ht
  obtain ⟨-, -, -, u1, -, -, -, u2, u3⟩ := hR.1.2.2.1 t ht
  have kq : (K (a (40 + t))).1 = 34 := by rw [u3]
  have hX := J_x hJ ht
  rw [hQ] at hq hn hX
  have n1 : ∀ f q, f ≠ 743 → f ≠ 745 → f ≠ 34 → ¬ tfP (a (30 + t)) (a (40 + t)) f q := fun f q f1 f2 f3 h => by rcases h with ⟨h | h, -⟩ | ⟨h, -⟩ <;> contradiction
  unfold m_gu
  rw [hQ]
  simp only []
  refine s_Con_giveUp_0 ?_
  refine s_Con_giveUp_1 (b1 := 0) (b2 := b + 1) (by rfl) (by exact u1) (ex_up (by omega) (sp_takeFirst (d := d) hR.1 ht hq)) ?_ (by omega)
  rintro _ _ I1 F1 ⟨p, rfl, rfl, x1, hp, q1, f1⟩
  dsimp only [Option.toList, List.cons_append, List.nil_append]
  have R1 : Rc K I1 F1 a g t (tu s (100 + t) Q) := Rc_q (Rc_h (s' := s) R0 ht (xw_mono x1 (fun f q _ h => by
    rcases h with ⟨h | h, e⟩ | h
    · exact Or.inl ⟨by rw [h]; decide, e⟩
    · exact Or.inl ⟨by rw [h]; decide, e⟩
    · exact Or.inr h)) (fun _ _ => rfl) (fun _ _ _ => rfl) (fun _ _ => rfl)) ht Q
  have b1 : I1 747 (a (30 + t)) 0 = s.1 26 t := by rw [xw_i x1 (by decide) u1 (n1 _ _ (by decide) (by decide) (by decide))]; exact hn.2.2.1 h27
  have b2 : I1 748 (a (30 + t)) 0 = s.1 27 t := by rw [xw_i x1 (by decide) u1 (n1 _ _ (by decide) (by decide) (by decide))]; exact hn.1
  have b3 : I1 744 (a (30 + t)) 0 = s.1 24 t := by rw [xw_i x1 (by decide) u1 (n1 _ _ (by decide) (by decide) (by decide))]; exact hn.2.1
  have X1 := xi_of x1 im_tf
  refine s_Con_giveUp_4 ?_
  refine s_Con_giveUp_7 (by rfl) (by exact hp.1.1) ?_
  refine s_Con_giveUp_10 ?_
  refine s_Con_giveUp_11 ?_
  refine s_Con_giveUp_12 (by first | rfl | assumption | (simp [*]; done)) (by first | rfl | assumption | (simp [*]; done)) ?_
  refine s_Con_giveUp_15 ?_
  refine s_Con_giveUp_16 ?_
  refine s_Con_giveUp_17 (by first | rfl | assumption | (simp [*]; done)) (by first | rfl | assumption | (simp [*]; done)) ?_
  have R2 : Rc K (ex_ui I1 492 p 0 504) F1 a g t (tu (m_rep s (w 0) 504 0 0 0) (100 + t) Q) := by
    rw [← m_rep_tu]
    exact Rc_stat R1 hp (fun u hu hut w' hw' => by
      rw [tu_ne _ _ (by omega)] at hw'
      exact hX u hu hut w' hw' w List.mem_cons_self)
  have np : p ≠ a (30 + t) := fun e => by have := hp.1.1; rw [e, u1] at this; exact absurd this (by decide)
  have e0 : ex_ui I1 492 p 0 504 747 (a (30 + t)) 0 = s.1 26 t := by rw [ex_ui_f _ _ _ _ (by decide)]; exact b1
  rw [e0]
  have x2 : xw (lP [(492, p), (747, a (30 + t))]) K I1 F1 K (ex_ui (ex_ui I1 492 p 0 504) 747 (a (30 + t)) 0 (s.1 26 t + 1)) F1 := xw_trans (xw_ui (by simp [lP])) (xw_ui (by simp [lP]))
  have i2 : imm (lP [(492, p), (747, a (30 + t))]) := im_l (by simp [xmut])
  have q2 : c_q K (ex_ui (ex_ui I1 492 p 0 504) 747 (a (30 + t)) 0 (s.1 26 t + 1)) F1 g (a (30 + t)) (a (40 + t)) Q := c_q_x x2 i2 u1 kq (by simp [lP]) (by simp [lP]) (nqP_all (fun _ => by simp [lP]) (fun _ => by simp [lP]) (fun _ => by simp [lP]) (fun _ => by simp [lP]) _) q1
  have R3 : Rc K (ex_ui (ex_ui I1 492 p 0 504) 747 (a (30 + t)) 0 (s.1 26 t + 1)) F1 a g t (tu (m_rep s (w 0) 504 0 0 0) (100 + t) Q) := Rc_h R2 ht (xw_ui (Or.inl ⟨by decide, rfl⟩)) (fun _ _ => rfl) (fun _ _ _ => rfl) (fun _ _ => rfl)
  have c1 : ex_ui (ex_ui I1 492 p 0 504) 747 (a (30 + t)) 0 (s.1 26 t + 1) 747 (a (30 + t)) 0 = s.1 26 t + 1 := ex_ui_eq _ _ _ _ _
  have c2 : ex_ui (ex_ui I1 492 p 0 504) 747 (a (30 + t)) 0 (s.1 26 t + 1) 748 (a (30 + t)) 0 = s.1 27 t := by rw [ex_ui_f _ _ _ _ (by decide), ex_ui_f _ _ _ _ (by decide)]; exact b2
  have c3 : ex_ui (ex_ui I1 492 p 0 504) 747 (a (30 + t)) 0 (s.1 26 t + 1) 744 (a (30 + t)) 0 = s.1 24 t := by rw [ex_ui_f _ _ _ _ (by decide), ex_ui_f _ _ _ _ (by decide)]; exact b3
  have X2 := xi_trans X1 (xi_of x2 i2)
  generalize ex_ui (ex_ui I1 492 p 0 504) 747 (a (30 + t)) 0 (s.1 26 t + 1) = I3 at x2 q2 R3 c1 c2 c3 X2 ⊢
  have k1 : ∀ k, k ∉ [17, 18, 19, 20] → (tu (m_rep s (w 0) 504 0 0 0) (100 + t) Q).1 k = s.1 k := fun k hk => m_rep_1 _ _ _ _ _ _ hk
  have k2 : (tu (m_rep s (w 0) 504 0 0 0) (100 + t) Q).2 (100 + t) = Q := tu_at _ _ _
  have k3 : ∀ u, u ≠ t → (tu (m_rep s (w 0) 504 0 0 0) (100 + t) Q).2 (100 + u) = s.2 (100 + u) := fun u hu => by rw [tu_ne _ _ (by omega), m_rep_2]
  generalize tu (m_rep s (w 0) 504 0 0 0) (100 + t) Q = s1 at R3 k1 k2 k3 ⊢
  have e26 : s1.1 26 t = s.1 26 t := by rw [k1 26 (by decide)]
  have v26 : (cw s1 26 t (s1.1 26 t + 1)).1 26 t = s.1 26 t + 1 := by rw [cw_at, e26]; exact if_pos rfl
  refine s_Con_giveUp_20 ?_
  refine s_Con_giveUp_21 (by first | rfl | assumption | (simp [*]; done)) (by first | rfl | assumption | (simp [*]; done)) ?_
  refine s_Con_giveUp_24 ?_
  refine s_Con_giveUp_25 (fun h25 => ?_) (fun h25 => ?_)
  · refine s_Con_giveUp_36 ?_
    refine s_Con_giveUp_37 ?_
    refine s_Con_giveUp_38 ?_
    rw [c1] at h25
    rw [v26, if_neg (fun e => absurd h25 (Int32.not_lt.mpr e))]
    have R5 : Rc K I3 F1 a g t (cw s1 26 t (s1.1 26 t + 1)) := Rc_c R3 ht (by decide)
    have t805 : (cw s1 26 t (s1.1 26 t + 1)).1 805 0 = s.1 805 0 := by rw [cw_ne _ _ _ (by decide), k1 805 (by decide)]
    have t24 : (cw s1 26 t (s1.1 26 t + 1)).1 24 t = s.1 24 t := by rw [cw_ne _ _ _ (by decide), k1 24 (by decide)]
    have t27 : (cw s1 26 t (s1.1 26 t + 1)).1 27 t = s.1 27 t := by rw [cw_ne _ _ _ (by decide), k1 27 (by decide)]
    have tq : (cw s1 26 t (s1.1 26 t + 1)).2 (100 + t) = Q := k2
    have hb := sp_beginNext (Γ := Γ) (d := d) (b := b) R5 ht ⟨by rw [t27]; exact c2, by rw [t24]; exact c3, fun _ => by rw [v26]; exact c1, fun e => absurd (by rw [t27]; exact h27) e⟩ (by rw [tq]; exact q2) (fun _ => by rw [xw_f x2 (by decide) u1 (by simp [lP])]; exact f1) (by rw [t24]; exact J_24 hJ hN ht)
    rw [t805] at hb
    refine s_Con_giveUp_39 (b1 := b + 1) (b2 := 0) (by rfl) (by exact u1) (hb) ?_ (by omega)
    rintro _ K5 I5 F5 ⟨rfl, X5, R6⟩
    dsimp only [Option.toList, List.cons_append, List.nil_append]
    refine s_Con_giveUp_42 ?_
    exact ⟨rfl, xi_trans X2 X5, R6⟩
  · refine s_Con_giveUp_28 ?_
    refine s_Con_giveUp_29 ?_
    refine s_Con_giveUp_30 (b1 := 0) (b2 := b + 1) (by rfl) (by exact u1) (ex_up (by omega) (sp_markDown (d := d) R3 ht q2 (fun u hu hut w2 hw2 w3 hw3 => by rw [k3 u hut] at hw2; exact hX u hu hut w2 hw2 w3 (List.mem_cons_of_mem _ hw3)))) ?_ (by omega)
    rintro _ _ I4 F4 ⟨rfl, rfl, X4, R4, q4, m1, m2, m3, m4⟩
    dsimp only [Option.toList, List.cons_append, List.nil_append]
    refine s_Con_giveUp_33 ?_
    refine s_Con_giveUp_42 ?_
    rw [c1] at h25
    rw [v26, if_pos (Int32.not_lt.mp h25)]
    refine ⟨rfl, xi_trans X2 X4, ?_⟩
    have e805 : s1.1 805 0 = s.1 805 0 := by rw [k1 805 (by decide)]
    have er : ∀ k, k ∉ [17, 18, 19, 20] → ∀ S : MS, (m_reps t Q S).1 k = S.1 k := fun k hk S => m_reps_1 t Q S k hk
    have hn2 : ∀ S : MS, S.2 (100 + t) = Q → (m_reps t Q S).2 (100 + t) = [] := fun S h => m_reps_e t Q S h
    have gen : ∀ Q1 (S S' : MS), (∀ k, k ∉ [24, 25, 26, 27] → S'.1 k = S.1 k) → (∀ k u, u ≠ t → S'.1 k u = S.1 k u) → (∀ j, j ≠ 100 + t → S'.2 j = S.2 j) → (∀ k, k ∉ [24, 25, 26, 27] → (m_reps t Q1 S').1 k = (m_reps t Q1 S).1 k) ∧ (∀ k u, u ≠ t → (m_reps t Q1 S').1 k u = (m_reps t Q1 S).1 k u) ∧ ∀ j, j ≠ 100 + t → (m_reps t Q1 S').2 j = (m_reps t Q1 S).2 j := by
      intro Q1
      induction Q1 with
      | nil => exact fun S S' h1 h2 h3 => ⟨h1, h2, h3⟩
      | cons x Q1 ih =>
        intro S S' h1 h2 h3
        rw [m_reps, m_reps]
        refine ih _ _ (fun k hk => ?_) (fun k u hu => ?_) (fun j hj => ?_)
        · show (m_rep S' (x 0) 502 0 0 0).1 k = (m_rep S (x 0) 502 0 0 0).1 k
          unfold m_rep
          rw [h1 820 (by decide)]
          split
          · unfold cw cu
            simp only []
            rw [h1 k hk, h1 17 (by decide), h1 18 (by decide), h1 19 (by decide), h1 20 (by decide)]
          · exact h1 k hk
        · show (m_rep S' (x 0) 502 0 0 0).1 k u = (m_rep S (x 0) 502 0 0 0).1 k u
          unfold m_rep
          rw [h1 820 (by decide)]
          split
          · unfold cw cu
            simp only []
            rw [h1 17 (by decide), h1 18 (by decide), h1 19 (by decide), h1 20 (by decide)]
            by_cases g1 : k = 20
            · rw [if_pos g1, if_pos g1]
            · by_cases g2 : k = 19
              · rw [if_neg g1, if_neg g1, if_pos g2, if_pos g2]
              · by_cases g3 : k = 18
                · rw [if_neg g1, if_neg g1, if_neg g2, if_neg g2, if_pos g3, if_pos g3]
                · by_cases g4 : k = 17
                  · rw [if_neg g1, if_neg g1, if_neg g2, if_neg g2, if_neg g3, if_neg g3, if_pos g4, if_pos g4]
                  · rw [if_neg g1, if_neg g1, if_neg g2, if_neg g2, if_neg g3, if_neg g3, if_neg g4, if_neg g4]
                    exact h2 k u hu
          · exact h2 k u hu
        · rw [tu_ne _ _ hj, tu_ne _ _ hj, m_rep_2, m_rep_2]
          exact h3 j hj
    obtain ⟨z1, z2, z3⟩ := gen Q s1 (cw (cw (cw (cw s1 26 t (s1.1 26 t + 1)) 27 t 1) 26 t 0) 25 t (s.1 805 0)) (fun k hk => by
      rw [cw_ne _ _ _ (fun e => hk (by rw [e]; decide)), cw_ne _ _ _ (fun e => hk (by rw [e]; decide)), cw_ne _ _ _ (fun e => hk (by rw [e]; decide)), cw_ne _ _ _ (fun e => hk (by rw [e]; decide))]) (fun k u hu => by
      rw [cw_u _ _ _ _ hu, cw_u _ _ _ _ hu, cw_u _ _ _ _ hu, cw_u _ _ _ _ hu]) (fun j hj => rfl)
    have R5 := Rc_h R4 ht xw_rfl z1 z2 z3
    refine Rc_close R5 ht ?_
    have y2 := hn2 (cw (cw (cw (cw s1 26 t (s1.1 26 t + 1)) 27 t 1) 26 t 0) 25 t (s.1 805 0)) k2
    rw [y2, er 24 (by decide), er 25 (by decide), er 26 (by decide), er 27 (by decide)]
    have y24 : (cw (cw (cw (cw s1 26 t (s1.1 26 t + 1)) 27 t 1) 26 t 0) 25 t (s.1 805 0)).1 24 t = s.1 24 t := by
      rw [cw_ne _ _ _ (by decide), cw_ne _ _ _ (by decide), cw_ne _ _ _ (by decide), cw_ne _ _ _ (by decide), k1 24 (by decide)]
    have y25 : (cw (cw (cw (cw s1 26 t (s1.1 26 t + 1)) 27 t 1) 26 t 0) 25 t (s.1 805 0)).1 25 t = s.1 805 0 := by
      rw [cw_at]; exact if_pos rfl
    have y27 : (cw (cw (cw (cw s1 26 t (s1.1 26 t + 1)) 27 t 1) 26 t 0) 25 t (s.1 805 0)).1 27 t = 1 := by
      rw [cw_ne _ _ _ (by decide), cw_ne _ _ _ (by decide), cw_at]; exact if_pos rfl
    rw [y24, y25, y27]
    refine ⟨⟨m1, by rw [m3]; exact c3, fun e => absurd e (by decide), fun _ => ⟨m2, rfl⟩⟩, q4, fun _ => ?_, fun w' Q' e => by cases e⟩
    rw [m4, xw_f x2 (by decide) u1 (by simp [lP])]
    exact f1
