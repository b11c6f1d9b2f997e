/-! The class: its own methods, the plain ones -/
theorem tx_e_nn (f : Nat → Int32) (c e : Nat) {N : Nat → Int32} (h : ∀ j, j < 7 → N j = -1 ∨ ¬ N j < 0) : ∀ j, j < 7 → tx_e f c e N j = -1 ∨ ¬ tx_e f c e N j < 0 := by
  unfold tx_e
  split
  · exact h
  · rename_i hv
    exact tx_learn_nn h (tx_w_nn _ _ _ (fun w => hv (Or.inl w))) _
theorem tx_p_nn (f : Nat → Int32) (n : Nat) : ∀ m i c (N : Nat → Int32), (∀ j, j < 7 → N j = -1 ∨ ¬ N j < 0) → ∀ j, j < 7 → tx_p f n m i c N j = -1 ∨ ¬ tx_p f n m i c N j < 0 := by
  intro m
  induction m with
  | zero => exact fun i c N h => h
  | succ m ih =>
    intro i c N h
    rw [tx_p]
    split
    · exact ih _ _ _ (tx_e_nn f c i h)
    · exact ih _ _ _ h
theorem tx_all_nn (f : Nat → Int32) (n : Nat) : ∀ j, j < 7 → tx_all f n j = -1 ∨ 0 ≤ tx_all f n j := fun j hj => by
  rcases tx_p_nn f n (n + 1) 0 0 (fun _ => -1) (fun _ _ => Or.inl rfl) j hj with e | e
  · exact Or.inl e
  · exact Or.inr (Int32.not_lt.mp e)
theorem tx_4_c {N N' : Nat → Int32} (h : ∀ j, j < 7 → N j = N' j) : ∀ j, j < 4 → tx_4 N j = tx_4 N' j := by
  intro j hj
  unfold tx_4
  rw [h 0 (by decide), h 1 (by decide), h 2 (by decide), h 3 (by decide), h 4 (by decide), h 5 (by decide), h 6 (by decide)]
theorem sp_takeC {Γ : ex_G} {d : Nat} {K : ex_K} {I : ex_I} {F : ex_F} {b : Nat} {z n : Nat} {a : Nat → Nat} {g : GH} {s : MS} (hR : Rc K I F a g z s) (hn : s.1 808 0 = nI n) (h40 : n ≤ 40) :
    ex_E Γ (d + 7) M_Drf_takeControl 0 [some (.inr (some (a 1))), none, none, none] [] K I F (b + 2) (fun r K' I' F' => ∃ q, r = some (.inr (some q)) ∧ xw (lP [(229, a 1)]) K I F K' I' F' ∧ Rc K' I' F' a g z (m_parse s n) ∧ Ctl K' I' F' q (tx_4 (tx_all (s.1 3) n))) := by
  have hd := hR.1.2.1.1
  obtain ⟨c1, c2, -⟩ := hR.2.1
  refine ex_post (fun r K' I' F' h => ?_) (sp_takeControl hd (by rw [c2]; exact hn) h40)
  obtain ⟨q, y, N, rfl, fq, fy, nqy, rfl, rfl, rfl, hN⟩ := h
  rw [c1] at hN
  have na : ∀ c, (K c).1 ≠ 0 → c ≠ q ∧ c ≠ y := fun c hc => ⟨fun e => hc (by rw [e]; exact fq), fun e => hc (by rw [e]; exact fy)⟩
  have x0 : xw (lP [(229, a 1)]) K I F (ex_nk (ex_nk K q 2 0) y 21 7) (ex_ui (ex_wi (ex_ni (ex_ni I q) y) 21 y N) 229 (a 1) 0 0) (ex_uf (ex_nr (ex_nr F q) y) 164 q 0 (some y)) := by
    intro c hc
    obtain ⟨e1, e2⟩ := na c hc
    refine ⟨by rw [ex_nk_ne _ _ _ e2, ex_nk_ne _ _ _ e1], fun f hf => ⟨?_, ?_⟩⟩
    · by_cases e : c = a 1
      · subst e
        have : f ≠ 229 := fun w => hf (by rw [w]; simp [lP])
        rw [ex_ui_f _ _ _ _ this]
        simp only [ex_wi_ne _ _ _ e2, ex_ni_ne _ e2, ex_ni_ne _ e1]
      · simp only [ex_ui_ne _ _ _ _ e, ex_wi_ne _ _ _ e2, ex_ni_ne _ e2, ex_ni_ne _ e1]
    · simp only [ex_uf_ne _ _ _ _ e1, ex_nr_ne _ e2, ex_nr_ne _ e1]
  have i0 : imm (lP [(229, a 1)]) := im_l (by simp [xmut])
  have k1 : (K (a 1)).1 = 3 := hd.1
  refine ⟨q, rfl, x0, ?_, ⟨y, ⟨?_, ?_, ?_⟩, fun j hj => ?_, fun j hj => ?_⟩⟩
  · refine Rc_gen hR x0 i0 (Or.inr ⟨?_, ?_, 0, rfl, by omega⟩) (Or.inl ⟨⟨by simp [lP], by simp [lP], by simp [lP], fun _ => ⟨by simp [lP], by simp [lP]⟩⟩, rfl, rfl⟩) (Or.inl ⟨⟨by simp [lP], by simp [lP]⟩, rfl⟩) (Or.inl ⟨by simp [lP], rfl, rfl, rfl, rfl⟩) (fun u hu _ => Or.inl ⟨⟨by simp [lP], by simp [lP], by simp [lP]⟩, rfl, rfl, ?_⟩) (fun u hu hz => Or.inl ⟨by simp [cnP, lP], nqP_all (fun _ => by simp [lP]) (fun _ => by simp [lP]) (fun _ => by simp [lP]) (fun _ => by simp [lP]) _, rfl, rfl, rfl, rfl, rfl⟩) (Or.inl ⟨by simp [lP], fun _ _ => ⟨by simp [lP], by simp [lP], by simp [lP], by simp [lP]⟩, rfl, rfl, rfl, rfl⟩) (Or.inl ⟨⟨by simp [lP], by simp [lP], by simp [lP]⟩, rfl, rfl, rfl⟩) ⟨rfl, rfl⟩
    · rw [xw_i x0 (k := 22) (by decide) (by rw [hd.2.2]) (by simp [lP])]
      exact c1
    · rw [ex_ui_eq]
      unfold m_parse
      rw [cw_at]
      exact (if_pos rfl).symm
    · unfold m_parse
      rw [cw_ne _ _ _ (by omega), cu_ne _ _ (by omega)]
  · rw [ex_nk_ne _ _ _ nqy, ex_nk_at]
  · rw [ex_uf_eq]
  · rw [ex_nk_at]
  · rw [ex_ui_f _ _ _ _ (by decide), ex_wi_at, hN j hj]
    exact tx_all_nn _ _ j hj
  · rw [ex_ui_f _ _ _ _ (by decide), ex_wi_at]
    exact tx_4_c hN j hj
theorem Rs_c {K : ex_K} {I : ex_I} {F : ex_F} {q : Nat} {v n y : Int32} {c c' : Nat → Int32} (h : Rs K I F q v n y c) (hc : ∀ j, j < 4 → c j = c' j) : Rs K I F q v n y c' := by
  obtain ⟨r1, r2, r3, r4, z, r5, r6⟩ := h
  exact ⟨r1, r2, r3, r4, z, r5, Ctl_c r6 hc⟩
/-- a resource is renewed: the state after it -/
def rnw (s s' : MS) (p : Nat) (n y : Int32) (c : Nat → Int32) : Prop := (∀ k, k ∉ [8, 9, 10, 11, 806] → s'.1 k = s.1 k) ∧ s'.2 = s.2 ∧ (∀ q, q ≠ p → s'.1 8 q = s.1 8 q ∧ s'.1 9 q = s.1 9 q ∧ s'.1 10 q = s.1 10 q ∧ ∀ j, j < 4 → s'.1 11 (4 * q + j) = s.1 11 (4 * q + j)) ∧ s'.1 806 0 = s.1 806 0 + 1 ∧ s'.1 8 p = s.1 806 0 + 1 ∧ s'.1 9 p = n ∧ s'.1 10 p = y ∧ ∀ j, j < 4 → s'.1 11 (4 * p + j) = c j
theorem sp_renew {Γ : ex_G} {d : Nat} {K : ex_K} {I : ex_I} {F : ex_F} {b : Nat} {z p q : Nat} {a : Nat → Nat} {g : GH} {s : MS} {s' : MS} {n y : Int32} {c : Nat → Int32} (hR : Rc K I F a g z s) (hp : p < 8) (hq : Ctl K I F q c) (hy : y = 0 ∨ y = 1) (hs : rnw s s' p n y c) (h0 : ¬ s.1 806 0 + 1 = 0) :
    ex_E Γ (d + 2) M_FC_renew 0 [some (.inr (some (a 0))), some (.inl (nI p)), some (.inl n), some (.inl y), some (.inr (some q))] [] K I F (b + 1) (fun r K' I' F' => r = some (.inl (s.1 806 0 + 1)) ∧ xw (lP [(109, a 0), (31, a 8)]) K I F K' I' F' ∧ Rc K' I' F' a g z s') := by
  obtain ⟨s1, s2, s3, s4, s5, s6, s7, s8⟩ := hs
  obtain ⟨x0, -, -, -, -, x5, -⟩ := hR.1.1
  have y2 := hR.1.2.1.2.1
  have k8 : (K (a 8)).1 = 31 := by rw [y2]
  have k9 : (K (a 8)).2 = 8 := by rw [y2]
  have e0 := hR.2.2.2.2.2.2.2.2.1.2.1
  refine s_FC_renew_0 ?_
  refine s_FC_renew_1 ?_
  refine s_FC_renew_2 (by first | rfl | assumption | (simp [*]; done)) (by first | rfl | assumption | (simp [*]; done)) ?_
  refine s_FC_renew_5 ?_
  refine s_FC_renew_6 ?_
  refine s_FC_renew_7 (by first | rfl | assumption | (simp [*]; done)) (by first | rfl | assumption | (simp [*]; done)) ?_
  refine s_FC_renew_10 ?_
  refine s_FC_renew_11 (by first | rfl | assumption | (simp [*]; done)) (by first | rfl | assumption | (simp [*]; done)) ?_
  refine s_FC_renew_14 ?_
  rw [e0]
  have xa : xw (lP [(109, a 0)]) K I F K (ex_ui I 109 (a 0) 0 (s.1 806 0 + 1)) F := xw_ui (by simp [lP])
  have ia : imm (lP [(109, a 0)]) := im_l (by simp [xmut])
  have qa := Ctl_x xa ia hq
  have a1 : ex_ui I 109 (a 0) 0 (s.1 806 0 + 1) 109 (a 0) 0 = s.1 806 0 + 1 := ex_ui_eq _ _ _ _ _
  generalize ex_ui I 109 (a 0) 0 (s.1 806 0 + 1) = I0 at xa qa a1 ⊢
  refine s_FC_renew_15 (fun n15 fn15 => ?_)
  have xn : xw (fun _ _ => False) K I0 F (ex_nk K n15 4 0) (ex_ni I0 n15) (ex_nr F n15) := xw_new fn15
  have i0 : imm (fun _ _ => False) := fun _ _ h => h.elim
  have qb := Ctl_x xn i0 qa
  have k4 : (ex_nk K n15 4 0 n15).1 = 4 := by rw [ex_nk_at]
  have kx : (ex_nk K n15 4 0 (a 0)).1 = 1 := xw_K xn (by decide) x0
  have b1 : ex_ni I0 n15 109 (a 0) 0 = s.1 806 0 + 1 := by rw [xw_i xn (by decide) x0 id]; exact a1
  have k8' : ex_nk K n15 4 0 (a 8) = (31, 8) := xw_k xn (by decide) y2
  have mk : ∀ {K' : ex_K} {I' : ex_I} {F' : ex_F}, xw (fun _ c => c = n15) (ex_nk K n15 4 0) (ex_ni I0 n15) (ex_nr F n15) K' I' F' → xw (fun _ _ => False) K I0 F K' I' F' := fun h => xw_made fn15 h
  generalize ex_nk K n15 4 0 = K1 at qb k4 kx mk b1 k8' ⊢
  generalize ex_ni I0 n15 = I1 at qb b1 mk ⊢
  generalize ex_nr F n15 = F1 at qb mk ⊢
  refine s_FC_renew_18 ?_
  refine s_FC_renew_19 ?_
  refine s_FC_renew_20 (by rfl) (by exact kx) ?_
  refine s_FC_renew_23 ?_
  refine s_FC_renew_24 ?_
  refine s_FC_renew_25 ?_
  rw [b1]
  refine s_FC_renew_27 (b1 := 0) (b2 := b) (by first | rfl | assumption | (simp [*]; done)) (sp_res k4 qb hy) ?_ (by omega)
  rintro _ _ I2 F2 ⟨rfl, rfl, x2, m2⟩
  dsimp only [Option.toList, List.cons_append, List.nil_append]
  have xf := mk x2
  have c1 : I2 109 (a 0) 0 = s.1 806 0 + 1 := by rw [xw_i xf (by decide) x0 id]; exact a1
  refine s31_FC_renew_30 (by exact x5) (by exact (by rw [k8'])) (by intro w hw; cases hw; exact m2.1) (by rw [k8']; exact vp_in_nI (by omega) (by omega)) ?_
  refine s_FC_renew_31 ?_
  refine s_FC_renew_32 (by rfl) (by exact kx) ?_
  refine s_FC_renew_35 ?_
  rw [c1, nI_clamp (by omega)]
  have xr : xw (lP [(31, a 8)]) K1 I2 F2 K1 I2 (ex_uf F2 31 (a 8) p (some n15)) := xw_uf (by simp [lP])
  have ir : imm (lP [(31, a 8)]) := im_l (by simp [xmut])
  have xx : xw (lP [(109, a 0), (31, a 8)]) K I F K1 I2 (ex_uf F2 31 (a 8) p (some n15)) := xw_trans (xw_mono xa (fun f q _ h => by simp [lP] at h ⊢; exact Or.inl h)) (xw_trans (xw_mono xf (fun _ _ _ h => h.elim)) (xw_mono xr (fun f q _ h => by simp [lP] at h ⊢; exact Or.inr h)))
  have ix : imm (lP [(109, a 0), (31, a 8)]) := im_l (by simp [xmut])
  have m3 := Rs_x xr ir m2
  refine ⟨rfl, xx, Rc_gen hR xx ix (Or.inl ⟨⟨by simp [lP], by simp [lP]⟩, s1 3 (by decide), s1 808 (by decide)⟩) (Or.inl ⟨⟨by simp [lP], by simp [lP], by simp [lP], fun _ => ⟨by simp [lP], by simp [lP]⟩⟩, s1 804 (by decide), by rw [s2]⟩) (Or.inl ⟨⟨by simp [lP], by simp [lP]⟩, by rw [s2]⟩) (Or.inr (fun u hu => ?_)) (fun u hu _ => Or.inl ⟨⟨by simp [lP], by simp [lP], by simp [lP]⟩, by rw [s1 28 (by decide)], by rw [s1 29 (by decide)], s1 _ (by simp; omega)⟩) (fun u hu hz => Or.inl ⟨by simp [cnP, lP], nqP_all (fun _ => by simp [lP]) (fun _ => by simp [lP]) (fun _ => by simp [lP]) (fun _ => by simp [lP]) _, by rw [s1 24 (by decide)], by rw [s1 25 (by decide)], by rw [s1 26 (by decide)], by rw [s1 27 (by decide)], by rw [s2]⟩) (Or.inl ⟨by simp [lP], fun _ _ => ⟨by simp [lP], by simp [lP], by simp [lP], by simp [lP]⟩, s1 17 (by decide), s1 18 (by decide), s1 19 (by decide), s1 20 (by decide)⟩) (Or.inr ⟨?_, ?_, ?_⟩) ⟨by rw [s1 820 (by decide)], by rw [s1 817 (by decide)]⟩⟩
  · by_cases e : u = p
    · subst e
      refine ⟨n15, by rw [ex_uf_eq], Or.inr ⟨by rw [s5]; exact h0, ?_⟩⟩
      rw [s5, s6, s7]
      exact Rs_c m3 (fun j hj => (s8 j hj).symm)
    · obtain ⟨w, w1, w2⟩ := hR.2.2.2.2.1 u hu
      obtain ⟨t1, t2, t3, t4⟩ := s3 u e
      refine ⟨w, ?_, ?_⟩
      · rw [ex_uf_at]
        simp only [if_neg e]
        rw [xw_f xf (k := 31) (by decide) k8 id]
        exact w1
      · rw [t1, t2, t3]
        rcases w2 with w2 | ⟨w2, w3⟩
        · exact Or.inl w2
        · exact Or.inr ⟨w2, Rs_c (Rs_x xx ix w3) (fun j hj => (t4 j hj).symm)⟩
  · rw [s1 805 (by decide), xw_i xx (by decide) x0 (by simp [lP])]; exact hR.2.2.2.2.2.2.2.2.1.1
  · rw [s4]; exact c1
  · rw [s1 820 (by decide), xw_i xx (by decide) x0 (by simp [lP])]; exact hR.2.2.2.2.2.2.2.2.1.2.2
