/-! The reference: flights taken out, copied, come in -/
theorem rr_fly2 {K : ex_K} {F : ex_F} {I I' : ex_I} {m : Nat} {ad : Nat → Nat} {s : MS} {U : List (Nat → Int32)} (hR : rf_ok K F m ad) (h : rr I m ad s) (f : fr I I' ad [834] [31]) (hh : ∀ c, 270 ≤ c → I' 21 (ad 31) c = I 21 (ad 31) c) (hU : r_fly I' m ad U) : rr I' m ad (tu s 31 U) := by
  obtain ⟨h1, h2, h3, h4, h5, h6, h7, h8, h9⟩ := h
  refine ⟨fun j hj => ?_, fun j hj => ?_, fun g hg => ?_, ?_, ?_, ?_, by rw [tu_at]; exact hU, fun t ht => ?_, fun t ht j hj => ?_⟩
  · obtain ⟨a1, a2, a3, a4, a5, a6, -⟩ := rrA_ne hj
    rw [(f.2 j (by simp [a6])).1, h1 j hj]; rfl
  · have e : j ≠ 31 := fun z => by rw [z] at hj; exact absurd hj (by decide)
    rw [(f.2 j (by simp [e])).2, h2 j hj]; rfl
  · obtain ⟨b1, b2, b3, b4, b5, b6, b7, b8, b9⟩ := rrS_ne hg
    rw [f.1 g (by simp [b9]) b5 b7, h3 g hg]; rfl
  · rw [f.1 22 (by decide) (by decide) (by decide), h4]; rfl
  · unfold rt_ok
    rw [f.1 22 (by decide) (by decide) (by decide)]
    exact h5
  · rw [tu_ne _ _ (by decide)]
    exact r_ent_fr f (by decide) (by decide) (by decide) h6
  · rw [tu_ne _ _ (by omega)]
    exact r_que_fr f (by decide) (by decide) (by decide) (h8 t ht)
  · rw [hh _ (by omega), h9 t ht j hj]; rfl
theorem tu_id (s : MS) (k : Nat) : tu s k (s.2 k) = s := by
  unfold tu
  refine Prod.ext rfl ?_
  funext j
  show (if j = k then s.2 k else s.2 j) = s.2 j
  by_cases z : j = k
  · rw [if_pos z, z]
  · rw [if_neg z]
theorem rr_row {K : ex_K} {F : ex_F} {I : ex_I} {m : Nat} {ad : Nat → Nat} {s : MS} {X : Nat → Int32} (hR : rf_ok K F m ad) (h : rr I m ad s) (hX : ∀ c, (c < 240 ∨ 270 ≤ c) → X c = I 21 (ad 31) c) : rr (ex_wi I 21 (ad 31) X) m ad s := by
  rw [← tu_id s 31]
  refine rr_fly2 hR h (fr_wa hR.2.1 (Or.inl rfl) (by decide)) (fun c h1 => by rw [ex_wi_at]; exact hX c (Or.inr h1)) ?_
  obtain ⟨u1, u2, u3⟩ := h.2.2.2.2.2.2.1
  refine ⟨by rw [ex_wi_f _ _ _ (by decide)]; exact u1, u2, fun e row he j hj => ?_⟩
  have := (List.getElem?_eq_some_iff.mp he).1
  rw [ex_wi_at, hX _ (by omega)]
  exact u3 e row he j hj
theorem lp_out {Γ : ex_G} {d : Nat} {K : ex_K} {I : ex_I} {F : ex_F} {b : Nat} {Q : Option ex_V → ex_K → ex_I → ex_F → Prop} {l1 : Option ex_V} {m e n : Nat} {X : Nat → Int32} {ad : Nat → Nat} (hR : rf_ok K F m ad) (hs : I 834 m 0 = nI n) (hn : n < 16) (he : e ≤ n) (kk : ∀ l2, ex_E Γ d M_Mdl_out 47 [some (.inr (some m)), l1, l2] [] K (ex_wi I 21 (ad 31) (shf X (15 * e) (15 * n) 15)) F b Q) : ∀ k c J, 15 * n - c = k → 15 * e ≤ c → c ≤ 15 * n → J = ex_wi I 21 (ad 31) (shf X (15 * e) c 15) →
    ex_E Γ d M_Mdl_out 15 [some (.inr (some m)), l1, some (.inl (nI c))] [] K J F b Q := by
  have m1 := hR.1
  have hs2 : ∀ Y, ex_wi I 21 (ad 31) Y 834 m 0 = nI n := fun Y => by rw [ex_wi_f _ _ _ (by decide)]; exact hs
  intro k
  induction k with
  | zero =>
    intro c J hk h1 h2 hJ
    subst hJ
    have ec : c = 15 * n := by omega
    refine s_Mdl_out_15 ?_
    refine s_Mdl_out_16 ?_
    refine s_Mdl_out_18 ?_
    refine s_Mdl_out_19 (by first | rfl | assumption | (simp [*]; done)) (by first | rfl | assumption | (simp [*]; done)) ?_
    refine s_Mdl_out_22 ?_
    refine s_Mdl_out_23 (fun h23 => ?_) (fun h23 => absurd h23 (by rw [hs2, nl_15, pk_mul]; exact fun q => q (nI_le (by omega) (by omega))))
    rw [ec]
    exact kk _
  | succ k ih =>
    intro c J hk h1 h2 hJ
    subst hJ
    refine s_Mdl_out_15 ?_
    refine s_Mdl_out_16 ?_
    refine s_Mdl_out_18 ?_
    refine s_Mdl_out_19 (by first | rfl | assumption | (simp [*]; done)) (by first | rfl | assumption | (simp [*]; done)) ?_
    refine s_Mdl_out_22 ?_
    refine s_Mdl_out_23 (fun h23 => absurd h23 (by rw [hs2, nl_15, pk_mul]; exact nI_ge (by omega) (by omega))) (fun h23 => ?_)
    refine s_Mdl_out_26 ?_
    refine s_Mdl_out_27 (by first | rfl | assumption | (simp [*]; done)) (by first | rfl | assumption | (simp [*]; done)) ?_
    refine s_Mdl_out_30 ?_
    refine s_Mdl_out_31 ?_
    refine s_Mdl_out_32 (by first | rfl | assumption | (simp [*]; done)) (by first | rfl | assumption | (simp [*]; done)) ?_
    refine s_Mdl_out_35 ?_
    refine s_Mdl_out_36 ?_
    refine s_Mdl_out_38 ?_
    refine s_Mdl_out_39 (by first | exact rf_row hR | rfl) (by exact rk_row hR) (by rw [rn_row hR]; exact n_in (a := (c + 15)) (by first | rfl | (simp only [nl_1, nl_2, nl_3, nl_4, nl_5, nl_6, nl_7, nl_8, nl_9, nl_10, nl_11, nl_12, nl_13, nl_14, nl_15, nl_16, nl_32, nl_240, nl_250, nl_255, nl_265, nl_270, nl_0, nI_add, pk_mul]; done)) (by omega) (by omega)) ?_
    refine ex_ixl (q := (c + 15)) (by first | rfl | (simp only [nl_1, nl_2, nl_3, nl_4, nl_5, nl_6, nl_7, nl_8, nl_9, nl_10, nl_11, nl_12, nl_13, nl_14, nl_15, nl_16, nl_32, nl_240, nl_250, nl_255, nl_265, nl_270, nl_0, nI_add, pk_mul]; done)) (by omega) ?_
    refine s_Mdl_out_40 (by first | exact rf_row hR | rfl) (by exact rk_row hR) (by rw [rn_row hR]; exact n_in (a := c) (by first | rfl | (simp only [nl_1, nl_2, nl_3, nl_4, nl_5, nl_6, nl_7, nl_8, nl_9, nl_10, nl_11, nl_12, nl_13, nl_14, nl_15, nl_16, nl_32, nl_240, nl_250, nl_255, nl_265, nl_270, nl_0, nI_add, pk_mul]; done)) (by omega) (by omega)) ?_
    refine ex_ixs (q := c) (by first | rfl | (simp only [nl_1, nl_2, nl_3, nl_4, nl_5, nl_6, nl_7, nl_8, nl_9, nl_10, nl_11, nl_12, nl_13, nl_14, nl_15, nl_16, nl_32, nl_240, nl_250, nl_255, nl_265, nl_270, nl_0, nI_add, pk_mul]; done)) (by omega) ?_
    refine s_Mdl_out_41 ?_
    refine s_Mdl_out_44 ?_
    rw [ex_wi_at, shf_up _ _ _ (by omega), ex_wi_u, shf_s _ _ h1, nI_1]
    exact ih (c + 1) _ (by omega) (by omega) (by omega) rfl
theorem sp_outR {Γ : ex_G} {d : Nat} {K : ex_K} {I : ex_I} {F : ex_F} {b : Nat} {m e : Nat} {ad : Nat → Nat} {s : MS} (hR : rf_ok K F m ad) (h : rr I m ad s) (he : e < (s.2 31).length) :
    ex_E Γ d M_Mdl_out 0 [some (.inr (some m)), some (.inl (nI e)), none] [] K I F b (fun x K' I' F' => x = none ∧ K = K' ∧ F = F' ∧ rr I' m ad (tu s 31 ((s.2 31).eraseIdx e)) ∧ ∀ c, 240 ≤ c → I' 21 (ad 31) c = I 21 (ad 31) c) := by
  have m1 := hR.1
  obtain ⟨l1, l2, l3⟩ := h.2.2.2.2.2.2.1
  refine s_Mdl_out_0 ?_
  refine s_Mdl_out_1 ?_
  refine s_Mdl_out_2 (by first | rfl | assumption | (simp [*]; done)) (by first | rfl | assumption | (simp [*]; done)) ?_
  refine s_Mdl_out_5 ?_
  refine s_Mdl_out_6 ?_
  refine s_Mdl_out_7 (by first | rfl | assumption | (simp [*]; done)) (by first | rfl | assumption | (simp [*]; done)) ?_
  refine s_Mdl_out_10 ?_
  refine s_Mdl_out_12 ?_
  refine s_Mdl_out_13 ?_
  refine s_Mdl_out_14 ?_
  rw [show I 834 m 0 - 1 = nI ((s.2 31).length - 1) by rw [l1, show (s.2 31).length = ((s.2 31).length - 1) + 1 by omega, nI_pred]; rfl, nl_15, pk_mul]
  generalize hJ : ex_ui I 834 m 0 (nI ((s.2 31).length - 1)) = J
  have j1 : J 834 m 0 = nI ((s.2 31).length - 1) := by rw [← hJ]; exact ex_ui_eq _ _ _ _ _
  have j2 : J 21 = I 21 := by rw [← hJ]; exact ex_ui_f _ _ _ _ (by decide)
  have jf : fr I J ad [834] [31] := by rw [← hJ]; exact fr_ui (by decide) (by decide) (by decide)
  refine lp_out (n := (s.2 31).length - 1) (e := e) (X := J 21 (ad 31)) hR j1 (by omega) (by omega) (fun l2 => ?_) _ _ _ rfl (Nat.le_refl _) (by omega) (by rw [shf_0, ex_wi_id])
  refine s_Mdl_out_47 ?_
  have hs : ∀ c, 240 ≤ c → ex_wi J 21 (ad 31) (shf (J 21 (ad 31)) (15 * e) (15 * ((s.2 31).length - 1)) 15) 21 (ad 31) c = I 21 (ad 31) c := fun c hc => by
    rw [ex_wi_at, j2]
    unfold shf
    rw [if_neg (by omega)]
  refine ⟨rfl, rfl, rfl, rr_fly2 hR h (fr_trans jf (fr_wa hR.2.1 (Or.inl rfl) (by decide))) (fun c hc => hs c (by omega)) ⟨?_, ?_, fun e' row hr j hj => ?_⟩, hs⟩
  · rw [ex_wi_f _ _ _ (by decide), j1, List.length_eraseIdx, if_pos he]
  · rw [List.length_eraseIdx, if_pos he]; omega
  · have hlt := (List.getElem?_eq_some_iff.mp hr).1
    rw [List.length_eraseIdx, if_pos he] at hlt
    rw [List.getElem?_eraseIdx] at hr
    rw [ex_wi_at, j2]
    unfold shf
    by_cases z : e' < e
    · rw [if_pos z] at hr
      rw [if_neg (by omega)]
      exact l3 e' row hr j hj
    · rw [if_neg z] at hr
      rw [if_pos (by omega), show 15 * e' + j + 15 = 15 * (e' + 1) + j by omega]
      exact l3 (e' + 1) row hr j hj
theorem sp_flies {Γ : ex_G} {d : Nat} {K : ex_K} {I : ex_I} {F : ex_F} {b : Nat} {m n : Nat} {x : Int32} {ad : Nat → Nat} (hR : rf_ok K F m ad) (hf : I 834 m 0 = nI n) :
    ex_E Γ d M_Mdl_flies 0 [some (.inr (some m)), some (.inl x)] [] K I F b (fun r K' I' F' => r = some (.inl (if ¬ x < 0 ∧ ¬ nI n ≤ x then 1 else 0)) ∧ K = K' ∧ I = I' ∧ F = F') := by
  have m1 := hR.1
  refine s_Mdl_flies_0 ?_
  refine s_Mdl_flies_1 (fun h1 => ?_) (fun h1 => ?_)
  · refine s_Mdl_flies_16 ?_
    refine s_Mdl_flies_17 (by first | rfl | decide | assumption) ?_
    rw [if_neg (fun z => z.1 h1)]
    exact ⟨rfl, rfl, rfl, rfl⟩
  · refine s_Mdl_flies_4 ?_
    refine s_Mdl_flies_5 ?_
    refine s_Mdl_flies_6 (by first | rfl | assumption | (simp [*]; done)) (by first | rfl | assumption | (simp [*]; done)) ?_
    refine s_Mdl_flies_9 (fun h9 => ?_) (fun h9 => ?_)
    · refine s_Mdl_flies_16 ?_
      refine s_Mdl_flies_17 (by first | rfl | decide | assumption) ?_
      rw [hf] at h9
      rw [if_neg (fun z => z.2 h9)]
      exact ⟨rfl, rfl, rfl, rfl⟩
    · refine s_Mdl_flies_12 ?_
      refine s_Mdl_flies_13 ?_
      refine s_Mdl_flies_17 (by first | rfl | decide | assumption) ?_
      rw [hf] at h9
      rw [if_pos ⟨h1, h9⟩]
      exact ⟨rfl, rfl, rfl, rfl⟩
theorem sp_loseR {Γ : ex_G} {d : Nat} {K : ex_K} {I : ex_I} {F : ex_F} {b : Nat} {m e : Nat} {ad : Nat → Nat} {s : MS} (hR : rf_ok K F m ad) (h : rr I m ad s) (he : e < (s.2 31).length) :
    ex_E Γ (d + 1) M_Mdl_lose 0 [some (.inr (some m)), some (.inl (nI e))] [] K I F b (fun x K' I' F' => x = some (.inl 1) ∧ K = K' ∧ F = F' ∧ rr I' m ad (tu s 31 ((s.2 31).eraseIdx e))) := by
  have m1 := hR.1
  obtain ⟨l1, l2, l3⟩ := h.2.2.2.2.2.2.1
  have hc : (¬ nI e < 0 ∧ ¬ nI (s.2 31).length ≤ nI e) := ⟨nI_pos (by omega), nI_ge he (by omega)⟩
  refine s_Mdl_lose_0 ?_
  refine s_Mdl_lose_1 ?_
  refine s_Mdl_lose_2 (b1 := 0) (b2 := b) (by first | rfl | assumption | (simp [*]; done)) (by first | rfl | assumption | (simp [*]; done)) (sp_flies hR l1) ?_ (by omega)
  rintro _ _ _ _ ⟨rfl, rfl, rfl, rfl⟩
  dsimp only [Option.toList, List.cons_append, List.nil_append]
  rw [if_pos hc]
  refine s_Mdl_lose_5 (fun h5 => ?_) (fun h5 => absurd h5 (by decide))
  refine s_Mdl_lose_10 ?_
  refine s_Mdl_lose_11 ?_
  refine s_Mdl_lose_12 (b1 := 0) (b2 := b) (by first | rfl | assumption | (simp [*]; done)) (by first | rfl | assumption | (simp [*]; done)) (sp_outR hR h he) ?_ (by omega)
  rintro _ _ I2 _ ⟨rfl, rfl, rfl, r2, -⟩
  dsimp only [Option.toList, List.cons_append, List.nil_append]
  refine s_Mdl_lose_15 ?_
  refine s_Mdl_lose_16 (by first | rfl | decide | assumption) ?_
  exact ⟨rfl, rfl, rfl, r2⟩
theorem sp_loseR_no {Γ : ex_G} {d : Nat} {K : ex_K} {I : ex_I} {F : ex_F} {b : Nat} {m : Nat} {x : Int32} {ad : Nat → Nat} {s : MS} (hR : rf_ok K F m ad) (h : rr I m ad s) (hx : x < 0 ∨ nI (s.2 31).length ≤ x) :
    ex_E Γ (d + 1) M_Mdl_lose 0 [some (.inr (some m)), some (.inl x)] [] K I F b (fun r K' I' F' => r = some (.inl 0) ∧ K = K' ∧ F = F' ∧ rr I' m ad s) := by
  have m1 := hR.1
  have l1 := h.2.2.2.2.2.2.1.1
  have hc : ¬ (¬ x < 0 ∧ ¬ nI (s.2 31).length ≤ x) := fun z => hx.elim z.1 z.2
  refine s_Mdl_lose_0 ?_
  refine s_Mdl_lose_1 ?_
  refine s_Mdl_lose_2 (b1 := 0) (b2 := b) (by first | rfl | assumption | (simp [*]; done)) (by first | rfl | assumption | (simp [*]; done)) (sp_flies hR l1) ?_ (by omega)
  rintro _ _ _ _ ⟨rfl, rfl, rfl, rfl⟩
  dsimp only [Option.toList, List.cons_append, List.nil_append]
  rw [if_neg hc]
  refine s_Mdl_lose_5 (fun h5 => absurd h5 (by exact fun q => q rfl)) (fun h5 => ?_)
  refine s_Mdl_lose_8 ?_
  refine s_Mdl_lose_9 (by first | rfl | decide | assumption) ?_
  exact ⟨rfl, rfl, rfl, h⟩
theorem sp_copyR {Γ : ex_G} {d : Nat} {K : ex_K} {I : ex_I} {F : ex_F} {b : Nat} {m e : Nat} {row : Nat → Int32} {ad : Nat → Nat} {s : MS} (hR : rf_ok K F m ad) (h : rr I m ad s) (he : (s.2 31)[e]? = some row) (h16 : (s.2 31).length < 16) :
    ex_E Γ (d + 1) M_Mdl_copy 0 [some (.inr (some m)), some (.inl (nI e))] [] K I F b (fun x K' I' F' => x = some (.inl 1) ∧ K = K' ∧ F = F' ∧ rr I' m ad (tu s 31 (s.2 31 ++ [row]))) := by
  have m1 := hR.1
  obtain ⟨l1, l2, l3⟩ := h.2.2.2.2.2.2.1
  have hlt := (List.getElem?_eq_some_iff.mp he).1
  have hc : (¬ nI e < 0 ∧ ¬ nI (s.2 31).length ≤ nI e) := ⟨nI_pos (by omega), nI_ge hlt (by omega)⟩
  have r2 := rr_sent (q := 15 * e) (row := row) hR h (fun j hj => l3 e row he j hj)
  rw [m_snd, if_pos h16] at r2
  refine s_Mdl_copy_0 ?_
  refine s_Mdl_copy_1 ?_
  refine s_Mdl_copy_2 (b1 := 0) (b2 := b) (by first | rfl | assumption | (simp [*]; done)) (by first | rfl | assumption | (simp [*]; done)) (sp_flies hR l1) ?_ (by omega)
  rintro _ _ _ _ ⟨rfl, rfl, rfl, rfl⟩
  dsimp only [Option.toList, List.cons_append, List.nil_append]
  rw [if_pos hc]
  refine s_Mdl_copy_5 (fun h5 => absurd h5 (by decide)) (fun h5 => ?_)
  refine s_Mdl_copy_8 ?_
  refine s_Mdl_copy_9 (by first | rfl | assumption | (simp [*]; done)) (by first | rfl | assumption | (simp [*]; done)) ?_
  refine s_Mdl_copy_12 ?_
  refine s_Mdl_copy_14 (fun h14 => ?_) (fun h14 => absurd h14 (by rw [l1]; exact fun q => q (nI_lt (b := 16) h16 (by omega))))
  refine s_Mdl_copy_19 ?_
  refine s_Mdl_copy_20 ?_
  refine s_Mdl_copy_22 ?_
  refine s_Mdl_copy_23 ?_
  refine s_Mdl_copy_24 (b1 := 0) (b2 := b) (by first | rfl | assumption | (simp [*]; done)) (by first | rfl | assumption | (simp [*]; done)) (sp_snd2 (q := 15 * e) hR (by rw [nl_15, pk_mul]) l1 l2 (by omega) (by omega)) ?_ (by omega)
  rintro _ _ I2 _ ⟨rfl, rfl, rfl, rfl⟩
  dsimp only [Option.toList, List.cons_append, List.nil_append]
  refine s_Mdl_copy_27 ?_
  refine s_Mdl_copy_28 (by first | rfl | decide | assumption) ?_
  exact ⟨rfl, rfl, rfl, r2⟩
theorem sp_copyR_no {Γ : ex_G} {d : Nat} {K : ex_K} {I : ex_I} {F : ex_F} {b : Nat} {m : Nat} {x : Int32} {ad : Nat → Nat} {s : MS} (hR : rf_ok K F m ad) (h : rr I m ad s) (hx : (x < 0 ∨ nI (s.2 31).length ≤ x) ∨ (s.2 31).length = 16) :
    ex_E Γ (d + 1) M_Mdl_copy 0 [some (.inr (some m)), some (.inl x)] [] K I F b (fun r K' I' F' => r = some (.inl 0) ∧ K = K' ∧ F = F' ∧ rr I' m ad s) := by
  have m1 := hR.1
  have l1 := h.2.2.2.2.2.2.1.1
  refine s_Mdl_copy_0 ?_
  refine s_Mdl_copy_1 ?_
  refine s_Mdl_copy_2 (b1 := 0) (b2 := b) (by first | rfl | assumption | (simp [*]; done)) (by first | rfl | assumption | (simp [*]; done)) (sp_flies hR l1) ?_ (by omega)
  rintro _ _ _ _ ⟨rfl, rfl, rfl, rfl⟩
  dsimp only [Option.toList, List.cons_append, List.nil_append]
  refine s_Mdl_copy_5 (fun h5 => ?_) (fun h5 => ?_)
  · refine s_Mdl_copy_17 ?_
    refine s_Mdl_copy_18 (by first | rfl | decide | assumption) ?_
    exact ⟨rfl, rfl, rfl, h⟩
  · refine s_Mdl_copy_8 ?_
    refine s_Mdl_copy_9 (by first | rfl | assumption | (simp [*]; done)) (by first | rfl | assumption | (simp [*]; done)) ?_
    refine s_Mdl_copy_12 ?_
    refine s_Mdl_copy_14 (fun h14 => absurd h14 (by rw [l1]; intro q; refine hx.elim (fun z => ?_) (fun z => by rw [z] at q; exact absurd q (by decide)); rw [if_neg (fun w => z.elim w.1 w.2)] at h5; exact h5 rfl)) (fun h14 => ?_)
    refine s_Mdl_copy_17 ?_
    refine s_Mdl_copy_18 (by first | rfl | decide | assumption) ?_
    exact ⟨rfl, rfl, rfl, h⟩
def m_prb (s : MS) (t : Nat) : MS := cw (cw s 26 t 0) 27 t 0
theorem sp_probedR {Γ : ex_G} {d : Nat} {K : ex_K} {I : ex_I} {F : ex_F} {b : Nat} {m t : Nat} {ad : Nat → Nat} {s : MS} (hR : rf_ok K F m ad) (h : rr I m ad s) (ht : t < 3) :
    ex_E Γ d M_Mdl_probed 0 [some (.inr (some m)), some (.inl (nI t))] [] K I F b (fun x K' I' F' => x = none ∧ K = K' ∧ F = F' ∧ rr I' m ad (m_prb s t)) := by
  have m1 := hR.1
  have b0 : vp_nar .boolean 0 = 0 := by decide
  refine s_Mdl_probed_0 ?_
  refine s_Mdl_probed_1 (by first | rfl | assumption | (simp [*]; done)) (by first | rfl | assumption | (simp [*]; done)) ?_
  refine s_Mdl_probed_4 ?_
  refine s_Mdl_probed_5 ?_
  refine s_Mdl_probed_6 (by first | exact rf_lost hR | rfl) (by exact rk_lost hR) (by rw [rn_lost hR]; exact n_in (a := t) (by first | rfl | (simp only [nl_1, nl_2, nl_3, nl_4, nl_5, nl_6, nl_7, nl_8, nl_9, nl_10, nl_11, nl_12, nl_13, nl_14, nl_15, nl_16, nl_32, nl_240, nl_250, nl_255, nl_265, nl_270, nl_0, nI_add, pk_mul]; done)) (by omega) (by omega)) ?_
  refine ex_ixs (q := t) (by first | rfl | (simp only [nl_1, nl_2, nl_3, nl_4, nl_5, nl_6, nl_7, nl_8, nl_9, nl_10, nl_11, nl_12, nl_13, nl_14, nl_15, nl_16, nl_32, nl_240, nl_250, nl_255, nl_265, nl_270, nl_0, nI_add, pk_mul]; done)) (by omega) ?_
  refine s_Mdl_probed_7 ?_
  refine s_Mdl_probed_8 (by first | rfl | assumption | (simp [*]; done)) (by first | rfl | assumption | (simp [*]; done)) ?_
  refine s_Mdl_probed_11 ?_
  refine s_Mdl_probed_12 ?_
  refine s_Mdl_probed_13 (by first | exact rf_down hR | rfl) (by exact rk_down hR) (by rw [rn_down hR]; exact n_in (a := t) (by first | rfl | (simp only [nl_1, nl_2, nl_3, nl_4, nl_5, nl_6, nl_7, nl_8, nl_9, nl_10, nl_11, nl_12, nl_13, nl_14, nl_15, nl_16, nl_32, nl_240, nl_250, nl_255, nl_265, nl_270, nl_0, nI_add, pk_mul]; done)) (by omega) (by omega)) ?_
  refine ex_ixs (q := t) (by first | rfl | (simp only [nl_1, nl_2, nl_3, nl_4, nl_5, nl_6, nl_7, nl_8, nl_9, nl_10, nl_11, nl_12, nl_13, nl_14, nl_15, nl_16, nl_32, nl_240, nl_250, nl_255, nl_265, nl_270, nl_0, nI_add, pk_mul]; done)) (by omega) ?_
  refine s_Mdl_probed_14 ?_
  rw [b0]
  exact ⟨rfl, rfl, rfl, rr_ub hR (rr_ua hR h (k := 26) (by decide)) (k := 27) (by decide)⟩
