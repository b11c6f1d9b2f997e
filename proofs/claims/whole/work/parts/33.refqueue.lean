/-- a request's row on its way to origin t -/
def rqr (t n : Int32) (w : Nat → Int32) : Nat → Int32 := fun j => match j with
  | 0 => t
  | 1 => 0
  | 2 => n
  | 3 => w 1
  | 4 => w 7
  | 5 => w 2
  | 6 => w 3
  | 7 => w 5
  | _ => 0
def hi_same (I I' : ex_I) (ad : Nat → Nat) : Prop := ∀ c, 240 ≤ c → (c < 255 ∨ 270 ≤ c) → I' 21 (ad 31) c = I 21 (ad 31) c
theorem sp_snd2 {Γ : ex_G} {d : Nat} {K : ex_K} {I : ex_I} {F : ex_F} {b : Nat} {m n q : Nat} {x : Int32} {ad : Nat → Nat} (hR : rf_ok K F m ad) (hx : x = nI q) (hf : I 834 m 0 = nI n) (hn : n ≤ 16) (hq : q + 15 ≤ 15 * n ∨ 15 * n + 15 ≤ q) (hq2 : q + 15 ≤ 315) :
    ex_E Γ d M_Mdl_send 0 [some (.inr (some m)), some (.inl x), none] [] K I F b (fun x K' I' F' => x = none ∧ K = K' ∧ F = F' ∧ o_snd I m ad n q = I') := by
  subst hx
  exact sp_snd hR hf hn hq hq2
theorem sp_sendFirst {Γ : ex_G} {d : Nat} {K : ex_K} {I : ex_I} {F : ex_F} {b : Nat} {m t : Nat} {w : Nat → Int32} {Q U : List (Nat → Int32)} {ad : Nat → Nat} (hR : rf_ok K F m ad) (ht : t < 3) (hQ : r_que I ad t (w :: Q)) (hU : r_fly I m ad U) :
    ex_E Γ (d + 1) M_Mdl_sendFirst 0 [some (.inr (some m)), some (.inl (nI t)), none] [] K I F b (fun x K' I' F' => x = none ∧ K = K' ∧ F = F' ∧ fr I I' ad [834] [31] ∧ hi_same I I' ad ∧ r_fly I' m ad (m_snd U (rqr (nI t) (I 21 (ad 24) t) w))) := by
  have m1 := hR.1
  obtain ⟨q1, q2, q3⟩ := hQ
  have qr := (q3 0 w rfl).1
  have w1 : I 21 (ad 22) (32 * t + 1) = w 1 := by simpa using qr 1 (by decide)
  have w2 : I 21 (ad 22) (32 * t + 2) = w 2 := by simpa using qr 2 (by decide)
  have w3 : I 21 (ad 22) (32 * t + 3) = w 3 := by simpa using qr 3 (by decide)
  have w5 : I 21 (ad 22) (32 * t + 5) = w 5 := by simpa using qr 5 (by decide)
  have w7 : I 21 (ad 22) (32 * t + 7) = w 7 := by simpa using qr 7 (by decide)
  have hne : ad 22 ≠ ad 31 := rf_ne hR (by decide)
  have nwi : ∀ (J : ex_I) X, ex_wi J 21 (ad 31) X 21 (ad 22) = J 21 (ad 22) := fun J X => ex_wi_ne _ _ _ hne _
  have nui : ∀ (J : ex_I) i x, ex_ui J 21 (ad 31) i x 21 (ad 22) = J 21 (ad 22) := fun J i x => ex_ui_ne _ _ _ _ hne _
  refine s_Mdl_sendFirst_0 ?_
  refine s_Mdl_sendFirst_2 ?_
  refine s_Mdl_sendFirst_3 ?_
  refine s_Mdl_sendFirst_4 ?_
  refine s_Mdl_sendFirst_5 ?_
  refine s_Mdl_sendFirst_6 ?_
  refine s_Mdl_sendFirst_7 ?_
  refine s_Mdl_sendFirst_8 ?_
  refine s_Mdl_sendFirst_9 (by first | rfl | assumption | (simp [*]; done)) (by first | rfl | assumption | (simp [*]; done)) ?_
  refine s_Mdl_sendFirst_12 ?_
  refine s_Mdl_sendFirst_13 (by first | exact rf_given hR | rfl) (by exact rk_given hR) (by rw [rn_given hR]; exact n_in (a := t) (by first | rfl | (simp only [nl_1, nl_2, nl_3, nl_4, nl_5, nl_6, nl_7, nl_8, nl_9, nl_10, nl_11, nl_12, nl_13, nl_14, nl_15, nl_16, nl_32, nl_240, nl_250, nl_255, nl_265, nl_270, nl_0, nI_add, pk_mul]; done)) (by omega) (by omega)) ?_
  refine ex_ixl (q := t) (by first | rfl | (simp only [nl_1, nl_2, nl_3, nl_4, nl_5, nl_6, nl_7, nl_8, nl_9, nl_10, nl_11, nl_12, nl_13, nl_14, nl_15, nl_16, nl_32, nl_240, nl_250, nl_255, nl_265, nl_270, nl_0, nI_add, pk_mul]; done)) (by omega) ?_
  refine s_Mdl_sendFirst_14 ?_
  refine s_Mdl_sendFirst_15 (by first | rfl | assumption | (simp [*]; done)) (by first | rfl | assumption | (simp [*]; done)) ?_
  refine s_Mdl_sendFirst_18 ?_
  refine s_Mdl_sendFirst_19 ?_
  refine s_Mdl_sendFirst_20 ?_
  refine s_Mdl_sendFirst_21 (by first | exact rf_wait hR | rfl) (by exact rk_wait hR) (by rw [rn_wait hR]; exact n_in (a := ((32 * t) + 1)) (by first | rfl | (simp only [nl_1, nl_2, nl_3, nl_4, nl_5, nl_6, nl_7, nl_8, nl_9, nl_10, nl_11, nl_12, nl_13, nl_14, nl_15, nl_16, nl_32, nl_240, nl_250, nl_255, nl_265, nl_270, nl_0, nI_add, pk_mul]; done)) (by omega) (by omega)) ?_
  refine ex_ixl (q := ((32 * t) + 1)) (by first | rfl | (simp only [nl_1, nl_2, nl_3, nl_4, nl_5, nl_6, nl_7, nl_8, nl_9, nl_10, nl_11, nl_12, nl_13, nl_14, nl_15, nl_16, nl_32, nl_240, nl_250, nl_255, nl_265, nl_270, nl_0, nI_add, pk_mul]; done)) (by omega) ?_
  refine s_Mdl_sendFirst_22 (b1 := 0) (b2 := b) (by first | rfl | assumption | (simp [*]; done)) (by first | rfl | assumption | (simp [*]; done)) (sp_blank hR) ?_ (by omega)
  rintro _ _ _ _ ⟨rfl, rfl, rfl, rfl⟩
  dsimp only [Option.toList, List.cons_append, List.nil_append]
  refine s_Mdl_sendFirst_25 ?_
  refine s_Mdl_sendFirst_26 (by first | rfl | assumption | (simp [*]; done)) (by first | rfl | assumption | (simp [*]; done)) ?_
  refine s_Mdl_sendFirst_29 ?_
  refine s_Mdl_sendFirst_32 ?_
  refine s_Mdl_sendFirst_33 (by first | rfl | assumption | (simp [*]; done)) (by first | rfl | assumption | (simp [*]; done)) ?_
  refine s_Mdl_sendFirst_36 ?_
  refine s_Mdl_sendFirst_37 ?_
  refine s_Mdl_sendFirst_38 ?_
  refine s_Mdl_sendFirst_39 (by first | exact rf_wait hR | rfl) (by exact rk_wait hR) (by rw [rn_wait hR]; exact n_in (a := ((32 * t) + 2)) (by first | rfl | (simp only [nl_1, nl_2, nl_3, nl_4, nl_5, nl_6, nl_7, nl_8, nl_9, nl_10, nl_11, nl_12, nl_13, nl_14, nl_15, nl_16, nl_32, nl_240, nl_250, nl_255, nl_265, nl_270, nl_0, nI_add, pk_mul]; done)) (by omega) (by omega)) ?_
  refine ex_ixl (q := ((32 * t) + 2)) (by first | rfl | (simp only [nl_1, nl_2, nl_3, nl_4, nl_5, nl_6, nl_7, nl_8, nl_9, nl_10, nl_11, nl_12, nl_13, nl_14, nl_15, nl_16, nl_32, nl_240, nl_250, nl_255, nl_265, nl_270, nl_0, nI_add, pk_mul]; done)) (by omega) ?_
  refine s_Mdl_sendFirst_40 (by first | exact rf_row hR | rfl) (by exact rk_row hR) (by rw [rn_row hR]; exact n_in (a := 260) (by first | rfl | (simp only [nl_1, nl_2, nl_3, nl_4, nl_5, nl_6, nl_7, nl_8, nl_9, nl_10, nl_11, nl_12, nl_13, nl_14, nl_15, nl_16, nl_32, nl_240, nl_250, nl_255, nl_265, nl_270, nl_0, nI_add, pk_mul]; done)) (by omega) (by omega)) ?_
  refine ex_ixs (q := 260) (by first | rfl | (simp only [nl_1, nl_2, nl_3, nl_4, nl_5, nl_6, nl_7, nl_8, nl_9, nl_10, nl_11, nl_12, nl_13, nl_14, nl_15, nl_16, nl_32, nl_240, nl_250, nl_255, nl_265, nl_270, nl_0, nI_add, pk_mul]; done)) (by omega) ?_
  refine s_Mdl_sendFirst_41 ?_
  refine s_Mdl_sendFirst_42 (by first | rfl | assumption | (simp [*]; done)) (by first | rfl | assumption | (simp [*]; done)) ?_
  refine s_Mdl_sendFirst_45 ?_
  refine s_Mdl_sendFirst_48 ?_
  refine s_Mdl_sendFirst_49 (by first | rfl | assumption | (simp [*]; done)) (by first | rfl | assumption | (simp [*]; done)) ?_
  refine s_Mdl_sendFirst_52 ?_
  refine s_Mdl_sendFirst_53 ?_
  refine s_Mdl_sendFirst_54 ?_
  refine s_Mdl_sendFirst_55 (by first | exact rf_wait hR | rfl) (by exact rk_wait hR) (by rw [rn_wait hR]; exact n_in (a := ((32 * t) + 3)) (by first | rfl | (simp only [nl_1, nl_2, nl_3, nl_4, nl_5, nl_6, nl_7, nl_8, nl_9, nl_10, nl_11, nl_12, nl_13, nl_14, nl_15, nl_16, nl_32, nl_240, nl_250, nl_255, nl_265, nl_270, nl_0, nI_add, pk_mul]; done)) (by omega) (by omega)) ?_
  refine ex_ixl (q := ((32 * t) + 3)) (by first | rfl | (simp only [nl_1, nl_2, nl_3, nl_4, nl_5, nl_6, nl_7, nl_8, nl_9, nl_10, nl_11, nl_12, nl_13, nl_14, nl_15, nl_16, nl_32, nl_240, nl_250, nl_255, nl_265, nl_270, nl_0, nI_add, pk_mul]; done)) (by omega) ?_
  refine s_Mdl_sendFirst_56 (by first | exact rf_row hR | rfl) (by exact rk_row hR) (by rw [rn_row hR]; exact n_in (a := 261) (by first | rfl | (simp only [nl_1, nl_2, nl_3, nl_4, nl_5, nl_6, nl_7, nl_8, nl_9, nl_10, nl_11, nl_12, nl_13, nl_14, nl_15, nl_16, nl_32, nl_240, nl_250, nl_255, nl_265, nl_270, nl_0, nI_add, pk_mul]; done)) (by omega) (by omega)) ?_
  refine ex_ixs (q := 261) (by first | rfl | (simp only [nl_1, nl_2, nl_3, nl_4, nl_5, nl_6, nl_7, nl_8, nl_9, nl_10, nl_11, nl_12, nl_13, nl_14, nl_15, nl_16, nl_32, nl_240, nl_250, nl_255, nl_265, nl_270, nl_0, nI_add, pk_mul]; done)) (by omega) ?_
  refine s_Mdl_sendFirst_57 ?_
  refine s_Mdl_sendFirst_58 (by first | rfl | assumption | (simp [*]; done)) (by first | rfl | assumption | (simp [*]; done)) ?_
  refine s_Mdl_sendFirst_61 ?_
  refine s_Mdl_sendFirst_64 ?_
  refine s_Mdl_sendFirst_65 (by first | rfl | assumption | (simp [*]; done)) (by first | rfl | assumption | (simp [*]; done)) ?_
  refine s_Mdl_sendFirst_68 ?_
  refine s_Mdl_sendFirst_69 ?_
  refine s_Mdl_sendFirst_70 ?_
  refine s_Mdl_sendFirst_71 (by first | exact rf_wait hR | rfl) (by exact rk_wait hR) (by rw [rn_wait hR]; exact n_in (a := ((32 * t) + 5)) (by first | rfl | (simp only [nl_1, nl_2, nl_3, nl_4, nl_5, nl_6, nl_7, nl_8, nl_9, nl_10, nl_11, nl_12, nl_13, nl_14, nl_15, nl_16, nl_32, nl_240, nl_250, nl_255, nl_265, nl_270, nl_0, nI_add, pk_mul]; done)) (by omega) (by omega)) ?_
  refine ex_ixl (q := ((32 * t) + 5)) (by first | rfl | (simp only [nl_1, nl_2, nl_3, nl_4, nl_5, nl_6, nl_7, nl_8, nl_9, nl_10, nl_11, nl_12, nl_13, nl_14, nl_15, nl_16, nl_32, nl_240, nl_250, nl_255, nl_265, nl_270, nl_0, nI_add, pk_mul]; done)) (by omega) ?_
  refine s_Mdl_sendFirst_72 (by first | exact rf_row hR | rfl) (by exact rk_row hR) (by rw [rn_row hR]; exact n_in (a := 262) (by first | rfl | (simp only [nl_1, nl_2, nl_3, nl_4, nl_5, nl_6, nl_7, nl_8, nl_9, nl_10, nl_11, nl_12, nl_13, nl_14, nl_15, nl_16, nl_32, nl_240, nl_250, nl_255, nl_265, nl_270, nl_0, nI_add, pk_mul]; done)) (by omega) (by omega)) ?_
  refine ex_ixs (q := 262) (by first | rfl | (simp only [nl_1, nl_2, nl_3, nl_4, nl_5, nl_6, nl_7, nl_8, nl_9, nl_10, nl_11, nl_12, nl_13, nl_14, nl_15, nl_16, nl_32, nl_240, nl_250, nl_255, nl_265, nl_270, nl_0, nI_add, pk_mul]; done)) (by omega) ?_
  refine s_Mdl_sendFirst_73 ?_
  refine s_Mdl_sendFirst_74 (by first | rfl | assumption | (simp [*]; done)) (by first | rfl | assumption | (simp [*]; done)) ?_
  refine s_Mdl_sendFirst_77 ?_
  refine s_Mdl_sendFirst_80 ?_
  refine s_Mdl_sendFirst_81 (by first | rfl | assumption | (simp [*]; done)) (by first | rfl | assumption | (simp [*]; done)) ?_
  refine s_Mdl_sendFirst_84 ?_
  refine s_Mdl_sendFirst_85 ?_
  refine s_Mdl_sendFirst_87 ?_
  refine s_Mdl_sendFirst_88 (by first | exact rf_wait hR | rfl) (by exact rk_wait hR) (by rw [rn_wait hR]; exact n_in (a := ((32 * t) + 7)) (by first | rfl | (simp only [nl_1, nl_2, nl_3, nl_4, nl_5, nl_6, nl_7, nl_8, nl_9, nl_10, nl_11, nl_12, nl_13, nl_14, nl_15, nl_16, nl_32, nl_240, nl_250, nl_255, nl_265, nl_270, nl_0, nI_add, pk_mul]; done)) (by omega) (by omega)) ?_
  refine ex_ixl (q := ((32 * t) + 7)) (by first | rfl | (simp only [nl_1, nl_2, nl_3, nl_4, nl_5, nl_6, nl_7, nl_8, nl_9, nl_10, nl_11, nl_12, nl_13, nl_14, nl_15, nl_16, nl_32, nl_240, nl_250, nl_255, nl_265, nl_270, nl_0, nI_add, pk_mul]; done)) (by omega) ?_
  refine s_Mdl_sendFirst_89 (by first | exact rf_row hR | rfl) (by exact rk_row hR) (by rw [rn_row hR]; exact n_in (a := 259) (by first | rfl | (simp only [nl_1, nl_2, nl_3, nl_4, nl_5, nl_6, nl_7, nl_8, nl_9, nl_10, nl_11, nl_12, nl_13, nl_14, nl_15, nl_16, nl_32, nl_240, nl_250, nl_255, nl_265, nl_270, nl_0, nI_add, pk_mul]; done)) (by omega) (by omega)) ?_
  refine ex_ixs (q := 259) (by first | rfl | (simp only [nl_1, nl_2, nl_3, nl_4, nl_5, nl_6, nl_7, nl_8, nl_9, nl_10, nl_11, nl_12, nl_13, nl_14, nl_15, nl_16, nl_32, nl_240, nl_250, nl_255, nl_265, nl_270, nl_0, nI_add, pk_mul]; done)) (by omega) ?_
  simp only [nui, nwi, w1, w2, w3, w5, w7, ex_wi_u]
  generalize hY : (fun j => if j = 259 then w 7 else if j = 262 then w 5 else if j = 261 then w 3 else if j = 260 then w 2 else bl (I 21 (ad 31)) (nI t) 0 (I 21 (ad 24) t) (w 1) j) = Y
  have hf1 : fr I (ex_wi I 21 (ad 31) Y) ad [834] [31] := fr_wa hR.2.1 (Or.inl rfl) (by decide)
  have hU1 : r_fly (ex_wi I 21 (ad 31) Y) m ad U := by
    obtain ⟨u1, u2, u3⟩ := hU
    refine ⟨by rw [ex_wi_f _ _ _ (by decide)]; exact u1, u2, fun e row he j hj => ?_⟩
    have := (List.getElem?_eq_some_iff.mp he).1
    rw [ex_wi_at, ← hY]
    simp only [bl]
    rw [if_neg (by omega), if_neg (by omega), if_neg (by omega), if_neg (by omega), if_neg (by omega), if_neg (by omega), if_neg (by omega), if_neg (by omega), if_neg (by omega)]
    exact u3 e row he j hj
  refine s_Mdl_sendFirst_90 ?_
  refine s_Mdl_sendFirst_91 ?_
  refine s_Mdl_sendFirst_94 (b1 := 0) (b2 := b) (by first | rfl | assumption | (simp [*]; done)) (by first | rfl | assumption | (simp [*]; done)) (sp_snd2 (q := 255) hR rfl hU1.1 hU1.2.1 (by have := hU1.2.1; omega) (by decide)) ?_ (by omega)
  rintro _ _ _ _ ⟨rfl, rfl, rfl, rfl⟩
  dsimp only [Option.toList, List.cons_append, List.nil_append]
  refine s_Mdl_sendFirst_97 ?_
  refine ⟨rfl, rfl, rfl, fr_trans hf1 (fr_snd hR.2.1), fun c h1 h2 => ?_, r_snd hU1 (fun j hj => ?_)⟩
  · rw [snd_hi hU1.2.1 c h1, ex_wi_at, ← hY]
    simp only [bl]
    rw [if_neg (by omega), if_neg (by omega), if_neg (by omega), if_neg (by omega), if_neg (by omega), if_neg (by omega), if_neg (by omega), if_neg (by omega), if_neg (by omega)]
  · rw [ex_wi_at, ← hY]
    rcases (by omega : j = 0 ∨ j = 1 ∨ j = 2 ∨ j = 3 ∨ j = 4 ∨ j = 5 ∨ j = 6 ∨ j = 7 ∨ j = 8 ∨ j = 9 ∨ j = 10 ∨ j = 11 ∨ j = 12 ∨ j = 13 ∨ j = 14) with rfl | rfl | rfl | rfl | rfl | rfl | rfl | rfl | rfl | rfl | rfl | rfl | rfl | rfl | rfl <;> simp [bl, rqr]
def upd1 (X : Nat → Int32) (t : Nat) (x : Int32) : Nat → Int32 := fun j => if j = t then x else X j
theorem sp_begin_no {Γ : ex_G} {d : Nat} {K : ex_K} {I : ex_I} {F : ex_F} {b : Nat} {m t : Nat} {ad : Nat → Nat} (hR : rf_ok K F m ad) (ht : t < 3) (hQ : I 21 (ad 21) t = 0) :
    ex_E Γ d M_Mdl_begin 0 [some (.inr (some m)), some (.inl (nI t))] [] K I F b (fun x K' I' F' => x = none ∧ K = K' ∧ F = F' ∧ I = I') := by
  have m1 := hR.1
  refine s_Mdl_begin_0 ?_
  refine s_Mdl_begin_1 (by first | rfl | assumption | (simp [*]; done)) (by first | rfl | assumption | (simp [*]; done)) ?_
  refine s_Mdl_begin_4 ?_
  refine s_Mdl_begin_5 (by first | exact rf_count hR | rfl) (by exact rk_count hR) (by rw [rn_count hR]; exact n_in (a := t) (by first | rfl | (simp only [nl_1, nl_2, nl_3, nl_4, nl_5, nl_6, nl_7, nl_8, nl_9, nl_10, nl_11, nl_12, nl_13, nl_14, nl_15, nl_16, nl_32, nl_240, nl_250, nl_255, nl_265, nl_270, nl_0, nI_add, pk_mul]; done)) (by omega) (by omega)) ?_
  refine ex_ixl (q := t) (by first | rfl | (simp only [nl_1, nl_2, nl_3, nl_4, nl_5, nl_6, nl_7, nl_8, nl_9, nl_10, nl_11, nl_12, nl_13, nl_14, nl_15, nl_16, nl_32, nl_240, nl_250, nl_255, nl_265, nl_270, nl_0, nI_add, pk_mul]; done)) (by omega) ?_
  refine s_Mdl_begin_6 (fun h6 => absurd h6 (by rw [hQ]; exact fun q => q rfl)) (fun h6 => ?_)
  refine s_Mdl_begin_9 ?_
  exact ⟨rfl, rfl, rfl, rfl⟩
theorem sp_begin {Γ : ex_G} {d : Nat} {K : ex_K} {I : ex_I} {F : ex_F} {b : Nat} {m t : Nat} {w : Nat → Int32} {Q U : List (Nat → Int32)} {ad : Nat → Nat} (hR : rf_ok K F m ad) (ht : t < 3) (hQ : r_que I ad t (w :: Q)) (hU : r_fly I m ad U) :
    ex_E Γ (d + 2) M_Mdl_begin 0 [some (.inr (some m)), some (.inl (nI t))] [] K I F b (fun x K' I' F' => x = none ∧ K = K' ∧ F = F' ∧ fr I I' ad [834] [24, 25, 31] ∧ hi_same I I' ad ∧ I' 21 (ad 24) = upd1 (I 21 (ad 24)) t (I 21 (ad 24) t + 1) ∧ I' 21 (ad 25) = upd1 (I 21 (ad 25)) t (I 805 m 0) ∧ r_fly I' m ad (m_snd U (rqr (nI t) (I 21 (ad 24) t + 1) w))) := by
  have m1 := hR.1
  have hc := hQ.1
  have hl := hQ.2.1
  have hne : ¬ I 21 (ad 21) t = 0 := by rw [hc]; exact nI_ne0 (by simp) (by omega)
  refine s_Mdl_begin_0 ?_
  refine s_Mdl_begin_1 (by first | rfl | assumption | (simp [*]; done)) (by first | rfl | assumption | (simp [*]; done)) ?_
  refine s_Mdl_begin_4 ?_
  refine s_Mdl_begin_5 (by first | exact rf_count hR | rfl) (by exact rk_count hR) (by rw [rn_count hR]; exact n_in (a := t) (by first | rfl | (simp only [nl_1, nl_2, nl_3, nl_4, nl_5, nl_6, nl_7, nl_8, nl_9, nl_10, nl_11, nl_12, nl_13, nl_14, nl_15, nl_16, nl_32, nl_240, nl_250, nl_255, nl_265, nl_270, nl_0, nI_add, pk_mul]; done)) (by omega) (by omega)) ?_
  refine ex_ixl (q := t) (by first | rfl | (simp only [nl_1, nl_2, nl_3, nl_4, nl_5, nl_6, nl_7, nl_8, nl_9, nl_10, nl_11, nl_12, nl_13, nl_14, nl_15, nl_16, nl_32, nl_240, nl_250, nl_255, nl_265, nl_270, nl_0, nI_add, pk_mul]; done)) (by omega) ?_
  refine s_Mdl_begin_6 (fun h6 => ?_) (fun h6 => absurd h6 (by exact hne))
  refine s_Mdl_begin_10 ?_
  refine s_Mdl_begin_11 (by first | rfl | assumption | (simp [*]; done)) (by first | rfl | assumption | (simp [*]; done)) ?_
  refine s_Mdl_begin_14 ?_
  refine s_Mdl_begin_15 ?_
  refine s_Mdl_begin_16 (by first | exact rf_given hR | rfl) (by exact rk_given hR) (by rw [rn_given hR]; exact n_in (a := t) (by first | rfl | (simp only [nl_1, nl_2, nl_3, nl_4, nl_5, nl_6, nl_7, nl_8, nl_9, nl_10, nl_11, nl_12, nl_13, nl_14, nl_15, nl_16, nl_32, nl_240, nl_250, nl_255, nl_265, nl_270, nl_0, nI_add, pk_mul]; done)) (by omega) (by omega)) ?_
  refine ex_ixl (q := t) (by first | rfl | (simp only [nl_1, nl_2, nl_3, nl_4, nl_5, nl_6, nl_7, nl_8, nl_9, nl_10, nl_11, nl_12, nl_13, nl_14, nl_15, nl_16, nl_32, nl_240, nl_250, nl_255, nl_265, nl_270, nl_0, nI_add, pk_mul]; done)) (by omega) ?_
  refine s_Mdl_begin_17 ?_
  refine s_Mdl_begin_18 ?_
  refine s_Mdl_begin_19 (by first | exact rf_given hR | rfl) (by exact rk_given hR) (by rw [rn_given hR]; exact n_in (a := t) (by first | rfl | (simp only [nl_1, nl_2, nl_3, nl_4, nl_5, nl_6, nl_7, nl_8, nl_9, nl_10, nl_11, nl_12, nl_13, nl_14, nl_15, nl_16, nl_32, nl_240, nl_250, nl_255, nl_265, nl_270, nl_0, nI_add, pk_mul]; done)) (by omega) (by omega)) ?_
  refine ex_ixs (q := t) (by first | rfl | (simp only [nl_1, nl_2, nl_3, nl_4, nl_5, nl_6, nl_7, nl_8, nl_9, nl_10, nl_11, nl_12, nl_13, nl_14, nl_15, nl_16, nl_32, nl_240, nl_250, nl_255, nl_265, nl_270, nl_0, nI_add, pk_mul]; done)) (by omega) ?_
  refine s_Mdl_begin_20 ?_
  refine s_Mdl_begin_21 (by first | rfl | assumption | (simp [*]; done)) (by first | rfl | assumption | (simp [*]; done)) ?_
  refine s_Mdl_begin_24 ?_
  refine s_Mdl_begin_25 ?_
  refine s_Mdl_begin_26 (by first | rfl | assumption | (simp [*]; done)) (by first | rfl | assumption | (simp [*]; done)) ?_
  refine s_Mdl_begin_29 (by first | exact rf_since hR | rfl) (by exact rk_since hR) (by rw [rn_since hR]; exact n_in (a := t) (by first | rfl | (simp only [nl_1, nl_2, nl_3, nl_4, nl_5, nl_6, nl_7, nl_8, nl_9, nl_10, nl_11, nl_12, nl_13, nl_14, nl_15, nl_16, nl_32, nl_240, nl_250, nl_255, nl_265, nl_270, nl_0, nI_add, pk_mul]; done)) (by omega) (by omega)) ?_
  refine ex_ixs (q := t) (by first | rfl | (simp only [nl_1, nl_2, nl_3, nl_4, nl_5, nl_6, nl_7, nl_8, nl_9, nl_10, nl_11, nl_12, nl_13, nl_14, nl_15, nl_16, nl_32, nl_240, nl_250, nl_255, nl_265, nl_270, nl_0, nI_add, pk_mul]; done)) (by omega) ?_
  rw [ex_ui_f _ _ _ _ (by decide)]
  generalize hJ : ex_ui (ex_ui I 21 (ad 24) t (I 21 (ad 24) t + 1)) 21 (ad 25) t (I 805 m 0) = J
  have h2425 : ad 24 ≠ ad 25 := rf_ne hR (by decide)
  have j1 : J 21 (ad 24) = upd1 (I 21 (ad 24)) t (I 21 (ad 24) t + 1) := by rw [← hJ, ex_ui_ne _ _ _ _ h2425, ex_ui_at]; rfl
  have j2 : J 21 (ad 25) = upd1 (I 21 (ad 25)) t (I 805 m 0) := by rw [← hJ, ex_ui_at, ex_ui_ne _ _ _ _ (Ne.symm h2425)]; rfl
  have hf : fr I J ad [834] [24, 25, 31] := by
    rw [← hJ]
    exact fr_trans (fr_ua hR.2.1 (Or.inl rfl) (by decide)) (fr_ua hR.2.1 (Or.inl rfl) (by decide))
  have hf0 : fr I J ad [] [24, 25] := by
    rw [← hJ]
    exact fr_trans (fr_ua hR.2.1 (Or.inl rfl) (by decide)) (fr_ua hR.2.1 (Or.inl rfl) (by decide))
  have jt : J 21 (ad 24) t = I 21 (ad 24) t + 1 := by rw [j1, upd1, if_pos rfl]
  refine s_Mdl_begin_30 ?_
  refine s_Mdl_begin_31 ?_
  refine s_Mdl_begin_32 (b1 := 0) (b2 := b) (by first | rfl | assumption | (simp [*]; done)) (by first | rfl | assumption | (simp [*]; done)) (sp_sendFirst hR ht (r_que_fr hf0 (by decide) (by decide) (by decide) hQ) (r_fly_fr hf0 (by decide) (by decide) hU)) ?_ (by omega)
  rintro _ _ I2 _ ⟨rfl, rfl, rfl, f2, s2, u2⟩
  dsimp only [Option.toList, List.cons_append, List.nil_append]
  refine s_Mdl_begin_35 ?_
  rw [jt] at u2
  exact ⟨rfl, rfl, rfl, fr_trans hf (fr_mono f2 (fun x h => h) (fun x h => by simp at h; subst h; decide)), fun c a e => by rw [s2 c a e, (hf0.2 31 (by decide)).1], by rw [(f2.2 24 (by decide)).1, j1], by rw [(f2.2 25 (by decide)).1, j2], u2⟩
theorem lp_sh1 {Γ : ex_G} {d : Nat} {K : ex_K} {I : ex_I} {F : ex_F} {b : Nat} {Q : Option ex_V → ex_K → ex_I → ex_F → Prop} {m t n : Nat} {X : Nat → Int32} {ad : Nat → Nat} (hR : rf_ok K F m ad) (ht : t < 3) (hs : I 21 (ad 21) t = nI n) (hn : n < 4) (kk : ∀ l2, ex_E Γ d M_Mdl_shift 54 [some (.inr (some m)), some (.inl (nI t)), l2] [] K (ex_wi I 21 (ad 22) (shf X (32 * t) (32 * t + 8 * n) 8)) F b Q) : ∀ k c J, 32 * t + 8 * n - c = k → 32 * t ≤ c → c ≤ 32 * t + 8 * n → J = ex_wi I 21 (ad 22) (shf X (32 * t) c 8) →
    ex_E Γ d M_Mdl_shift 15 [some (.inr (some m)), some (.inl (nI t)), some (.inl (nI c))] [] K J F b Q := by
  have m1 := hR.1
  have hs2 : ∀ Y, ex_wi I 21 (ad 22) Y 21 (ad 21) t = nI n := fun Y => by rw [ex_wi_ne _ _ _ (rf_ne hR (by decide))]; exact hs
  have eb : ∀ Y, 32 * nI t + 8 * ex_wi I 21 (ad 22) Y 21 (ad 21) t = nI (32 * t + 8 * n) := fun Y => by rw [hs2, nl_32, nl_8, pk_mul, pk_mul, nI_add]
  intro k
  induction k with
  | zero =>
    intro c J hk h1 h2 hJ
    subst hJ
    have ec : c = 32 * t + 8 * n := by omega
    refine s_Mdl_shift_15 ?_
    refine s_Mdl_shift_16 ?_
    refine s_Mdl_shift_18 ?_
    refine s_Mdl_shift_19 ?_
    refine s_Mdl_shift_20 ?_
    refine s_Mdl_shift_22 ?_
    refine s_Mdl_shift_23 (by first | rfl | assumption | (simp [*]; done)) (by first | rfl | assumption | (simp [*]; done)) ?_
    refine s_Mdl_shift_26 ?_
    refine s_Mdl_shift_27 (by first | exact rf_count hR | rfl) (by exact rk_count hR) (by rw [rn_count hR]; exact n_in (a := t) (by first | rfl | (simp only [nl_1, nl_2, nl_3, nl_4, nl_5, nl_6, nl_7, nl_8, nl_9, nl_10, nl_11, nl_12, nl_13, nl_14, nl_15, nl_16, nl_32, nl_240, nl_250, nl_255, nl_265, nl_270, nl_0, nI_add, pk_mul]; done)) (by omega) (by omega)) ?_
    refine ex_ixl (q := t) (by first | rfl | (simp only [nl_1, nl_2, nl_3, nl_4, nl_5, nl_6, nl_7, nl_8, nl_9, nl_10, nl_11, nl_12, nl_13, nl_14, nl_15, nl_16, nl_32, nl_240, nl_250, nl_255, nl_265, nl_270, nl_0, nI_add, pk_mul]; done)) (by omega) ?_
    refine s_Mdl_shift_28 ?_
    refine s_Mdl_shift_29 ?_
    refine s_Mdl_shift_30 (fun h30 => ?_) (fun h30 => absurd h30 (by rw [eb]; exact fun q => q (nI_le (by omega) (by omega))))
    rw [ec]
    exact kk _
  | succ k ih =>
    intro c J hk h1 h2 hJ
    subst hJ
    refine s_Mdl_shift_15 ?_
    refine s_Mdl_shift_16 ?_
    refine s_Mdl_shift_18 ?_
    refine s_Mdl_shift_19 ?_
    refine s_Mdl_shift_20 ?_
    refine s_Mdl_shift_22 ?_
    refine s_Mdl_shift_23 (by first | rfl | assumption | (simp [*]; done)) (by first | rfl | assumption | (simp [*]; done)) ?_
    refine s_Mdl_shift_26 ?_
    refine s_Mdl_shift_27 (by first | exact rf_count hR | rfl) (by exact rk_count hR) (by rw [rn_count hR]; exact n_in (a := t) (by first | rfl | (simp only [nl_1, nl_2, nl_3, nl_4, nl_5, nl_6, nl_7, nl_8, nl_9, nl_10, nl_11, nl_12, nl_13, nl_14, nl_15, nl_16, nl_32, nl_240, nl_250, nl_255, nl_265, nl_270, nl_0, nI_add, pk_mul]; done)) (by omega) (by omega)) ?_
    refine ex_ixl (q := t) (by first | rfl | (simp only [nl_1, nl_2, nl_3, nl_4, nl_5, nl_6, nl_7, nl_8, nl_9, nl_10, nl_11, nl_12, nl_13, nl_14, nl_15, nl_16, nl_32, nl_240, nl_250, nl_255, nl_265, nl_270, nl_0, nI_add, pk_mul]; done)) (by omega) ?_
    refine s_Mdl_shift_28 ?_
    refine s_Mdl_shift_29 ?_
    refine s_Mdl_shift_30 (fun h30 => absurd h30 (by rw [eb]; exact nI_ge (by omega) (by omega))) (fun h30 => ?_)
    refine s_Mdl_shift_33 ?_
    refine s_Mdl_shift_34 (by first | rfl | assumption | (simp [*]; done)) (by first | rfl | assumption | (simp [*]; done)) ?_
    refine s_Mdl_shift_37 ?_
    refine s_Mdl_shift_38 ?_
    refine s_Mdl_shift_39 (by first | rfl | assumption | (simp [*]; done)) (by first | rfl | assumption | (simp [*]; done)) ?_
    refine s_Mdl_shift_42 ?_
    refine s_Mdl_shift_43 ?_
    refine s_Mdl_shift_45 ?_
    refine s_Mdl_shift_46 (by first | exact rf_wait hR | rfl) (by exact rk_wait hR) (by rw [rn_wait hR]; exact n_in (a := (c + 8)) (by first | rfl | (simp only [nl_1, nl_2, nl_3, nl_4, nl_5, nl_6, nl_7, nl_8, nl_9, nl_10, nl_11, nl_12, nl_13, nl_14, nl_15, nl_16, nl_32, nl_240, nl_250, nl_255, nl_265, nl_270, nl_0, nI_add, pk_mul]; done)) (by omega) (by omega)) ?_
    refine ex_ixl (q := (c + 8)) (by first | rfl | (simp only [nl_1, nl_2, nl_3, nl_4, nl_5, nl_6, nl_7, nl_8, nl_9, nl_10, nl_11, nl_12, nl_13, nl_14, nl_15, nl_16, nl_32, nl_240, nl_250, nl_255, nl_265, nl_270, nl_0, nI_add, pk_mul]; done)) (by omega) ?_
    refine s_Mdl_shift_47 (by first | exact rf_wait hR | rfl) (by exact rk_wait hR) (by rw [rn_wait hR]; exact n_in (a := c) (by first | rfl | (simp only [nl_1, nl_2, nl_3, nl_4, nl_5, nl_6, nl_7, nl_8, nl_9, nl_10, nl_11, nl_12, nl_13, nl_14, nl_15, nl_16, nl_32, nl_240, nl_250, nl_255, nl_265, nl_270, nl_0, nI_add, pk_mul]; done)) (by omega) (by omega)) ?_
    refine ex_ixs (q := c) (by first | rfl | (simp only [nl_1, nl_2, nl_3, nl_4, nl_5, nl_6, nl_7, nl_8, nl_9, nl_10, nl_11, nl_12, nl_13, nl_14, nl_15, nl_16, nl_32, nl_240, nl_250, nl_255, nl_265, nl_270, nl_0, nI_add, pk_mul]; done)) (by omega) ?_
    refine s_Mdl_shift_48 ?_
    refine s_Mdl_shift_51 ?_
    rw [ex_wi_at, shf_up _ _ _ (by omega), ex_wi_u, shf_s _ _ h1, nI_1]
    exact ih (c + 1) _ (by omega) (by omega) (by omega) rfl
theorem lp_sh2 {Γ : ex_G} {d : Nat} {K : ex_K} {I : ex_I} {F : ex_F} {b : Nat} {Q : Option ex_V → ex_K → ex_I → ex_F → Prop} {m t n : Nat} {X : Nat → Int32} {ad : Nat → Nat} (hR : rf_ok K F m ad) (ht : t < 3) (hs : I 21 (ad 21) t = nI n) (hn : n < 4) (kk : ∀ l2, ex_E Γ d M_Mdl_shift 96 [some (.inr (some m)), some (.inl (nI t)), l2] [] K (ex_wi I 21 (ad 23) (shf X (16 * t) (16 * t + 4 * n) 4)) F b Q) : ∀ k c J, 16 * t + 4 * n - c = k → 16 * t ≤ c → c ≤ 16 * t + 4 * n → J = ex_wi I 21 (ad 23) (shf X (16 * t) c 4) →
    ex_E Γ d M_Mdl_shift 59 [some (.inr (some m)), some (.inl (nI t)), some (.inl (nI c))] [] K J F b Q := by
  have m1 := hR.1
  have hs2 : ∀ Y, ex_wi I 21 (ad 23) Y 21 (ad 21) t = nI n := fun Y => by rw [ex_wi_ne _ _ _ (rf_ne hR (by decide))]; exact hs
  have eb : ∀ Y, 16 * nI t + 4 * ex_wi I 21 (ad 23) Y 21 (ad 21) t = nI (16 * t + 4 * n) := fun Y => by rw [hs2, nl_16, nl_4, pk_mul, pk_mul, nI_add]
  intro k
  induction k with
  | zero =>
    intro c J hk h1 h2 hJ
    subst hJ
    have ec : c = 16 * t + 4 * n := by omega
    refine s_Mdl_shift_59 ?_
    refine s_Mdl_shift_60 ?_
    refine s_Mdl_shift_62 ?_
    refine s_Mdl_shift_63 ?_
    refine s_Mdl_shift_64 ?_
    refine s_Mdl_shift_65 ?_
    refine s_Mdl_shift_66 (by first | rfl | assumption | (simp [*]; done)) (by first | rfl | assumption | (simp [*]; done)) ?_
    refine s_Mdl_shift_69 ?_
    refine s_Mdl_shift_70 (by first | exact rf_count hR | rfl) (by exact rk_count hR) (by rw [rn_count hR]; exact n_in (a := t) (by first | rfl | (simp only [nl_1, nl_2, nl_3, nl_4, nl_5, nl_6, nl_7, nl_8, nl_9, nl_10, nl_11, nl_12, nl_13, nl_14, nl_15, nl_16, nl_32, nl_240, nl_250, nl_255, nl_265, nl_270, nl_0, nI_add, pk_mul]; done)) (by omega) (by omega)) ?_
    refine ex_ixl (q := t) (by first | rfl | (simp only [nl_1, nl_2, nl_3, nl_4, nl_5, nl_6, nl_7, nl_8, nl_9, nl_10, nl_11, nl_12, nl_13, nl_14, nl_15, nl_16, nl_32, nl_240, nl_250, nl_255, nl_265, nl_270, nl_0, nI_add, pk_mul]; done)) (by omega) ?_
    refine s_Mdl_shift_71 ?_
    refine s_Mdl_shift_72 ?_
    refine s_Mdl_shift_73 (fun h73 => ?_) (fun h73 => absurd h73 (by rw [eb]; exact fun q => q (nI_le (by omega) (by omega))))
    rw [ec]
    exact kk _
  | succ k ih =>
    intro c J hk h1 h2 hJ
    subst hJ
    refine s_Mdl_shift_59 ?_
    refine s_Mdl_shift_60 ?_
    refine s_Mdl_shift_62 ?_
    refine s_Mdl_shift_63 ?_
    refine s_Mdl_shift_64 ?_
    refine s_Mdl_shift_65 ?_
    refine s_Mdl_shift_66 (by first | rfl | assumption | (simp [*]; done)) (by first | rfl | assumption | (simp [*]; done)) ?_
    refine s_Mdl_shift_69 ?_
    refine s_Mdl_shift_70 (by first | exact rf_count hR | rfl) (by exact rk_count hR) (by rw [rn_count hR]; exact n_in (a := t) (by first | rfl | (simp only [nl_1, nl_2, nl_3, nl_4, nl_5, nl_6, nl_7, nl_8, nl_9, nl_10, nl_11, nl_12, nl_13, nl_14, nl_15, nl_16, nl_32, nl_240, nl_250, nl_255, nl_265, nl_270, nl_0, nI_add, pk_mul]; done)) (by omega) (by omega)) ?_
    refine ex_ixl (q := t) (by first | rfl | (simp only [nl_1, nl_2, nl_3, nl_4, nl_5, nl_6, nl_7, nl_8, nl_9, nl_10, nl_11, nl_12, nl_13, nl_14, nl_15, nl_16, nl_32, nl_240, nl_250, nl_255, nl_265, nl_270, nl_0, nI_add, pk_mul]; done)) (by omega) ?_
    refine s_Mdl_shift_71 ?_
    refine s_Mdl_shift_72 ?_
    refine s_Mdl_shift_73 (fun h73 => absurd h73 (by rw [eb]; exact nI_ge (by omega) (by omega))) (fun h73 => ?_)
    refine s_Mdl_shift_76 ?_
    refine s_Mdl_shift_77 (by first | rfl | assumption | (simp [*]; done)) (by first | rfl | assumption | (simp [*]; done)) ?_
    refine s_Mdl_shift_80 ?_
    refine s_Mdl_shift_81 ?_
    refine s_Mdl_shift_82 (by first | rfl | assumption | (simp [*]; done)) (by first | rfl | assumption | (simp [*]; done)) ?_
    refine s_Mdl_shift_85 ?_
    refine s_Mdl_shift_86 ?_
    refine s_Mdl_shift_87 ?_
    refine s_Mdl_shift_88 (by first | exact rf_wish hR | rfl) (by exact rk_wish hR) (by rw [rn_wish hR]; exact n_in (a := (c + 4)) (by first | rfl | (simp only [nl_1, nl_2, nl_3, nl_4, nl_5, nl_6, nl_7, nl_8, nl_9, nl_10, nl_11, nl_12, nl_13, nl_14, nl_15, nl_16, nl_32, nl_240, nl_250, nl_255, nl_265, nl_270, nl_0, nI_add, pk_mul]; done)) (by omega) (by omega)) ?_
    refine ex_ixl (q := (c + 4)) (by first | rfl | (simp only [nl_1, nl_2, nl_3, nl_4, nl_5, nl_6, nl_7, nl_8, nl_9, nl_10, nl_11, nl_12, nl_13, nl_14, nl_15, nl_16, nl_32, nl_240, nl_250, nl_255, nl_265, nl_270, nl_0, nI_add, pk_mul]; done)) (by omega) ?_
    refine s_Mdl_shift_89 (by first | exact rf_wish hR | rfl) (by exact rk_wish hR) (by rw [rn_wish hR]; exact n_in (a := c) (by first | rfl | (simp only [nl_1, nl_2, nl_3, nl_4, nl_5, nl_6, nl_7, nl_8, nl_9, nl_10, nl_11, nl_12, nl_13, nl_14, nl_15, nl_16, nl_32, nl_240, nl_250, nl_255, nl_265, nl_270, nl_0, nI_add, pk_mul]; done)) (by omega) (by omega)) ?_
    refine ex_ixs (q := c) (by first | rfl | (simp only [nl_1, nl_2, nl_3, nl_4, nl_5, nl_6, nl_7, nl_8, nl_9, nl_10, nl_11, nl_12, nl_13, nl_14, nl_15, nl_16, nl_32, nl_240, nl_250, nl_255, nl_265, nl_270, nl_0, nI_add, pk_mul]; done)) (by omega) ?_
    refine s_Mdl_shift_90 ?_
    refine s_Mdl_shift_93 ?_
    rw [ex_wi_at, shf_up _ _ _ (by omega), ex_wi_u, shf_s _ _ h1, nI_1]
    exact ih (c + 1) _ (by omega) (by omega) (by omega) rfl
theorem sp_shift {Γ : ex_G} {d : Nat} {K : ex_K} {I : ex_I} {F : ex_F} {b : Nat} {m t : Nat} {w : Nat → Int32} {Q : List (Nat → Int32)} {ad : Nat → Nat} (hR : rf_ok K F m ad) (ht : t < 3) (hQ : r_que I ad t (w :: Q)) :
    ex_E Γ d M_Mdl_shift 0 [some (.inr (some m)), some (.inl (nI t)), none] [] K I F b (fun x K' I' F' => x = none ∧ K = K' ∧ F = F' ∧ fr I I' ad [] [21, 22, 23] ∧ r_que I' ad t Q ∧ ∀ t2 Q2, t2 ≠ t → t2 < 3 → r_que I ad t2 Q2 → r_que I' ad t2 Q2) := by
  have m1 := hR.1
  obtain ⟨q1, q2, q3⟩ := hQ
  have ql : Q.length < 4 := by simp at q2; omega
  refine s_Mdl_shift_0 ?_
  refine s_Mdl_shift_1 (by first | rfl | assumption | (simp [*]; done)) (by first | rfl | assumption | (simp [*]; done)) ?_
  refine s_Mdl_shift_4 ?_
  refine s_Mdl_shift_5 ?_
  refine s_Mdl_shift_6 (by first | exact rf_count hR | rfl) (by exact rk_count hR) (by rw [rn_count hR]; exact n_in (a := t) (by first | rfl | (simp only [nl_1, nl_2, nl_3, nl_4, nl_5, nl_6, nl_7, nl_8, nl_9, nl_10, nl_11, nl_12, nl_13, nl_14, nl_15, nl_16, nl_32, nl_240, nl_250, nl_255, nl_265, nl_270, nl_0, nI_add, pk_mul]; done)) (by omega) (by omega)) ?_
  refine ex_ixl (q := t) (by first | rfl | (simp only [nl_1, nl_2, nl_3, nl_4, nl_5, nl_6, nl_7, nl_8, nl_9, nl_10, nl_11, nl_12, nl_13, nl_14, nl_15, nl_16, nl_32, nl_240, nl_250, nl_255, nl_265, nl_270, nl_0, nI_add, pk_mul]; done)) (by omega) ?_
  refine s_Mdl_shift_7 ?_
  refine s_Mdl_shift_8 ?_
  refine s_Mdl_shift_9 (by first | exact rf_count hR | rfl) (by exact rk_count hR) (by rw [rn_count hR]; exact n_in (a := t) (by first | rfl | (simp only [nl_1, nl_2, nl_3, nl_4, nl_5, nl_6, nl_7, nl_8, nl_9, nl_10, nl_11, nl_12, nl_13, nl_14, nl_15, nl_16, nl_32, nl_240, nl_250, nl_255, nl_265, nl_270, nl_0, nI_add, pk_mul]; done)) (by omega) (by omega)) ?_
  refine ex_ixs (q := t) (by first | rfl | (simp only [nl_1, nl_2, nl_3, nl_4, nl_5, nl_6, nl_7, nl_8, nl_9, nl_10, nl_11, nl_12, nl_13, nl_14, nl_15, nl_16, nl_32, nl_240, nl_250, nl_255, nl_265, nl_270, nl_0, nI_add, pk_mul]; done)) (by omega) ?_
  refine s_Mdl_shift_10 ?_
  refine s_Mdl_shift_12 ?_
  refine s_Mdl_shift_13 ?_
  refine s_Mdl_shift_14 ?_
  rw [show I 21 (ad 21) t - 1 = nI Q.length by rw [q1, List.length_cons, nI_pred], nl_32, pk_mul]
  generalize hJ : ex_ui I 21 (ad 21) t (nI Q.length) = J
  have j1 : J 21 (ad 21) = upd1 (I 21 (ad 21)) t (nI Q.length) := by rw [← hJ, ex_ui_at]; rfl
  have j2 : ∀ a, a ≠ ad 21 → J 21 a = I 21 a := fun a h => by rw [← hJ, ex_ui_ne _ _ _ _ h]
  have jf : fr I J ad [] [21, 22, 23] := by rw [← hJ]; exact fr_ua hR.2.1 (Or.inl rfl) (by decide)
  have jt : J 21 (ad 21) t = nI Q.length := by rw [j1, upd1, if_pos rfl]
  have n22 : ad 22 ≠ ad 21 := rf_ne hR (by decide)
  have n23 : ad 23 ≠ ad 21 := rf_ne hR (by decide)
  have n2322 : ad 23 ≠ ad 22 := rf_ne hR (by decide)
  refine lp_sh1 (I := J) (n := Q.length) (X := J 21 (ad 22)) hR ht jt ql (fun l2 => ?_) _ _ _ rfl (Nat.le_refl _) (by omega) (by rw [shf_0, ex_wi_id])
  refine s_Mdl_shift_54 ?_
  refine s_Mdl_shift_56 ?_
  refine s_Mdl_shift_57 ?_
  refine s_Mdl_shift_58 ?_
  rw [nl_16, pk_mul]
  refine lp_sh2 (I := ex_wi J 21 (ad 22) (shf (J 21 (ad 22)) (32 * t) (32 * t + 8 * Q.length) 8)) (n := Q.length) (X := J 21 (ad 23)) hR ht (by rw [ex_wi_ne _ _ _ (Ne.symm n22)]; exact jt) ql (fun l2 => ?_) _ _ _ rfl (Nat.le_refl _) (by omega) (by
    rw [shf_0]
    conv => lhs; rw [← ex_wi_id (ex_wi J 21 (ad 22) (shf (J 21 (ad 22)) (32 * t) (32 * t + 8 * Q.length) 8)) 21 (ad 23)]
    rw [ex_wi_ne _ _ _ n2322])
  refine s_Mdl_shift_96 ?_
  generalize hZ : ex_wi (ex_wi J 21 (ad 22) (shf (J 21 (ad 22)) (32 * t) (32 * t + 8 * Q.length) 8)) 21 (ad 23) (shf (J 21 (ad 23)) (16 * t) (16 * t + 4 * Q.length) 4) = Z
  have z1 : Z 21 (ad 21) = upd1 (I 21 (ad 21)) t (nI Q.length) := by rw [← hZ, ex_wi_ne _ _ _ (Ne.symm n23), ex_wi_ne _ _ _ (Ne.symm n22), j1]
  have z2 : Z 21 (ad 22) = shf (I 21 (ad 22)) (32 * t) (32 * t + 8 * Q.length) 8 := by rw [← hZ, ex_wi_ne _ _ _ (Ne.symm n2322), ex_wi_at, j2 _ n22]
  have z3 : Z 21 (ad 23) = shf (I 21 (ad 23)) (16 * t) (16 * t + 4 * Q.length) 4 := by rw [← hZ, ex_wi_at, j2 _ n23]
  refine ⟨rfl, rfl, rfl, ?_, ⟨?_, by omega, fun e row he => ?_⟩, fun t2 Q2 hne h3 hq2 => ?_⟩
  · rw [← hZ]
    exact fr_trans jf (fr_trans (fr_wa hR.2.1 (Or.inl rfl) (by decide)) (fr_wa hR.2.1 (Or.inl rfl) (by decide)))
  · rw [z1, upd1, if_pos rfl]
  · have hlt := (List.getElem?_eq_some_iff.mp he).1
    have hr := q3 (e + 1) row (by simpa using he)
    refine ⟨fun j hj => ?_, fun q hq => ?_⟩
    · rw [z2]
      unfold shf
      rw [if_pos (by omega), show 32 * t + 8 * e + j + 8 = 32 * t + 8 * (e + 1) + j by omega]
      exact hr.1 j hj
    · rw [z3]
      unfold shf
      rw [if_pos (by omega), show 16 * t + 4 * e + q + 4 = 16 * t + 4 * (e + 1) + q by omega]
      exact hr.2 q hq
  · obtain ⟨p1, p2, p3⟩ := hq2
    refine ⟨by rw [z1, upd1, if_neg hne]; exact p1, p2, fun e row he => ?_⟩
    have hlt := (List.getElem?_eq_some_iff.mp he).1
    refine ⟨fun j hj => ?_, fun q hq => ?_⟩
    · rw [z2]
      unfold shf
      rw [if_neg (by omega)]
      exact (p3 e row he).1 j hj
    · rw [z3]
      unfold shf
      rw [if_neg (by omega)]
      exact (p3 e row he).2 q hq
