def tx_el (f : Nat → Int32) (s t : Nat) (N : Nat → Int32) : Nat → Int32 := if tx_w f (tx_n f t (t - s) s) t = -1 ∨ tx_d f s (tx_n f t (t - s) s) 7 0 = 7 then N else tx_learn N (tx_d f s (tx_n f t (t - s) s) 7 0) (tx_w f (tx_n f t (t - s) s) t)
theorem tx_e_el (f : Nat → Int32) (a c : Nat) (N : Nat → Int32) : tx_e f a c N = tx_el f (tx_l f c (c - a) a) (tx_r f (tx_l f c (c - a) a) c) N := rfl
def rd_ok (X : Nat → Int32) (sh : Int32) (N : Nat → Int32) : Prop := X 0 = tx_b (N 0) 1 + tx_b (N 1) 2 + tx_b (N 2) 4 + tx_b (N 3) 8 ∧ X 2 = N 4 ∧ X 3 = N 6 ∧ sh = N 5 ∧ ∀ j, j < 7 → N j = -1 ∨ ¬ N j < 0
theorem tx_b_cases (x w : Int32) : tx_b x w = 0 ∨ tx_b x w = w := by
  unfold tx_b
  split
  · exact Or.inl rfl
  · exact Or.inr rfl
theorem tx_learn_at (N : Nat → Int32) (d : Nat) (v : Int32) : tx_learn N d v d = if N d = -1 then v else N d := by
  unfold tx_learn
  by_cases h : N d = -1
  · rw [if_pos ⟨rfl, h⟩, if_pos h]
  · rw [if_neg (fun z => h z.2), if_neg h]
theorem tx_learn_ne (N : Nat → Int32) {d j : Nat} (v : Int32) (h : j ≠ d) : tx_learn N d v j = N j := by
  unfold tx_learn
  rw [if_neg (fun z => h z.1)]
theorem tx_learn_nn {N : Nat → Int32} {v : Int32} (h : ∀ j, j < 7 → N j = -1 ∨ ¬ N j < 0) (hv : ¬ v < 0) (d : Nat) : ∀ j, j < 7 → tx_learn N d v j = -1 ∨ ¬ tx_learn N d v j < 0 := by
  intro j hj
  unfold tx_learn
  split
  · exact Or.inr hv
  · exact h j hj
theorem m1_neg : ((-1 : Int32) < 0) := by decide
theorem nn_m1 {v : Int32} (h : ¬ v < 0) : ¬ v = -1 := fun e => h (by rw [e]; decide)
theorem tx_b_learn {N : Nat → Int32} {v w : Int32} (hv : ¬ v < 0) (d : Nat) : tx_b (tx_learn N d v d) w = w := by
  rw [tx_learn_at]
  unfold tx_b
  by_cases h : N d = -1
  · rw [if_pos h, if_neg (nn_m1 hv)]
  · rw [if_neg h, if_neg h]
theorem rd_bit0 {X N : Nat → Int32} {sh v : Int32} (h : rd_ok X sh N) (hv : ¬ v < 0) : rd_ok (fun q => if q = 0 then X 0 ||| 1 else X q) sh (tx_learn N 0 v) := by
  obtain ⟨h0, h2, h3, h5, h6⟩ := h
  refine ⟨?_, ?_, ?_, ?_, tx_learn_nn h6 hv 0⟩
  · show X 0 ||| 1 = _
    rw [h0, tx_b_learn hv, tx_learn_ne N v (show 1 ≠ 0 by decide), tx_learn_ne N v (show 2 ≠ 0 by decide), tx_learn_ne N v (show 3 ≠ 0 by decide)]
    rcases tx_b_cases (N 0) 1 with a | a <;> rcases tx_b_cases (N 1) 2 with b | b <;> rcases tx_b_cases (N 2) 4 with c | c <;> rcases tx_b_cases (N 3) 8 with e | e <;> (first | rw [a] | skip) <;> (first | rw [b] | skip) <;> (first | rw [c] | skip) <;> (first | rw [e] | skip) <;> decide
  · show X 2 = _
    rw [tx_learn_ne N v (by decide)]; exact h2
  · show X 3 = _
    rw [tx_learn_ne N v (by decide)]; exact h3
  · rw [tx_learn_ne N v (by decide)]; exact h5
theorem rd_bit1 {X N : Nat → Int32} {sh v : Int32} (h : rd_ok X sh N) (hv : ¬ v < 0) : rd_ok (fun q => if q = 0 then X 0 ||| 2 else X q) sh (tx_learn N 1 v) := by
  obtain ⟨h0, h2, h3, h5, h6⟩ := h
  refine ⟨?_, ?_, ?_, ?_, tx_learn_nn h6 hv 1⟩
  · show X 0 ||| 2 = _
    rw [h0, tx_b_learn hv, tx_learn_ne N v (show 0 ≠ 1 by decide), tx_learn_ne N v (show 2 ≠ 1 by decide), tx_learn_ne N v (show 3 ≠ 1 by decide)]
    rcases tx_b_cases (N 0) 1 with a | a <;> rcases tx_b_cases (N 1) 2 with b | b <;> rcases tx_b_cases (N 2) 4 with c | c <;> rcases tx_b_cases (N 3) 8 with e | e <;> (first | rw [a] | skip) <;> (first | rw [b] | skip) <;> (first | rw [c] | skip) <;> (first | rw [e] | skip) <;> decide
  · show X 2 = _
    rw [tx_learn_ne N v (by decide)]; exact h2
  · show X 3 = _
    rw [tx_learn_ne N v (by decide)]; exact h3
  · rw [tx_learn_ne N v (by decide)]; exact h5
theorem rd_bit2 {X N : Nat → Int32} {sh v : Int32} (h : rd_ok X sh N) (hv : ¬ v < 0) : rd_ok (fun q => if q = 0 then X 0 ||| 4 else X q) sh (tx_learn N 2 v) := by
  obtain ⟨h0, h2, h3, h5, h6⟩ := h
  refine ⟨?_, ?_, ?_, ?_, tx_learn_nn h6 hv 2⟩
  · show X 0 ||| 4 = _
    rw [h0, tx_b_learn hv, tx_learn_ne N v (show 0 ≠ 2 by decide), tx_learn_ne N v (show 1 ≠ 2 by decide), tx_learn_ne N v (show 3 ≠ 2 by decide)]
    rcases tx_b_cases (N 0) 1 with a | a <;> rcases tx_b_cases (N 1) 2 with b | b <;> rcases tx_b_cases (N 2) 4 with c | c <;> rcases tx_b_cases (N 3) 8 with e | e <;> (first | rw [a] | skip) <;> (first | rw [b] | skip) <;> (first | rw [c] | skip) <;> (first | rw [e] | skip) <;> decide
  · show X 2 = _
    rw [tx_learn_ne N v (by decide)]; exact h2
  · show X 3 = _
    rw [tx_learn_ne N v (by decide)]; exact h3
  · rw [tx_learn_ne N v (by decide)]; exact h5
theorem rd_bit3 {X N : Nat → Int32} {sh v : Int32} (h : rd_ok X sh N) (hv : ¬ v < 0) : rd_ok (fun q => if q = 0 then X 0 ||| 8 else X q) sh (tx_learn N 3 v) := by
  obtain ⟨h0, h2, h3, h5, h6⟩ := h
  refine ⟨?_, ?_, ?_, ?_, tx_learn_nn h6 hv 3⟩
  · show X 0 ||| 8 = _
    rw [h0, tx_b_learn hv, tx_learn_ne N v (show 0 ≠ 3 by decide), tx_learn_ne N v (show 1 ≠ 3 by decide), tx_learn_ne N v (show 2 ≠ 3 by decide)]
    rcases tx_b_cases (N 0) 1 with a | a <;> rcases tx_b_cases (N 1) 2 with b | b <;> rcases tx_b_cases (N 2) 4 with c | c <;> rcases tx_b_cases (N 3) 8 with e | e <;> (first | rw [a] | skip) <;> (first | rw [b] | skip) <;> (first | rw [c] | skip) <;> (first | rw [e] | skip) <;> decide
  · show X 2 = _
    rw [tx_learn_ne N v (by decide)]; exact h2
  · show X 3 = _
    rw [tx_learn_ne N v (by decide)]; exact h3
  · rw [tx_learn_ne N v (by decide)]; exact h5
theorem tx_learn_id {N : Nat → Int32} {d : Nat} {v : Int32} (h : ¬ N d = -1) : tx_learn N d v = N := by
  funext j
  unfold tx_learn
  rw [if_neg (fun z => h z.2)]
theorem dg {c : Int32} (h1 : ¬ c < 48) (h2 : ¬ 57 < c) : ∃ g, g ≤ 9 ∧ c - 48 = nI g := by
  obtain ⟨j, hj, rfl⟩ := nI_of (x := c) (fun z => h1 (Int32.lt_trans z (by decide)))
  have a1 : ¬ j < 48 := fun z => h1 (nI_lt (b := 48) z (by omega))
  have a2 : ¬ 57 < j := fun z => h2 (nI_lt (a := 57) z (by omega))
  exact ⟨j - 48, by omega, pk_sub (b := 48) (by omega)⟩
theorem tx_v_ok (f : Nat → Int32) (b' : Nat) : ∀ n j u c, u < 10 ^ c → c + n ≤ 5 → tx_v f b' n j (nI u) = -1 ∨ ∃ w, tx_v f b' n j (nI u) = nI w ∧ w < 100000 := by
  intro n
  induction n with
  | zero =>
    intro j u c hu hc
    refine Or.inr ⟨u, rfl, ?_⟩
    have : 10 ^ c ≤ 10 ^ 5 := Nat.pow_le_pow_right (by omega) (by omega)
    omega
  | succ n ih =>
    intro j u c hu hc
    rw [tx_v]
    split
    · split
      · exact Or.inl rfl
      · rename_i h
        rw [not_or] at h
        obtain ⟨g, hg, e⟩ := dg h.1 h.2
        rw [e, show (10 : Int32) = nI 10 from rfl, pk_mul, nI_add]
        exact ih (j + 1) (10 * u + g) (c + 1) (by rw [Nat.pow_succ]; omega) (by omega)
    · refine Or.inr ⟨u, rfl, ?_⟩
      have : 10 ^ c ≤ 10 ^ 5 := Nat.pow_le_pow_right (by omega) (by omega)
      omega
theorem tx_w_nn (f : Nat → Int32) (e t : Nat) (h : ¬ tx_w f e t = -1) : ¬ tx_w f e t < 0 := by
  unfold tx_w at h ⊢
  split
  · decide
  · rename_i h1
    rw [if_neg h1] at h
    split
    · rename_i h2
      rw [if_pos h2] at h
      rcases tx_v_ok f t (t - (e + 1)) (e + 1) 0 0 (by omega) (by omega) with w | ⟨w, e1, e2⟩
      · exact absurd w h
      · rw [show (0 : Int32) = nI 0 from rfl, e1]
        exact nI_pos (by omega)
    · rename_i h2
      rw [if_neg h2] at h
      exact absurd rfl h
theorem getD_ext {A B : List Int32} (h : A.length = B.length) (hk : ∀ k, k < A.length → A.getD k 0 = B.getD k 0) : A = B := by
  refine List.ext_getElem? (fun k => ?_)
  by_cases z : k < A.length
  · have q := hk k z
    rw [List.getD_eq_getElem?_getD, List.getD_eq_getElem?_getD, List.getElem?_eq_getElem z, List.getElem?_eq_getElem (by omega)] at q
    rw [List.getElem?_eq_getElem z, List.getElem?_eq_getElem (by omega)]
    simpa using q
  · rw [List.getElem?_eq_none (by omega), List.getElem?_eq_none (by omega)]
theorem tx_is_uniq {f : Nat → Int32} {a e d d' : Nat} (h1 : d < 7) (h2 : d' < 7) (g1 : tx_is f a e d = true) (g2 : tx_is f a e d' = true) : d = d' := by
  rw [tx_is_iff] at g1 g2
  have tab : ∀ i, i < 7 → ∀ j, j < 7 → tx_names.getD i [] = tx_names.getD j [] → i = j := by decide +kernel
  exact tab d h1 d' h2 (getD_ext (by omega) (fun k hk => (g1.2 k hk).symm.trans (g2.2 k (by omega))))
theorem tx_d_is (f : Nat → Int32) (a e : Nat) : ∀ m j, j + m = 7 → (tx_d f a e m j < 7 → tx_is f a e (tx_d f a e m j) = true) ∧ ∀ q, j ≤ q → q < tx_d f a e m j → ¬ tx_is f a e q = true := by
  intro m
  induction m with
  | zero =>
    intro j hj
    refine ⟨fun h => ?_, fun q h1 h2 => ?_⟩
    · rw [tx_d] at h; omega
    · rw [tx_d] at h2; omega
  | succ m ih =>
    intro j hj
    rw [tx_d]
    split
    · rename_i h
      exact ⟨fun _ => h, fun q h1 h2 => by omega⟩
    · rename_i h
      obtain ⟨i1, i2⟩ := ih (j + 1) (by omega)
      exact ⟨i1, fun q h1 h2 => by
        by_cases z : q = j
        · rw [z]; exact h
        · exact i2 q (by omega) h2⟩
theorem tx_is_d {f : Nat → Int32} {a e q : Nat} (hq : q < 7) : tx_is f a e q = true ↔ q = tx_d f a e 7 0 := by
  obtain ⟨h1, h2⟩ := tx_d_is f a e 7 0 rfl
  have h3 := tx_d_le f a e 7 0
  constructor
  · intro g
    by_cases z : q < tx_d f a e 7 0
    · exact absurd g (h2 q (by omega) z)
    · have z2 : tx_d f a e 7 0 < 7 := by omega
      exact tx_is_uniq hq z2 g (h1 z2)
  · intro g
    rw [g]
    exact h1 (by omega)
theorem rt_ui {I : ex_I} {ad : Nat → Nat} {a i : Nat} {x : Int32} (h : rt_ok I ad) : rt_ok (ex_ui I 21 a i x) ad := by
  unfold rt_ok
  rw [ex_ui_f _ _ _ _ (by decide)]
  exact h
theorem rt_wi {I : ex_I} {ad : Nat → Nat} {a : Nat} {X : Nat → Int32} (h : rt_ok I ad) : rt_ok (ex_wi I 21 a X) ad := by
  unfold rt_ok
  rw [ex_wi_f _ _ _ (by decide)]
  exact h
theorem lp_elN {Γ : ex_G} {d : Nat} {K : ex_K} {I : ex_I} {F : ex_F} {b : Nat} {Q : Option ex_V → ex_K → ex_I → ex_F → Prop} {l1 l3 l5 l6 : Option ex_V} {m t : Nat} {ad : Nat → Nat} (hR : rf_ok K F m ad) (h40 : t ≤ 40) : ∀ n s, t - s = n → s ≤ t →
    ex_E Γ d M_Mdl_element 51 [some (.inr (some m)), l1, some (.inl (nI t)), l3, some (.inl (nI (tx_n (I 22 (ad 3)) t n s))), l5, l6] [] K I F b Q →
    ex_E Γ d M_Mdl_element 3 [some (.inr (some m)), l1, some (.inl (nI t)), l3, some (.inl (nI s)), l5, l6] [] K I F b Q := by
  have m1 := hR.1
  intro n
  induction n with
  | zero =>
    intro s hm h1 kk
    refine s_Mdl_element_3 ?_
    refine s_Mdl_element_5 ?_
    refine s_Mdl_element_6 (fun h6 => ?_) (fun h6 => absurd h6 (by exact fun q => q (nI_le (by omega) (by omega))))
    exact kk
  | succ n ih =>
    intro s hm h1 kk
    have hst : s < t := by omega
    have yes : tx_c (I 22 (ad 3) s) = true → ex_E Γ d M_Mdl_element 45 [some (.inr (some m)), l1, some (.inl (nI t)), l3, some (.inl (nI s)), l5, l6] [] K I F b Q := by
      intro z
      rw [tx_n, if_pos ⟨hst, z⟩] at kk
      refine s_Mdl_element_45 ?_
      refine s_Mdl_element_48 ?_
      rw [nI_1]
      exact ih (s + 1) (by omega) (by omega) kk
    have no : ¬ tx_c (I 22 (ad 3) s) = true → ex_E Γ d M_Mdl_element 51 [some (.inr (some m)), l1, some (.inl (nI t)), l3, some (.inl (nI s)), l5, l6] [] K I F b Q := by
      intro z
      rw [tx_n, if_neg (fun q => z q.2)] at kk
      exact kk
    refine s_Mdl_element_3 ?_
    refine s_Mdl_element_5 ?_
    refine s_Mdl_element_6 (fun h6 => absurd h6 (by exact nI_ge (by omega) (by omega))) (fun h6 => ?_)
    refine s_Mdl_element_9 ?_
    refine s_Mdl_element_10 (by first | rfl | assumption | (simp [*]; done)) (by first | rfl | assumption | (simp [*]; done)) ?_
    refine s_Mdl_element_13 ?_
    refine s_Mdl_element_15 (by first | exact rf_draft hR | rfl) (by exact rk_draft hR) (by rw [rn_draft hR]; exact n_in (a := s) (by first | rfl | (simp only [nl_1, nl_2, nl_3, nl_4, nl_5, nl_6, nl_7, nl_8, nl_9, nl_10, nl_11, nl_12, nl_13, nl_14, nl_15, nl_16, nl_32, nl_240, nl_250, nl_255, nl_265, nl_270, nl_0, nI_add, pk_mul]; done)) (by omega) (by omega)) ?_
    refine ex_ixl (q := s) (by first | rfl | (simp only [nl_1, nl_2, nl_3, nl_4, nl_5, nl_6, nl_7, nl_8, nl_9, nl_10, nl_11, nl_12, nl_13, nl_14, nl_15, nl_16, nl_32, nl_240, nl_250, nl_255, nl_265, nl_270, nl_0, nI_add, pk_mul]; done)) (by omega) ?_
    refine s_Mdl_element_16 ?_
    refine s_Mdl_element_18 (fun h18 => ?_) (fun h18 => ?_)
    · refine s_Mdl_element_33 ?_
      refine s_Mdl_element_34 (by first | rfl | assumption | (simp [*]; done)) (by first | rfl | assumption | (simp [*]; done)) ?_
      refine s_Mdl_element_37 ?_
      refine s_Mdl_element_39 (by first | exact rf_draft hR | rfl) (by exact rk_draft hR) (by rw [rn_draft hR]; exact n_in (a := s) (by first | rfl | (simp only [nl_1, nl_2, nl_3, nl_4, nl_5, nl_6, nl_7, nl_8, nl_9, nl_10, nl_11, nl_12, nl_13, nl_14, nl_15, nl_16, nl_32, nl_240, nl_250, nl_255, nl_265, nl_270, nl_0, nI_add, pk_mul]; done)) (by omega) (by omega)) ?_
      refine ex_ixl (q := s) (by first | rfl | (simp only [nl_1, nl_2, nl_3, nl_4, nl_5, nl_6, nl_7, nl_8, nl_9, nl_10, nl_11, nl_12, nl_13, nl_14, nl_15, nl_16, nl_32, nl_240, nl_250, nl_255, nl_265, nl_270, nl_0, nI_add, pk_mul]; done)) (by omega) ?_
      refine s_Mdl_element_40 ?_
      refine s_Mdl_element_42 (fun h42 => ?_) (fun h42 => ?_)
      · exact no (by rw [tx_c_iff]; exact fun z => z.elim (fun w => w.1 h18) h42)
      · exact yes ((tx_c_iff _).mpr (Or.inr h42))
    · refine s_Mdl_element_21 ?_
      refine s_Mdl_element_22 (by first | rfl | assumption | (simp [*]; done)) (by first | rfl | assumption | (simp [*]; done)) ?_
      refine s_Mdl_element_25 ?_
      refine s_Mdl_element_27 (by first | exact rf_draft hR | rfl) (by exact rk_draft hR) (by rw [rn_draft hR]; exact n_in (a := s) (by first | rfl | (simp only [nl_1, nl_2, nl_3, nl_4, nl_5, nl_6, nl_7, nl_8, nl_9, nl_10, nl_11, nl_12, nl_13, nl_14, nl_15, nl_16, nl_32, nl_240, nl_250, nl_255, nl_265, nl_270, nl_0, nI_add, pk_mul]; done)) (by omega) (by omega)) ?_
      refine ex_ixl (q := s) (by first | rfl | (simp only [nl_1, nl_2, nl_3, nl_4, nl_5, nl_6, nl_7, nl_8, nl_9, nl_10, nl_11, nl_12, nl_13, nl_14, nl_15, nl_16, nl_32, nl_240, nl_250, nl_255, nl_265, nl_270, nl_0, nI_add, pk_mul]; done)) (by omega) ?_
      refine s_Mdl_element_28 ?_
      refine s_Mdl_element_30 (fun h30 => ?_) (fun h30 => ?_)
      · exact yes ((tx_c_iff _).mpr (Or.inl ⟨h18, h30⟩))
      · refine s_Mdl_element_33 ?_
        refine s_Mdl_element_34 (by first | rfl | assumption | (simp [*]; done)) (by first | rfl | assumption | (simp [*]; done)) ?_
        refine s_Mdl_element_37 ?_
        refine s_Mdl_element_39 (by first | exact rf_draft hR | rfl) (by exact rk_draft hR) (by rw [rn_draft hR]; exact n_in (a := s) (by first | rfl | (simp only [nl_1, nl_2, nl_3, nl_4, nl_5, nl_6, nl_7, nl_8, nl_9, nl_10, nl_11, nl_12, nl_13, nl_14, nl_15, nl_16, nl_32, nl_240, nl_250, nl_255, nl_265, nl_270, nl_0, nI_add, pk_mul]; done)) (by omega) (by omega)) ?_
        refine ex_ixl (q := s) (by first | rfl | (simp only [nl_1, nl_2, nl_3, nl_4, nl_5, nl_6, nl_7, nl_8, nl_9, nl_10, nl_11, nl_12, nl_13, nl_14, nl_15, nl_16, nl_32, nl_240, nl_250, nl_255, nl_265, nl_270, nl_0, nI_add, pk_mul]; done)) (by omega) ?_
        refine s_Mdl_element_40 ?_
        refine s_Mdl_element_42 (fun h42 => ?_) (fun h42 => ?_)
        · exact no (by rw [tx_c_iff]; exact fun z => z.elim (fun w => h30 w.2) h42)
        · exact yes ((tx_c_iff _).mpr (Or.inr h42))
theorem lp_elV {Γ : ex_G} {d : Nat} {K : ex_K} {I : ex_I} {F : ex_F} {b : Nat} {Q : Option ex_V → ex_K → ex_I → ex_F → Prop} {l1 l4 : Option ex_V} {m t : Nat} {sh : Int32} {ad : Nat → Nat} (hR : rf_ok K F m ad) (h40 : t ≤ 40) : ∀ n j u c, t - j = n → j ≤ t → u < 10 ^ c → c + n ≤ 5 →
    (tx_v (I 22 (ad 3)) t n j (nI u) = -1 → Q (some (.inl sh)) K I F) →
    (¬ tx_v (I 22 (ad 3)) t n j (nI u) = -1 → ∀ l6, ex_E Γ d M_Mdl_element 161 [some (.inr (some m)), l1, some (.inl (nI t)), some (.inl sh), l4, some (.inl (tx_v (I 22 (ad 3)) t n j (nI u))), l6] [] K I F b Q) →
    ex_E Γ d M_Mdl_element 105 [some (.inr (some m)), l1, some (.inl (nI t)), some (.inl sh), l4, some (.inl (nI u)), some (.inl (nI j))] [] K I F b Q := by
  have m1 := hR.1
  intro n
  induction n with
  | zero =>
    intro j u c hm h1 hu hc kf kk
    have e5 : 10 ^ c ≤ 10 ^ 5 := Nat.pow_le_pow_right (by omega) (by omega)
    refine s_Mdl_element_105 ?_
    refine s_Mdl_element_107 ?_
    refine s_Mdl_element_108 (fun h108 => ?_) (fun h108 => absurd h108 (by exact fun q => q (nI_le (by omega) (by omega))))
    exact kk (nn_m1 (nI_pos (by omega))) _
  | succ n ih =>
    intro j u c hm h1 hu hc kf kk
    have hjt : j < t := by omega
    refine s_Mdl_element_105 ?_
    refine s_Mdl_element_107 ?_
    refine s_Mdl_element_108 (fun h108 => absurd h108 (by exact nI_ge (by omega) (by omega))) (fun h108 => ?_)
    refine s_Mdl_element_111 ?_
    refine s_Mdl_element_112 (by first | rfl | assumption | (simp [*]; done)) (by first | rfl | assumption | (simp [*]; done)) ?_
    refine s_Mdl_element_115 ?_
    refine s_Mdl_element_117 (by first | exact rf_draft hR | rfl) (by exact rk_draft hR) (by rw [rn_draft hR]; exact n_in (a := j) (by first | rfl | (simp only [nl_1, nl_2, nl_3, nl_4, nl_5, nl_6, nl_7, nl_8, nl_9, nl_10, nl_11, nl_12, nl_13, nl_14, nl_15, nl_16, nl_32, nl_240, nl_250, nl_255, nl_265, nl_270, nl_0, nI_add, pk_mul]; done)) (by omega) (by omega)) ?_
    refine ex_ixl (q := j) (by first | rfl | (simp only [nl_1, nl_2, nl_3, nl_4, nl_5, nl_6, nl_7, nl_8, nl_9, nl_10, nl_11, nl_12, nl_13, nl_14, nl_15, nl_16, nl_32, nl_240, nl_250, nl_255, nl_265, nl_270, nl_0, nI_add, pk_mul]; done)) (by omega) ?_
    refine s_Mdl_element_118 ?_
    refine s_Mdl_element_120 (fun h120 => ?_) (fun h120 => ?_)
    · refine s_Mdl_element_135 ?_
      refine s_Mdl_element_136 ?_
      exact kf (by rw [tx_v, if_pos hjt, if_pos (Or.inl h120)])
    · refine s_Mdl_element_123 ?_
      refine s_Mdl_element_124 (by first | rfl | assumption | (simp [*]; done)) (by first | rfl | assumption | (simp [*]; done)) ?_
      refine s_Mdl_element_127 ?_
      refine s_Mdl_element_129 (by first | exact rf_draft hR | rfl) (by exact rk_draft hR) (by rw [rn_draft hR]; exact n_in (a := j) (by first | rfl | (simp only [nl_1, nl_2, nl_3, nl_4, nl_5, nl_6, nl_7, nl_8, nl_9, nl_10, nl_11, nl_12, nl_13, nl_14, nl_15, nl_16, nl_32, nl_240, nl_250, nl_255, nl_265, nl_270, nl_0, nI_add, pk_mul]; done)) (by omega) (by omega)) ?_
      refine ex_ixl (q := j) (by first | rfl | (simp only [nl_1, nl_2, nl_3, nl_4, nl_5, nl_6, nl_7, nl_8, nl_9, nl_10, nl_11, nl_12, nl_13, nl_14, nl_15, nl_16, nl_32, nl_240, nl_250, nl_255, nl_265, nl_270, nl_0, nI_add, pk_mul]; done)) (by omega) ?_
      refine s_Mdl_element_130 ?_
      refine s_Mdl_element_132 (fun h132 => ?_) (fun h132 => ?_)
      · refine s_Mdl_element_137 ?_
        refine s_Mdl_element_139 ?_
        refine s_Mdl_element_141 ?_
        refine s_Mdl_element_142 ?_
        refine s_Mdl_element_143 (by first | rfl | assumption | (simp [*]; done)) (by first | rfl | assumption | (simp [*]; done)) ?_
        refine s_Mdl_element_146 ?_
        refine s_Mdl_element_148 (by first | exact rf_draft hR | rfl) (by exact rk_draft hR) (by rw [rn_draft hR]; exact n_in (a := j) (by first | rfl | (simp only [nl_1, nl_2, nl_3, nl_4, nl_5, nl_6, nl_7, nl_8, nl_9, nl_10, nl_11, nl_12, nl_13, nl_14, nl_15, nl_16, nl_32, nl_240, nl_250, nl_255, nl_265, nl_270, nl_0, nI_add, pk_mul]; done)) (by omega) (by omega)) ?_
        refine ex_ixl (q := j) (by first | rfl | (simp only [nl_1, nl_2, nl_3, nl_4, nl_5, nl_6, nl_7, nl_8, nl_9, nl_10, nl_11, nl_12, nl_13, nl_14, nl_15, nl_16, nl_32, nl_240, nl_250, nl_255, nl_265, nl_270, nl_0, nI_add, pk_mul]; done)) (by omega) ?_
        refine s_Mdl_element_149 ?_
        refine s_Mdl_element_150 ?_
        refine s_Mdl_element_152 ?_
        refine s_Mdl_element_153 ?_
        refine s_Mdl_element_155 ?_
        refine s_Mdl_element_158 ?_
        have hng : ¬ (I 22 (ad 3) j < 48 ∨ 57 < I 22 (ad 3) j) := by rw [not_or]; exact ⟨h120, Int32.not_lt.mpr h132⟩
        rw [tx_v, if_pos hjt, if_neg hng] at kf kk
        rw [not_or] at hng
        obtain ⟨g, hg, e⟩ := dg hng.1 hng.2
        rw [e, show (10 : Int32) = nI 10 from rfl, pk_mul, nI_add] at kf kk
        rw [show 10 * nI u + I 22 (ad 3) j - 48 = nI (10 * u + g) by
          rw [Int32.sub_eq_add_neg, Int32.add_assoc, ← Int32.sub_eq_add_neg, e, show (10 : Int32) = nI 10 from rfl, pk_mul, nI_add], nI_1]
        exact ih (j + 1) (10 * u + g) (c + 1) (by omega) (by omega) (by rw [Nat.pow_succ]; omega) (by omega) kf kk
      · refine s_Mdl_element_135 ?_
        refine s_Mdl_element_136 ?_
        exact kf (by rw [tx_v, if_pos hjt, if_pos (Or.inr (Int32.not_le.mp h132))])
theorem sp_elTail {Γ : ex_G} {d : Nat} {K : ex_K} {I : ex_I} {F : ex_F} {b : Nat} {m s t e dd : Nat} {sh v : Int32} {l6 : Option ex_V} {N : Nat → Int32} {ad : Nat → Nat} (hR : rf_ok K F m ad) (hT : rt_ok I ad) (hX : rd_ok (I 21 (ad 5)) sh N) (hse : s ≤ e) (h40e : e ≤ 40) (hv : ¬ v < 0) (hdd : tx_d (I 22 (ad 3)) s e 7 0 = dd) (hd7 : dd ≤ 7) :
    ex_E Γ (d + 1) M_Mdl_element 161 [some (.inr (some m)), some (.inl (nI s)), some (.inl (nI t)), some (.inl sh), some (.inl (nI e)), some (.inl v), l6] [] K I F b (fun r K' I' F' => K = K' ∧ F = F' ∧ ∃ X sh', r = some (.inl sh') ∧ ex_wi I 21 (ad 5) X = I' ∧ rd_ok X sh' (if dd = 7 then N else tx_learn N dd v)) := by
  have m1 := hR.1
  have x2 := hX.2.1
  have x3 := hX.2.2.1
  have x5 := hX.2.2.2.1
  have xn := hX.2.2.2.2
  rcases (by omega : dd = 0 ∨ dd = 1 ∨ dd = 2 ∨ dd = 3 ∨ dd = 4 ∨ dd = 5 ∨ dd = 6 ∨ dd = 7) with rfl | rfl | rfl | rfl | rfl | rfl | rfl | rfl
  · skip
    refine s_Mdl_element_161 ?_
    refine s_Mdl_element_162 ?_
    refine s_Mdl_element_163 ?_
    refine s_Mdl_element_164 ?_
    refine s_Mdl_element_166 ?_
    refine s_Mdl_element_167 ?_
    refine s_Mdl_element_169 (b1 := 0) (b2 := b) (by first | rfl | assumption | (simp [*]; done)) (by first | rfl | assumption | (simp [*]; done)) (sp_is (i := 0) hR (hT) (by decide) hse h40e rfl rfl rfl) ?_ (by omega)
    rintro _ _ _ _ ⟨rfl, rfl, rfl, rfl⟩
    dsimp only [Option.toList, List.cons_append, List.nil_append]
    skip
    refine s_Mdl_element_172 (fun h172 => absurd h172 (by rw [if_pos ((tx_is_d (by decide)).mpr hdd.symm)]; decide)) (fun h172 => ?_)
    refine s_Mdl_element_175 ?_
    refine s_Mdl_element_176 (by first | rfl | assumption | (simp [*]; done)) (by first | rfl | assumption | (simp [*]; done)) ?_
    refine s_Mdl_element_179 ?_
    refine s_Mdl_element_180 ?_
    refine s_Mdl_element_181 (by first | rfl | assumption | (simp [*]; done)) (by first | rfl | assumption | (simp [*]; done)) ?_
    refine s_Mdl_element_184 ?_
    refine s_Mdl_element_185 (by first | exact rf_read hR | rfl) (by exact rk_read hR) (by rw [rn_read hR]; exact n_in (a := 0) (by first | rfl | (simp only [nl_1, nl_2, nl_3, nl_4, nl_5, nl_6, nl_7, nl_8, nl_9, nl_10, nl_11, nl_12, nl_13, nl_14, nl_15, nl_16, nl_32, nl_240, nl_250, nl_255, nl_265, nl_270, nl_0, nI_add, pk_mul]; done)) (by omega) (by omega)) ?_
    refine ex_ixl (q := 0) (by first | rfl | (simp only [nl_1, nl_2, nl_3, nl_4, nl_5, nl_6, nl_7, nl_8, nl_9, nl_10, nl_11, nl_12, nl_13, nl_14, nl_15, nl_16, nl_32, nl_240, nl_250, nl_255, nl_265, nl_270, nl_0, nI_add, pk_mul]; done)) (by omega) ?_
    refine s_Mdl_element_186 ?_
    refine s_Mdl_element_187 ?_
    refine s_Mdl_element_188 (by first | exact rf_read hR | rfl) (by exact rk_read hR) (by rw [rn_read hR]; exact n_in (a := 0) (by first | rfl | (simp only [nl_1, nl_2, nl_3, nl_4, nl_5, nl_6, nl_7, nl_8, nl_9, nl_10, nl_11, nl_12, nl_13, nl_14, nl_15, nl_16, nl_32, nl_240, nl_250, nl_255, nl_265, nl_270, nl_0, nI_add, pk_mul]; done)) (by omega) (by omega)) ?_
    refine ex_ixs (q := 0) (by first | rfl | (simp only [nl_1, nl_2, nl_3, nl_4, nl_5, nl_6, nl_7, nl_8, nl_9, nl_10, nl_11, nl_12, nl_13, nl_14, nl_15, nl_16, nl_32, nl_240, nl_250, nl_255, nl_265, nl_270, nl_0, nI_add, pk_mul]; done)) (by omega) ?_
    refine s_Mdl_element_189 ?_
    refine s_Mdl_element_190 ?_
    refine s_Mdl_element_191 ?_
    refine s_Mdl_element_193 ?_
    refine s_Mdl_element_195 ?_
    refine s_Mdl_element_196 ?_
    refine s_Mdl_element_198 (b1 := 0) (b2 := b) (by first | rfl | assumption | (simp [*]; done)) (by first | rfl | assumption | (simp [*]; done)) (sp_is (i := 1) hR (rt_ui hT) (by decide) hse h40e rfl rfl rfl) ?_ (by omega)
    rintro _ _ _ _ ⟨rfl, rfl, rfl, rfl⟩
    dsimp only [Option.toList, List.cons_append, List.nil_append]
    rw [ex_ui_f _ _ _ _ (by decide)]
    refine s_Mdl_element_201 (fun h201 => ?_) (fun h201 => absurd h201 (by rw [if_neg (fun z => absurd ((tx_is_d (by decide)).mp z) (by rw [hdd]; decide))]; exact fun q => q rfl))
    refine s_Mdl_element_218 ?_
    refine s_Mdl_element_219 ?_
    refine s_Mdl_element_220 ?_
    refine s_Mdl_element_222 ?_
    refine s_Mdl_element_224 ?_
    refine s_Mdl_element_225 ?_
    refine s_Mdl_element_227 (b1 := 0) (b2 := b) (by first | rfl | assumption | (simp [*]; done)) (by first | rfl | assumption | (simp [*]; done)) (sp_is (i := 2) hR (rt_ui hT) (by decide) hse h40e rfl rfl rfl) ?_ (by omega)
    rintro _ _ _ _ ⟨rfl, rfl, rfl, rfl⟩
    dsimp only [Option.toList, List.cons_append, List.nil_append]
    rw [ex_ui_f _ _ _ _ (by decide)]
    refine s_Mdl_element_230 (fun h230 => ?_) (fun h230 => absurd h230 (by rw [if_neg (fun z => absurd ((tx_is_d (by decide)).mp z) (by rw [hdd]; decide))]; exact fun q => q rfl))
    refine s_Mdl_element_247 ?_
    refine s_Mdl_element_248 ?_
    refine s_Mdl_element_249 ?_
    refine s_Mdl_element_250 ?_
    refine s_Mdl_element_252 ?_
    refine s_Mdl_element_253 ?_
    refine s_Mdl_element_255 (b1 := 0) (b2 := b) (by first | rfl | assumption | (simp [*]; done)) (by first | rfl | assumption | (simp [*]; done)) (sp_is (i := 3) hR (rt_ui hT) (by decide) hse h40e rfl rfl rfl) ?_ (by omega)
    rintro _ _ _ _ ⟨rfl, rfl, rfl, rfl⟩
    dsimp only [Option.toList, List.cons_append, List.nil_append]
    rw [ex_ui_f _ _ _ _ (by decide)]
    refine s_Mdl_element_258 (fun h258 => ?_) (fun h258 => absurd h258 (by rw [if_neg (fun z => absurd ((tx_is_d (by decide)).mp z) (by rw [hdd]; decide))]; exact fun q => q rfl))
    refine s_Mdl_element_276 ?_
    refine s_Mdl_element_277 ?_
    refine s_Mdl_element_278 ?_
    refine s_Mdl_element_280 ?_
    refine s_Mdl_element_282 ?_
    refine s_Mdl_element_283 ?_
    refine s_Mdl_element_285 (b1 := 0) (b2 := b) (by first | rfl | assumption | (simp [*]; done)) (by first | rfl | assumption | (simp [*]; done)) (sp_is (i := 4) hR (rt_ui hT) (by decide) hse h40e rfl rfl rfl) ?_ (by omega)
    rintro _ _ _ _ ⟨rfl, rfl, rfl, rfl⟩
    dsimp only [Option.toList, List.cons_append, List.nil_append]
    rw [ex_ui_f _ _ _ _ (by decide)]
    refine s_Mdl_element_288 (fun h288 => ?_) (fun h288 => absurd h288 (by rw [if_neg (fun z => absurd ((tx_is_d (by decide)).mp z) (by rw [hdd]; decide))]; exact fun q => q rfl))
    refine s_Mdl_element_308 ?_
    refine s_Mdl_element_309 ?_
    refine s_Mdl_element_310 ?_
    refine s_Mdl_element_312 ?_
    refine s_Mdl_element_314 ?_
    refine s_Mdl_element_315 ?_
    refine s_Mdl_element_317 (b1 := 0) (b2 := b) (by first | rfl | assumption | (simp [*]; done)) (by first | rfl | assumption | (simp [*]; done)) (sp_is (i := 6) hR (rt_ui hT) (by decide) hse h40e rfl rfl rfl) ?_ (by omega)
    rintro _ _ _ _ ⟨rfl, rfl, rfl, rfl⟩
    dsimp only [Option.toList, List.cons_append, List.nil_append]
    rw [ex_ui_f _ _ _ _ (by decide)]
    refine s_Mdl_element_320 (fun h320 => ?_) (fun h320 => absurd h320 (by rw [if_neg (fun z => absurd ((tx_is_d (by decide)).mp z) (by rw [hdd]; decide))]; exact fun q => q rfl))
    refine s_Mdl_element_340 ?_
    refine s_Mdl_element_341 ?_
    refine s_Mdl_element_342 ?_
    refine s_Mdl_element_344 ?_
    refine s_Mdl_element_346 ?_
    refine s_Mdl_element_347 ?_
    refine s_Mdl_element_349 (b1 := 0) (b2 := b) (by first | rfl | assumption | (simp [*]; done)) (by first | rfl | assumption | (simp [*]; done)) (sp_is (i := 5) hR (rt_ui hT) (by decide) hse h40e rfl rfl rfl) ?_ (by omega)
    rintro _ _ _ _ ⟨rfl, rfl, rfl, rfl⟩
    dsimp only [Option.toList, List.cons_append, List.nil_append]
    rw [ex_ui_f _ _ _ _ (by decide)]
    refine s_Mdl_element_352 (fun h352 => ?_) (fun h352 => absurd h352 (by rw [if_neg (fun z => absurd ((tx_is_d (by decide)).mp z) (by rw [hdd]; decide))]; exact fun q => q rfl))
    refine s_Mdl_element_364 ?_
    refine s_Mdl_element_365 ?_
    exact ⟨rfl, rfl, _, sh, rfl, rfl, rd_bit0 hX hv⟩
  · skip
    refine s_Mdl_element_161 ?_
    refine s_Mdl_element_162 ?_
    refine s_Mdl_element_163 ?_
    refine s_Mdl_element_164 ?_
    refine s_Mdl_element_166 ?_
    refine s_Mdl_element_167 ?_
    refine s_Mdl_element_169 (b1 := 0) (b2 := b) (by first | rfl | assumption | (simp [*]; done)) (by first | rfl | assumption | (simp [*]; done)) (sp_is (i := 0) hR (hT) (by decide) hse h40e rfl rfl rfl) ?_ (by omega)
    rintro _ _ _ _ ⟨rfl, rfl, rfl, rfl⟩
    dsimp only [Option.toList, List.cons_append, List.nil_append]
    skip
    refine s_Mdl_element_172 (fun h172 => ?_) (fun h172 => absurd h172 (by rw [if_neg (fun z => absurd ((tx_is_d (by decide)).mp z) (by rw [hdd]; decide))]; exact fun q => q rfl))
    refine s_Mdl_element_189 ?_
    refine s_Mdl_element_190 ?_
    refine s_Mdl_element_191 ?_
    refine s_Mdl_element_193 ?_
    refine s_Mdl_element_195 ?_
    refine s_Mdl_element_196 ?_
    refine s_Mdl_element_198 (b1 := 0) (b2 := b) (by first | rfl | assumption | (simp [*]; done)) (by first | rfl | assumption | (simp [*]; done)) (sp_is (i := 1) hR (hT) (by decide) hse h40e rfl rfl rfl) ?_ (by omega)
    rintro _ _ _ _ ⟨rfl, rfl, rfl, rfl⟩
    dsimp only [Option.toList, List.cons_append, List.nil_append]
    skip
    refine s_Mdl_element_201 (fun h201 => absurd h201 (by rw [if_pos ((tx_is_d (by decide)).mpr hdd.symm)]; decide)) (fun h201 => ?_)
    refine s_Mdl_element_204 ?_
    refine s_Mdl_element_205 (by first | rfl | assumption | (simp [*]; done)) (by first | rfl | assumption | (simp [*]; done)) ?_
    refine s_Mdl_element_208 ?_
    refine s_Mdl_element_209 ?_
    refine s_Mdl_element_210 (by first | rfl | assumption | (simp [*]; done)) (by first | rfl | assumption | (simp [*]; done)) ?_
    refine s_Mdl_element_213 ?_
    refine s_Mdl_element_214 (by first | exact rf_read hR | rfl) (by exact rk_read hR) (by rw [rn_read hR]; exact n_in (a := 0) (by first | rfl | (simp only [nl_1, nl_2, nl_3, nl_4, nl_5, nl_6, nl_7, nl_8, nl_9, nl_10, nl_11, nl_12, nl_13, nl_14, nl_15, nl_16, nl_32, nl_240, nl_250, nl_255, nl_265, nl_270, nl_0, nI_add, pk_mul]; done)) (by omega) (by omega)) ?_
    refine ex_ixl (q := 0) (by first | rfl | (simp only [nl_1, nl_2, nl_3, nl_4, nl_5, nl_6, nl_7, nl_8, nl_9, nl_10, nl_11, nl_12, nl_13, nl_14, nl_15, nl_16, nl_32, nl_240, nl_250, nl_255, nl_265, nl_270, nl_0, nI_add, pk_mul]; done)) (by omega) ?_
    refine s_Mdl_element_215 ?_
    refine s_Mdl_element_216 ?_
    refine s_Mdl_element_217 (by first | exact rf_read hR | rfl) (by exact rk_read hR) (by rw [rn_read hR]; exact n_in (a := 0) (by first | rfl | (simp only [nl_1, nl_2, nl_3, nl_4, nl_5, nl_6, nl_7, nl_8, nl_9, nl_10, nl_11, nl_12, nl_13, nl_14, nl_15, nl_16, nl_32, nl_240, nl_250, nl_255, nl_265, nl_270, nl_0, nI_add, pk_mul]; done)) (by omega) (by omega)) ?_
    refine ex_ixs (q := 0) (by first | rfl | (simp only [nl_1, nl_2, nl_3, nl_4, nl_5, nl_6, nl_7, nl_8, nl_9, nl_10, nl_11, nl_12, nl_13, nl_14, nl_15, nl_16, nl_32, nl_240, nl_250, nl_255, nl_265, nl_270, nl_0, nI_add, pk_mul]; done)) (by omega) ?_
    refine s_Mdl_element_218 ?_
    refine s_Mdl_element_219 ?_
    refine s_Mdl_element_220 ?_
    refine s_Mdl_element_222 ?_
    refine s_Mdl_element_224 ?_
    refine s_Mdl_element_225 ?_
    refine s_Mdl_element_227 (b1 := 0) (b2 := b) (by first | rfl | assumption | (simp [*]; done)) (by first | rfl | assumption | (simp [*]; done)) (sp_is (i := 2) hR (rt_ui hT) (by decide) hse h40e rfl rfl rfl) ?_ (by omega)
    rintro _ _ _ _ ⟨rfl, rfl, rfl, rfl⟩
    dsimp only [Option.toList, List.cons_append, List.nil_append]
    rw [ex_ui_f _ _ _ _ (by decide)]
    refine s_Mdl_element_230 (fun h230 => ?_) (fun h230 => absurd h230 (by rw [if_neg (fun z => absurd ((tx_is_d (by decide)).mp z) (by rw [hdd]; decide))]; exact fun q => q rfl))
    refine s_Mdl_element_247 ?_
    refine s_Mdl_element_248 ?_
    refine s_Mdl_element_249 ?_
    refine s_Mdl_element_250 ?_
    refine s_Mdl_element_252 ?_
    refine s_Mdl_element_253 ?_
    refine s_Mdl_element_255 (b1 := 0) (b2 := b) (by first | rfl | assumption | (simp [*]; done)) (by first | rfl | assumption | (simp [*]; done)) (sp_is (i := 3) hR (rt_ui hT) (by decide) hse h40e rfl rfl rfl) ?_ (by omega)
    rintro _ _ _ _ ⟨rfl, rfl, rfl, rfl⟩
    dsimp only [Option.toList, List.cons_append, List.nil_append]
    rw [ex_ui_f _ _ _ _ (by decide)]
    refine s_Mdl_element_258 (fun h258 => ?_) (fun h258 => absurd h258 (by rw [if_neg (fun z => absurd ((tx_is_d (by decide)).mp z) (by rw [hdd]; decide))]; exact fun q => q rfl))
    refine s_Mdl_element_276 ?_
    refine s_Mdl_element_277 ?_
    refine s_Mdl_element_278 ?_
    refine s_Mdl_element_280 ?_
    refine s_Mdl_element_282 ?_
    refine s_Mdl_element_283 ?_
    refine s_Mdl_element_285 (b1 := 0) (b2 := b) (by first | rfl | assumption | (simp [*]; done)) (by first | rfl | assumption | (simp [*]; done)) (sp_is (i := 4) hR (rt_ui hT) (by decide) hse h40e rfl rfl rfl) ?_ (by omega)
    rintro _ _ _ _ ⟨rfl, rfl, rfl, rfl⟩
    dsimp only [Option.toList, List.cons_append, List.nil_append]
    rw [ex_ui_f _ _ _ _ (by decide)]
    refine s_Mdl_element_288 (fun h288 => ?_) (fun h288 => absurd h288 (by rw [if_neg (fun z => absurd ((tx_is_d (by decide)).mp z) (by rw [hdd]; decide))]; exact fun q => q rfl))
    refine s_Mdl_element_308 ?_
    refine s_Mdl_element_309 ?_
    refine s_Mdl_element_310 ?_
    refine s_Mdl_element_312 ?_
    refine s_Mdl_element_314 ?_
    refine s_Mdl_element_315 ?_
    refine s_Mdl_element_317 (b1 := 0) (b2 := b) (by first | rfl | assumption | (simp [*]; done)) (by first | rfl | assumption | (simp [*]; done)) (sp_is (i := 6) hR (rt_ui hT) (by decide) hse h40e rfl rfl rfl) ?_ (by omega)
    rintro _ _ _ _ ⟨rfl, rfl, rfl, rfl⟩
    dsimp only [Option.toList, List.cons_append, List.nil_append]
    rw [ex_ui_f _ _ _ _ (by decide)]
    refine s_Mdl_element_320 (fun h320 => ?_) (fun h320 => absurd h320 (by rw [if_neg (fun z => absurd ((tx_is_d (by decide)).mp z) (by rw [hdd]; decide))]; exact fun q => q rfl))
    refine s_Mdl_element_340 ?_
    refine s_Mdl_element_341 ?_
    refine s_Mdl_element_342 ?_
    refine s_Mdl_element_344 ?_
    refine s_Mdl_element_346 ?_
    refine s_Mdl_element_347 ?_
    refine s_Mdl_element_349 (b1 := 0) (b2 := b) (by first | rfl | assumption | (simp [*]; done)) (by first | rfl | assumption | (simp [*]; done)) (sp_is (i := 5) hR (rt_ui hT) (by decide) hse h40e rfl rfl rfl) ?_ (by omega)
    rintro _ _ _ _ ⟨rfl, rfl, rfl, rfl⟩
    dsimp only [Option.toList, List.cons_append, List.nil_append]
    rw [ex_ui_f _ _ _ _ (by decide)]
    refine s_Mdl_element_352 (fun h352 => ?_) (fun h352 => absurd h352 (by rw [if_neg (fun z => absurd ((tx_is_d (by decide)).mp z) (by rw [hdd]; decide))]; exact fun q => q rfl))
    refine s_Mdl_element_364 ?_
    refine s_Mdl_element_365 ?_
    exact ⟨rfl, rfl, _, sh, rfl, rfl, rd_bit1 hX hv⟩
  · skip
    refine s_Mdl_element_161 ?_
    refine s_Mdl_element_162 ?_
    refine s_Mdl_element_163 ?_
    refine s_Mdl_element_164 ?_
    refine s_Mdl_element_166 ?_
    refine s_Mdl_element_167 ?_
    refine s_Mdl_element_169 (b1 := 0) (b2 := b) (by first | rfl | assumption | (simp [*]; done)) (by first | rfl | assumption | (simp [*]; done)) (sp_is (i := 0) hR (hT) (by decide) hse h40e rfl rfl rfl) ?_ (by omega)
    rintro _ _ _ _ ⟨rfl, rfl, rfl, rfl⟩
    dsimp only [Option.toList, List.cons_append, List.nil_append]
    skip
    refine s_Mdl_element_172 (fun h172 => ?_) (fun h172 => absurd h172 (by rw [if_neg (fun z => absurd ((tx_is_d (by decide)).mp z) (by rw [hdd]; decide))]; exact fun q => q rfl))
    refine s_Mdl_element_189 ?_
    refine s_Mdl_element_190 ?_
    refine s_Mdl_element_191 ?_
    refine s_Mdl_element_193 ?_
    refine s_Mdl_element_195 ?_
    refine s_Mdl_element_196 ?_
    refine s_Mdl_element_198 (b1 := 0) (b2 := b) (by first | rfl | assumption | (simp [*]; done)) (by first | rfl | assumption | (simp [*]; done)) (sp_is (i := 1) hR (hT) (by decide) hse h40e rfl rfl rfl) ?_ (by omega)
    rintro _ _ _ _ ⟨rfl, rfl, rfl, rfl⟩
    dsimp only [Option.toList, List.cons_append, List.nil_append]
    skip
    refine s_Mdl_element_201 (fun h201 => ?_) (fun h201 => absurd h201 (by rw [if_neg (fun z => absurd ((tx_is_d (by decide)).mp z) (by rw [hdd]; decide))]; exact fun q => q rfl))
    refine s_Mdl_element_218 ?_
    refine s_Mdl_element_219 ?_
    refine s_Mdl_element_220 ?_
    refine s_Mdl_element_222 ?_
    refine s_Mdl_element_224 ?_
    refine s_Mdl_element_225 ?_
    refine s_Mdl_element_227 (b1 := 0) (b2 := b) (by first | rfl | assumption | (simp [*]; done)) (by first | rfl | assumption | (simp [*]; done)) (sp_is (i := 2) hR (hT) (by decide) hse h40e rfl rfl rfl) ?_ (by omega)
    rintro _ _ _ _ ⟨rfl, rfl, rfl, rfl⟩
    dsimp only [Option.toList, List.cons_append, List.nil_append]
    skip
    refine s_Mdl_element_230 (fun h230 => absurd h230 (by rw [if_pos ((tx_is_d (by decide)).mpr hdd.symm)]; decide)) (fun h230 => ?_)
    refine s_Mdl_element_233 ?_
    refine s_Mdl_element_234 (by first | rfl | assumption | (simp [*]; done)) (by first | rfl | assumption | (simp [*]; done)) ?_
    refine s_Mdl_element_237 ?_
    refine s_Mdl_element_238 ?_
    refine s_Mdl_element_239 (by first | rfl | assumption | (simp [*]; done)) (by first | rfl | assumption | (simp [*]; done)) ?_
    refine s_Mdl_element_242 ?_
    refine s_Mdl_element_243 (by first | exact rf_read hR | rfl) (by exact rk_read hR) (by rw [rn_read hR]; exact n_in (a := 0) (by first | rfl | (simp only [nl_1, nl_2, nl_3, nl_4, nl_5, nl_6, nl_7, nl_8, nl_9, nl_10, nl_11, nl_12, nl_13, nl_14, nl_15, nl_16, nl_32, nl_240, nl_250, nl_255, nl_265, nl_270, nl_0, nI_add, pk_mul]; done)) (by omega) (by omega)) ?_
    refine ex_ixl (q := 0) (by first | rfl | (simp only [nl_1, nl_2, nl_3, nl_4, nl_5, nl_6, nl_7, nl_8, nl_9, nl_10, nl_11, nl_12, nl_13, nl_14, nl_15, nl_16, nl_32, nl_240, nl_250, nl_255, nl_265, nl_270, nl_0, nI_add, pk_mul]; done)) (by omega) ?_
    refine s_Mdl_element_244 ?_
    refine s_Mdl_element_245 ?_
    refine s_Mdl_element_246 (by first | exact rf_read hR | rfl) (by exact rk_read hR) (by rw [rn_read hR]; exact n_in (a := 0) (by first | rfl | (simp only [nl_1, nl_2, nl_3, nl_4, nl_5, nl_6, nl_7, nl_8, nl_9, nl_10, nl_11, nl_12, nl_13, nl_14, nl_15, nl_16, nl_32, nl_240, nl_250, nl_255, nl_265, nl_270, nl_0, nI_add, pk_mul]; done)) (by omega) (by omega)) ?_
    refine ex_ixs (q := 0) (by first | rfl | (simp only [nl_1, nl_2, nl_3, nl_4, nl_5, nl_6, nl_7, nl_8, nl_9, nl_10, nl_11, nl_12, nl_13, nl_14, nl_15, nl_16, nl_32, nl_240, nl_250, nl_255, nl_265, nl_270, nl_0, nI_add, pk_mul]; done)) (by omega) ?_
    refine s_Mdl_element_247 ?_
    refine s_Mdl_element_248 ?_
    refine s_Mdl_element_249 ?_
    refine s_Mdl_element_250 ?_
    refine s_Mdl_element_252 ?_
    refine s_Mdl_element_253 ?_
    refine s_Mdl_element_255 (b1 := 0) (b2 := b) (by first | rfl | assumption | (simp [*]; done)) (by first | rfl | assumption | (simp [*]; done)) (sp_is (i := 3) hR (rt_ui hT) (by decide) hse h40e rfl rfl rfl) ?_ (by omega)
    rintro _ _ _ _ ⟨rfl, rfl, rfl, rfl⟩
    dsimp only [Option.toList, List.cons_append, List.nil_append]
    rw [ex_ui_f _ _ _ _ (by decide)]
    refine s_Mdl_element_258 (fun h258 => ?_) (fun h258 => absurd h258 (by rw [if_neg (fun z => absurd ((tx_is_d (by decide)).mp z) (by rw [hdd]; decide))]; exact fun q => q rfl))
    refine s_Mdl_element_276 ?_
    refine s_Mdl_element_277 ?_
    refine s_Mdl_element_278 ?_
    refine s_Mdl_element_280 ?_
    refine s_Mdl_element_282 ?_
    refine s_Mdl_element_283 ?_
    refine s_Mdl_element_285 (b1 := 0) (b2 := b) (by first | rfl | assumption | (simp [*]; done)) (by first | rfl | assumption | (simp [*]; done)) (sp_is (i := 4) hR (rt_ui hT) (by decide) hse h40e rfl rfl rfl) ?_ (by omega)
    rintro _ _ _ _ ⟨rfl, rfl, rfl, rfl⟩
    dsimp only [Option.toList, List.cons_append, List.nil_append]
    rw [ex_ui_f _ _ _ _ (by decide)]
    refine s_Mdl_element_288 (fun h288 => ?_) (fun h288 => absurd h288 (by rw [if_neg (fun z => absurd ((tx_is_d (by decide)).mp z) (by rw [hdd]; decide))]; exact fun q => q rfl))
    refine s_Mdl_element_308 ?_
    refine s_Mdl_element_309 ?_
    refine s_Mdl_element_310 ?_
    refine s_Mdl_element_312 ?_
    refine s_Mdl_element_314 ?_
    refine s_Mdl_element_315 ?_
    refine s_Mdl_element_317 (b1 := 0) (b2 := b) (by first | rfl | assumption | (simp [*]; done)) (by first | rfl | assumption | (simp [*]; done)) (sp_is (i := 6) hR (rt_ui hT) (by decide) hse h40e rfl rfl rfl) ?_ (by omega)
    rintro _ _ _ _ ⟨rfl, rfl, rfl, rfl⟩
    dsimp only [Option.toList, List.cons_append, List.nil_append]
    rw [ex_ui_f _ _ _ _ (by decide)]
    refine s_Mdl_element_320 (fun h320 => ?_) (fun h320 => absurd h320 (by rw [if_neg (fun z => absurd ((tx_is_d (by decide)).mp z) (by rw [hdd]; decide))]; exact fun q => q rfl))
    refine s_Mdl_element_340 ?_
    refine s_Mdl_element_341 ?_
    refine s_Mdl_element_342 ?_
    refine s_Mdl_element_344 ?_
    refine s_Mdl_element_346 ?_
    refine s_Mdl_element_347 ?_
    refine s_Mdl_element_349 (b1 := 0) (b2 := b) (by first | rfl | assumption | (simp [*]; done)) (by first | rfl | assumption | (simp [*]; done)) (sp_is (i := 5) hR (rt_ui hT) (by decide) hse h40e rfl rfl rfl) ?_ (by omega)
    rintro _ _ _ _ ⟨rfl, rfl, rfl, rfl⟩
    dsimp only [Option.toList, List.cons_append, List.nil_append]
    rw [ex_ui_f _ _ _ _ (by decide)]
    refine s_Mdl_element_352 (fun h352 => ?_) (fun h352 => absurd h352 (by rw [if_neg (fun z => absurd ((tx_is_d (by decide)).mp z) (by rw [hdd]; decide))]; exact fun q => q rfl))
    refine s_Mdl_element_364 ?_
    refine s_Mdl_element_365 ?_
    exact ⟨rfl, rfl, _, sh, rfl, rfl, rd_bit2 hX hv⟩
  · skip
    refine s_Mdl_element_161 ?_
    refine s_Mdl_element_162 ?_
    refine s_Mdl_element_163 ?_
    refine s_Mdl_element_164 ?_
    refine s_Mdl_element_166 ?_
    refine s_Mdl_element_167 ?_
    refine s_Mdl_element_169 (b1 := 0) (b2 := b) (by first | rfl | assumption | (simp [*]; done)) (by first | rfl | assumption | (simp [*]; done)) (sp_is (i := 0) hR (hT) (by decide) hse h40e rfl rfl rfl) ?_ (by omega)
    rintro _ _ _ _ ⟨rfl, rfl, rfl, rfl⟩
    dsimp only [Option.toList, List.cons_append, List.nil_append]
    skip
    refine s_Mdl_element_172 (fun h172 => ?_) (fun h172 => absurd h172 (by rw [if_neg (fun z => absurd ((tx_is_d (by decide)).mp z) (by rw [hdd]; decide))]; exact fun q => q rfl))
    refine s_Mdl_element_189 ?_
    refine s_Mdl_element_190 ?_
    refine s_Mdl_element_191 ?_
    refine s_Mdl_element_193 ?_
    refine s_Mdl_element_195 ?_
    refine s_Mdl_element_196 ?_
    refine s_Mdl_element_198 (b1 := 0) (b2 := b) (by first | rfl | assumption | (simp [*]; done)) (by first | rfl | assumption | (simp [*]; done)) (sp_is (i := 1) hR (hT) (by decide) hse h40e rfl rfl rfl) ?_ (by omega)
    rintro _ _ _ _ ⟨rfl, rfl, rfl, rfl⟩
    dsimp only [Option.toList, List.cons_append, List.nil_append]
    skip
    refine s_Mdl_element_201 (fun h201 => ?_) (fun h201 => absurd h201 (by rw [if_neg (fun z => absurd ((tx_is_d (by decide)).mp z) (by rw [hdd]; decide))]; exact fun q => q rfl))
    refine s_Mdl_element_218 ?_
    refine s_Mdl_element_219 ?_
    refine s_Mdl_element_220 ?_
    refine s_Mdl_element_222 ?_
    refine s_Mdl_element_224 ?_
    refine s_Mdl_element_225 ?_
    refine s_Mdl_element_227 (b1 := 0) (b2 := b) (by first | rfl | assumption | (simp [*]; done)) (by first | rfl | assumption | (simp [*]; done)) (sp_is (i := 2) hR (hT) (by decide) hse h40e rfl rfl rfl) ?_ (by omega)
    rintro _ _ _ _ ⟨rfl, rfl, rfl, rfl⟩
    dsimp only [Option.toList, List.cons_append, List.nil_append]
    skip
    refine s_Mdl_element_230 (fun h230 => ?_) (fun h230 => absurd h230 (by rw [if_neg (fun z => absurd ((tx_is_d (by decide)).mp z) (by rw [hdd]; decide))]; exact fun q => q rfl))
    refine s_Mdl_element_247 ?_
    refine s_Mdl_element_248 ?_
    refine s_Mdl_element_249 ?_
    refine s_Mdl_element_250 ?_
    refine s_Mdl_element_252 ?_
    refine s_Mdl_element_253 ?_
    refine s_Mdl_element_255 (b1 := 0) (b2 := b) (by first | rfl | assumption | (simp [*]; done)) (by first | rfl | assumption | (simp [*]; done)) (sp_is (i := 3) hR (hT) (by decide) hse h40e rfl rfl rfl) ?_ (by omega)
    rintro _ _ _ _ ⟨rfl, rfl, rfl, rfl⟩
    dsimp only [Option.toList, List.cons_append, List.nil_append]
    skip
    refine s_Mdl_element_258 (fun h258 => absurd h258 (by rw [if_pos ((tx_is_d (by decide)).mpr hdd.symm)]; decide)) (fun h258 => ?_)
    refine s_Mdl_element_261 ?_
    refine s_Mdl_element_262 (by first | rfl | assumption | (simp [*]; done)) (by first | rfl | assumption | (simp [*]; done)) ?_
    refine s_Mdl_element_265 ?_
    refine s_Mdl_element_266 ?_
    refine s_Mdl_element_267 (by first | rfl | assumption | (simp [*]; done)) (by first | rfl | assumption | (simp [*]; done)) ?_
    refine s_Mdl_element_270 ?_
    refine s_Mdl_element_271 (by first | exact rf_read hR | rfl) (by exact rk_read hR) (by rw [rn_read hR]; exact n_in (a := 0) (by first | rfl | (simp only [nl_1, nl_2, nl_3, nl_4, nl_5, nl_6, nl_7, nl_8, nl_9, nl_10, nl_11, nl_12, nl_13, nl_14, nl_15, nl_16, nl_32, nl_240, nl_250, nl_255, nl_265, nl_270, nl_0, nI_add, pk_mul]; done)) (by omega) (by omega)) ?_
    refine ex_ixl (q := 0) (by first | rfl | (simp only [nl_1, nl_2, nl_3, nl_4, nl_5, nl_6, nl_7, nl_8, nl_9, nl_10, nl_11, nl_12, nl_13, nl_14, nl_15, nl_16, nl_32, nl_240, nl_250, nl_255, nl_265, nl_270, nl_0, nI_add, pk_mul]; done)) (by omega) ?_
    refine s_Mdl_element_272 ?_
    refine s_Mdl_element_274 ?_
    refine s_Mdl_element_275 (by first | exact rf_read hR | rfl) (by exact rk_read hR) (by rw [rn_read hR]; exact n_in (a := 0) (by first | rfl | (simp only [nl_1, nl_2, nl_3, nl_4, nl_5, nl_6, nl_7, nl_8, nl_9, nl_10, nl_11, nl_12, nl_13, nl_14, nl_15, nl_16, nl_32, nl_240, nl_250, nl_255, nl_265, nl_270, nl_0, nI_add, pk_mul]; done)) (by omega) (by omega)) ?_
    refine ex_ixs (q := 0) (by first | rfl | (simp only [nl_1, nl_2, nl_3, nl_4, nl_5, nl_6, nl_7, nl_8, nl_9, nl_10, nl_11, nl_12, nl_13, nl_14, nl_15, nl_16, nl_32, nl_240, nl_250, nl_255, nl_265, nl_270, nl_0, nI_add, pk_mul]; done)) (by omega) ?_
    refine s_Mdl_element_276 ?_
    refine s_Mdl_element_277 ?_
    refine s_Mdl_element_278 ?_
    refine s_Mdl_element_280 ?_
    refine s_Mdl_element_282 ?_
    refine s_Mdl_element_283 ?_
    refine s_Mdl_element_285 (b1 := 0) (b2 := b) (by first | rfl | assumption | (simp [*]; done)) (by first | rfl | assumption | (simp [*]; done)) (sp_is (i := 4) hR (rt_ui hT) (by decide) hse h40e rfl rfl rfl) ?_ (by omega)
    rintro _ _ _ _ ⟨rfl, rfl, rfl, rfl⟩
    dsimp only [Option.toList, List.cons_append, List.nil_append]
    rw [ex_ui_f _ _ _ _ (by decide)]
    refine s_Mdl_element_288 (fun h288 => ?_) (fun h288 => absurd h288 (by rw [if_neg (fun z => absurd ((tx_is_d (by decide)).mp z) (by rw [hdd]; decide))]; exact fun q => q rfl))
    refine s_Mdl_element_308 ?_
    refine s_Mdl_element_309 ?_
    refine s_Mdl_element_310 ?_
    refine s_Mdl_element_312 ?_
    refine s_Mdl_element_314 ?_
    refine s_Mdl_element_315 ?_
    refine s_Mdl_element_317 (b1 := 0) (b2 := b) (by first | rfl | assumption | (simp [*]; done)) (by first | rfl | assumption | (simp [*]; done)) (sp_is (i := 6) hR (rt_ui hT) (by decide) hse h40e rfl rfl rfl) ?_ (by omega)
    rintro _ _ _ _ ⟨rfl, rfl, rfl, rfl⟩
    dsimp only [Option.toList, List.cons_append, List.nil_append]
    rw [ex_ui_f _ _ _ _ (by decide)]
    refine s_Mdl_element_320 (fun h320 => ?_) (fun h320 => absurd h320 (by rw [if_neg (fun z => absurd ((tx_is_d (by decide)).mp z) (by rw [hdd]; decide))]; exact fun q => q rfl))
    refine s_Mdl_element_340 ?_
    refine s_Mdl_element_341 ?_
    refine s_Mdl_element_342 ?_
    refine s_Mdl_element_344 ?_
    refine s_Mdl_element_346 ?_
    refine s_Mdl_element_347 ?_
    refine s_Mdl_element_349 (b1 := 0) (b2 := b) (by first | rfl | assumption | (simp [*]; done)) (by first | rfl | assumption | (simp [*]; done)) (sp_is (i := 5) hR (rt_ui hT) (by decide) hse h40e rfl rfl rfl) ?_ (by omega)
    rintro _ _ _ _ ⟨rfl, rfl, rfl, rfl⟩
    dsimp only [Option.toList, List.cons_append, List.nil_append]
    rw [ex_ui_f _ _ _ _ (by decide)]
    refine s_Mdl_element_352 (fun h352 => ?_) (fun h352 => absurd h352 (by rw [if_neg (fun z => absurd ((tx_is_d (by decide)).mp z) (by rw [hdd]; decide))]; exact fun q => q rfl))
    refine s_Mdl_element_364 ?_
    refine s_Mdl_element_365 ?_
    exact ⟨rfl, rfl, _, sh, rfl, rfl, rd_bit3 hX hv⟩
  · skip
    refine s_Mdl_element_161 ?_
    refine s_Mdl_element_162 ?_
    refine s_Mdl_element_163 ?_
    refine s_Mdl_element_164 ?_
    refine s_Mdl_element_166 ?_
    refine s_Mdl_element_167 ?_
    refine s_Mdl_element_169 (b1 := 0) (b2 := b) (by first | rfl | assumption | (simp [*]; done)) (by first | rfl | assumption | (simp [*]; done)) (sp_is (i := 0) hR (by first | exact hT | exact rt_ui hT) (by decide) hse h40e rfl rfl rfl) ?_ (by omega)
    rintro _ _ _ _ ⟨rfl, rfl, rfl, rfl⟩
    dsimp only [Option.toList, List.cons_append, List.nil_append]
    try rw [ex_ui_f _ _ _ _ (by decide)]
    refine s_Mdl_element_172 (fun h172 => ?_) (fun h172 => absurd h172 (by rw [if_neg (fun z => absurd ((tx_is_d (by decide)).mp z) (by rw [hdd]; decide))]; exact fun q => q rfl))
    refine s_Mdl_element_189 ?_
    refine s_Mdl_element_190 ?_
    refine s_Mdl_element_191 ?_
    refine s_Mdl_element_193 ?_
    refine s_Mdl_element_195 ?_
    refine s_Mdl_element_196 ?_
    refine s_Mdl_element_198 (b1 := 0) (b2 := b) (by first | rfl | assumption | (simp [*]; done)) (by first | rfl | assumption | (simp [*]; done)) (sp_is (i := 1) hR (by first | exact hT | exact rt_ui hT) (by decide) hse h40e rfl rfl rfl) ?_ (by omega)
    rintro _ _ _ _ ⟨rfl, rfl, rfl, rfl⟩
    dsimp only [Option.toList, List.cons_append, List.nil_append]
    try rw [ex_ui_f _ _ _ _ (by decide)]
    refine s_Mdl_element_201 (fun h201 => ?_) (fun h201 => absurd h201 (by rw [if_neg (fun z => absurd ((tx_is_d (by decide)).mp z) (by rw [hdd]; decide))]; exact fun q => q rfl))
    refine s_Mdl_element_218 ?_
    refine s_Mdl_element_219 ?_
    refine s_Mdl_element_220 ?_
    refine s_Mdl_element_222 ?_
    refine s_Mdl_element_224 ?_
    refine s_Mdl_element_225 ?_
    refine s_Mdl_element_227 (b1 := 0) (b2 := b) (by first | rfl | assumption | (simp [*]; done)) (by first | rfl | assumption | (simp [*]; done)) (sp_is (i := 2) hR (by first | exact hT | exact rt_ui hT) (by decide) hse h40e rfl rfl rfl) ?_ (by omega)
    rintro _ _ _ _ ⟨rfl, rfl, rfl, rfl⟩
    dsimp only [Option.toList, List.cons_append, List.nil_append]
    try rw [ex_ui_f _ _ _ _ (by decide)]
    refine s_Mdl_element_230 (fun h230 => ?_) (fun h230 => absurd h230 (by rw [if_neg (fun z => absurd ((tx_is_d (by decide)).mp z) (by rw [hdd]; decide))]; exact fun q => q rfl))
    refine s_Mdl_element_247 ?_
    refine s_Mdl_element_248 ?_
    refine s_Mdl_element_249 ?_
    refine s_Mdl_element_250 ?_
    refine s_Mdl_element_252 ?_
    refine s_Mdl_element_253 ?_
    refine s_Mdl_element_255 (b1 := 0) (b2 := b) (by first | rfl | assumption | (simp [*]; done)) (by first | rfl | assumption | (simp [*]; done)) (sp_is (i := 3) hR (by first | exact hT | exact rt_ui hT) (by decide) hse h40e rfl rfl rfl) ?_ (by omega)
    rintro _ _ _ _ ⟨rfl, rfl, rfl, rfl⟩
    dsimp only [Option.toList, List.cons_append, List.nil_append]
    try rw [ex_ui_f _ _ _ _ (by decide)]
    refine s_Mdl_element_258 (fun h258 => ?_) (fun h258 => absurd h258 (by rw [if_neg (fun z => absurd ((tx_is_d (by decide)).mp z) (by rw [hdd]; decide))]; exact fun q => q rfl))
    refine s_Mdl_element_276 ?_
    refine s_Mdl_element_277 ?_
    refine s_Mdl_element_278 ?_
    refine s_Mdl_element_280 ?_
    refine s_Mdl_element_282 ?_
    refine s_Mdl_element_283 ?_
    refine s_Mdl_element_285 (b1 := 0) (b2 := b) (by first | rfl | assumption | (simp [*]; done)) (by first | rfl | assumption | (simp [*]; done)) (sp_is (i := 4) hR (by first | exact hT | exact rt_ui hT) (by decide) hse h40e rfl rfl rfl) ?_ (by omega)
    rintro _ _ _ _ ⟨rfl, rfl, rfl, rfl⟩
    dsimp only [Option.toList, List.cons_append, List.nil_append]
    try rw [ex_ui_f _ _ _ _ (by decide)]
    refine s_Mdl_element_288 (fun h288 => absurd h288 (by rw [if_pos ((tx_is_d (by decide)).mpr hdd.symm)]; decide)) (fun h288 => ?_)
    refine s_Mdl_element_291 ?_
    refine s_Mdl_element_292 (by first | rfl | assumption | (simp [*]; done)) (by first | rfl | assumption | (simp [*]; done)) ?_
    refine s_Mdl_element_295 ?_
    refine s_Mdl_element_296 (by first | exact rf_read hR | rfl) (by exact rk_read hR) (by rw [rn_read hR]; exact n_in (a := 2) (by first | rfl | (simp only [nl_1, nl_2, nl_3, nl_4, nl_5, nl_6, nl_7, nl_8, nl_9, nl_10, nl_11, nl_12, nl_13, nl_14, nl_15, nl_16, nl_32, nl_240, nl_250, nl_255, nl_265, nl_270, nl_0, nI_add, pk_mul]; done)) (by omega) (by omega)) ?_
    refine ex_ixl (q := 2) (by first | rfl | (simp only [nl_1, nl_2, nl_3, nl_4, nl_5, nl_6, nl_7, nl_8, nl_9, nl_10, nl_11, nl_12, nl_13, nl_14, nl_15, nl_16, nl_32, nl_240, nl_250, nl_255, nl_265, nl_270, nl_0, nI_add, pk_mul]; done)) (by omega) ?_
    refine s_Mdl_element_297 (fun h297 => ?_) (fun h297 => ?_)
    · refine s_Mdl_element_308 ?_
      refine s_Mdl_element_309 ?_
      refine s_Mdl_element_310 ?_
      refine s_Mdl_element_312 ?_
      refine s_Mdl_element_314 ?_
      refine s_Mdl_element_315 ?_
      refine s_Mdl_element_317 (b1 := 0) (b2 := b) (by first | rfl | assumption | (simp [*]; done)) (by first | rfl | assumption | (simp [*]; done)) (sp_is (i := 6) hR (by first | exact hT | exact rt_ui hT) (by decide) hse h40e rfl rfl rfl) ?_ (by omega)
      rintro _ _ _ _ ⟨rfl, rfl, rfl, rfl⟩
      dsimp only [Option.toList, List.cons_append, List.nil_append]
      try rw [ex_ui_f _ _ _ _ (by decide)]
      refine s_Mdl_element_320 (fun h320 => ?_) (fun h320 => absurd h320 (by rw [if_neg (fun z => absurd ((tx_is_d (by decide)).mp z) (by rw [hdd]; decide))]; exact fun q => q rfl))
      refine s_Mdl_element_340 ?_
      refine s_Mdl_element_341 ?_
      refine s_Mdl_element_342 ?_
      refine s_Mdl_element_344 ?_
      refine s_Mdl_element_346 ?_
      refine s_Mdl_element_347 ?_
      refine s_Mdl_element_349 (b1 := 0) (b2 := b) (by first | rfl | assumption | (simp [*]; done)) (by first | rfl | assumption | (simp [*]; done)) (sp_is (i := 5) hR (by first | exact hT | exact rt_ui hT) (by decide) hse h40e rfl rfl rfl) ?_ (by omega)
      rintro _ _ _ _ ⟨rfl, rfl, rfl, rfl⟩
      dsimp only [Option.toList, List.cons_append, List.nil_append]
      try rw [ex_ui_f _ _ _ _ (by decide)]
      refine s_Mdl_element_352 (fun h352 => ?_) (fun h352 => absurd h352 (by rw [if_neg (fun z => absurd ((tx_is_d (by decide)).mp z) (by rw [hdd]; decide))]; exact fun q => q rfl))
      refine s_Mdl_element_364 ?_
      refine s_Mdl_element_365 ?_
      refine ⟨rfl, rfl, _, sh, rfl, ex_wi_id _ _ _, ?_⟩
      rw [if_neg (by decide), tx_learn_id (fun z => absurd (show (0 : Int32) ≤ -1 by rw [← z, ← x2]; exact h297) (by decide))]
      exact hX
    · refine s_Mdl_element_300 ?_
      refine s_Mdl_element_301 (by first | rfl | assumption | (simp [*]; done)) (by first | rfl | assumption | (simp [*]; done)) ?_
      refine s_Mdl_element_304 ?_
      refine s_Mdl_element_305 ?_
      refine s_Mdl_element_307 (by first | exact rf_read hR | rfl) (by exact rk_read hR) (by rw [rn_read hR]; exact n_in (a := 2) (by first | rfl | (simp only [nl_1, nl_2, nl_3, nl_4, nl_5, nl_6, nl_7, nl_8, nl_9, nl_10, nl_11, nl_12, nl_13, nl_14, nl_15, nl_16, nl_32, nl_240, nl_250, nl_255, nl_265, nl_270, nl_0, nI_add, pk_mul]; done)) (by omega) (by omega)) ?_
      refine ex_ixs (q := 2) (by first | rfl | (simp only [nl_1, nl_2, nl_3, nl_4, nl_5, nl_6, nl_7, nl_8, nl_9, nl_10, nl_11, nl_12, nl_13, nl_14, nl_15, nl_16, nl_32, nl_240, nl_250, nl_255, nl_265, nl_270, nl_0, nI_add, pk_mul]; done)) (by omega) ?_
      refine s_Mdl_element_308 ?_
      refine s_Mdl_element_309 ?_
      refine s_Mdl_element_310 ?_
      refine s_Mdl_element_312 ?_
      refine s_Mdl_element_314 ?_
      refine s_Mdl_element_315 ?_
      refine s_Mdl_element_317 (b1 := 0) (b2 := b) (by first | rfl | assumption | (simp [*]; done)) (by first | rfl | assumption | (simp [*]; done)) (sp_is (i := 6) hR (by first | exact hT | exact rt_ui hT) (by decide) hse h40e rfl rfl rfl) ?_ (by omega)
      rintro _ _ _ _ ⟨rfl, rfl, rfl, rfl⟩
      dsimp only [Option.toList, List.cons_append, List.nil_append]
      try rw [ex_ui_f _ _ _ _ (by decide)]
      refine s_Mdl_element_320 (fun h320 => ?_) (fun h320 => absurd h320 (by rw [if_neg (fun z => absurd ((tx_is_d (by decide)).mp z) (by rw [hdd]; decide))]; exact fun q => q rfl))
      refine s_Mdl_element_340 ?_
      refine s_Mdl_element_341 ?_
      refine s_Mdl_element_342 ?_
      refine s_Mdl_element_344 ?_
      refine s_Mdl_element_346 ?_
      refine s_Mdl_element_347 ?_
      refine s_Mdl_element_349 (b1 := 0) (b2 := b) (by first | rfl | assumption | (simp [*]; done)) (by first | rfl | assumption | (simp [*]; done)) (sp_is (i := 5) hR (by first | exact hT | exact rt_ui hT) (by decide) hse h40e rfl rfl rfl) ?_ (by omega)
      rintro _ _ _ _ ⟨rfl, rfl, rfl, rfl⟩
      dsimp only [Option.toList, List.cons_append, List.nil_append]
      try rw [ex_ui_f _ _ _ _ (by decide)]
      refine s_Mdl_element_352 (fun h352 => ?_) (fun h352 => absurd h352 (by rw [if_neg (fun z => absurd ((tx_is_d (by decide)).mp z) (by rw [hdd]; decide))]; exact fun q => q rfl))
      refine s_Mdl_element_364 ?_
      refine s_Mdl_element_365 ?_
      have hN : N 4 = -1 := (xn 4 (by decide)).resolve_right (fun z => h297 (by rw [x2]; exact Int32.not_lt.mp z))
      refine ⟨rfl, rfl, _, sh, rfl, rfl, ?_⟩
      rw [if_neg (by decide)]
      refine ⟨?_, ?_, ?_, ?_, tx_learn_nn xn hv 4⟩
      · rw [tx_learn_ne N v (by decide), tx_learn_ne N v (by decide), tx_learn_ne N v (by decide), tx_learn_ne N v (by decide)]
        exact hX.1
      · rw [tx_learn_at, if_pos hN]; rfl
      · rw [tx_learn_ne N v (by decide)]; exact x3
      · rw [tx_learn_ne N v (by decide)]; exact x5
  · skip
    refine s_Mdl_element_161 ?_
    refine s_Mdl_element_162 ?_
    refine s_Mdl_element_163 ?_
    refine s_Mdl_element_164 ?_
    refine s_Mdl_element_166 ?_
    refine s_Mdl_element_167 ?_
    refine s_Mdl_element_169 (b1 := 0) (b2 := b) (by first | rfl | assumption | (simp [*]; done)) (by first | rfl | assumption | (simp [*]; done)) (sp_is (i := 0) hR (hT) (by decide) hse h40e rfl rfl rfl) ?_ (by omega)
    rintro _ _ _ _ ⟨rfl, rfl, rfl, rfl⟩
    dsimp only [Option.toList, List.cons_append, List.nil_append]
    skip
    refine s_Mdl_element_172 (fun h172 => ?_) (fun h172 => absurd h172 (by rw [if_neg (fun z => absurd ((tx_is_d (by decide)).mp z) (by rw [hdd]; decide))]; exact fun q => q rfl))
    refine s_Mdl_element_189 ?_
    refine s_Mdl_element_190 ?_
    refine s_Mdl_element_191 ?_
    refine s_Mdl_element_193 ?_
    refine s_Mdl_element_195 ?_
    refine s_Mdl_element_196 ?_
    refine s_Mdl_element_198 (b1 := 0) (b2 := b) (by first | rfl | assumption | (simp [*]; done)) (by first | rfl | assumption | (simp [*]; done)) (sp_is (i := 1) hR (hT) (by decide) hse h40e rfl rfl rfl) ?_ (by omega)
    rintro _ _ _ _ ⟨rfl, rfl, rfl, rfl⟩
    dsimp only [Option.toList, List.cons_append, List.nil_append]
    skip
    refine s_Mdl_element_201 (fun h201 => ?_) (fun h201 => absurd h201 (by rw [if_neg (fun z => absurd ((tx_is_d (by decide)).mp z) (by rw [hdd]; decide))]; exact fun q => q rfl))
    refine s_Mdl_element_218 ?_
    refine s_Mdl_element_219 ?_
    refine s_Mdl_element_220 ?_
    refine s_Mdl_element_222 ?_
    refine s_Mdl_element_224 ?_
    refine s_Mdl_element_225 ?_
    refine s_Mdl_element_227 (b1 := 0) (b2 := b) (by first | rfl | assumption | (simp [*]; done)) (by first | rfl | assumption | (simp [*]; done)) (sp_is (i := 2) hR (hT) (by decide) hse h40e rfl rfl rfl) ?_ (by omega)
    rintro _ _ _ _ ⟨rfl, rfl, rfl, rfl⟩
    dsimp only [Option.toList, List.cons_append, List.nil_append]
    skip
    refine s_Mdl_element_230 (fun h230 => ?_) (fun h230 => absurd h230 (by rw [if_neg (fun z => absurd ((tx_is_d (by decide)).mp z) (by rw [hdd]; decide))]; exact fun q => q rfl))
    refine s_Mdl_element_247 ?_
    refine s_Mdl_element_248 ?_
    refine s_Mdl_element_249 ?_
    refine s_Mdl_element_250 ?_
    refine s_Mdl_element_252 ?_
    refine s_Mdl_element_253 ?_
    refine s_Mdl_element_255 (b1 := 0) (b2 := b) (by first | rfl | assumption | (simp [*]; done)) (by first | rfl | assumption | (simp [*]; done)) (sp_is (i := 3) hR (hT) (by decide) hse h40e rfl rfl rfl) ?_ (by omega)
    rintro _ _ _ _ ⟨rfl, rfl, rfl, rfl⟩
    dsimp only [Option.toList, List.cons_append, List.nil_append]
    skip
    refine s_Mdl_element_258 (fun h258 => ?_) (fun h258 => absurd h258 (by rw [if_neg (fun z => absurd ((tx_is_d (by decide)).mp z) (by rw [hdd]; decide))]; exact fun q => q rfl))
    refine s_Mdl_element_276 ?_
    refine s_Mdl_element_277 ?_
    refine s_Mdl_element_278 ?_
    refine s_Mdl_element_280 ?_
    refine s_Mdl_element_282 ?_
    refine s_Mdl_element_283 ?_
    refine s_Mdl_element_285 (b1 := 0) (b2 := b) (by first | rfl | assumption | (simp [*]; done)) (by first | rfl | assumption | (simp [*]; done)) (sp_is (i := 4) hR (hT) (by decide) hse h40e rfl rfl rfl) ?_ (by omega)
    rintro _ _ _ _ ⟨rfl, rfl, rfl, rfl⟩
    dsimp only [Option.toList, List.cons_append, List.nil_append]
    skip
    refine s_Mdl_element_288 (fun h288 => ?_) (fun h288 => absurd h288 (by rw [if_neg (fun z => absurd ((tx_is_d (by decide)).mp z) (by rw [hdd]; decide))]; exact fun q => q rfl))
    refine s_Mdl_element_308 ?_
    refine s_Mdl_element_309 ?_
    refine s_Mdl_element_310 ?_
    refine s_Mdl_element_312 ?_
    refine s_Mdl_element_314 ?_
    refine s_Mdl_element_315 ?_
    refine s_Mdl_element_317 (b1 := 0) (b2 := b) (by first | rfl | assumption | (simp [*]; done)) (by first | rfl | assumption | (simp [*]; done)) (sp_is (i := 6) hR (hT) (by decide) hse h40e rfl rfl rfl) ?_ (by omega)
    rintro _ _ _ _ ⟨rfl, rfl, rfl, rfl⟩
    dsimp only [Option.toList, List.cons_append, List.nil_append]
    skip
    refine s_Mdl_element_320 (fun h320 => ?_) (fun h320 => absurd h320 (by rw [if_neg (fun z => absurd ((tx_is_d (by decide)).mp z) (by rw [hdd]; decide))]; exact fun q => q rfl))
    refine s_Mdl_element_340 ?_
    refine s_Mdl_element_341 ?_
    refine s_Mdl_element_342 ?_
    refine s_Mdl_element_344 ?_
    refine s_Mdl_element_346 ?_
    refine s_Mdl_element_347 ?_
    refine s_Mdl_element_349 (b1 := 0) (b2 := b) (by first | rfl | assumption | (simp [*]; done)) (by first | rfl | assumption | (simp [*]; done)) (sp_is (i := 5) hR (hT) (by decide) hse h40e rfl rfl rfl) ?_ (by omega)
    rintro _ _ _ _ ⟨rfl, rfl, rfl, rfl⟩
    dsimp only [Option.toList, List.cons_append, List.nil_append]
    skip
    refine s_Mdl_element_352 (fun h352 => absurd h352 (by rw [if_pos ((tx_is_d (by decide)).mpr hdd.symm)]; decide)) (fun h352 => ?_)
    refine s_Mdl_element_355 ?_
    refine s_Mdl_element_356 (fun h356 => ?_) (fun h356 => ?_)
    · refine s_Mdl_element_364 ?_
      refine s_Mdl_element_365 ?_
      refine ⟨rfl, rfl, _, sh, rfl, ex_wi_id _ _ _, ?_⟩
      rw [if_neg (by decide), tx_learn_id (fun z => absurd (show (0 : Int32) ≤ -1 by rw [← z, ← x5]; exact h356) (by decide))]
      exact hX
    · refine s_Mdl_element_359 ?_
      refine s_Mdl_element_361 ?_
      refine s_Mdl_element_365 ?_
      have hN : N 5 = -1 := (xn 5 (by decide)).resolve_right (fun z => h356 (by rw [x5]; exact Int32.not_lt.mp z))
      refine ⟨rfl, rfl, _, v, rfl, ex_wi_id _ _ _, ?_⟩
      rw [if_neg (by decide)]
      refine ⟨?_, ?_, ?_, ?_, tx_learn_nn xn hv 5⟩
      · rw [tx_learn_ne N v (by decide), tx_learn_ne N v (by decide), tx_learn_ne N v (by decide), tx_learn_ne N v (by decide)]
        exact hX.1
      · rw [tx_learn_ne N v (by decide)]; exact x2
      · rw [tx_learn_ne N v (by decide)]; exact x3
      · rw [tx_learn_at, if_pos hN]
  · skip
    refine s_Mdl_element_161 ?_
    refine s_Mdl_element_162 ?_
    refine s_Mdl_element_163 ?_
    refine s_Mdl_element_164 ?_
    refine s_Mdl_element_166 ?_
    refine s_Mdl_element_167 ?_
    refine s_Mdl_element_169 (b1 := 0) (b2 := b) (by first | rfl | assumption | (simp [*]; done)) (by first | rfl | assumption | (simp [*]; done)) (sp_is (i := 0) hR (by first | exact hT | exact rt_ui hT) (by decide) hse h40e rfl rfl rfl) ?_ (by omega)
    rintro _ _ _ _ ⟨rfl, rfl, rfl, rfl⟩
    dsimp only [Option.toList, List.cons_append, List.nil_append]
    try rw [ex_ui_f _ _ _ _ (by decide)]
    refine s_Mdl_element_172 (fun h172 => ?_) (fun h172 => absurd h172 (by rw [if_neg (fun z => absurd ((tx_is_d (by decide)).mp z) (by rw [hdd]; decide))]; exact fun q => q rfl))
    refine s_Mdl_element_189 ?_
    refine s_Mdl_element_190 ?_
    refine s_Mdl_element_191 ?_
    refine s_Mdl_element_193 ?_
    refine s_Mdl_element_195 ?_
    refine s_Mdl_element_196 ?_
    refine s_Mdl_element_198 (b1 := 0) (b2 := b) (by first | rfl | assumption | (simp [*]; done)) (by first | rfl | assumption | (simp [*]; done)) (sp_is (i := 1) hR (by first | exact hT | exact rt_ui hT) (by decide) hse h40e rfl rfl rfl) ?_ (by omega)
    rintro _ _ _ _ ⟨rfl, rfl, rfl, rfl⟩
    dsimp only [Option.toList, List.cons_append, List.nil_append]
    try rw [ex_ui_f _ _ _ _ (by decide)]
    refine s_Mdl_element_201 (fun h201 => ?_) (fun h201 => absurd h201 (by rw [if_neg (fun z => absurd ((tx_is_d (by decide)).mp z) (by rw [hdd]; decide))]; exact fun q => q rfl))
    refine s_Mdl_element_218 ?_
    refine s_Mdl_element_219 ?_
    refine s_Mdl_element_220 ?_
    refine s_Mdl_element_222 ?_
    refine s_Mdl_element_224 ?_
    refine s_Mdl_element_225 ?_
    refine s_Mdl_element_227 (b1 := 0) (b2 := b) (by first | rfl | assumption | (simp [*]; done)) (by first | rfl | assumption | (simp [*]; done)) (sp_is (i := 2) hR (by first | exact hT | exact rt_ui hT) (by decide) hse h40e rfl rfl rfl) ?_ (by omega)
    rintro _ _ _ _ ⟨rfl, rfl, rfl, rfl⟩
    dsimp only [Option.toList, List.cons_append, List.nil_append]
    try rw [ex_ui_f _ _ _ _ (by decide)]
    refine s_Mdl_element_230 (fun h230 => ?_) (fun h230 => absurd h230 (by rw [if_neg (fun z => absurd ((tx_is_d (by decide)).mp z) (by rw [hdd]; decide))]; exact fun q => q rfl))
    refine s_Mdl_element_247 ?_
    refine s_Mdl_element_248 ?_
    refine s_Mdl_element_249 ?_
    refine s_Mdl_element_250 ?_
    refine s_Mdl_element_252 ?_
    refine s_Mdl_element_253 ?_
    refine s_Mdl_element_255 (b1 := 0) (b2 := b) (by first | rfl | assumption | (simp [*]; done)) (by first | rfl | assumption | (simp [*]; done)) (sp_is (i := 3) hR (by first | exact hT | exact rt_ui hT) (by decide) hse h40e rfl rfl rfl) ?_ (by omega)
    rintro _ _ _ _ ⟨rfl, rfl, rfl, rfl⟩
    dsimp only [Option.toList, List.cons_append, List.nil_append]
    try rw [ex_ui_f _ _ _ _ (by decide)]
    refine s_Mdl_element_258 (fun h258 => ?_) (fun h258 => absurd h258 (by rw [if_neg (fun z => absurd ((tx_is_d (by decide)).mp z) (by rw [hdd]; decide))]; exact fun q => q rfl))
    refine s_Mdl_element_276 ?_
    refine s_Mdl_element_277 ?_
    refine s_Mdl_element_278 ?_
    refine s_Mdl_element_280 ?_
    refine s_Mdl_element_282 ?_
    refine s_Mdl_element_283 ?_
    refine s_Mdl_element_285 (b1 := 0) (b2 := b) (by first | rfl | assumption | (simp [*]; done)) (by first | rfl | assumption | (simp [*]; done)) (sp_is (i := 4) hR (by first | exact hT | exact rt_ui hT) (by decide) hse h40e rfl rfl rfl) ?_ (by omega)
    rintro _ _ _ _ ⟨rfl, rfl, rfl, rfl⟩
    dsimp only [Option.toList, List.cons_append, List.nil_append]
    try rw [ex_ui_f _ _ _ _ (by decide)]
    refine s_Mdl_element_288 (fun h288 => ?_) (fun h288 => absurd h288 (by rw [if_neg (fun z => absurd ((tx_is_d (by decide)).mp z) (by rw [hdd]; decide))]; exact fun q => q rfl))
    refine s_Mdl_element_308 ?_
    refine s_Mdl_element_309 ?_
    refine s_Mdl_element_310 ?_
    refine s_Mdl_element_312 ?_
    refine s_Mdl_element_314 ?_
    refine s_Mdl_element_315 ?_
    refine s_Mdl_element_317 (b1 := 0) (b2 := b) (by first | rfl | assumption | (simp [*]; done)) (by first | rfl | assumption | (simp [*]; done)) (sp_is (i := 6) hR (by first | exact hT | exact rt_ui hT) (by decide) hse h40e rfl rfl rfl) ?_ (by omega)
    rintro _ _ _ _ ⟨rfl, rfl, rfl, rfl⟩
    dsimp only [Option.toList, List.cons_append, List.nil_append]
    try rw [ex_ui_f _ _ _ _ (by decide)]
    refine s_Mdl_element_320 (fun h320 => absurd h320 (by rw [if_pos ((tx_is_d (by decide)).mpr hdd.symm)]; decide)) (fun h320 => ?_)
    refine s_Mdl_element_323 ?_
    refine s_Mdl_element_324 (by first | rfl | assumption | (simp [*]; done)) (by first | rfl | assumption | (simp [*]; done)) ?_
    refine s_Mdl_element_327 ?_
    refine s_Mdl_element_328 (by first | exact rf_read hR | rfl) (by exact rk_read hR) (by rw [rn_read hR]; exact n_in (a := 3) (by first | rfl | (simp only [nl_1, nl_2, nl_3, nl_4, nl_5, nl_6, nl_7, nl_8, nl_9, nl_10, nl_11, nl_12, nl_13, nl_14, nl_15, nl_16, nl_32, nl_240, nl_250, nl_255, nl_265, nl_270, nl_0, nI_add, pk_mul]; done)) (by omega) (by omega)) ?_
    refine ex_ixl (q := 3) (by first | rfl | (simp only [nl_1, nl_2, nl_3, nl_4, nl_5, nl_6, nl_7, nl_8, nl_9, nl_10, nl_11, nl_12, nl_13, nl_14, nl_15, nl_16, nl_32, nl_240, nl_250, nl_255, nl_265, nl_270, nl_0, nI_add, pk_mul]; done)) (by omega) ?_
    refine s_Mdl_element_329 (fun h329 => ?_) (fun h329 => ?_)
    · refine s_Mdl_element_340 ?_
      refine s_Mdl_element_341 ?_
      refine s_Mdl_element_342 ?_
      refine s_Mdl_element_344 ?_
      refine s_Mdl_element_346 ?_
      refine s_Mdl_element_347 ?_
      refine s_Mdl_element_349 (b1 := 0) (b2 := b) (by first | rfl | assumption | (simp [*]; done)) (by first | rfl | assumption | (simp [*]; done)) (sp_is (i := 5) hR (by first | exact hT | exact rt_ui hT) (by decide) hse h40e rfl rfl rfl) ?_ (by omega)
      rintro _ _ _ _ ⟨rfl, rfl, rfl, rfl⟩
      dsimp only [Option.toList, List.cons_append, List.nil_append]
      try rw [ex_ui_f _ _ _ _ (by decide)]
      refine s_Mdl_element_352 (fun h352 => ?_) (fun h352 => absurd h352 (by rw [if_neg (fun z => absurd ((tx_is_d (by decide)).mp z) (by rw [hdd]; decide))]; exact fun q => q rfl))
      refine s_Mdl_element_364 ?_
      refine s_Mdl_element_365 ?_
      refine ⟨rfl, rfl, _, sh, rfl, ex_wi_id _ _ _, ?_⟩
      rw [if_neg (by decide), tx_learn_id (fun z => absurd (show (0 : Int32) ≤ -1 by rw [← z, ← x3]; exact h329) (by decide))]
      exact hX
    · refine s_Mdl_element_332 ?_
      refine s_Mdl_element_333 (by first | rfl | assumption | (simp [*]; done)) (by first | rfl | assumption | (simp [*]; done)) ?_
      refine s_Mdl_element_336 ?_
      refine s_Mdl_element_337 ?_
      refine s_Mdl_element_339 (by first | exact rf_read hR | rfl) (by exact rk_read hR) (by rw [rn_read hR]; exact n_in (a := 3) (by first | rfl | (simp only [nl_1, nl_2, nl_3, nl_4, nl_5, nl_6, nl_7, nl_8, nl_9, nl_10, nl_11, nl_12, nl_13, nl_14, nl_15, nl_16, nl_32, nl_240, nl_250, nl_255, nl_265, nl_270, nl_0, nI_add, pk_mul]; done)) (by omega) (by omega)) ?_
      refine ex_ixs (q := 3) (by first | rfl | (simp only [nl_1, nl_2, nl_3, nl_4, nl_5, nl_6, nl_7, nl_8, nl_9, nl_10, nl_11, nl_12, nl_13, nl_14, nl_15, nl_16, nl_32, nl_240, nl_250, nl_255, nl_265, nl_270, nl_0, nI_add, pk_mul]; done)) (by omega) ?_
      refine s_Mdl_element_340 ?_
      refine s_Mdl_element_341 ?_
      refine s_Mdl_element_342 ?_
      refine s_Mdl_element_344 ?_
      refine s_Mdl_element_346 ?_
      refine s_Mdl_element_347 ?_
      refine s_Mdl_element_349 (b1 := 0) (b2 := b) (by first | rfl | assumption | (simp [*]; done)) (by first | rfl | assumption | (simp [*]; done)) (sp_is (i := 5) hR (by first | exact hT | exact rt_ui hT) (by decide) hse h40e rfl rfl rfl) ?_ (by omega)
      rintro _ _ _ _ ⟨rfl, rfl, rfl, rfl⟩
      dsimp only [Option.toList, List.cons_append, List.nil_append]
      try rw [ex_ui_f _ _ _ _ (by decide)]
      refine s_Mdl_element_352 (fun h352 => ?_) (fun h352 => absurd h352 (by rw [if_neg (fun z => absurd ((tx_is_d (by decide)).mp z) (by rw [hdd]; decide))]; exact fun q => q rfl))
      refine s_Mdl_element_364 ?_
      refine s_Mdl_element_365 ?_
      have hN : N 6 = -1 := (xn 6 (by decide)).resolve_right (fun z => h329 (by rw [x3]; exact Int32.not_lt.mp z))
      refine ⟨rfl, rfl, _, sh, rfl, rfl, ?_⟩
      rw [if_neg (by decide)]
      refine ⟨?_, ?_, ?_, ?_, tx_learn_nn xn hv 6⟩
      · rw [tx_learn_ne N v (by decide), tx_learn_ne N v (by decide), tx_learn_ne N v (by decide), tx_learn_ne N v (by decide)]
        exact hX.1
      · rw [tx_learn_ne N v (by decide)]; exact x2
      · rw [tx_learn_at, if_pos hN]; rfl
      · rw [tx_learn_ne N v (by decide)]; exact x5
  · skip
    refine s_Mdl_element_161 ?_
    refine s_Mdl_element_162 ?_
    refine s_Mdl_element_163 ?_
    refine s_Mdl_element_164 ?_
    refine s_Mdl_element_166 ?_
    refine s_Mdl_element_167 ?_
    refine s_Mdl_element_169 (b1 := 0) (b2 := b) (by first | rfl | assumption | (simp [*]; done)) (by first | rfl | assumption | (simp [*]; done)) (sp_is (i := 0) hR (hT) (by decide) hse h40e rfl rfl rfl) ?_ (by omega)
    rintro _ _ _ _ ⟨rfl, rfl, rfl, rfl⟩
    dsimp only [Option.toList, List.cons_append, List.nil_append]
    skip
    refine s_Mdl_element_172 (fun h172 => ?_) (fun h172 => absurd h172 (by rw [if_neg (fun z => absurd ((tx_is_d (by decide)).mp z) (by rw [hdd]; decide))]; exact fun q => q rfl))
    refine s_Mdl_element_189 ?_
    refine s_Mdl_element_190 ?_
    refine s_Mdl_element_191 ?_
    refine s_Mdl_element_193 ?_
    refine s_Mdl_element_195 ?_
    refine s_Mdl_element_196 ?_
    refine s_Mdl_element_198 (b1 := 0) (b2 := b) (by first | rfl | assumption | (simp [*]; done)) (by first | rfl | assumption | (simp [*]; done)) (sp_is (i := 1) hR (hT) (by decide) hse h40e rfl rfl rfl) ?_ (by omega)
    rintro _ _ _ _ ⟨rfl, rfl, rfl, rfl⟩
    dsimp only [Option.toList, List.cons_append, List.nil_append]
    skip
    refine s_Mdl_element_201 (fun h201 => ?_) (fun h201 => absurd h201 (by rw [if_neg (fun z => absurd ((tx_is_d (by decide)).mp z) (by rw [hdd]; decide))]; exact fun q => q rfl))
    refine s_Mdl_element_218 ?_
    refine s_Mdl_element_219 ?_
    refine s_Mdl_element_220 ?_
    refine s_Mdl_element_222 ?_
    refine s_Mdl_element_224 ?_
    refine s_Mdl_element_225 ?_
    refine s_Mdl_element_227 (b1 := 0) (b2 := b) (by first | rfl | assumption | (simp [*]; done)) (by first | rfl | assumption | (simp [*]; done)) (sp_is (i := 2) hR (hT) (by decide) hse h40e rfl rfl rfl) ?_ (by omega)
    rintro _ _ _ _ ⟨rfl, rfl, rfl, rfl⟩
    dsimp only [Option.toList, List.cons_append, List.nil_append]
    skip
    refine s_Mdl_element_230 (fun h230 => ?_) (fun h230 => absurd h230 (by rw [if_neg (fun z => absurd ((tx_is_d (by decide)).mp z) (by rw [hdd]; decide))]; exact fun q => q rfl))
    refine s_Mdl_element_247 ?_
    refine s_Mdl_element_248 ?_
    refine s_Mdl_element_249 ?_
    refine s_Mdl_element_250 ?_
    refine s_Mdl_element_252 ?_
    refine s_Mdl_element_253 ?_
    refine s_Mdl_element_255 (b1 := 0) (b2 := b) (by first | rfl | assumption | (simp [*]; done)) (by first | rfl | assumption | (simp [*]; done)) (sp_is (i := 3) hR (hT) (by decide) hse h40e rfl rfl rfl) ?_ (by omega)
    rintro _ _ _ _ ⟨rfl, rfl, rfl, rfl⟩
    dsimp only [Option.toList, List.cons_append, List.nil_append]
    skip
    refine s_Mdl_element_258 (fun h258 => ?_) (fun h258 => absurd h258 (by rw [if_neg (fun z => absurd ((tx_is_d (by decide)).mp z) (by rw [hdd]; decide))]; exact fun q => q rfl))
    refine s_Mdl_element_276 ?_
    refine s_Mdl_element_277 ?_
    refine s_Mdl_element_278 ?_
    refine s_Mdl_element_280 ?_
    refine s_Mdl_element_282 ?_
    refine s_Mdl_element_283 ?_
    refine s_Mdl_element_285 (b1 := 0) (b2 := b) (by first | rfl | assumption | (simp [*]; done)) (by first | rfl | assumption | (simp [*]; done)) (sp_is (i := 4) hR (hT) (by decide) hse h40e rfl rfl rfl) ?_ (by omega)
    rintro _ _ _ _ ⟨rfl, rfl, rfl, rfl⟩
    dsimp only [Option.toList, List.cons_append, List.nil_append]
    skip
    refine s_Mdl_element_288 (fun h288 => ?_) (fun h288 => absurd h288 (by rw [if_neg (fun z => absurd ((tx_is_d (by decide)).mp z) (by rw [hdd]; decide))]; exact fun q => q rfl))
    refine s_Mdl_element_308 ?_
    refine s_Mdl_element_309 ?_
    refine s_Mdl_element_310 ?_
    refine s_Mdl_element_312 ?_
    refine s_Mdl_element_314 ?_
    refine s_Mdl_element_315 ?_
    refine s_Mdl_element_317 (b1 := 0) (b2 := b) (by first | rfl | assumption | (simp [*]; done)) (by first | rfl | assumption | (simp [*]; done)) (sp_is (i := 6) hR (hT) (by decide) hse h40e rfl rfl rfl) ?_ (by omega)
    rintro _ _ _ _ ⟨rfl, rfl, rfl, rfl⟩
    dsimp only [Option.toList, List.cons_append, List.nil_append]
    skip
    refine s_Mdl_element_320 (fun h320 => ?_) (fun h320 => absurd h320 (by rw [if_neg (fun z => absurd ((tx_is_d (by decide)).mp z) (by rw [hdd]; decide))]; exact fun q => q rfl))
    refine s_Mdl_element_340 ?_
    refine s_Mdl_element_341 ?_
    refine s_Mdl_element_342 ?_
    refine s_Mdl_element_344 ?_
    refine s_Mdl_element_346 ?_
    refine s_Mdl_element_347 ?_
    refine s_Mdl_element_349 (b1 := 0) (b2 := b) (by first | rfl | assumption | (simp [*]; done)) (by first | rfl | assumption | (simp [*]; done)) (sp_is (i := 5) hR (hT) (by decide) hse h40e rfl rfl rfl) ?_ (by omega)
    rintro _ _ _ _ ⟨rfl, rfl, rfl, rfl⟩
    dsimp only [Option.toList, List.cons_append, List.nil_append]
    skip
    refine s_Mdl_element_352 (fun h352 => ?_) (fun h352 => absurd h352 (by rw [if_neg (fun z => absurd ((tx_is_d (by decide)).mp z) (by rw [hdd]; decide))]; exact fun q => q rfl))
    refine s_Mdl_element_364 ?_
    refine s_Mdl_element_365 ?_
    refine ⟨rfl, rfl, _, sh, rfl, ex_wi_id _ _ _, ?_⟩
    rw [if_pos rfl]
    exact hX
