/-! The reference: an origin's work -/
def arow (t n code : Int32) : Nat → Int32 := fun j => match j with
  | 0 => t
  | 1 => 1
  | 2 => n
  | 3 => code
  | _ => 0
def m_tg (s : MS) (p : Nat) (v : Int32) : Int32 := 4 * s.1 8 p + (if s.1 10 p = 1 then v else 0)
def grow (s : MS) (t n : Int32) (p : Nat) (cm : Nat → Int32) : Nat → Int32 := fun j => match j with
  | 0 => t
  | 1 => 1
  | 2 => n
  | 3 => if cm 4 = m_tg s p (cm 6) then 304 else 200
  | 4 => m_tg s p (cm 6)
  | 5 => 0
  | 6 => 0
  | 7 => s.1 9 p
  | 8 => s.1 10 p
  | 9 => s.1 8 p
  | 10 => s.1 11 (4 * p)
  | 11 => s.1 11 (4 * p + 1)
  | 12 => s.1 11 (4 * p + 2)
  | 13 => s.1 11 (4 * p + 3)
  | _ => s.1 805 0
def m_wkr (s : MS) (t n : Int32) (p : Nat) (cm : Nat → Int32) : Nat → Int32 :=
  if cm 3 = 1 then (if s.1 8 p = 0 then arow t n 404 else grow s t n p cm)
  else if cm 3 = 2 then arow t n 204 else (if s.1 8 p = 0 then arow t n 404 else arow t n 204)
def m_wk2 (s : MS) (p : Nat) (y : Int32) : MS := cw (cw s 8 p (s.1 806 0)) 9 p y
def m_wks (s : MS) (p : Nat) (cm : Nat → Int32) : MS :=
  if cm 3 = 1 then s else if cm 3 = 2 then
    (if s.1 8 p = 0 then m_wk2 (cw (cw (cw (cw (cw (cw s 806 0 (s.1 806 0 + 1)) 11 (4 * p) 0) 11 (4 * p + 1) (-1)) 11 (4 * p + 2) (-1)) 11 (4 * p + 3) (-1)) 10 p 0) p (cm 7)
     else m_wk2 (cw (cw s 806 0 (s.1 806 0 + 1)) 10 p (s.1 10 p)) p (cm 7))
  else cw s 8 p 0
theorem bl_row (X : Nat → Int32) (x n w : Int32) : ∀ j, j < 15 → bl X x 1 n w (255 + j) = arow x n w j := by
  intro j hj
  rcases (by omega : j = 0 ∨ j = 1 ∨ j = 2 ∨ j = 3 ∨ j = 4 ∨ j = 5 ∨ j = 6 ∨ j = 7 ∨ j = 8 ∨ j = 9 ∨ j = 10 ∨ j = 11 ∨ j = 12 ∨ j = 13 ∨ j = 14) with rfl | rfl | rfl | rfl | rfl | rfl | rfl | rfl | rfl | rfl | rfl | rfl | rfl | rfl | rfl
  all_goals rfl
theorem sp_workG {Γ : ex_G} {d : Nat} {K : ex_K} {I : ex_I} {F : ex_F} {b : Nat} {m : Nat} {ad : Nat → Nat} {s : MS} (hR : rf_ok K F m ad) (h : rr I m ad s) {p : Nat} {cm : Nat → Int32} {x1 n : Int32} (hm : cm_ok I ad cm) (hp : p < 8) (h5 : cm 5 = nI p) (hk : cm 3 = 1) (hv : ¬ s.1 8 p = 0) : ex_E Γ (d + 1) M_Mdl_work 0 [some (.inr (some m)), some (.inl x1), some (.inl n), none, none, none, none, none] [] K I F b (fun x K' I' F' => x = none ∧ K = K' ∧ F = F' ∧ rr I' m ad (m_wks s p cm) ∧ ∀ j, j < 15 → I' 21 (ad 31) (255 + j) = m_wkr s x1 n p cm j) := by
  have m1 := hR.1
  have v8 := h.1 8 (by decide)
  have v9 := h.1 9 (by decide)
  have v10 := h.1 10 (by decide)
  have v11 := h.1 11 (by decide)
  have eT := h.2.2.1 805 (by decide)
  have e6 := h.2.2.1 806 (by decide)
  have n8 : ad 8 ≠ ad 31 := rf_ne hR (by decide)
  have n9 : ad 9 ≠ ad 31 := rf_ne hR (by decide)
  have n10 : ad 10 ≠ ad 31 := rf_ne hR (by decide)
  have n11 : ad 11 ≠ ad 31 := rf_ne hR (by decide)
  have n1011 : ad 10 ≠ ad 11 := rf_ne hR (by decide)
  have c3 : I 21 (ad 31) 243 = cm 3 := hm 3 (by decide)
  have c4 : I 21 (ad 31) 244 = cm 4 := hm 4 (by decide)
  have c5 : I 21 (ad 31) 245 = cm 5 := hm 5 (by decide)
  have c6 : I 21 (ad 31) 246 = cm 6 := hm 6 (by decide)
  have c7 : I 21 (ad 31) 247 = cm 7 := hm 7 (by decide)
  have e0 : m_wkr s x1 n p cm = grow s x1 n p cm := by
    unfold m_wkr
    rw [if_pos hk, if_neg hv]
  have e1 : m_wks s p cm = s := by
    unfold m_wks
    rw [if_pos hk]
  rw [e0, e1]
  refine s_Mdl_work_0 ?_
  refine s_Mdl_work_1 (by first | rfl | assumption | (simp [*]; done)) (by first | rfl | assumption | (simp [*]; done)) ?_
  refine s_Mdl_work_4 ?_
  refine s_Mdl_work_7 (by first | exact rf_row hR | rfl) (by exact rk_row hR) (by rw [rn_row hR]; exact n_in (a := 245) (by first | rfl | (simp only [nl_1, nl_2, nl_3, nl_4, nl_5, nl_6, nl_7, nl_8, nl_9, nl_10, nl_11, nl_12, nl_13, nl_14, nl_15, nl_16, nl_32, nl_240, nl_250, nl_255, nl_265, nl_270, nl_0, nI_add, pk_mul]; done)) (by omega) (by omega)) ?_
  refine ex_ixl (q := 245) (by first | rfl | (simp only [nl_1, nl_2, nl_3, nl_4, nl_5, nl_6, nl_7, nl_8, nl_9, nl_10, nl_11, nl_12, nl_13, nl_14, nl_15, nl_16, nl_32, nl_240, nl_250, nl_255, nl_265, nl_270, nl_0, nI_add, pk_mul]; done)) (by omega) ?_
  rw [c5, h5]
  refine s_Mdl_work_8 ?_
  refine s_Mdl_work_9 ?_
  refine s_Mdl_work_10 (by first | rfl | assumption | (simp [*]; done)) (by first | rfl | assumption | (simp [*]; done)) ?_
  refine s_Mdl_work_13 ?_
  refine s_Mdl_work_16 (by first | exact rf_row hR | rfl) (by exact rk_row hR) (by rw [rn_row hR]; exact n_in (a := 243) (by first | rfl | (simp only [nl_1, nl_2, nl_3, nl_4, nl_5, nl_6, nl_7, nl_8, nl_9, nl_10, nl_11, nl_12, nl_13, nl_14, nl_15, nl_16, nl_32, nl_240, nl_250, nl_255, nl_265, nl_270, nl_0, nI_add, pk_mul]; done)) (by omega) (by omega)) ?_
  refine ex_ixl (q := 243) (by first | rfl | (simp only [nl_1, nl_2, nl_3, nl_4, nl_5, nl_6, nl_7, nl_8, nl_9, nl_10, nl_11, nl_12, nl_13, nl_14, nl_15, nl_16, nl_32, nl_240, nl_250, nl_255, nl_265, nl_270, nl_0, nI_add, pk_mul]; done)) (by omega) ?_
  rw [c3, hk]
  refine s_Mdl_work_17 ?_
  refine s_Mdl_work_19 ?_
  refine s_Mdl_work_20 (by first | rfl | assumption | (simp [*]; done)) (by first | rfl | assumption | (simp [*]; done)) ?_
  refine s_Mdl_work_23 ?_
  refine s_Mdl_work_24 (by first | exact rf_version hR | rfl) (by exact rk_version hR) (by rw [rn_version hR]; exact n_in (a := p) (by first | rfl | (simp only [nl_1, nl_2, nl_3, nl_4, nl_5, nl_6, nl_7, nl_8, nl_9, nl_10, nl_11, nl_12, nl_13, nl_14, nl_15, nl_16, nl_32, nl_240, nl_250, nl_255, nl_265, nl_270, nl_0, nI_add, pk_mul]; done)) (by omega) (by omega)) ?_
  refine ex_ixl (q := p) (by first | rfl | (simp only [nl_1, nl_2, nl_3, nl_4, nl_5, nl_6, nl_7, nl_8, nl_9, nl_10, nl_11, nl_12, nl_13, nl_14, nl_15, nl_16, nl_32, nl_240, nl_250, nl_255, nl_265, nl_270, nl_0, nI_add, pk_mul]; done)) (by omega) ?_
  rw [v8]
  refine s_Mdl_work_25 (fun h25 => ?_) (fun h25 => absurd h25 (by exact hv))
  refine s_Mdl_work_32 ?_
  refine s_Mdl_work_33 ?_
  refine s_Mdl_work_35 ?_
  refine s_Mdl_work_36 ?_
  refine s_Mdl_work_37 ?_
  refine s_Mdl_work_38 ?_
  refine s_Mdl_work_39 ?_
  refine s_Mdl_work_41 (fun h41 => ?_) (fun h41 => absurd h41 (by exact fun q => q rfl))
  refine s_Mdl_work_56 ?_
  refine s_Mdl_work_58 ?_
  refine s_Mdl_work_59 (fun h59 => absurd h59 (by exact fun q => q rfl)) (fun h59 => ?_)
  refine s_Mdl_work_62 ?_
  refine s_Mdl_work_65 ?_
  refine s_Mdl_work_71 (b1 := 0) (b2 := b) (by first | rfl | assumption | (simp [*]; done)) (by first | rfl | assumption | (simp [*]; done)) (sp_blank hR) ?_ (by omega)
  rintro _ _ _ _ ⟨rfl, rfl, rfl, rfl⟩
  dsimp only [Option.toList, List.cons_append, List.nil_append]
  refine s_Mdl_work_74 ?_
  refine s_Mdl_work_76 ?_
  refine s_Mdl_work_77 (fun h77 => absurd h77 (by exact fun q => q rfl)) (fun h77 => ?_)
  refine s_Mdl_work_80 ?_
  refine s_Mdl_work_82 (fun h82 => absurd h82 (by exact fun q => q rfl)) (fun h82 => ?_)
  refine s_Mdl_work_85 ?_
  refine s_Mdl_work_86 ?_
  refine s_Mdl_work_87 (by first | rfl | assumption | (simp [*]; done)) (by first | rfl | assumption | (simp [*]; done)) ?_
  refine s_Mdl_work_90 ?_
  refine s_Mdl_work_91 (by first | exact rf_version hR | rfl) (by exact rk_version hR) (by rw [rn_version hR]; exact n_in (a := p) (by first | rfl | (simp only [nl_1, nl_2, nl_3, nl_4, nl_5, nl_6, nl_7, nl_8, nl_9, nl_10, nl_11, nl_12, nl_13, nl_14, nl_15, nl_16, nl_32, nl_240, nl_250, nl_255, nl_265, nl_270, nl_0, nI_add, pk_mul]; done)) (by omega) (by omega)) ?_
  refine ex_ixl (q := p) (by first | rfl | (simp only [nl_1, nl_2, nl_3, nl_4, nl_5, nl_6, nl_7, nl_8, nl_9, nl_10, nl_11, nl_12, nl_13, nl_14, nl_15, nl_16, nl_32, nl_240, nl_250, nl_255, nl_265, nl_270, nl_0, nI_add, pk_mul]; done)) (by omega) ?_
  rw [ex_wi_ne _ _ _ n8, v8]
  refine s_Mdl_work_92 ?_
  refine s_Mdl_work_93 ?_
  refine s_Mdl_work_94 (by first | rfl | assumption | (simp [*]; done)) (by first | rfl | assumption | (simp [*]; done)) ?_
  refine s_Mdl_work_97 ?_
  refine s_Mdl_work_98 (by first | exact rf_vary hR | rfl) (by exact rk_vary hR) (by rw [rn_vary hR]; exact n_in (a := p) (by first | rfl | (simp only [nl_1, nl_2, nl_3, nl_4, nl_5, nl_6, nl_7, nl_8, nl_9, nl_10, nl_11, nl_12, nl_13, nl_14, nl_15, nl_16, nl_32, nl_240, nl_250, nl_255, nl_265, nl_270, nl_0, nI_add, pk_mul]; done)) (by omega) (by omega)) ?_
  refine ex_ixl (q := p) (by first | rfl | (simp only [nl_1, nl_2, nl_3, nl_4, nl_5, nl_6, nl_7, nl_8, nl_9, nl_10, nl_11, nl_12, nl_13, nl_14, nl_15, nl_16, nl_32, nl_240, nl_250, nl_255, nl_265, nl_270, nl_0, nI_add, pk_mul]; done)) (by omega) ?_
  rw [ex_wi_ne _ _ _ n10, v10]
  refine s_Mdl_work_99 ?_
  refine s_Mdl_work_100 (fun h100 => ?_) (fun h100 => ?_)
  · refine s_Mdl_work_114 ?_
    refine s_Mdl_work_115 ?_
    refine s_Mdl_work_116 ?_
    refine s_Mdl_work_118 ?_
    refine s_Mdl_work_119 (by first | rfl | assumption | (simp [*]; done)) (by first | rfl | assumption | (simp [*]; done)) ?_
    refine s_Mdl_work_122 ?_
    refine s_Mdl_work_125 ?_
    refine s_Mdl_work_126 (by first | rfl | assumption | (simp [*]; done)) (by first | rfl | assumption | (simp [*]; done)) ?_
    refine s_Mdl_work_129 ?_
    refine s_Mdl_work_132 (by first | exact rf_row hR | rfl) (by exact rk_row hR) (by rw [rn_row hR]; exact n_in (a := 244) (by first | rfl | (simp only [nl_1, nl_2, nl_3, nl_4, nl_5, nl_6, nl_7, nl_8, nl_9, nl_10, nl_11, nl_12, nl_13, nl_14, nl_15, nl_16, nl_32, nl_240, nl_250, nl_255, nl_265, nl_270, nl_0, nI_add, pk_mul]; done)) (by omega) (by omega)) ?_
    refine ex_ixl (q := 244) (by first | rfl | (simp only [nl_1, nl_2, nl_3, nl_4, nl_5, nl_6, nl_7, nl_8, nl_9, nl_10, nl_11, nl_12, nl_13, nl_14, nl_15, nl_16, nl_32, nl_240, nl_250, nl_255, nl_265, nl_270, nl_0, nI_add, pk_mul]; done)) (by omega) ?_
    rw [ex_wi_at, bl_out _ _ _ _ _ 244 (by decide), c4]
    refine s_Mdl_work_133 ?_
    refine s_Mdl_work_135 (fun h135 => ?_) (fun h135 => ?_)
    · refine s_Mdl_work_144 ?_
      refine s_Mdl_work_147 (by first | exact rf_row hR | rfl) (by exact rk_row hR) (by rw [rn_row hR]; exact n_in (a := 258) (by first | rfl | (simp only [nl_1, nl_2, nl_3, nl_4, nl_5, nl_6, nl_7, nl_8, nl_9, nl_10, nl_11, nl_12, nl_13, nl_14, nl_15, nl_16, nl_32, nl_240, nl_250, nl_255, nl_265, nl_270, nl_0, nI_add, pk_mul]; done)) (by omega) (by omega)) ?_
      refine ex_ixs (q := 258) (by first | rfl | (simp only [nl_1, nl_2, nl_3, nl_4, nl_5, nl_6, nl_7, nl_8, nl_9, nl_10, nl_11, nl_12, nl_13, nl_14, nl_15, nl_16, nl_32, nl_240, nl_250, nl_255, nl_265, nl_270, nl_0, nI_add, pk_mul]; done)) (by omega) ?_
      refine s_Mdl_work_148 ?_
      refine s_Mdl_work_149 (by first | rfl | assumption | (simp [*]; done)) (by first | rfl | assumption | (simp [*]; done)) ?_
      refine s_Mdl_work_152 ?_
      refine s_Mdl_work_155 ?_
      refine s_Mdl_work_157 (by first | exact rf_row hR | rfl) (by exact rk_row hR) (by rw [rn_row hR]; exact n_in (a := 259) (by first | rfl | (simp only [nl_1, nl_2, nl_3, nl_4, nl_5, nl_6, nl_7, nl_8, nl_9, nl_10, nl_11, nl_12, nl_13, nl_14, nl_15, nl_16, nl_32, nl_240, nl_250, nl_255, nl_265, nl_270, nl_0, nI_add, pk_mul]; done)) (by omega) (by omega)) ?_
      refine ex_ixs (q := 259) (by first | rfl | (simp only [nl_1, nl_2, nl_3, nl_4, nl_5, nl_6, nl_7, nl_8, nl_9, nl_10, nl_11, nl_12, nl_13, nl_14, nl_15, nl_16, nl_32, nl_240, nl_250, nl_255, nl_265, nl_270, nl_0, nI_add, pk_mul]; done)) (by omega) ?_
      refine s_Mdl_work_158 ?_
      refine s_Mdl_work_159 (by first | rfl | assumption | (simp [*]; done)) (by first | rfl | assumption | (simp [*]; done)) ?_
      refine s_Mdl_work_162 ?_
      refine s_Mdl_work_165 ?_
      refine s_Mdl_work_166 (by first | rfl | assumption | (simp [*]; done)) (by first | rfl | assumption | (simp [*]; done)) ?_
      refine s_Mdl_work_169 ?_
      refine s_Mdl_work_170 (by first | exact rf_big hR | rfl) (by exact rk_big hR) (by rw [rn_big hR]; exact n_in (a := p) (by first | rfl | (simp only [nl_1, nl_2, nl_3, nl_4, nl_5, nl_6, nl_7, nl_8, nl_9, nl_10, nl_11, nl_12, nl_13, nl_14, nl_15, nl_16, nl_32, nl_240, nl_250, nl_255, nl_265, nl_270, nl_0, nI_add, pk_mul]; done)) (by omega) (by omega)) ?_
      refine ex_ixl (q := p) (by first | rfl | (simp only [nl_1, nl_2, nl_3, nl_4, nl_5, nl_6, nl_7, nl_8, nl_9, nl_10, nl_11, nl_12, nl_13, nl_14, nl_15, nl_16, nl_32, nl_240, nl_250, nl_255, nl_265, nl_270, nl_0, nI_add, pk_mul]; done)) (by omega) ?_
      simp only [ex_ui_ne _ _ _ _ n9]
      rw [ex_wi_ne _ _ _ n9, v9]
      refine s_Mdl_work_171 (by first | exact rf_row hR | rfl) (by exact rk_row hR) (by rw [rn_row hR]; exact n_in (a := 262) (by first | rfl | (simp only [nl_1, nl_2, nl_3, nl_4, nl_5, nl_6, nl_7, nl_8, nl_9, nl_10, nl_11, nl_12, nl_13, nl_14, nl_15, nl_16, nl_32, nl_240, nl_250, nl_255, nl_265, nl_270, nl_0, nI_add, pk_mul]; done)) (by omega) (by omega)) ?_
      refine ex_ixs (q := 262) (by first | rfl | (simp only [nl_1, nl_2, nl_3, nl_4, nl_5, nl_6, nl_7, nl_8, nl_9, nl_10, nl_11, nl_12, nl_13, nl_14, nl_15, nl_16, nl_32, nl_240, nl_250, nl_255, nl_265, nl_270, nl_0, nI_add, pk_mul]; done)) (by omega) ?_
      refine s_Mdl_work_172 ?_
      refine s_Mdl_work_173 (by first | rfl | assumption | (simp [*]; done)) (by first | rfl | assumption | (simp [*]; done)) ?_
      refine s_Mdl_work_176 ?_
      refine s_Mdl_work_179 ?_
      refine s_Mdl_work_180 (by first | rfl | assumption | (simp [*]; done)) (by first | rfl | assumption | (simp [*]; done)) ?_
      refine s_Mdl_work_183 ?_
      refine s_Mdl_work_184 (by first | exact rf_vary hR | rfl) (by exact rk_vary hR) (by rw [rn_vary hR]; exact n_in (a := p) (by first | rfl | (simp only [nl_1, nl_2, nl_3, nl_4, nl_5, nl_6, nl_7, nl_8, nl_9, nl_10, nl_11, nl_12, nl_13, nl_14, nl_15, nl_16, nl_32, nl_240, nl_250, nl_255, nl_265, nl_270, nl_0, nI_add, pk_mul]; done)) (by omega) (by omega)) ?_
      refine ex_ixl (q := p) (by first | rfl | (simp only [nl_1, nl_2, nl_3, nl_4, nl_5, nl_6, nl_7, nl_8, nl_9, nl_10, nl_11, nl_12, nl_13, nl_14, nl_15, nl_16, nl_32, nl_240, nl_250, nl_255, nl_265, nl_270, nl_0, nI_add, pk_mul]; done)) (by omega) ?_
      simp only [ex_ui_ne _ _ _ _ n10]
      rw [ex_wi_ne _ _ _ n10, v10]
      refine s_Mdl_work_185 (by first | exact rf_row hR | rfl) (by exact rk_row hR) (by rw [rn_row hR]; exact n_in (a := 263) (by first | rfl | (simp only [nl_1, nl_2, nl_3, nl_4, nl_5, nl_6, nl_7, nl_8, nl_9, nl_10, nl_11, nl_12, nl_13, nl_14, nl_15, nl_16, nl_32, nl_240, nl_250, nl_255, nl_265, nl_270, nl_0, nI_add, pk_mul]; done)) (by omega) (by omega)) ?_
      refine ex_ixs (q := 263) (by first | rfl | (simp only [nl_1, nl_2, nl_3, nl_4, nl_5, nl_6, nl_7, nl_8, nl_9, nl_10, nl_11, nl_12, nl_13, nl_14, nl_15, nl_16, nl_32, nl_240, nl_250, nl_255, nl_265, nl_270, nl_0, nI_add, pk_mul]; done)) (by omega) ?_
      refine s_Mdl_work_186 ?_
      refine s_Mdl_work_187 (by first | rfl | assumption | (simp [*]; done)) (by first | rfl | assumption | (simp [*]; done)) ?_
      refine s_Mdl_work_190 ?_
      refine s_Mdl_work_193 ?_
      refine s_Mdl_work_194 (by first | rfl | assumption | (simp [*]; done)) (by first | rfl | assumption | (simp [*]; done)) ?_
      refine s_Mdl_work_197 ?_
      refine s_Mdl_work_198 (by first | exact rf_version hR | rfl) (by exact rk_version hR) (by rw [rn_version hR]; exact n_in (a := p) (by first | rfl | (simp only [nl_1, nl_2, nl_3, nl_4, nl_5, nl_6, nl_7, nl_8, nl_9, nl_10, nl_11, nl_12, nl_13, nl_14, nl_15, nl_16, nl_32, nl_240, nl_250, nl_255, nl_265, nl_270, nl_0, nI_add, pk_mul]; done)) (by omega) (by omega)) ?_
      refine ex_ixl (q := p) (by first | rfl | (simp only [nl_1, nl_2, nl_3, nl_4, nl_5, nl_6, nl_7, nl_8, nl_9, nl_10, nl_11, nl_12, nl_13, nl_14, nl_15, nl_16, nl_32, nl_240, nl_250, nl_255, nl_265, nl_270, nl_0, nI_add, pk_mul]; done)) (by omega) ?_
      simp only [ex_ui_ne _ _ _ _ n8]
      rw [ex_wi_ne _ _ _ n8, v8]
      refine s_Mdl_work_199 (by first | exact rf_row hR | rfl) (by exact rk_row hR) (by rw [rn_row hR]; exact n_in (a := 264) (by first | rfl | (simp only [nl_1, nl_2, nl_3, nl_4, nl_5, nl_6, nl_7, nl_8, nl_9, nl_10, nl_11, nl_12, nl_13, nl_14, nl_15, nl_16, nl_32, nl_240, nl_250, nl_255, nl_265, nl_270, nl_0, nI_add, pk_mul]; done)) (by omega) (by omega)) ?_
      refine ex_ixs (q := 264) (by first | rfl | (simp only [nl_1, nl_2, nl_3, nl_4, nl_5, nl_6, nl_7, nl_8, nl_9, nl_10, nl_11, nl_12, nl_13, nl_14, nl_15, nl_16, nl_32, nl_240, nl_250, nl_255, nl_265, nl_270, nl_0, nI_add, pk_mul]; done)) (by omega) ?_
      refine s_Mdl_work_200 ?_
      refine s_Mdl_work_201 (by first | rfl | assumption | (simp [*]; done)) (by first | rfl | assumption | (simp [*]; done)) ?_
      refine s_Mdl_work_204 ?_
      refine s_Mdl_work_207 ?_
      refine s_Mdl_work_208 (by first | rfl | assumption | (simp [*]; done)) (by first | rfl | assumption | (simp [*]; done)) ?_
      simp only [ex_ui_f _ _ _ _ (show 805 ≠ 21 by decide)]
      rw [ex_wi_f _ _ _ (show 805 ≠ 21 by decide), eT]
      refine s_Mdl_work_211 (by first | exact rf_row hR | rfl) (by exact rk_row hR) (by rw [rn_row hR]; exact n_in (a := 269) (by first | rfl | (simp only [nl_1, nl_2, nl_3, nl_4, nl_5, nl_6, nl_7, nl_8, nl_9, nl_10, nl_11, nl_12, nl_13, nl_14, nl_15, nl_16, nl_32, nl_240, nl_250, nl_255, nl_265, nl_270, nl_0, nI_add, pk_mul]; done)) (by omega) (by omega)) ?_
      refine ex_ixs (q := 269) (by first | rfl | (simp only [nl_1, nl_2, nl_3, nl_4, nl_5, nl_6, nl_7, nl_8, nl_9, nl_10, nl_11, nl_12, nl_13, nl_14, nl_15, nl_16, nl_32, nl_240, nl_250, nl_255, nl_265, nl_270, nl_0, nI_add, pk_mul]; done)) (by omega) ?_
      refine s_Mdl_work_212 ?_
      refine s_Mdl_work_213 ?_
      refine s_Mdl_work_215 ?_
      refine s_Mdl_work_217 ?_
      refine s_Mdl_work_218 (fun h218 => absurd h218 (by decide)) (fun h218 => ?_)
      refine s_Mdl_work_221 ?_
      refine s_Mdl_work_222 (by first | rfl | assumption | (simp [*]; done)) (by first | rfl | assumption | (simp [*]; done)) ?_
      refine s_Mdl_work_225 ?_
      refine s_Mdl_work_228 ?_
      refine s_Mdl_work_230 ?_
      refine s_Mdl_work_231 ?_
      refine s_Mdl_work_232 (by first | rfl | assumption | (simp [*]; done)) (by first | rfl | assumption | (simp [*]; done)) ?_
      refine s_Mdl_work_235 ?_
      refine s_Mdl_work_236 ?_
      refine s_Mdl_work_237 ?_
      refine s_Mdl_work_238 ?_
      refine s_Mdl_work_240 ?_
      refine s_Mdl_work_241 (by first | exact rf_control hR | rfl) (by exact rk_control hR) (by rw [rn_control hR]; exact n_in (a := ((4 * p) + 0)) (by first | rfl | (simp only [nl_1, nl_2, nl_3, nl_4, nl_5, nl_6, nl_7, nl_8, nl_9, nl_10, nl_11, nl_12, nl_13, nl_14, nl_15, nl_16, nl_32, nl_240, nl_250, nl_255, nl_265, nl_270, nl_0, nI_add, pk_mul]; done)) (by omega) (by omega)) ?_
      refine ex_ixl (q := ((4 * p) + 0)) (by first | rfl | (simp only [nl_1, nl_2, nl_3, nl_4, nl_5, nl_6, nl_7, nl_8, nl_9, nl_10, nl_11, nl_12, nl_13, nl_14, nl_15, nl_16, nl_32, nl_240, nl_250, nl_255, nl_265, nl_270, nl_0, nI_add, pk_mul]; done)) (by omega) ?_
      simp only [ex_ui_ne _ _ _ _ n11]
      rw [ex_wi_ne _ _ _ n11, v11]
      refine s_Mdl_work_242 (by first | exact rf_row hR | rfl) (by exact rk_row hR) (by rw [rn_row hR]; exact n_in (a := (265 + 0)) (by first | rfl | (simp only [nl_1, nl_2, nl_3, nl_4, nl_5, nl_6, nl_7, nl_8, nl_9, nl_10, nl_11, nl_12, nl_13, nl_14, nl_15, nl_16, nl_32, nl_240, nl_250, nl_255, nl_265, nl_270, nl_0, nI_add, pk_mul]; done)) (by omega) (by omega)) ?_
      refine ex_ixs (q := (265 + 0)) (by first | rfl | (simp only [nl_1, nl_2, nl_3, nl_4, nl_5, nl_6, nl_7, nl_8, nl_9, nl_10, nl_11, nl_12, nl_13, nl_14, nl_15, nl_16, nl_32, nl_240, nl_250, nl_255, nl_265, nl_270, nl_0, nI_add, pk_mul]; done)) (by omega) ?_
      refine s_Mdl_work_243 ?_
      refine s_Mdl_work_246 ?_
      refine s_Mdl_work_215 ?_
      refine s_Mdl_work_217 ?_
      refine s_Mdl_work_218 (fun h218 => absurd h218 (by decide)) (fun h218 => ?_)
      refine s_Mdl_work_221 ?_
      refine s_Mdl_work_222 (by first | rfl | assumption | (simp [*]; done)) (by first | rfl | assumption | (simp [*]; done)) ?_
      refine s_Mdl_work_225 ?_
      refine s_Mdl_work_228 ?_
      refine s_Mdl_work_230 ?_
      refine s_Mdl_work_231 ?_
      refine s_Mdl_work_232 (by first | rfl | assumption | (simp [*]; done)) (by first | rfl | assumption | (simp [*]; done)) ?_
      refine s_Mdl_work_235 ?_
      refine s_Mdl_work_236 ?_
      refine s_Mdl_work_237 ?_
      refine s_Mdl_work_238 ?_
      refine s_Mdl_work_240 ?_
      refine s_Mdl_work_241 (by first | exact rf_control hR | rfl) (by exact rk_control hR) (by rw [rn_control hR]; exact n_in (a := ((4 * p) + (0 + 1))) (by first | rfl | (simp only [nl_1, nl_2, nl_3, nl_4, nl_5, nl_6, nl_7, nl_8, nl_9, nl_10, nl_11, nl_12, nl_13, nl_14, nl_15, nl_16, nl_32, nl_240, nl_250, nl_255, nl_265, nl_270, nl_0, nI_add, pk_mul]; done)) (by omega) (by omega)) ?_
      refine ex_ixl (q := ((4 * p) + (0 + 1))) (by first | rfl | (simp only [nl_1, nl_2, nl_3, nl_4, nl_5, nl_6, nl_7, nl_8, nl_9, nl_10, nl_11, nl_12, nl_13, nl_14, nl_15, nl_16, nl_32, nl_240, nl_250, nl_255, nl_265, nl_270, nl_0, nI_add, pk_mul]; done)) (by omega) ?_
      simp only [ex_ui_ne _ _ _ _ n11]
      rw [ex_wi_ne _ _ _ n11, v11]
      refine s_Mdl_work_242 (by first | exact rf_row hR | rfl) (by exact rk_row hR) (by rw [rn_row hR]; exact n_in (a := (265 + (0 + 1))) (by first | rfl | (simp only [nl_1, nl_2, nl_3, nl_4, nl_5, nl_6, nl_7, nl_8, nl_9, nl_10, nl_11, nl_12, nl_13, nl_14, nl_15, nl_16, nl_32, nl_240, nl_250, nl_255, nl_265, nl_270, nl_0, nI_add, pk_mul]; done)) (by omega) (by omega)) ?_
      refine ex_ixs (q := (265 + (0 + 1))) (by first | rfl | (simp only [nl_1, nl_2, nl_3, nl_4, nl_5, nl_6, nl_7, nl_8, nl_9, nl_10, nl_11, nl_12, nl_13, nl_14, nl_15, nl_16, nl_32, nl_240, nl_250, nl_255, nl_265, nl_270, nl_0, nI_add, pk_mul]; done)) (by omega) ?_
      refine s_Mdl_work_243 ?_
      refine s_Mdl_work_246 ?_
      refine s_Mdl_work_215 ?_
      refine s_Mdl_work_217 ?_
      refine s_Mdl_work_218 (fun h218 => absurd h218 (by decide)) (fun h218 => ?_)
      refine s_Mdl_work_221 ?_
      refine s_Mdl_work_222 (by first | rfl | assumption | (simp [*]; done)) (by first | rfl | assumption | (simp [*]; done)) ?_
      refine s_Mdl_work_225 ?_
      refine s_Mdl_work_228 ?_
      refine s_Mdl_work_230 ?_
      refine s_Mdl_work_231 ?_
      refine s_Mdl_work_232 (by first | rfl | assumption | (simp [*]; done)) (by first | rfl | assumption | (simp [*]; done)) ?_
      refine s_Mdl_work_235 ?_
      refine s_Mdl_work_236 ?_
      refine s_Mdl_work_237 ?_
      refine s_Mdl_work_238 ?_
      refine s_Mdl_work_240 ?_
      refine s_Mdl_work_241 (by first | exact rf_control hR | rfl) (by exact rk_control hR) (by rw [rn_control hR]; exact n_in (a := ((4 * p) + ((0 + 1) + 1))) (by first | rfl | (simp only [nl_1, nl_2, nl_3, nl_4, nl_5, nl_6, nl_7, nl_8, nl_9, nl_10, nl_11, nl_12, nl_13, nl_14, nl_15, nl_16, nl_32, nl_240, nl_250, nl_255, nl_265, nl_270, nl_0, nI_add, pk_mul]; done)) (by omega) (by omega)) ?_
      refine ex_ixl (q := ((4 * p) + ((0 + 1) + 1))) (by first | rfl | (simp only [nl_1, nl_2, nl_3, nl_4, nl_5, nl_6, nl_7, nl_8, nl_9, nl_10, nl_11, nl_12, nl_13, nl_14, nl_15, nl_16, nl_32, nl_240, nl_250, nl_255, nl_265, nl_270, nl_0, nI_add, pk_mul]; done)) (by omega) ?_
      simp only [ex_ui_ne _ _ _ _ n11]
      rw [ex_wi_ne _ _ _ n11, v11]
      refine s_Mdl_work_242 (by first | exact rf_row hR | rfl) (by exact rk_row hR) (by rw [rn_row hR]; exact n_in (a := (265 + ((0 + 1) + 1))) (by first | rfl | (simp only [nl_1, nl_2, nl_3, nl_4, nl_5, nl_6, nl_7, nl_8, nl_9, nl_10, nl_11, nl_12, nl_13, nl_14, nl_15, nl_16, nl_32, nl_240, nl_250, nl_255, nl_265, nl_270, nl_0, nI_add, pk_mul]; done)) (by omega) (by omega)) ?_
      refine ex_ixs (q := (265 + ((0 + 1) + 1))) (by first | rfl | (simp only [nl_1, nl_2, nl_3, nl_4, nl_5, nl_6, nl_7, nl_8, nl_9, nl_10, nl_11, nl_12, nl_13, nl_14, nl_15, nl_16, nl_32, nl_240, nl_250, nl_255, nl_265, nl_270, nl_0, nI_add, pk_mul]; done)) (by omega) ?_
      refine s_Mdl_work_243 ?_
      refine s_Mdl_work_246 ?_
      refine s_Mdl_work_215 ?_
      refine s_Mdl_work_217 ?_
      refine s_Mdl_work_218 (fun h218 => absurd h218 (by decide)) (fun h218 => ?_)
      refine s_Mdl_work_221 ?_
      refine s_Mdl_work_222 (by first | rfl | assumption | (simp [*]; done)) (by first | rfl | assumption | (simp [*]; done)) ?_
      refine s_Mdl_work_225 ?_
      refine s_Mdl_work_228 ?_
      refine s_Mdl_work_230 ?_
      refine s_Mdl_work_231 ?_
      refine s_Mdl_work_232 (by first | rfl | assumption | (simp [*]; done)) (by first | rfl | assumption | (simp [*]; done)) ?_
      refine s_Mdl_work_235 ?_
      refine s_Mdl_work_236 ?_
      refine s_Mdl_work_237 ?_
      refine s_Mdl_work_238 ?_
      refine s_Mdl_work_240 ?_
      refine s_Mdl_work_241 (by first | exact rf_control hR | rfl) (by exact rk_control hR) (by rw [rn_control hR]; exact n_in (a := ((4 * p) + (((0 + 1) + 1) + 1))) (by first | rfl | (simp only [nl_1, nl_2, nl_3, nl_4, nl_5, nl_6, nl_7, nl_8, nl_9, nl_10, nl_11, nl_12, nl_13, nl_14, nl_15, nl_16, nl_32, nl_240, nl_250, nl_255, nl_265, nl_270, nl_0, nI_add, pk_mul]; done)) (by omega) (by omega)) ?_
      refine ex_ixl (q := ((4 * p) + (((0 + 1) + 1) + 1))) (by first | rfl | (simp only [nl_1, nl_2, nl_3, nl_4, nl_5, nl_6, nl_7, nl_8, nl_9, nl_10, nl_11, nl_12, nl_13, nl_14, nl_15, nl_16, nl_32, nl_240, nl_250, nl_255, nl_265, nl_270, nl_0, nI_add, pk_mul]; done)) (by omega) ?_
      simp only [ex_ui_ne _ _ _ _ n11]
      rw [ex_wi_ne _ _ _ n11, v11]
      refine s_Mdl_work_242 (by first | exact rf_row hR | rfl) (by exact rk_row hR) (by rw [rn_row hR]; exact n_in (a := (265 + (((0 + 1) + 1) + 1))) (by first | rfl | (simp only [nl_1, nl_2, nl_3, nl_4, nl_5, nl_6, nl_7, nl_8, nl_9, nl_10, nl_11, nl_12, nl_13, nl_14, nl_15, nl_16, nl_32, nl_240, nl_250, nl_255, nl_265, nl_270, nl_0, nI_add, pk_mul]; done)) (by omega) (by omega)) ?_
      refine ex_ixs (q := (265 + (((0 + 1) + 1) + 1))) (by first | rfl | (simp only [nl_1, nl_2, nl_3, nl_4, nl_5, nl_6, nl_7, nl_8, nl_9, nl_10, nl_11, nl_12, nl_13, nl_14, nl_15, nl_16, nl_32, nl_240, nl_250, nl_255, nl_265, nl_270, nl_0, nI_add, pk_mul]; done)) (by omega) ?_
      refine s_Mdl_work_243 ?_
      refine s_Mdl_work_246 ?_
      refine s_Mdl_work_215 ?_
      refine s_Mdl_work_217 ?_
      refine s_Mdl_work_218 (fun h218 => ?_) (fun h218 => absurd h218 (by exact fun q => q (by decide)))
      refine s_Mdl_work_249 ?_
      refine s_Mdl_work_370 ?_
      rw [ex_wi_u, ex_wi_u, ex_wi_u, ex_wi_u, ex_wi_u, ex_wi_u, ex_wi_u, ex_wi_u, ex_wi_u, ex_wi_u]
      refine ⟨rfl, rfl, rfl, rr_bl hR h (fun c hc => ?_), fun j hj => ?_⟩
      · repeat rw [if_neg (by omega)]
        exact bl_out _ _ _ _ _ c hc
      · rw [ex_wi_at]
        have et : m_tg s p (cm 6) = 4 * s.1 8 p + 0 := by
          unfold m_tg
          rw [if_neg h100]
        have e3 : (if cm 4 = m_tg s p (cm 6) then (304 : Int32) else 200) = 200 := by
          rw [et]
          exact if_neg h135
        rcases (by omega : j = 0 ∨ j = 1 ∨ j = 2 ∨ j = 3 ∨ j = 4 ∨ j = 5 ∨ j = 6 ∨ j = 7 ∨ j = 8 ∨ j = 9 ∨ j = 10 ∨ j = 11 ∨ j = 12 ∨ j = 13 ∨ j = 14) with rfl | rfl | rfl | rfl | rfl | rfl | rfl | rfl | rfl | rfl | rfl | rfl | rfl | rfl | rfl
        all_goals
          dsimp only [grow]
          first
            | rfl
            | (rw [et]; rfl)
            | (rw [et] at e3; rw [et, e3]; rfl)
    · refine s_Mdl_work_138 ?_
      refine s_Mdl_work_141 ?_
      refine s_Mdl_work_147 (by first | exact rf_row hR | rfl) (by exact rk_row hR) (by rw [rn_row hR]; exact n_in (a := 258) (by first | rfl | (simp only [nl_1, nl_2, nl_3, nl_4, nl_5, nl_6, nl_7, nl_8, nl_9, nl_10, nl_11, nl_12, nl_13, nl_14, nl_15, nl_16, nl_32, nl_240, nl_250, nl_255, nl_265, nl_270, nl_0, nI_add, pk_mul]; done)) (by omega) (by omega)) ?_
      refine ex_ixs (q := 258) (by first | rfl | (simp only [nl_1, nl_2, nl_3, nl_4, nl_5, nl_6, nl_7, nl_8, nl_9, nl_10, nl_11, nl_12, nl_13, nl_14, nl_15, nl_16, nl_32, nl_240, nl_250, nl_255, nl_265, nl_270, nl_0, nI_add, pk_mul]; done)) (by omega) ?_
      refine s_Mdl_work_148 ?_
      refine s_Mdl_work_149 (by first | rfl | assumption | (simp [*]; done)) (by first | rfl | assumption | (simp [*]; done)) ?_
      refine s_Mdl_work_152 ?_
      refine s_Mdl_work_155 ?_
      refine s_Mdl_work_157 (by first | exact rf_row hR | rfl) (by exact rk_row hR) (by rw [rn_row hR]; exact n_in (a := 259) (by first | rfl | (simp only [nl_1, nl_2, nl_3, nl_4, nl_5, nl_6, nl_7, nl_8, nl_9, nl_10, nl_11, nl_12, nl_13, nl_14, nl_15, nl_16, nl_32, nl_240, nl_250, nl_255, nl_265, nl_270, nl_0, nI_add, pk_mul]; done)) (by omega) (by omega)) ?_
      refine ex_ixs (q := 259) (by first | rfl | (simp only [nl_1, nl_2, nl_3, nl_4, nl_5, nl_6, nl_7, nl_8, nl_9, nl_10, nl_11, nl_12, nl_13, nl_14, nl_15, nl_16, nl_32, nl_240, nl_250, nl_255, nl_265, nl_270, nl_0, nI_add, pk_mul]; done)) (by omega) ?_
      refine s_Mdl_work_158 ?_
      refine s_Mdl_work_159 (by first | rfl | assumption | (simp [*]; done)) (by first | rfl | assumption | (simp [*]; done)) ?_
      refine s_Mdl_work_162 ?_
      refine s_Mdl_work_165 ?_
      refine s_Mdl_work_166 (by first | rfl | assumption | (simp [*]; done)) (by first | rfl | assumption | (simp [*]; done)) ?_
      refine s_Mdl_work_169 ?_
      refine s_Mdl_work_170 (by first | exact rf_big hR | rfl) (by exact rk_big hR) (by rw [rn_big hR]; exact n_in (a := p) (by first | rfl | (simp only [nl_1, nl_2, nl_3, nl_4, nl_5, nl_6, nl_7, nl_8, nl_9, nl_10, nl_11, nl_12, nl_13, nl_14, nl_15, nl_16, nl_32, nl_240, nl_250, nl_255, nl_265, nl_270, nl_0, nI_add, pk_mul]; done)) (by omega) (by omega)) ?_
      refine ex_ixl (q := p) (by first | rfl | (simp only [nl_1, nl_2, nl_3, nl_4, nl_5, nl_6, nl_7, nl_8, nl_9, nl_10, nl_11, nl_12, nl_13, nl_14, nl_15, nl_16, nl_32, nl_240, nl_250, nl_255, nl_265, nl_270, nl_0, nI_add, pk_mul]; done)) (by omega) ?_
      simp only [ex_ui_ne _ _ _ _ n9]
      rw [ex_wi_ne _ _ _ n9, v9]
      refine s_Mdl_work_171 (by first | exact rf_row hR | rfl) (by exact rk_row hR) (by rw [rn_row hR]; exact n_in (a := 262) (by first | rfl | (simp only [nl_1, nl_2, nl_3, nl_4, nl_5, nl_6, nl_7, nl_8, nl_9, nl_10, nl_11, nl_12, nl_13, nl_14, nl_15, nl_16, nl_32, nl_240, nl_250, nl_255, nl_265, nl_270, nl_0, nI_add, pk_mul]; done)) (by omega) (by omega)) ?_
      refine ex_ixs (q := 262) (by first | rfl | (simp only [nl_1, nl_2, nl_3, nl_4, nl_5, nl_6, nl_7, nl_8, nl_9, nl_10, nl_11, nl_12, nl_13, nl_14, nl_15, nl_16, nl_32, nl_240, nl_250, nl_255, nl_265, nl_270, nl_0, nI_add, pk_mul]; done)) (by omega) ?_
      refine s_Mdl_work_172 ?_
      refine s_Mdl_work_173 (by first | rfl | assumption | (simp [*]; done)) (by first | rfl | assumption | (simp [*]; done)) ?_
      refine s_Mdl_work_176 ?_
      refine s_Mdl_work_179 ?_
      refine s_Mdl_work_180 (by first | rfl | assumption | (simp [*]; done)) (by first | rfl | assumption | (simp [*]; done)) ?_
      refine s_Mdl_work_183 ?_
      refine s_Mdl_work_184 (by first | exact rf_vary hR | rfl) (by exact rk_vary hR) (by rw [rn_vary hR]; exact n_in (a := p) (by first | rfl | (simp only [nl_1, nl_2, nl_3, nl_4, nl_5, nl_6, nl_7, nl_8, nl_9, nl_10, nl_11, nl_12, nl_13, nl_14, nl_15, nl_16, nl_32, nl_240, nl_250, nl_255, nl_265, nl_270, nl_0, nI_add, pk_mul]; done)) (by omega) (by omega)) ?_
      refine ex_ixl (q := p) (by first | rfl | (simp only [nl_1, nl_2, nl_3, nl_4, nl_5, nl_6, nl_7, nl_8, nl_9, nl_10, nl_11, nl_12, nl_13, nl_14, nl_15, nl_16, nl_32, nl_240, nl_250, nl_255, nl_265, nl_270, nl_0, nI_add, pk_mul]; done)) (by omega) ?_
      simp only [ex_ui_ne _ _ _ _ n10]
      rw [ex_wi_ne _ _ _ n10, v10]
      refine s_Mdl_work_185 (by first | exact rf_row hR | rfl) (by exact rk_row hR) (by rw [rn_row hR]; exact n_in (a := 263) (by first | rfl | (simp only [nl_1, nl_2, nl_3, nl_4, nl_5, nl_6, nl_7, nl_8, nl_9, nl_10, nl_11, nl_12, nl_13, nl_14, nl_15, nl_16, nl_32, nl_240, nl_250, nl_255, nl_265, nl_270, nl_0, nI_add, pk_mul]; done)) (by omega) (by omega)) ?_
      refine ex_ixs (q := 263) (by first | rfl | (simp only [nl_1, nl_2, nl_3, nl_4, nl_5, nl_6, nl_7, nl_8, nl_9, nl_10, nl_11, nl_12, nl_13, nl_14, nl_15, nl_16, nl_32, nl_240, nl_250, nl_255, nl_265, nl_270, nl_0, nI_add, pk_mul]; done)) (by omega) ?_
      refine s_Mdl_work_186 ?_
      refine s_Mdl_work_187 (by first | rfl | assumption | (simp [*]; done)) (by first | rfl | assumption | (simp [*]; done)) ?_
      refine s_Mdl_work_190 ?_
      refine s_Mdl_work_193 ?_
      refine s_Mdl_work_194 (by first | rfl | assumption | (simp [*]; done)) (by first | rfl | assumption | (simp [*]; done)) ?_
      refine s_Mdl_work_197 ?_
      refine s_Mdl_work_198 (by first | exact rf_version hR | rfl) (by exact rk_version hR) (by rw [rn_version hR]; exact n_in (a := p) (by first | rfl | (simp only [nl_1, nl_2, nl_3, nl_4, nl_5, nl_6, nl_7, nl_8, nl_9, nl_10, nl_11, nl_12, nl_13, nl_14, nl_15, nl_16, nl_32, nl_240, nl_250, nl_255, nl_265, nl_270, nl_0, nI_add, pk_mul]; done)) (by omega) (by omega)) ?_
      refine ex_ixl (q := p) (by first | rfl | (simp only [nl_1, nl_2, nl_3, nl_4, nl_5, nl_6, nl_7, nl_8, nl_9, nl_10, nl_11, nl_12, nl_13, nl_14, nl_15, nl_16, nl_32, nl_240, nl_250, nl_255, nl_265, nl_270, nl_0, nI_add, pk_mul]; done)) (by omega) ?_
      simp only [ex_ui_ne _ _ _ _ n8]
      rw [ex_wi_ne _ _ _ n8, v8]
      refine s_Mdl_work_199 (by first | exact rf_row hR | rfl) (by exact rk_row hR) (by rw [rn_row hR]; exact n_in (a := 264) (by first | rfl | (simp only [nl_1, nl_2, nl_3, nl_4, nl_5, nl_6, nl_7, nl_8, nl_9, nl_10, nl_11, nl_12, nl_13, nl_14, nl_15, nl_16, nl_32, nl_240, nl_250, nl_255, nl_265, nl_270, nl_0, nI_add, pk_mul]; done)) (by omega) (by omega)) ?_
      refine ex_ixs (q := 264) (by first | rfl | (simp only [nl_1, nl_2, nl_3, nl_4, nl_5, nl_6, nl_7, nl_8, nl_9, nl_10, nl_11, nl_12, nl_13, nl_14, nl_15, nl_16, nl_32, nl_240, nl_250, nl_255, nl_265, nl_270, nl_0, nI_add, pk_mul]; done)) (by omega) ?_
      refine s_Mdl_work_200 ?_
      refine s_Mdl_work_201 (by first | rfl | assumption | (simp [*]; done)) (by first | rfl | assumption | (simp [*]; done)) ?_
      refine s_Mdl_work_204 ?_
      refine s_Mdl_work_207 ?_
      refine s_Mdl_work_208 (by first | rfl | assumption | (simp [*]; done)) (by first | rfl | assumption | (simp [*]; done)) ?_
      simp only [ex_ui_f _ _ _ _ (show 805 ≠ 21 by decide)]
      rw [ex_wi_f _ _ _ (show 805 ≠ 21 by decide), eT]
      refine s_Mdl_work_211 (by first | exact rf_row hR | rfl) (by exact rk_row hR) (by rw [rn_row hR]; exact n_in (a := 269) (by first | rfl | (simp only [nl_1, nl_2, nl_3, nl_4, nl_5, nl_6, nl_7, nl_8, nl_9, nl_10, nl_11, nl_12, nl_13, nl_14, nl_15, nl_16, nl_32, nl_240, nl_250, nl_255, nl_265, nl_270, nl_0, nI_add, pk_mul]; done)) (by omega) (by omega)) ?_
      refine ex_ixs (q := 269) (by first | rfl | (simp only [nl_1, nl_2, nl_3, nl_4, nl_5, nl_6, nl_7, nl_8, nl_9, nl_10, nl_11, nl_12, nl_13, nl_14, nl_15, nl_16, nl_32, nl_240, nl_250, nl_255, nl_265, nl_270, nl_0, nI_add, pk_mul]; done)) (by omega) ?_
      refine s_Mdl_work_212 ?_
      refine s_Mdl_work_213 ?_
      refine s_Mdl_work_215 ?_
      refine s_Mdl_work_217 ?_
      refine s_Mdl_work_218 (fun h218 => absurd h218 (by decide)) (fun h218 => ?_)
      refine s_Mdl_work_221 ?_
      refine s_Mdl_work_222 (by first | rfl | assumption | (simp [*]; done)) (by first | rfl | assumption | (simp [*]; done)) ?_
      refine s_Mdl_work_225 ?_
      refine s_Mdl_work_228 ?_
      refine s_Mdl_work_230 ?_
      refine s_Mdl_work_231 ?_
      refine s_Mdl_work_232 (by first | rfl | assumption | (simp [*]; done)) (by first | rfl | assumption | (simp [*]; done)) ?_
      refine s_Mdl_work_235 ?_
      refine s_Mdl_work_236 ?_
      refine s_Mdl_work_237 ?_
      refine s_Mdl_work_238 ?_
      refine s_Mdl_work_240 ?_
      refine s_Mdl_work_241 (by first | exact rf_control hR | rfl) (by exact rk_control hR) (by rw [rn_control hR]; exact n_in (a := ((4 * p) + 0)) (by first | rfl | (simp only [nl_1, nl_2, nl_3, nl_4, nl_5, nl_6, nl_7, nl_8, nl_9, nl_10, nl_11, nl_12, nl_13, nl_14, nl_15, nl_16, nl_32, nl_240, nl_250, nl_255, nl_265, nl_270, nl_0, nI_add, pk_mul]; done)) (by omega) (by omega)) ?_
      refine ex_ixl (q := ((4 * p) + 0)) (by first | rfl | (simp only [nl_1, nl_2, nl_3, nl_4, nl_5, nl_6, nl_7, nl_8, nl_9, nl_10, nl_11, nl_12, nl_13, nl_14, nl_15, nl_16, nl_32, nl_240, nl_250, nl_255, nl_265, nl_270, nl_0, nI_add, pk_mul]; done)) (by omega) ?_
      simp only [ex_ui_ne _ _ _ _ n11]
      rw [ex_wi_ne _ _ _ n11, v11]
      refine s_Mdl_work_242 (by first | exact rf_row hR | rfl) (by exact rk_row hR) (by rw [rn_row hR]; exact n_in (a := (265 + 0)) (by first | rfl | (simp only [nl_1, nl_2, nl_3, nl_4, nl_5, nl_6, nl_7, nl_8, nl_9, nl_10, nl_11, nl_12, nl_13, nl_14, nl_15, nl_16, nl_32, nl_240, nl_250, nl_255, nl_265, nl_270, nl_0, nI_add, pk_mul]; done)) (by omega) (by omega)) ?_
      refine ex_ixs (q := (265 + 0)) (by first | rfl | (simp only [nl_1, nl_2, nl_3, nl_4, nl_5, nl_6, nl_7, nl_8, nl_9, nl_10, nl_11, nl_12, nl_13, nl_14, nl_15, nl_16, nl_32, nl_240, nl_250, nl_255, nl_265, nl_270, nl_0, nI_add, pk_mul]; done)) (by omega) ?_
      refine s_Mdl_work_243 ?_
      refine s_Mdl_work_246 ?_
      refine s_Mdl_work_215 ?_
      refine s_Mdl_work_217 ?_
      refine s_Mdl_work_218 (fun h218 => absurd h218 (by decide)) (fun h218 => ?_)
      refine s_Mdl_work_221 ?_
      refine s_Mdl_work_222 (by first | rfl | assumption | (simp [*]; done)) (by first | rfl | assumption | (simp [*]; done)) ?_
      refine s_Mdl_work_225 ?_
      refine s_Mdl_work_228 ?_
      refine s_Mdl_work_230 ?_
      refine s_Mdl_work_231 ?_
      refine s_Mdl_work_232 (by first | rfl | assumption | (simp [*]; done)) (by first | rfl | assumption | (simp [*]; done)) ?_
      refine s_Mdl_work_235 ?_
      refine s_Mdl_work_236 ?_
      refine s_Mdl_work_237 ?_
      refine s_Mdl_work_238 ?_
      refine s_Mdl_work_240 ?_
      refine s_Mdl_work_241 (by first | exact rf_control hR | rfl) (by exact rk_control hR) (by rw [rn_control hR]; exact n_in (a := ((4 * p) + (0 + 1))) (by first | rfl | (simp only [nl_1, nl_2, nl_3, nl_4, nl_5, nl_6, nl_7, nl_8, nl_9, nl_10, nl_11, nl_12, nl_13, nl_14, nl_15, nl_16, nl_32, nl_240, nl_250, nl_255, nl_265, nl_270, nl_0, nI_add, pk_mul]; done)) (by omega) (by omega)) ?_
      refine ex_ixl (q := ((4 * p) + (0 + 1))) (by first | rfl | (simp only [nl_1, nl_2, nl_3, nl_4, nl_5, nl_6, nl_7, nl_8, nl_9, nl_10, nl_11, nl_12, nl_13, nl_14, nl_15, nl_16, nl_32, nl_240, nl_250, nl_255, nl_265, nl_270, nl_0, nI_add, pk_mul]; done)) (by omega) ?_
      simp only [ex_ui_ne _ _ _ _ n11]
      rw [ex_wi_ne _ _ _ n11, v11]
      refine s_Mdl_work_242 (by first | exact rf_row hR | rfl) (by exact rk_row hR) (by rw [rn_row hR]; exact n_in (a := (265 + (0 + 1))) (by first | rfl | (simp only [nl_1, nl_2, nl_3, nl_4, nl_5, nl_6, nl_7, nl_8, nl_9, nl_10, nl_11, nl_12, nl_13, nl_14, nl_15, nl_16, nl_32, nl_240, nl_250, nl_255, nl_265, nl_270, nl_0, nI_add, pk_mul]; done)) (by omega) (by omega)) ?_
      refine ex_ixs (q := (265 + (0 + 1))) (by first | rfl | (simp only [nl_1, nl_2, nl_3, nl_4, nl_5, nl_6, nl_7, nl_8, nl_9, nl_10, nl_11, nl_12, nl_13, nl_14, nl_15, nl_16, nl_32, nl_240, nl_250, nl_255, nl_265, nl_270, nl_0, nI_add, pk_mul]; done)) (by omega) ?_
      refine s_Mdl_work_243 ?_
      refine s_Mdl_work_246 ?_
      refine s_Mdl_work_215 ?_
      refine s_Mdl_work_217 ?_
      refine s_Mdl_work_218 (fun h218 => absurd h218 (by decide)) (fun h218 => ?_)
      refine s_Mdl_work_221 ?_
      refine s_Mdl_work_222 (by first | rfl | assumption | (simp [*]; done)) (by first | rfl | assumption | (simp [*]; done)) ?_
      refine s_Mdl_work_225 ?_
      refine s_Mdl_work_228 ?_
      refine s_Mdl_work_230 ?_
      refine s_Mdl_work_231 ?_
      refine s_Mdl_work_232 (by first | rfl | assumption | (simp [*]; done)) (by first | rfl | assumption | (simp [*]; done)) ?_
      refine s_Mdl_work_235 ?_
      refine s_Mdl_work_236 ?_
      refine s_Mdl_work_237 ?_
      refine s_Mdl_work_238 ?_
      refine s_Mdl_work_240 ?_
      refine s_Mdl_work_241 (by first | exact rf_control hR | rfl) (by exact rk_control hR) (by rw [rn_control hR]; exact n_in (a := ((4 * p) + ((0 + 1) + 1))) (by first | rfl | (simp only [nl_1, nl_2, nl_3, nl_4, nl_5, nl_6, nl_7, nl_8, nl_9, nl_10, nl_11, nl_12, nl_13, nl_14, nl_15, nl_16, nl_32, nl_240, nl_250, nl_255, nl_265, nl_270, nl_0, nI_add, pk_mul]; done)) (by omega) (by omega)) ?_
      refine ex_ixl (q := ((4 * p) + ((0 + 1) + 1))) (by first | rfl | (simp only [nl_1, nl_2, nl_3, nl_4, nl_5, nl_6, nl_7, nl_8, nl_9, nl_10, nl_11, nl_12, nl_13, nl_14, nl_15, nl_16, nl_32, nl_240, nl_250, nl_255, nl_265, nl_270, nl_0, nI_add, pk_mul]; done)) (by omega) ?_
      simp only [ex_ui_ne _ _ _ _ n11]
      rw [ex_wi_ne _ _ _ n11, v11]
      refine s_Mdl_work_242 (by first | exact rf_row hR | rfl) (by exact rk_row hR) (by rw [rn_row hR]; exact n_in (a := (265 + ((0 + 1) + 1))) (by first | rfl | (simp only [nl_1, nl_2, nl_3, nl_4, nl_5, nl_6, nl_7, nl_8, nl_9, nl_10, nl_11, nl_12, nl_13, nl_14, nl_15, nl_16, nl_32, nl_240, nl_250, nl_255, nl_265, nl_270, nl_0, nI_add, pk_mul]; done)) (by omega) (by omega)) ?_
      refine ex_ixs (q := (265 + ((0 + 1) + 1))) (by first | rfl | (simp only [nl_1, nl_2, nl_3, nl_4, nl_5, nl_6, nl_7, nl_8, nl_9, nl_10, nl_11, nl_12, nl_13, nl_14, nl_15, nl_16, nl_32, nl_240, nl_250, nl_255, nl_265, nl_270, nl_0, nI_add, pk_mul]; done)) (by omega) ?_
      refine s_Mdl_work_243 ?_
      refine s_Mdl_work_246 ?_
      refine s_Mdl_work_215 ?_
      refine s_Mdl_work_217 ?_
      refine s_Mdl_work_218 (fun h218 => absurd h218 (by decide)) (fun h218 => ?_)
      refine s_Mdl_work_221 ?_
      refine s_Mdl_work_222 (by first | rfl | assumption | (simp [*]; done)) (by first | rfl | assumption | (simp [*]; done)) ?_
      refine s_Mdl_work_225 ?_
      refine s_Mdl_work_228 ?_
      refine s_Mdl_work_230 ?_
      refine s_Mdl_work_231 ?_
      refine s_Mdl_work_232 (by first | rfl | assumption | (simp [*]; done)) (by first | rfl | assumption | (simp [*]; done)) ?_
      refine s_Mdl_work_235 ?_
      refine s_Mdl_work_236 ?_
      refine s_Mdl_work_237 ?_
      refine s_Mdl_work_238 ?_
      refine s_Mdl_work_240 ?_
      refine s_Mdl_work_241 (by first | exact rf_control hR | rfl) (by exact rk_control hR) (by rw [rn_control hR]; exact n_in (a := ((4 * p) + (((0 + 1) + 1) + 1))) (by first | rfl | (simp only [nl_1, nl_2, nl_3, nl_4, nl_5, nl_6, nl_7, nl_8, nl_9, nl_10, nl_11, nl_12, nl_13, nl_14, nl_15, nl_16, nl_32, nl_240, nl_250, nl_255, nl_265, nl_270, nl_0, nI_add, pk_mul]; done)) (by omega) (by omega)) ?_
      refine ex_ixl (q := ((4 * p) + (((0 + 1) + 1) + 1))) (by first | rfl | (simp only [nl_1, nl_2, nl_3, nl_4, nl_5, nl_6, nl_7, nl_8, nl_9, nl_10, nl_11, nl_12, nl_13, nl_14, nl_15, nl_16, nl_32, nl_240, nl_250, nl_255, nl_265, nl_270, nl_0, nI_add, pk_mul]; done)) (by omega) ?_
      simp only [ex_ui_ne _ _ _ _ n11]
      rw [ex_wi_ne _ _ _ n11, v11]
      refine s_Mdl_work_242 (by first | exact rf_row hR | rfl) (by exact rk_row hR) (by rw [rn_row hR]; exact n_in (a := (265 + (((0 + 1) + 1) + 1))) (by first | rfl | (simp only [nl_1, nl_2, nl_3, nl_4, nl_5, nl_6, nl_7, nl_8, nl_9, nl_10, nl_11, nl_12, nl_13, nl_14, nl_15, nl_16, nl_32, nl_240, nl_250, nl_255, nl_265, nl_270, nl_0, nI_add, pk_mul]; done)) (by omega) (by omega)) ?_
      refine ex_ixs (q := (265 + (((0 + 1) + 1) + 1))) (by first | rfl | (simp only [nl_1, nl_2, nl_3, nl_4, nl_5, nl_6, nl_7, nl_8, nl_9, nl_10, nl_11, nl_12, nl_13, nl_14, nl_15, nl_16, nl_32, nl_240, nl_250, nl_255, nl_265, nl_270, nl_0, nI_add, pk_mul]; done)) (by omega) ?_
      refine s_Mdl_work_243 ?_
      refine s_Mdl_work_246 ?_
      refine s_Mdl_work_215 ?_
      refine s_Mdl_work_217 ?_
      refine s_Mdl_work_218 (fun h218 => ?_) (fun h218 => absurd h218 (by exact fun q => q (by decide)))
      refine s_Mdl_work_249 ?_
      refine s_Mdl_work_370 ?_
      rw [ex_wi_u, ex_wi_u, ex_wi_u, ex_wi_u, ex_wi_u, ex_wi_u, ex_wi_u, ex_wi_u, ex_wi_u, ex_wi_u]
      refine ⟨rfl, rfl, rfl, rr_bl hR h (fun c hc => ?_), fun j hj => ?_⟩
      · repeat rw [if_neg (by omega)]
        exact bl_out _ _ _ _ _ c hc
      · rw [ex_wi_at]
        have et : m_tg s p (cm 6) = 4 * s.1 8 p + 0 := by
          unfold m_tg
          rw [if_neg h100]
        have e3 : (if cm 4 = m_tg s p (cm 6) then (304 : Int32) else 200) = 304 := by
          rw [et]
          exact if_pos h135
        rcases (by omega : j = 0 ∨ j = 1 ∨ j = 2 ∨ j = 3 ∨ j = 4 ∨ j = 5 ∨ j = 6 ∨ j = 7 ∨ j = 8 ∨ j = 9 ∨ j = 10 ∨ j = 11 ∨ j = 12 ∨ j = 13 ∨ j = 14) with rfl | rfl | rfl | rfl | rfl | rfl | rfl | rfl | rfl | rfl | rfl | rfl | rfl | rfl | rfl
        all_goals
          dsimp only [grow]
          first
            | rfl
            | (rw [et]; rfl)
            | (rw [et] at e3; rw [et, e3]; rfl)
  · refine s_Mdl_work_103 ?_
    refine s_Mdl_work_104 (by first | rfl | assumption | (simp [*]; done)) (by first | rfl | assumption | (simp [*]; done)) ?_
    refine s_Mdl_work_107 ?_
    refine s_Mdl_work_110 (by first | exact rf_row hR | rfl) (by exact rk_row hR) (by rw [rn_row hR]; exact n_in (a := 246) (by first | rfl | (simp only [nl_1, nl_2, nl_3, nl_4, nl_5, nl_6, nl_7, nl_8, nl_9, nl_10, nl_11, nl_12, nl_13, nl_14, nl_15, nl_16, nl_32, nl_240, nl_250, nl_255, nl_265, nl_270, nl_0, nI_add, pk_mul]; done)) (by omega) (by omega)) ?_
    refine ex_ixl (q := 246) (by first | rfl | (simp only [nl_1, nl_2, nl_3, nl_4, nl_5, nl_6, nl_7, nl_8, nl_9, nl_10, nl_11, nl_12, nl_13, nl_14, nl_15, nl_16, nl_32, nl_240, nl_250, nl_255, nl_265, nl_270, nl_0, nI_add, pk_mul]; done)) (by omega) ?_
    rw [ex_wi_at, bl_out _ _ _ _ _ 246 (by decide), c6]
    refine s_Mdl_work_111 ?_
    refine s_Mdl_work_115 ?_
    refine s_Mdl_work_116 ?_
    refine s_Mdl_work_118 ?_
    refine s_Mdl_work_119 (by first | rfl | assumption | (simp [*]; done)) (by first | rfl | assumption | (simp [*]; done)) ?_
    refine s_Mdl_work_122 ?_
    refine s_Mdl_work_125 ?_
    refine s_Mdl_work_126 (by first | rfl | assumption | (simp [*]; done)) (by first | rfl | assumption | (simp [*]; done)) ?_
    refine s_Mdl_work_129 ?_
    refine s_Mdl_work_132 (by first | exact rf_row hR | rfl) (by exact rk_row hR) (by rw [rn_row hR]; exact n_in (a := 244) (by first | rfl | (simp only [nl_1, nl_2, nl_3, nl_4, nl_5, nl_6, nl_7, nl_8, nl_9, nl_10, nl_11, nl_12, nl_13, nl_14, nl_15, nl_16, nl_32, nl_240, nl_250, nl_255, nl_265, nl_270, nl_0, nI_add, pk_mul]; done)) (by omega) (by omega)) ?_
    refine ex_ixl (q := 244) (by first | rfl | (simp only [nl_1, nl_2, nl_3, nl_4, nl_5, nl_6, nl_7, nl_8, nl_9, nl_10, nl_11, nl_12, nl_13, nl_14, nl_15, nl_16, nl_32, nl_240, nl_250, nl_255, nl_265, nl_270, nl_0, nI_add, pk_mul]; done)) (by omega) ?_
    rw [ex_wi_at, bl_out _ _ _ _ _ 244 (by decide), c4]
    refine s_Mdl_work_133 ?_
    refine s_Mdl_work_135 (fun h135 => ?_) (fun h135 => ?_)
    · refine s_Mdl_work_144 ?_
      refine s_Mdl_work_147 (by first | exact rf_row hR | rfl) (by exact rk_row hR) (by rw [rn_row hR]; exact n_in (a := 258) (by first | rfl | (simp only [nl_1, nl_2, nl_3, nl_4, nl_5, nl_6, nl_7, nl_8, nl_9, nl_10, nl_11, nl_12, nl_13, nl_14, nl_15, nl_16, nl_32, nl_240, nl_250, nl_255, nl_265, nl_270, nl_0, nI_add, pk_mul]; done)) (by omega) (by omega)) ?_
      refine ex_ixs (q := 258) (by first | rfl | (simp only [nl_1, nl_2, nl_3, nl_4, nl_5, nl_6, nl_7, nl_8, nl_9, nl_10, nl_11, nl_12, nl_13, nl_14, nl_15, nl_16, nl_32, nl_240, nl_250, nl_255, nl_265, nl_270, nl_0, nI_add, pk_mul]; done)) (by omega) ?_
      refine s_Mdl_work_148 ?_
      refine s_Mdl_work_149 (by first | rfl | assumption | (simp [*]; done)) (by first | rfl | assumption | (simp [*]; done)) ?_
      refine s_Mdl_work_152 ?_
      refine s_Mdl_work_155 ?_
      refine s_Mdl_work_157 (by first | exact rf_row hR | rfl) (by exact rk_row hR) (by rw [rn_row hR]; exact n_in (a := 259) (by first | rfl | (simp only [nl_1, nl_2, nl_3, nl_4, nl_5, nl_6, nl_7, nl_8, nl_9, nl_10, nl_11, nl_12, nl_13, nl_14, nl_15, nl_16, nl_32, nl_240, nl_250, nl_255, nl_265, nl_270, nl_0, nI_add, pk_mul]; done)) (by omega) (by omega)) ?_
      refine ex_ixs (q := 259) (by first | rfl | (simp only [nl_1, nl_2, nl_3, nl_4, nl_5, nl_6, nl_7, nl_8, nl_9, nl_10, nl_11, nl_12, nl_13, nl_14, nl_15, nl_16, nl_32, nl_240, nl_250, nl_255, nl_265, nl_270, nl_0, nI_add, pk_mul]; done)) (by omega) ?_
      refine s_Mdl_work_158 ?_
      refine s_Mdl_work_159 (by first | rfl | assumption | (simp [*]; done)) (by first | rfl | assumption | (simp [*]; done)) ?_
      refine s_Mdl_work_162 ?_
      refine s_Mdl_work_165 ?_
      refine s_Mdl_work_166 (by first | rfl | assumption | (simp [*]; done)) (by first | rfl | assumption | (simp [*]; done)) ?_
      refine s_Mdl_work_169 ?_
      refine s_Mdl_work_170 (by first | exact rf_big hR | rfl) (by exact rk_big hR) (by rw [rn_big hR]; exact n_in (a := p) (by first | rfl | (simp only [nl_1, nl_2, nl_3, nl_4, nl_5, nl_6, nl_7, nl_8, nl_9, nl_10, nl_11, nl_12, nl_13, nl_14, nl_15, nl_16, nl_32, nl_240, nl_250, nl_255, nl_265, nl_270, nl_0, nI_add, pk_mul]; done)) (by omega) (by omega)) ?_
      refine ex_ixl (q := p) (by first | rfl | (simp only [nl_1, nl_2, nl_3, nl_4, nl_5, nl_6, nl_7, nl_8, nl_9, nl_10, nl_11, nl_12, nl_13, nl_14, nl_15, nl_16, nl_32, nl_240, nl_250, nl_255, nl_265, nl_270, nl_0, nI_add, pk_mul]; done)) (by omega) ?_
      simp only [ex_ui_ne _ _ _ _ n9]
      rw [ex_wi_ne _ _ _ n9, v9]
      refine s_Mdl_work_171 (by first | exact rf_row hR | rfl) (by exact rk_row hR) (by rw [rn_row hR]; exact n_in (a := 262) (by first | rfl | (simp only [nl_1, nl_2, nl_3, nl_4, nl_5, nl_6, nl_7, nl_8, nl_9, nl_10, nl_11, nl_12, nl_13, nl_14, nl_15, nl_16, nl_32, nl_240, nl_250, nl_255, nl_265, nl_270, nl_0, nI_add, pk_mul]; done)) (by omega) (by omega)) ?_
      refine ex_ixs (q := 262) (by first | rfl | (simp only [nl_1, nl_2, nl_3, nl_4, nl_5, nl_6, nl_7, nl_8, nl_9, nl_10, nl_11, nl_12, nl_13, nl_14, nl_15, nl_16, nl_32, nl_240, nl_250, nl_255, nl_265, nl_270, nl_0, nI_add, pk_mul]; done)) (by omega) ?_
      refine s_Mdl_work_172 ?_
      refine s_Mdl_work_173 (by first | rfl | assumption | (simp [*]; done)) (by first | rfl | assumption | (simp [*]; done)) ?_
      refine s_Mdl_work_176 ?_
      refine s_Mdl_work_179 ?_
      refine s_Mdl_work_180 (by first | rfl | assumption | (simp [*]; done)) (by first | rfl | assumption | (simp [*]; done)) ?_
      refine s_Mdl_work_183 ?_
      refine s_Mdl_work_184 (by first | exact rf_vary hR | rfl) (by exact rk_vary hR) (by rw [rn_vary hR]; exact n_in (a := p) (by first | rfl | (simp only [nl_1, nl_2, nl_3, nl_4, nl_5, nl_6, nl_7, nl_8, nl_9, nl_10, nl_11, nl_12, nl_13, nl_14, nl_15, nl_16, nl_32, nl_240, nl_250, nl_255, nl_265, nl_270, nl_0, nI_add, pk_mul]; done)) (by omega) (by omega)) ?_
      refine ex_ixl (q := p) (by first | rfl | (simp only [nl_1, nl_2, nl_3, nl_4, nl_5, nl_6, nl_7, nl_8, nl_9, nl_10, nl_11, nl_12, nl_13, nl_14, nl_15, nl_16, nl_32, nl_240, nl_250, nl_255, nl_265, nl_270, nl_0, nI_add, pk_mul]; done)) (by omega) ?_
      simp only [ex_ui_ne _ _ _ _ n10]
      rw [ex_wi_ne _ _ _ n10, v10]
      refine s_Mdl_work_185 (by first | exact rf_row hR | rfl) (by exact rk_row hR) (by rw [rn_row hR]; exact n_in (a := 263) (by first | rfl | (simp only [nl_1, nl_2, nl_3, nl_4, nl_5, nl_6, nl_7, nl_8, nl_9, nl_10, nl_11, nl_12, nl_13, nl_14, nl_15, nl_16, nl_32, nl_240, nl_250, nl_255, nl_265, nl_270, nl_0, nI_add, pk_mul]; done)) (by omega) (by omega)) ?_
      refine ex_ixs (q := 263) (by first | rfl | (simp only [nl_1, nl_2, nl_3, nl_4, nl_5, nl_6, nl_7, nl_8, nl_9, nl_10, nl_11, nl_12, nl_13, nl_14, nl_15, nl_16, nl_32, nl_240, nl_250, nl_255, nl_265, nl_270, nl_0, nI_add, pk_mul]; done)) (by omega) ?_
      refine s_Mdl_work_186 ?_
      refine s_Mdl_work_187 (by first | rfl | assumption | (simp [*]; done)) (by first | rfl | assumption | (simp [*]; done)) ?_
      refine s_Mdl_work_190 ?_
      refine s_Mdl_work_193 ?_
      refine s_Mdl_work_194 (by first | rfl | assumption | (simp [*]; done)) (by first | rfl | assumption | (simp [*]; done)) ?_
      refine s_Mdl_work_197 ?_
      refine s_Mdl_work_198 (by first | exact rf_version hR | rfl) (by exact rk_version hR) (by rw [rn_version hR]; exact n_in (a := p) (by first | rfl | (simp only [nl_1, nl_2, nl_3, nl_4, nl_5, nl_6, nl_7, nl_8, nl_9, nl_10, nl_11, nl_12, nl_13, nl_14, nl_15, nl_16, nl_32, nl_240, nl_250, nl_255, nl_265, nl_270, nl_0, nI_add, pk_mul]; done)) (by omega) (by omega)) ?_
      refine ex_ixl (q := p) (by first | rfl | (simp only [nl_1, nl_2, nl_3, nl_4, nl_5, nl_6, nl_7, nl_8, nl_9, nl_10, nl_11, nl_12, nl_13, nl_14, nl_15, nl_16, nl_32, nl_240, nl_250, nl_255, nl_265, nl_270, nl_0, nI_add, pk_mul]; done)) (by omega) ?_
      simp only [ex_ui_ne _ _ _ _ n8]
      rw [ex_wi_ne _ _ _ n8, v8]
      refine s_Mdl_work_199 (by first | exact rf_row hR | rfl) (by exact rk_row hR) (by rw [rn_row hR]; exact n_in (a := 264) (by first | rfl | (simp only [nl_1, nl_2, nl_3, nl_4, nl_5, nl_6, nl_7, nl_8, nl_9, nl_10, nl_11, nl_12, nl_13, nl_14, nl_15, nl_16, nl_32, nl_240, nl_250, nl_255, nl_265, nl_270, nl_0, nI_add, pk_mul]; done)) (by omega) (by omega)) ?_
      refine ex_ixs (q := 264) (by first | rfl | (simp only [nl_1, nl_2, nl_3, nl_4, nl_5, nl_6, nl_7, nl_8, nl_9, nl_10, nl_11, nl_12, nl_13, nl_14, nl_15, nl_16, nl_32, nl_240, nl_250, nl_255, nl_265, nl_270, nl_0, nI_add, pk_mul]; done)) (by omega) ?_
      refine s_Mdl_work_200 ?_
      refine s_Mdl_work_201 (by first | rfl | assumption | (simp [*]; done)) (by first | rfl | assumption | (simp [*]; done)) ?_
      refine s_Mdl_work_204 ?_
      refine s_Mdl_work_207 ?_
      refine s_Mdl_work_208 (by first | rfl | assumption | (simp [*]; done)) (by first | rfl | assumption | (simp [*]; done)) ?_
      simp only [ex_ui_f _ _ _ _ (show 805 ≠ 21 by decide)]
      rw [ex_wi_f _ _ _ (show 805 ≠ 21 by decide), eT]
      refine s_Mdl_work_211 (by first | exact rf_row hR | rfl) (by exact rk_row hR) (by rw [rn_row hR]; exact n_in (a := 269) (by first | rfl | (simp only [nl_1, nl_2, nl_3, nl_4, nl_5, nl_6, nl_7, nl_8, nl_9, nl_10, nl_11, nl_12, nl_13, nl_14, nl_15, nl_16, nl_32, nl_240, nl_250, nl_255, nl_265, nl_270, nl_0, nI_add, pk_mul]; done)) (by omega) (by omega)) ?_
      refine ex_ixs (q := 269) (by first | rfl | (simp only [nl_1, nl_2, nl_3, nl_4, nl_5, nl_6, nl_7, nl_8, nl_9, nl_10, nl_11, nl_12, nl_13, nl_14, nl_15, nl_16, nl_32, nl_240, nl_250, nl_255, nl_265, nl_270, nl_0, nI_add, pk_mul]; done)) (by omega) ?_
      refine s_Mdl_work_212 ?_
      refine s_Mdl_work_213 ?_
      refine s_Mdl_work_215 ?_
      refine s_Mdl_work_217 ?_
      refine s_Mdl_work_218 (fun h218 => absurd h218 (by decide)) (fun h218 => ?_)
      refine s_Mdl_work_221 ?_
      refine s_Mdl_work_222 (by first | rfl | assumption | (simp [*]; done)) (by first | rfl | assumption | (simp [*]; done)) ?_
      refine s_Mdl_work_225 ?_
      refine s_Mdl_work_228 ?_
      refine s_Mdl_work_230 ?_
      refine s_Mdl_work_231 ?_
      refine s_Mdl_work_232 (by first | rfl | assumption | (simp [*]; done)) (by first | rfl | assumption | (simp [*]; done)) ?_
      refine s_Mdl_work_235 ?_
      refine s_Mdl_work_236 ?_
      refine s_Mdl_work_237 ?_
      refine s_Mdl_work_238 ?_
      refine s_Mdl_work_240 ?_
      refine s_Mdl_work_241 (by first | exact rf_control hR | rfl) (by exact rk_control hR) (by rw [rn_control hR]; exact n_in (a := ((4 * p) + 0)) (by first | rfl | (simp only [nl_1, nl_2, nl_3, nl_4, nl_5, nl_6, nl_7, nl_8, nl_9, nl_10, nl_11, nl_12, nl_13, nl_14, nl_15, nl_16, nl_32, nl_240, nl_250, nl_255, nl_265, nl_270, nl_0, nI_add, pk_mul]; done)) (by omega) (by omega)) ?_
      refine ex_ixl (q := ((4 * p) + 0)) (by first | rfl | (simp only [nl_1, nl_2, nl_3, nl_4, nl_5, nl_6, nl_7, nl_8, nl_9, nl_10, nl_11, nl_12, nl_13, nl_14, nl_15, nl_16, nl_32, nl_240, nl_250, nl_255, nl_265, nl_270, nl_0, nI_add, pk_mul]; done)) (by omega) ?_
      simp only [ex_ui_ne _ _ _ _ n11]
      rw [ex_wi_ne _ _ _ n11, v11]
      refine s_Mdl_work_242 (by first | exact rf_row hR | rfl) (by exact rk_row hR) (by rw [rn_row hR]; exact n_in (a := (265 + 0)) (by first | rfl | (simp only [nl_1, nl_2, nl_3, nl_4, nl_5, nl_6, nl_7, nl_8, nl_9, nl_10, nl_11, nl_12, nl_13, nl_14, nl_15, nl_16, nl_32, nl_240, nl_250, nl_255, nl_265, nl_270, nl_0, nI_add, pk_mul]; done)) (by omega) (by omega)) ?_
      refine ex_ixs (q := (265 + 0)) (by first | rfl | (simp only [nl_1, nl_2, nl_3, nl_4, nl_5, nl_6, nl_7, nl_8, nl_9, nl_10, nl_11, nl_12, nl_13, nl_14, nl_15, nl_16, nl_32, nl_240, nl_250, nl_255, nl_265, nl_270, nl_0, nI_add, pk_mul]; done)) (by omega) ?_
      refine s_Mdl_work_243 ?_
      refine s_Mdl_work_246 ?_
      refine s_Mdl_work_215 ?_
      refine s_Mdl_work_217 ?_
      refine s_Mdl_work_218 (fun h218 => absurd h218 (by decide)) (fun h218 => ?_)
      refine s_Mdl_work_221 ?_
      refine s_Mdl_work_222 (by first | rfl | assumption | (simp [*]; done)) (by first | rfl | assumption | (simp [*]; done)) ?_
      refine s_Mdl_work_225 ?_
      refine s_Mdl_work_228 ?_
      refine s_Mdl_work_230 ?_
      refine s_Mdl_work_231 ?_
      refine s_Mdl_work_232 (by first | rfl | assumption | (simp [*]; done)) (by first | rfl | assumption | (simp [*]; done)) ?_
      refine s_Mdl_work_235 ?_
      refine s_Mdl_work_236 ?_
      refine s_Mdl_work_237 ?_
      refine s_Mdl_work_238 ?_
      refine s_Mdl_work_240 ?_
      refine s_Mdl_work_241 (by first | exact rf_control hR | rfl) (by exact rk_control hR) (by rw [rn_control hR]; exact n_in (a := ((4 * p) + (0 + 1))) (by first | rfl | (simp only [nl_1, nl_2, nl_3, nl_4, nl_5, nl_6, nl_7, nl_8, nl_9, nl_10, nl_11, nl_12, nl_13, nl_14, nl_15, nl_16, nl_32, nl_240, nl_250, nl_255, nl_265, nl_270, nl_0, nI_add, pk_mul]; done)) (by omega) (by omega)) ?_
      refine ex_ixl (q := ((4 * p) + (0 + 1))) (by first | rfl | (simp only [nl_1, nl_2, nl_3, nl_4, nl_5, nl_6, nl_7, nl_8, nl_9, nl_10, nl_11, nl_12, nl_13, nl_14, nl_15, nl_16, nl_32, nl_240, nl_250, nl_255, nl_265, nl_270, nl_0, nI_add, pk_mul]; done)) (by omega) ?_
      simp only [ex_ui_ne _ _ _ _ n11]
      rw [ex_wi_ne _ _ _ n11, v11]
      refine s_Mdl_work_242 (by first | exact rf_row hR | rfl) (by exact rk_row hR) (by rw [rn_row hR]; exact n_in (a := (265 + (0 + 1))) (by first | rfl | (simp only [nl_1, nl_2, nl_3, nl_4, nl_5, nl_6, nl_7, nl_8, nl_9, nl_10, nl_11, nl_12, nl_13, nl_14, nl_15, nl_16, nl_32, nl_240, nl_250, nl_255, nl_265, nl_270, nl_0, nI_add, pk_mul]; done)) (by omega) (by omega)) ?_
      refine ex_ixs (q := (265 + (0 + 1))) (by first | rfl | (simp only [nl_1, nl_2, nl_3, nl_4, nl_5, nl_6, nl_7, nl_8, nl_9, nl_10, nl_11, nl_12, nl_13, nl_14, nl_15, nl_16, nl_32, nl_240, nl_250, nl_255, nl_265, nl_270, nl_0, nI_add, pk_mul]; done)) (by omega) ?_
      refine s_Mdl_work_243 ?_
      refine s_Mdl_work_246 ?_
      refine s_Mdl_work_215 ?_
      refine s_Mdl_work_217 ?_
      refine s_Mdl_work_218 (fun h218 => absurd h218 (by decide)) (fun h218 => ?_)
      refine s_Mdl_work_221 ?_
      refine s_Mdl_work_222 (by first | rfl | assumption | (simp [*]; done)) (by first | rfl | assumption | (simp [*]; done)) ?_
      refine s_Mdl_work_225 ?_
      refine s_Mdl_work_228 ?_
      refine s_Mdl_work_230 ?_
      refine s_Mdl_work_231 ?_
      refine s_Mdl_work_232 (by first | rfl | assumption | (simp [*]; done)) (by first | rfl | assumption | (simp [*]; done)) ?_
      refine s_Mdl_work_235 ?_
      refine s_Mdl_work_236 ?_
      refine s_Mdl_work_237 ?_
      refine s_Mdl_work_238 ?_
      refine s_Mdl_work_240 ?_
      refine s_Mdl_work_241 (by first | exact rf_control hR | rfl) (by exact rk_control hR) (by rw [rn_control hR]; exact n_in (a := ((4 * p) + ((0 + 1) + 1))) (by first | rfl | (simp only [nl_1, nl_2, nl_3, nl_4, nl_5, nl_6, nl_7, nl_8, nl_9, nl_10, nl_11, nl_12, nl_13, nl_14, nl_15, nl_16, nl_32, nl_240, nl_250, nl_255, nl_265, nl_270, nl_0, nI_add, pk_mul]; done)) (by omega) (by omega)) ?_
      refine ex_ixl (q := ((4 * p) + ((0 + 1) + 1))) (by first | rfl | (simp only [nl_1, nl_2, nl_3, nl_4, nl_5, nl_6, nl_7, nl_8, nl_9, nl_10, nl_11, nl_12, nl_13, nl_14, nl_15, nl_16, nl_32, nl_240, nl_250, nl_255, nl_265, nl_270, nl_0, nI_add, pk_mul]; done)) (by omega) ?_
      simp only [ex_ui_ne _ _ _ _ n11]
      rw [ex_wi_ne _ _ _ n11, v11]
      refine s_Mdl_work_242 (by first | exact rf_row hR | rfl) (by exact rk_row hR) (by rw [rn_row hR]; exact n_in (a := (265 + ((0 + 1) + 1))) (by first | rfl | (simp only [nl_1, nl_2, nl_3, nl_4, nl_5, nl_6, nl_7, nl_8, nl_9, nl_10, nl_11, nl_12, nl_13, nl_14, nl_15, nl_16, nl_32, nl_240, nl_250, nl_255, nl_265, nl_270, nl_0, nI_add, pk_mul]; done)) (by omega) (by omega)) ?_
      refine ex_ixs (q := (265 + ((0 + 1) + 1))) (by first | rfl | (simp only [nl_1, nl_2, nl_3, nl_4, nl_5, nl_6, nl_7, nl_8, nl_9, nl_10, nl_11, nl_12, nl_13, nl_14, nl_15, nl_16, nl_32, nl_240, nl_250, nl_255, nl_265, nl_270, nl_0, nI_add, pk_mul]; done)) (by omega) ?_
      refine s_Mdl_work_243 ?_
      refine s_Mdl_work_246 ?_
      refine s_Mdl_work_215 ?_
      refine s_Mdl_work_217 ?_
      refine s_Mdl_work_218 (fun h218 => absurd h218 (by decide)) (fun h218 => ?_)
      refine s_Mdl_work_221 ?_
      refine s_Mdl_work_222 (by first | rfl | assumption | (simp [*]; done)) (by first | rfl | assumption | (simp [*]; done)) ?_
      refine s_Mdl_work_225 ?_
      refine s_Mdl_work_228 ?_
      refine s_Mdl_work_230 ?_
      refine s_Mdl_work_231 ?_
      refine s_Mdl_work_232 (by first | rfl | assumption | (simp [*]; done)) (by first | rfl | assumption | (simp [*]; done)) ?_
      refine s_Mdl_work_235 ?_
      refine s_Mdl_work_236 ?_
      refine s_Mdl_work_237 ?_
      refine s_Mdl_work_238 ?_
      refine s_Mdl_work_240 ?_
      refine s_Mdl_work_241 (by first | exact rf_control hR | rfl) (by exact rk_control hR) (by rw [rn_control hR]; exact n_in (a := ((4 * p) + (((0 + 1) + 1) + 1))) (by first | rfl | (simp only [nl_1, nl_2, nl_3, nl_4, nl_5, nl_6, nl_7, nl_8, nl_9, nl_10, nl_11, nl_12, nl_13, nl_14, nl_15, nl_16, nl_32, nl_240, nl_250, nl_255, nl_265, nl_270, nl_0, nI_add, pk_mul]; done)) (by omega) (by omega)) ?_
      refine ex_ixl (q := ((4 * p) + (((0 + 1) + 1) + 1))) (by first | rfl | (simp only [nl_1, nl_2, nl_3, nl_4, nl_5, nl_6, nl_7, nl_8, nl_9, nl_10, nl_11, nl_12, nl_13, nl_14, nl_15, nl_16, nl_32, nl_240, nl_250, nl_255, nl_265, nl_270, nl_0, nI_add, pk_mul]; done)) (by omega) ?_
      simp only [ex_ui_ne _ _ _ _ n11]
      rw [ex_wi_ne _ _ _ n11, v11]
      refine s_Mdl_work_242 (by first | exact rf_row hR | rfl) (by exact rk_row hR) (by rw [rn_row hR]; exact n_in (a := (265 + (((0 + 1) + 1) + 1))) (by first | rfl | (simp only [nl_1, nl_2, nl_3, nl_4, nl_5, nl_6, nl_7, nl_8, nl_9, nl_10, nl_11, nl_12, nl_13, nl_14, nl_15, nl_16, nl_32, nl_240, nl_250, nl_255, nl_265, nl_270, nl_0, nI_add, pk_mul]; done)) (by omega) (by omega)) ?_
      refine ex_ixs (q := (265 + (((0 + 1) + 1) + 1))) (by first | rfl | (simp only [nl_1, nl_2, nl_3, nl_4, nl_5, nl_6, nl_7, nl_8, nl_9, nl_10, nl_11, nl_12, nl_13, nl_14, nl_15, nl_16, nl_32, nl_240, nl_250, nl_255, nl_265, nl_270, nl_0, nI_add, pk_mul]; done)) (by omega) ?_
      refine s_Mdl_work_243 ?_
      refine s_Mdl_work_246 ?_
      refine s_Mdl_work_215 ?_
      refine s_Mdl_work_217 ?_
      refine s_Mdl_work_218 (fun h218 => ?_) (fun h218 => absurd h218 (by exact fun q => q (by decide)))
      refine s_Mdl_work_249 ?_
      refine s_Mdl_work_370 ?_
      rw [ex_wi_u, ex_wi_u, ex_wi_u, ex_wi_u, ex_wi_u, ex_wi_u, ex_wi_u, ex_wi_u, ex_wi_u, ex_wi_u]
      refine ⟨rfl, rfl, rfl, rr_bl hR h (fun c hc => ?_), fun j hj => ?_⟩
      · repeat rw [if_neg (by omega)]
        exact bl_out _ _ _ _ _ c hc
      · rw [ex_wi_at]
        have et : m_tg s p (cm 6) = 4 * s.1 8 p + cm 6 := by
          unfold m_tg
          rw [if_pos h100]
        have e3 : (if cm 4 = m_tg s p (cm 6) then (304 : Int32) else 200) = 200 := by
          rw [et]
          exact if_neg h135
        rcases (by omega : j = 0 ∨ j = 1 ∨ j = 2 ∨ j = 3 ∨ j = 4 ∨ j = 5 ∨ j = 6 ∨ j = 7 ∨ j = 8 ∨ j = 9 ∨ j = 10 ∨ j = 11 ∨ j = 12 ∨ j = 13 ∨ j = 14) with rfl | rfl | rfl | rfl | rfl | rfl | rfl | rfl | rfl | rfl | rfl | rfl | rfl | rfl | rfl
        all_goals
          dsimp only [grow]
          first
            | rfl
            | (rw [et]; rfl)
            | (rw [et] at e3; rw [et, e3]; rfl)
    · refine s_Mdl_work_138 ?_
      refine s_Mdl_work_141 ?_
      refine s_Mdl_work_147 (by first | exact rf_row hR | rfl) (by exact rk_row hR) (by rw [rn_row hR]; exact n_in (a := 258) (by first | rfl | (simp only [nl_1, nl_2, nl_3, nl_4, nl_5, nl_6, nl_7, nl_8, nl_9, nl_10, nl_11, nl_12, nl_13, nl_14, nl_15, nl_16, nl_32, nl_240, nl_250, nl_255, nl_265, nl_270, nl_0, nI_add, pk_mul]; done)) (by omega) (by omega)) ?_
      refine ex_ixs (q := 258) (by first | rfl | (simp only [nl_1, nl_2, nl_3, nl_4, nl_5, nl_6, nl_7, nl_8, nl_9, nl_10, nl_11, nl_12, nl_13, nl_14, nl_15, nl_16, nl_32, nl_240, nl_250, nl_255, nl_265, nl_270, nl_0, nI_add, pk_mul]; done)) (by omega) ?_
      refine s_Mdl_work_148 ?_
      refine s_Mdl_work_149 (by first | rfl | assumption | (simp [*]; done)) (by first | rfl | assumption | (simp [*]; done)) ?_
      refine s_Mdl_work_152 ?_
      refine s_Mdl_work_155 ?_
      refine s_Mdl_work_157 (by first | exact rf_row hR | rfl) (by exact rk_row hR) (by rw [rn_row hR]; exact n_in (a := 259) (by first | rfl | (simp only [nl_1, nl_2, nl_3, nl_4, nl_5, nl_6, nl_7, nl_8, nl_9, nl_10, nl_11, nl_12, nl_13, nl_14, nl_15, nl_16, nl_32, nl_240, nl_250, nl_255, nl_265, nl_270, nl_0, nI_add, pk_mul]; done)) (by omega) (by omega)) ?_
      refine ex_ixs (q := 259) (by first | rfl | (simp only [nl_1, nl_2, nl_3, nl_4, nl_5, nl_6, nl_7, nl_8, nl_9, nl_10, nl_11, nl_12, nl_13, nl_14, nl_15, nl_16, nl_32, nl_240, nl_250, nl_255, nl_265, nl_270, nl_0, nI_add, pk_mul]; done)) (by omega) ?_
      refine s_Mdl_work_158 ?_
      refine s_Mdl_work_159 (by first | rfl | assumption | (simp [*]; done)) (by first | rfl | assumption | (simp [*]; done)) ?_
      refine s_Mdl_work_162 ?_
      refine s_Mdl_work_165 ?_
      refine s_Mdl_work_166 (by first | rfl | assumption | (simp [*]; done)) (by first | rfl | assumption | (simp [*]; done)) ?_
      refine s_Mdl_work_169 ?_
      refine s_Mdl_work_170 (by first | exact rf_big hR | rfl) (by exact rk_big hR) (by rw [rn_big hR]; exact n_in (a := p) (by first | rfl | (simp only [nl_1, nl_2, nl_3, nl_4, nl_5, nl_6, nl_7, nl_8, nl_9, nl_10, nl_11, nl_12, nl_13, nl_14, nl_15, nl_16, nl_32, nl_240, nl_250, nl_255, nl_265, nl_270, nl_0, nI_add, pk_mul]; done)) (by omega) (by omega)) ?_
      refine ex_ixl (q := p) (by first | rfl | (simp only [nl_1, nl_2, nl_3, nl_4, nl_5, nl_6, nl_7, nl_8, nl_9, nl_10, nl_11, nl_12, nl_13, nl_14, nl_15, nl_16, nl_32, nl_240, nl_250, nl_255, nl_265, nl_270, nl_0, nI_add, pk_mul]; done)) (by omega) ?_
      simp only [ex_ui_ne _ _ _ _ n9]
      rw [ex_wi_ne _ _ _ n9, v9]
      refine s_Mdl_work_171 (by first | exact rf_row hR | rfl) (by exact rk_row hR) (by rw [rn_row hR]; exact n_in (a := 262) (by first | rfl | (simp only [nl_1, nl_2, nl_3, nl_4, nl_5, nl_6, nl_7, nl_8, nl_9, nl_10, nl_11, nl_12, nl_13, nl_14, nl_15, nl_16, nl_32, nl_240, nl_250, nl_255, nl_265, nl_270, nl_0, nI_add, pk_mul]; done)) (by omega) (by omega)) ?_
      refine ex_ixs (q := 262) (by first | rfl | (simp only [nl_1, nl_2, nl_3, nl_4, nl_5, nl_6, nl_7, nl_8, nl_9, nl_10, nl_11, nl_12, nl_13, nl_14, nl_15, nl_16, nl_32, nl_240, nl_250, nl_255, nl_265, nl_270, nl_0, nI_add, pk_mul]; done)) (by omega) ?_
      refine s_Mdl_work_172 ?_
      refine s_Mdl_work_173 (by first | rfl | assumption | (simp [*]; done)) (by first | rfl | assumption | (simp [*]; done)) ?_
      refine s_Mdl_work_176 ?_
      refine s_Mdl_work_179 ?_
      refine s_Mdl_work_180 (by first | rfl | assumption | (simp [*]; done)) (by first | rfl | assumption | (simp [*]; done)) ?_
      refine s_Mdl_work_183 ?_
      refine s_Mdl_work_184 (by first | exact rf_vary hR | rfl) (by exact rk_vary hR) (by rw [rn_vary hR]; exact n_in (a := p) (by first | rfl | (simp only [nl_1, nl_2, nl_3, nl_4, nl_5, nl_6, nl_7, nl_8, nl_9, nl_10, nl_11, nl_12, nl_13, nl_14, nl_15, nl_16, nl_32, nl_240, nl_250, nl_255, nl_265, nl_270, nl_0, nI_add, pk_mul]; done)) (by omega) (by omega)) ?_
      refine ex_ixl (q := p) (by first | rfl | (simp only [nl_1, nl_2, nl_3, nl_4, nl_5, nl_6, nl_7, nl_8, nl_9, nl_10, nl_11, nl_12, nl_13, nl_14, nl_15, nl_16, nl_32, nl_240, nl_250, nl_255, nl_265, nl_270, nl_0, nI_add, pk_mul]; done)) (by omega) ?_
      simp only [ex_ui_ne _ _ _ _ n10]
      rw [ex_wi_ne _ _ _ n10, v10]
      refine s_Mdl_work_185 (by first | exact rf_row hR | rfl) (by exact rk_row hR) (by rw [rn_row hR]; exact n_in (a := 263) (by first | rfl | (simp only [nl_1, nl_2, nl_3, nl_4, nl_5, nl_6, nl_7, nl_8, nl_9, nl_10, nl_11, nl_12, nl_13, nl_14, nl_15, nl_16, nl_32, nl_240, nl_250, nl_255, nl_265, nl_270, nl_0, nI_add, pk_mul]; done)) (by omega) (by omega)) ?_
      refine ex_ixs (q := 263) (by first | rfl | (simp only [nl_1, nl_2, nl_3, nl_4, nl_5, nl_6, nl_7, nl_8, nl_9, nl_10, nl_11, nl_12, nl_13, nl_14, nl_15, nl_16, nl_32, nl_240, nl_250, nl_255, nl_265, nl_270, nl_0, nI_add, pk_mul]; done)) (by omega) ?_
      refine s_Mdl_work_186 ?_
      refine s_Mdl_work_187 (by first | rfl | assumption | (simp [*]; done)) (by first | rfl | assumption | (simp [*]; done)) ?_
      refine s_Mdl_work_190 ?_
      refine s_Mdl_work_193 ?_
      refine s_Mdl_work_194 (by first | rfl | assumption | (simp [*]; done)) (by first | rfl | assumption | (simp [*]; done)) ?_
      refine s_Mdl_work_197 ?_
      refine s_Mdl_work_198 (by first | exact rf_version hR | rfl) (by exact rk_version hR) (by rw [rn_version hR]; exact n_in (a := p) (by first | rfl | (simp only [nl_1, nl_2, nl_3, nl_4, nl_5, nl_6, nl_7, nl_8, nl_9, nl_10, nl_11, nl_12, nl_13, nl_14, nl_15, nl_16, nl_32, nl_240, nl_250, nl_255, nl_265, nl_270, nl_0, nI_add, pk_mul]; done)) (by omega) (by omega)) ?_
      refine ex_ixl (q := p) (by first | rfl | (simp only [nl_1, nl_2, nl_3, nl_4, nl_5, nl_6, nl_7, nl_8, nl_9, nl_10, nl_11, nl_12, nl_13, nl_14, nl_15, nl_16, nl_32, nl_240, nl_250, nl_255, nl_265, nl_270, nl_0, nI_add, pk_mul]; done)) (by omega) ?_
      simp only [ex_ui_ne _ _ _ _ n8]
      rw [ex_wi_ne _ _ _ n8, v8]
      refine s_Mdl_work_199 (by first | exact rf_row hR | rfl) (by exact rk_row hR) (by rw [rn_row hR]; exact n_in (a := 264) (by first | rfl | (simp only [nl_1, nl_2, nl_3, nl_4, nl_5, nl_6, nl_7, nl_8, nl_9, nl_10, nl_11, nl_12, nl_13, nl_14, nl_15, nl_16, nl_32, nl_240, nl_250, nl_255, nl_265, nl_270, nl_0, nI_add, pk_mul]; done)) (by omega) (by omega)) ?_
      refine ex_ixs (q := 264) (by first | rfl | (simp only [nl_1, nl_2, nl_3, nl_4, nl_5, nl_6, nl_7, nl_8, nl_9, nl_10, nl_11, nl_12, nl_13, nl_14, nl_15, nl_16, nl_32, nl_240, nl_250, nl_255, nl_265, nl_270, nl_0, nI_add, pk_mul]; done)) (by omega) ?_
      refine s_Mdl_work_200 ?_
      refine s_Mdl_work_201 (by first | rfl | assumption | (simp [*]; done)) (by first | rfl | assumption | (simp [*]; done)) ?_
      refine s_Mdl_work_204 ?_
      refine s_Mdl_work_207 ?_
      refine s_Mdl_work_208 (by first | rfl | assumption | (simp [*]; done)) (by first | rfl | assumption | (simp [*]; done)) ?_
      simp only [ex_ui_f _ _ _ _ (show 805 ≠ 21 by decide)]
      rw [ex_wi_f _ _ _ (show 805 ≠ 21 by decide), eT]
      refine s_Mdl_work_211 (by first | exact rf_row hR | rfl) (by exact rk_row hR) (by rw [rn_row hR]; exact n_in (a := 269) (by first | rfl | (simp only [nl_1, nl_2, nl_3, nl_4, nl_5, nl_6, nl_7, nl_8, nl_9, nl_10, nl_11, nl_12, nl_13, nl_14, nl_15, nl_16, nl_32, nl_240, nl_250, nl_255, nl_265, nl_270, nl_0, nI_add, pk_mul]; done)) (by omega) (by omega)) ?_
      refine ex_ixs (q := 269) (by first | rfl | (simp only [nl_1, nl_2, nl_3, nl_4, nl_5, nl_6, nl_7, nl_8, nl_9, nl_10, nl_11, nl_12, nl_13, nl_14, nl_15, nl_16, nl_32, nl_240, nl_250, nl_255, nl_265, nl_270, nl_0, nI_add, pk_mul]; done)) (by omega) ?_
      refine s_Mdl_work_212 ?_
      refine s_Mdl_work_213 ?_
      refine s_Mdl_work_215 ?_
      refine s_Mdl_work_217 ?_
      refine s_Mdl_work_218 (fun h218 => absurd h218 (by decide)) (fun h218 => ?_)
      refine s_Mdl_work_221 ?_
      refine s_Mdl_work_222 (by first | rfl | assumption | (simp [*]; done)) (by first | rfl | assumption | (simp [*]; done)) ?_
      refine s_Mdl_work_225 ?_
      refine s_Mdl_work_228 ?_
      refine s_Mdl_work_230 ?_
      refine s_Mdl_work_231 ?_
      refine s_Mdl_work_232 (by first | rfl | assumption | (simp [*]; done)) (by first | rfl | assumption | (simp [*]; done)) ?_
      refine s_Mdl_work_235 ?_
      refine s_Mdl_work_236 ?_
      refine s_Mdl_work_237 ?_
      refine s_Mdl_work_238 ?_
      refine s_Mdl_work_240 ?_
      refine s_Mdl_work_241 (by first | exact rf_control hR | rfl) (by exact rk_control hR) (by rw [rn_control hR]; exact n_in (a := ((4 * p) + 0)) (by first | rfl | (simp only [nl_1, nl_2, nl_3, nl_4, nl_5, nl_6, nl_7, nl_8, nl_9, nl_10, nl_11, nl_12, nl_13, nl_14, nl_15, nl_16, nl_32, nl_240, nl_250, nl_255, nl_265, nl_270, nl_0, nI_add, pk_mul]; done)) (by omega) (by omega)) ?_
      refine ex_ixl (q := ((4 * p) + 0)) (by first | rfl | (simp only [nl_1, nl_2, nl_3, nl_4, nl_5, nl_6, nl_7, nl_8, nl_9, nl_10, nl_11, nl_12, nl_13, nl_14, nl_15, nl_16, nl_32, nl_240, nl_250, nl_255, nl_265, nl_270, nl_0, nI_add, pk_mul]; done)) (by omega) ?_
      simp only [ex_ui_ne _ _ _ _ n11]
      rw [ex_wi_ne _ _ _ n11, v11]
      refine s_Mdl_work_242 (by first | exact rf_row hR | rfl) (by exact rk_row hR) (by rw [rn_row hR]; exact n_in (a := (265 + 0)) (by first | rfl | (simp only [nl_1, nl_2, nl_3, nl_4, nl_5, nl_6, nl_7, nl_8, nl_9, nl_10, nl_11, nl_12, nl_13, nl_14, nl_15, nl_16, nl_32, nl_240, nl_250, nl_255, nl_265, nl_270, nl_0, nI_add, pk_mul]; done)) (by omega) (by omega)) ?_
      refine ex_ixs (q := (265 + 0)) (by first | rfl | (simp only [nl_1, nl_2, nl_3, nl_4, nl_5, nl_6, nl_7, nl_8, nl_9, nl_10, nl_11, nl_12, nl_13, nl_14, nl_15, nl_16, nl_32, nl_240, nl_250, nl_255, nl_265, nl_270, nl_0, nI_add, pk_mul]; done)) (by omega) ?_
      refine s_Mdl_work_243 ?_
      refine s_Mdl_work_246 ?_
      refine s_Mdl_work_215 ?_
      refine s_Mdl_work_217 ?_
      refine s_Mdl_work_218 (fun h218 => absurd h218 (by decide)) (fun h218 => ?_)
      refine s_Mdl_work_221 ?_
      refine s_Mdl_work_222 (by first | rfl | assumption | (simp [*]; done)) (by first | rfl | assumption | (simp [*]; done)) ?_
      refine s_Mdl_work_225 ?_
      refine s_Mdl_work_228 ?_
      refine s_Mdl_work_230 ?_
      refine s_Mdl_work_231 ?_
      refine s_Mdl_work_232 (by first | rfl | assumption | (simp [*]; done)) (by first | rfl | assumption | (simp [*]; done)) ?_
      refine s_Mdl_work_235 ?_
      refine s_Mdl_work_236 ?_
      refine s_Mdl_work_237 ?_
      refine s_Mdl_work_238 ?_
      refine s_Mdl_work_240 ?_
      refine s_Mdl_work_241 (by first | exact rf_control hR | rfl) (by exact rk_control hR) (by rw [rn_control hR]; exact n_in (a := ((4 * p) + (0 + 1))) (by first | rfl | (simp only [nl_1, nl_2, nl_3, nl_4, nl_5, nl_6, nl_7, nl_8, nl_9, nl_10, nl_11, nl_12, nl_13, nl_14, nl_15, nl_16, nl_32, nl_240, nl_250, nl_255, nl_265, nl_270, nl_0, nI_add, pk_mul]; done)) (by omega) (by omega)) ?_
      refine ex_ixl (q := ((4 * p) + (0 + 1))) (by first | rfl | (simp only [nl_1, nl_2, nl_3, nl_4, nl_5, nl_6, nl_7, nl_8, nl_9, nl_10, nl_11, nl_12, nl_13, nl_14, nl_15, nl_16, nl_32, nl_240, nl_250, nl_255, nl_265, nl_270, nl_0, nI_add, pk_mul]; done)) (by omega) ?_
      simp only [ex_ui_ne _ _ _ _ n11]
      rw [ex_wi_ne _ _ _ n11, v11]
      refine s_Mdl_work_242 (by first | exact rf_row hR | rfl) (by exact rk_row hR) (by rw [rn_row hR]; exact n_in (a := (265 + (0 + 1))) (by first | rfl | (simp only [nl_1, nl_2, nl_3, nl_4, nl_5, nl_6, nl_7, nl_8, nl_9, nl_10, nl_11, nl_12, nl_13, nl_14, nl_15, nl_16, nl_32, nl_240, nl_250, nl_255, nl_265, nl_270, nl_0, nI_add, pk_mul]; done)) (by omega) (by omega)) ?_
      refine ex_ixs (q := (265 + (0 + 1))) (by first | rfl | (simp only [nl_1, nl_2, nl_3, nl_4, nl_5, nl_6, nl_7, nl_8, nl_9, nl_10, nl_11, nl_12, nl_13, nl_14, nl_15, nl_16, nl_32, nl_240, nl_250, nl_255, nl_265, nl_270, nl_0, nI_add, pk_mul]; done)) (by omega) ?_
      refine s_Mdl_work_243 ?_
      refine s_Mdl_work_246 ?_
      refine s_Mdl_work_215 ?_
      refine s_Mdl_work_217 ?_
      refine s_Mdl_work_218 (fun h218 => absurd h218 (by decide)) (fun h218 => ?_)
      refine s_Mdl_work_221 ?_
      refine s_Mdl_work_222 (by first | rfl | assumption | (simp [*]; done)) (by first | rfl | assumption | (simp [*]; done)) ?_
      refine s_Mdl_work_225 ?_
      refine s_Mdl_work_228 ?_
      refine s_Mdl_work_230 ?_
      refine s_Mdl_work_231 ?_
      refine s_Mdl_work_232 (by first | rfl | assumption | (simp [*]; done)) (by first | rfl | assumption | (simp [*]; done)) ?_
      refine s_Mdl_work_235 ?_
      refine s_Mdl_work_236 ?_
      refine s_Mdl_work_237 ?_
      refine s_Mdl_work_238 ?_
      refine s_Mdl_work_240 ?_
      refine s_Mdl_work_241 (by first | exact rf_control hR | rfl) (by exact rk_control hR) (by rw [rn_control hR]; exact n_in (a := ((4 * p) + ((0 + 1) + 1))) (by first | rfl | (simp only [nl_1, nl_2, nl_3, nl_4, nl_5, nl_6, nl_7, nl_8, nl_9, nl_10, nl_11, nl_12, nl_13, nl_14, nl_15, nl_16, nl_32, nl_240, nl_250, nl_255, nl_265, nl_270, nl_0, nI_add, pk_mul]; done)) (by omega) (by omega)) ?_
      refine ex_ixl (q := ((4 * p) + ((0 + 1) + 1))) (by first | rfl | (simp only [nl_1, nl_2, nl_3, nl_4, nl_5, nl_6, nl_7, nl_8, nl_9, nl_10, nl_11, nl_12, nl_13, nl_14, nl_15, nl_16, nl_32, nl_240, nl_250, nl_255, nl_265, nl_270, nl_0, nI_add, pk_mul]; done)) (by omega) ?_
      simp only [ex_ui_ne _ _ _ _ n11]
      rw [ex_wi_ne _ _ _ n11, v11]
      refine s_Mdl_work_242 (by first | exact rf_row hR | rfl) (by exact rk_row hR) (by rw [rn_row hR]; exact n_in (a := (265 + ((0 + 1) + 1))) (by first | rfl | (simp only [nl_1, nl_2, nl_3, nl_4, nl_5, nl_6, nl_7, nl_8, nl_9, nl_10, nl_11, nl_12, nl_13, nl_14, nl_15, nl_16, nl_32, nl_240, nl_250, nl_255, nl_265, nl_270, nl_0, nI_add, pk_mul]; done)) (by omega) (by omega)) ?_
      refine ex_ixs (q := (265 + ((0 + 1) + 1))) (by first | rfl | (simp only [nl_1, nl_2, nl_3, nl_4, nl_5, nl_6, nl_7, nl_8, nl_9, nl_10, nl_11, nl_12, nl_13, nl_14, nl_15, nl_16, nl_32, nl_240, nl_250, nl_255, nl_265, nl_270, nl_0, nI_add, pk_mul]; done)) (by omega) ?_
      refine s_Mdl_work_243 ?_
      refine s_Mdl_work_246 ?_
      refine s_Mdl_work_215 ?_
      refine s_Mdl_work_217 ?_
      refine s_Mdl_work_218 (fun h218 => absurd h218 (by decide)) (fun h218 => ?_)
      refine s_Mdl_work_221 ?_
      refine s_Mdl_work_222 (by first | rfl | assumption | (simp [*]; done)) (by first | rfl | assumption | (simp [*]; done)) ?_
      refine s_Mdl_work_225 ?_
      refine s_Mdl_work_228 ?_
      refine s_Mdl_work_230 ?_
      refine s_Mdl_work_231 ?_
      refine s_Mdl_work_232 (by first | rfl | assumption | (simp [*]; done)) (by first | rfl | assumption | (simp [*]; done)) ?_
      refine s_Mdl_work_235 ?_
      refine s_Mdl_work_236 ?_
      refine s_Mdl_work_237 ?_
      refine s_Mdl_work_238 ?_
      refine s_Mdl_work_240 ?_
      refine s_Mdl_work_241 (by first | exact rf_control hR | rfl) (by exact rk_control hR) (by rw [rn_control hR]; exact n_in (a := ((4 * p) + (((0 + 1) + 1) + 1))) (by first | rfl | (simp only [nl_1, nl_2, nl_3, nl_4, nl_5, nl_6, nl_7, nl_8, nl_9, nl_10, nl_11, nl_12, nl_13, nl_14, nl_15, nl_16, nl_32, nl_240, nl_250, nl_255, nl_265, nl_270, nl_0, nI_add, pk_mul]; done)) (by omega) (by omega)) ?_
      refine ex_ixl (q := ((4 * p) + (((0 + 1) + 1) + 1))) (by first | rfl | (simp only [nl_1, nl_2, nl_3, nl_4, nl_5, nl_6, nl_7, nl_8, nl_9, nl_10, nl_11, nl_12, nl_13, nl_14, nl_15, nl_16, nl_32, nl_240, nl_250, nl_255, nl_265, nl_270, nl_0, nI_add, pk_mul]; done)) (by omega) ?_
      simp only [ex_ui_ne _ _ _ _ n11]
      rw [ex_wi_ne _ _ _ n11, v11]
      refine s_Mdl_work_242 (by first | exact rf_row hR | rfl) (by exact rk_row hR) (by rw [rn_row hR]; exact n_in (a := (265 + (((0 + 1) + 1) + 1))) (by first | rfl | (simp only [nl_1, nl_2, nl_3, nl_4, nl_5, nl_6, nl_7, nl_8, nl_9, nl_10, nl_11, nl_12, nl_13, nl_14, nl_15, nl_16, nl_32, nl_240, nl_250, nl_255, nl_265, nl_270, nl_0, nI_add, pk_mul]; done)) (by omega) (by omega)) ?_
      refine ex_ixs (q := (265 + (((0 + 1) + 1) + 1))) (by first | rfl | (simp only [nl_1, nl_2, nl_3, nl_4, nl_5, nl_6, nl_7, nl_8, nl_9, nl_10, nl_11, nl_12, nl_13, nl_14, nl_15, nl_16, nl_32, nl_240, nl_250, nl_255, nl_265, nl_270, nl_0, nI_add, pk_mul]; done)) (by omega) ?_
      refine s_Mdl_work_243 ?_
      refine s_Mdl_work_246 ?_
      refine s_Mdl_work_215 ?_
      refine s_Mdl_work_217 ?_
      refine s_Mdl_work_218 (fun h218 => ?_) (fun h218 => absurd h218 (by exact fun q => q (by decide)))
      refine s_Mdl_work_249 ?_
      refine s_Mdl_work_370 ?_
      rw [ex_wi_u, ex_wi_u, ex_wi_u, ex_wi_u, ex_wi_u, ex_wi_u, ex_wi_u, ex_wi_u, ex_wi_u, ex_wi_u]
      refine ⟨rfl, rfl, rfl, rr_bl hR h (fun c hc => ?_), fun j hj => ?_⟩
      · repeat rw [if_neg (by omega)]
        exact bl_out _ _ _ _ _ c hc
      · rw [ex_wi_at]
        have et : m_tg s p (cm 6) = 4 * s.1 8 p + cm 6 := by
          unfold m_tg
          rw [if_pos h100]
        have e3 : (if cm 4 = m_tg s p (cm 6) then (304 : Int32) else 200) = 304 := by
          rw [et]
          exact if_pos h135
        rcases (by omega : j = 0 ∨ j = 1 ∨ j = 2 ∨ j = 3 ∨ j = 4 ∨ j = 5 ∨ j = 6 ∨ j = 7 ∨ j = 8 ∨ j = 9 ∨ j = 10 ∨ j = 11 ∨ j = 12 ∨ j = 13 ∨ j = 14) with rfl | rfl | rfl | rfl | rfl | rfl | rfl | rfl | rfl | rfl | rfl | rfl | rfl | rfl | rfl
        all_goals
          dsimp only [grow]
          first
            | rfl
            | (rw [et]; rfl)
            | (rw [et] at e3; rw [et, e3]; rfl)
theorem sp_workN {Γ : ex_G} {d : Nat} {K : ex_K} {I : ex_I} {F : ex_F} {b : Nat} {m : Nat} {ad : Nat → Nat} {s : MS} (hR : rf_ok K F m ad) (h : rr I m ad s) {p : Nat} {cm : Nat → Int32} {x1 n : Int32} (hm : cm_ok I ad cm) (hp : p < 8) (h5 : cm 5 = nI p) (hk : cm 3 = 1) (hv : s.1 8 p = 0) : ex_E Γ (d + 1) M_Mdl_work 0 [some (.inr (some m)), some (.inl x1), some (.inl n), none, none, none, none, none] [] K I F b (fun x K' I' F' => x = none ∧ K = K' ∧ F = F' ∧ rr I' m ad (m_wks s p cm) ∧ ∀ j, j < 15 → I' 21 (ad 31) (255 + j) = m_wkr s x1 n p cm j) := by
  have m1 := hR.1
  have v8 := h.1 8 (by decide)
  have v9 := h.1 9 (by decide)
  have v10 := h.1 10 (by decide)
  have v11 := h.1 11 (by decide)
  have eT := h.2.2.1 805 (by decide)
  have e6 := h.2.2.1 806 (by decide)
  have n8 : ad 8 ≠ ad 31 := rf_ne hR (by decide)
  have n9 : ad 9 ≠ ad 31 := rf_ne hR (by decide)
  have n10 : ad 10 ≠ ad 31 := rf_ne hR (by decide)
  have n11 : ad 11 ≠ ad 31 := rf_ne hR (by decide)
  have n1011 : ad 10 ≠ ad 11 := rf_ne hR (by decide)
  have c3 : I 21 (ad 31) 243 = cm 3 := hm 3 (by decide)
  have c4 : I 21 (ad 31) 244 = cm 4 := hm 4 (by decide)
  have c5 : I 21 (ad 31) 245 = cm 5 := hm 5 (by decide)
  have c6 : I 21 (ad 31) 246 = cm 6 := hm 6 (by decide)
  have c7 : I 21 (ad 31) 247 = cm 7 := hm 7 (by decide)
  have e0 : m_wkr s x1 n p cm = arow x1 n 404 := by
    unfold m_wkr
    rw [if_pos hk, if_pos hv]
  have e1 : m_wks s p cm = s := by
    unfold m_wks
    rw [if_pos hk]
  rw [e0, e1]
  refine s_Mdl_work_0 ?_
  refine s_Mdl_work_1 (by first | rfl | assumption | (simp [*]; done)) (by first | rfl | assumption | (simp [*]; done)) ?_
  refine s_Mdl_work_4 ?_
  refine s_Mdl_work_7 (by first | exact rf_row hR | rfl) (by exact rk_row hR) (by rw [rn_row hR]; exact n_in (a := 245) (by first | rfl | (simp only [nl_1, nl_2, nl_3, nl_4, nl_5, nl_6, nl_7, nl_8, nl_9, nl_10, nl_11, nl_12, nl_13, nl_14, nl_15, nl_16, nl_32, nl_240, nl_250, nl_255, nl_265, nl_270, nl_0, nI_add, pk_mul]; done)) (by omega) (by omega)) ?_
  refine ex_ixl (q := 245) (by first | rfl | (simp only [nl_1, nl_2, nl_3, nl_4, nl_5, nl_6, nl_7, nl_8, nl_9, nl_10, nl_11, nl_12, nl_13, nl_14, nl_15, nl_16, nl_32, nl_240, nl_250, nl_255, nl_265, nl_270, nl_0, nI_add, pk_mul]; done)) (by omega) ?_
  rw [c5, h5]
  refine s_Mdl_work_8 ?_
  refine s_Mdl_work_9 ?_
  refine s_Mdl_work_10 (by first | rfl | assumption | (simp [*]; done)) (by first | rfl | assumption | (simp [*]; done)) ?_
  refine s_Mdl_work_13 ?_
  refine s_Mdl_work_16 (by first | exact rf_row hR | rfl) (by exact rk_row hR) (by rw [rn_row hR]; exact n_in (a := 243) (by first | rfl | (simp only [nl_1, nl_2, nl_3, nl_4, nl_5, nl_6, nl_7, nl_8, nl_9, nl_10, nl_11, nl_12, nl_13, nl_14, nl_15, nl_16, nl_32, nl_240, nl_250, nl_255, nl_265, nl_270, nl_0, nI_add, pk_mul]; done)) (by omega) (by omega)) ?_
  refine ex_ixl (q := 243) (by first | rfl | (simp only [nl_1, nl_2, nl_3, nl_4, nl_5, nl_6, nl_7, nl_8, nl_9, nl_10, nl_11, nl_12, nl_13, nl_14, nl_15, nl_16, nl_32, nl_240, nl_250, nl_255, nl_265, nl_270, nl_0, nI_add, pk_mul]; done)) (by omega) ?_
  rw [c3, hk]
  refine s_Mdl_work_17 ?_
  refine s_Mdl_work_19 ?_
  refine s_Mdl_work_20 (by first | rfl | assumption | (simp [*]; done)) (by first | rfl | assumption | (simp [*]; done)) ?_
  refine s_Mdl_work_23 ?_
  refine s_Mdl_work_24 (by first | exact rf_version hR | rfl) (by exact rk_version hR) (by rw [rn_version hR]; exact n_in (a := p) (by first | rfl | (simp only [nl_1, nl_2, nl_3, nl_4, nl_5, nl_6, nl_7, nl_8, nl_9, nl_10, nl_11, nl_12, nl_13, nl_14, nl_15, nl_16, nl_32, nl_240, nl_250, nl_255, nl_265, nl_270, nl_0, nI_add, pk_mul]; done)) (by omega) (by omega)) ?_
  refine ex_ixl (q := p) (by first | rfl | (simp only [nl_1, nl_2, nl_3, nl_4, nl_5, nl_6, nl_7, nl_8, nl_9, nl_10, nl_11, nl_12, nl_13, nl_14, nl_15, nl_16, nl_32, nl_240, nl_250, nl_255, nl_265, nl_270, nl_0, nI_add, pk_mul]; done)) (by omega) ?_
  rw [v8]
  refine s_Mdl_work_25 (fun h25 => absurd h25 (by exact fun q => q hv)) (fun h25 => ?_)
  refine s_Mdl_work_28 ?_
  refine s_Mdl_work_29 ?_
  refine s_Mdl_work_33 ?_
  refine s_Mdl_work_35 ?_
  refine s_Mdl_work_36 ?_
  refine s_Mdl_work_37 ?_
  refine s_Mdl_work_38 ?_
  refine s_Mdl_work_39 ?_
  refine s_Mdl_work_41 (fun h41 => absurd h41 (by decide)) (fun h41 => ?_)
  refine s_Mdl_work_44 ?_
  refine s_Mdl_work_46 ?_
  refine s_Mdl_work_47 (fun h47 => absurd h47 (by decide)) (fun h47 => ?_)
  refine s_Mdl_work_50 ?_
  refine s_Mdl_work_53 ?_
  refine s_Mdl_work_71 (b1 := 0) (b2 := b) (by first | rfl | assumption | (simp [*]; done)) (by first | rfl | assumption | (simp [*]; done)) (sp_blank hR) ?_ (by omega)
  rintro _ _ _ _ ⟨rfl, rfl, rfl, rfl⟩
  dsimp only [Option.toList, List.cons_append, List.nil_append]
  refine s_Mdl_work_74 ?_
  refine s_Mdl_work_76 ?_
  refine s_Mdl_work_77 (fun h77 => absurd h77 (by exact fun q => q rfl)) (fun h77 => ?_)
  refine s_Mdl_work_80 ?_
  refine s_Mdl_work_82 (fun h82 => ?_) (fun h82 => absurd h82 (by decide))
  refine s_Mdl_work_252 ?_
  refine s_Mdl_work_254 ?_
  refine s_Mdl_work_255 (fun h255 => ?_) (fun h255 => absurd h255 (by decide))
  refine s_Mdl_work_357 ?_
  refine s_Mdl_work_359 ?_
  refine s_Mdl_work_360 (fun h360 => ?_) (fun h360 => absurd h360 (by decide))
  refine s_Mdl_work_370 ?_
  exact ⟨rfl, rfl, rfl, rr_bl hR h (bl_out _ _ _ _ _), fun j hj => by rw [ex_wi_at]; exact bl_row _ _ _ _ j hj⟩
theorem sp_workD {Γ : ex_G} {d : Nat} {K : ex_K} {I : ex_I} {F : ex_F} {b : Nat} {m : Nat} {ad : Nat → Nat} {s : MS} (hR : rf_ok K F m ad) (h : rr I m ad s) {p : Nat} {cm : Nat → Int32} {x1 n : Int32} (hm : cm_ok I ad cm) (hp : p < 8) (h5 : cm 5 = nI p) (hk : cm 3 = 3) (hv : ¬ s.1 8 p = 0) : ex_E Γ (d + 1) M_Mdl_work 0 [some (.inr (some m)), some (.inl x1), some (.inl n), none, none, none, none, none] [] K I F b (fun x K' I' F' => x = none ∧ K = K' ∧ F = F' ∧ rr I' m ad (m_wks s p cm) ∧ ∀ j, j < 15 → I' 21 (ad 31) (255 + j) = m_wkr s x1 n p cm j) := by
  have m1 := hR.1
  have v8 := h.1 8 (by decide)
  have v9 := h.1 9 (by decide)
  have v10 := h.1 10 (by decide)
  have v11 := h.1 11 (by decide)
  have eT := h.2.2.1 805 (by decide)
  have e6 := h.2.2.1 806 (by decide)
  have n8 : ad 8 ≠ ad 31 := rf_ne hR (by decide)
  have n9 : ad 9 ≠ ad 31 := rf_ne hR (by decide)
  have n10 : ad 10 ≠ ad 31 := rf_ne hR (by decide)
  have n11 : ad 11 ≠ ad 31 := rf_ne hR (by decide)
  have n1011 : ad 10 ≠ ad 11 := rf_ne hR (by decide)
  have c3 : I 21 (ad 31) 243 = cm 3 := hm 3 (by decide)
  have c4 : I 21 (ad 31) 244 = cm 4 := hm 4 (by decide)
  have c5 : I 21 (ad 31) 245 = cm 5 := hm 5 (by decide)
  have c6 : I 21 (ad 31) 246 = cm 6 := hm 6 (by decide)
  have c7 : I 21 (ad 31) 247 = cm 7 := hm 7 (by decide)
  have e0 : m_wkr s x1 n p cm = arow x1 n 204 := by
    unfold m_wkr
    rw [hk, if_neg (by decide), if_neg (by decide), if_neg hv]
  have e1 : m_wks s p cm = cw s 8 p 0 := by
    unfold m_wks
    rw [hk, if_neg (by decide), if_neg (by decide)]
  rw [e0, e1]
  have n318 : ad 31 ≠ ad 8 := rf_ne hR (by decide)
  have n319 : ad 31 ≠ ad 9 := rf_ne hR (by decide)
  have n3110 : ad 31 ≠ ad 10 := rf_ne hR (by decide)
  have n3111 : ad 31 ≠ ad 11 := rf_ne hR (by decide)
  refine s_Mdl_work_0 ?_
  refine s_Mdl_work_1 (by first | rfl | assumption | (simp [*]; done)) (by first | rfl | assumption | (simp [*]; done)) ?_
  refine s_Mdl_work_4 ?_
  refine s_Mdl_work_7 (by first | exact rf_row hR | rfl) (by exact rk_row hR) (by rw [rn_row hR]; exact n_in (a := 245) (by first | rfl | (simp only [nl_1, nl_2, nl_3, nl_4, nl_5, nl_6, nl_7, nl_8, nl_9, nl_10, nl_11, nl_12, nl_13, nl_14, nl_15, nl_16, nl_32, nl_240, nl_250, nl_255, nl_265, nl_270, nl_0, nI_add, pk_mul]; done)) (by omega) (by omega)) ?_
  refine ex_ixl (q := 245) (by first | rfl | (simp only [nl_1, nl_2, nl_3, nl_4, nl_5, nl_6, nl_7, nl_8, nl_9, nl_10, nl_11, nl_12, nl_13, nl_14, nl_15, nl_16, nl_32, nl_240, nl_250, nl_255, nl_265, nl_270, nl_0, nI_add, pk_mul]; done)) (by omega) ?_
  rw [c5, h5]
  refine s_Mdl_work_8 ?_
  refine s_Mdl_work_9 ?_
  refine s_Mdl_work_10 (by first | rfl | assumption | (simp [*]; done)) (by first | rfl | assumption | (simp [*]; done)) ?_
  refine s_Mdl_work_13 ?_
  refine s_Mdl_work_16 (by first | exact rf_row hR | rfl) (by exact rk_row hR) (by rw [rn_row hR]; exact n_in (a := 243) (by first | rfl | (simp only [nl_1, nl_2, nl_3, nl_4, nl_5, nl_6, nl_7, nl_8, nl_9, nl_10, nl_11, nl_12, nl_13, nl_14, nl_15, nl_16, nl_32, nl_240, nl_250, nl_255, nl_265, nl_270, nl_0, nI_add, pk_mul]; done)) (by omega) (by omega)) ?_
  refine ex_ixl (q := 243) (by first | rfl | (simp only [nl_1, nl_2, nl_3, nl_4, nl_5, nl_6, nl_7, nl_8, nl_9, nl_10, nl_11, nl_12, nl_13, nl_14, nl_15, nl_16, nl_32, nl_240, nl_250, nl_255, nl_265, nl_270, nl_0, nI_add, pk_mul]; done)) (by omega) ?_
  rw [c3, hk]
  refine s_Mdl_work_17 ?_
  refine s_Mdl_work_19 ?_
  refine s_Mdl_work_20 (by first | rfl | assumption | (simp [*]; done)) (by first | rfl | assumption | (simp [*]; done)) ?_
  refine s_Mdl_work_23 ?_
  refine s_Mdl_work_24 (by first | exact rf_version hR | rfl) (by exact rk_version hR) (by rw [rn_version hR]; exact n_in (a := p) (by first | rfl | (simp only [nl_1, nl_2, nl_3, nl_4, nl_5, nl_6, nl_7, nl_8, nl_9, nl_10, nl_11, nl_12, nl_13, nl_14, nl_15, nl_16, nl_32, nl_240, nl_250, nl_255, nl_265, nl_270, nl_0, nI_add, pk_mul]; done)) (by omega) (by omega)) ?_
  refine ex_ixl (q := p) (by first | rfl | (simp only [nl_1, nl_2, nl_3, nl_4, nl_5, nl_6, nl_7, nl_8, nl_9, nl_10, nl_11, nl_12, nl_13, nl_14, nl_15, nl_16, nl_32, nl_240, nl_250, nl_255, nl_265, nl_270, nl_0, nI_add, pk_mul]; done)) (by omega) ?_
  rw [v8]
  refine s_Mdl_work_25 (fun h25 => ?_) (fun h25 => absurd h25 (by exact hv))
  refine s_Mdl_work_32 ?_
  refine s_Mdl_work_33 ?_
  refine s_Mdl_work_35 ?_
  refine s_Mdl_work_36 ?_
  refine s_Mdl_work_37 ?_
  refine s_Mdl_work_38 ?_
  refine s_Mdl_work_39 ?_
  refine s_Mdl_work_41 (fun h41 => ?_) (fun h41 => absurd h41 (by exact fun q => q rfl))
  refine s_Mdl_work_56 ?_
  refine s_Mdl_work_58 ?_
  refine s_Mdl_work_59 (fun h59 => ?_) (fun h59 => absurd h59 (by decide))
  refine s_Mdl_work_68 ?_
  refine s_Mdl_work_71 (b1 := 0) (b2 := b) (by first | rfl | assumption | (simp [*]; done)) (by first | rfl | assumption | (simp [*]; done)) (sp_blank hR) ?_ (by omega)
  rintro _ _ _ _ ⟨rfl, rfl, rfl, rfl⟩
  dsimp only [Option.toList, List.cons_append, List.nil_append]
  refine s_Mdl_work_74 ?_
  refine s_Mdl_work_76 ?_
  refine s_Mdl_work_77 (fun h77 => ?_) (fun h77 => absurd h77 (by decide))
  refine s_Mdl_work_252 ?_
  refine s_Mdl_work_254 ?_
  refine s_Mdl_work_255 (fun h255 => ?_) (fun h255 => absurd h255 (by decide))
  refine s_Mdl_work_357 ?_
  refine s_Mdl_work_359 ?_
  refine s_Mdl_work_360 (fun h360 => absurd h360 (by exact fun q => q rfl)) (fun h360 => ?_)
  refine s_Mdl_work_363 ?_
  refine s_Mdl_work_364 (by first | rfl | assumption | (simp [*]; done)) (by first | rfl | assumption | (simp [*]; done)) ?_
  refine s_Mdl_work_367 ?_
  refine s_Mdl_work_368 ?_
  refine s_Mdl_work_369 (by first | exact rf_version hR | rfl) (by exact rk_version hR) (by rw [rn_version hR]; exact n_in (a := p) (by first | rfl | (simp only [nl_1, nl_2, nl_3, nl_4, nl_5, nl_6, nl_7, nl_8, nl_9, nl_10, nl_11, nl_12, nl_13, nl_14, nl_15, nl_16, nl_32, nl_240, nl_250, nl_255, nl_265, nl_270, nl_0, nI_add, pk_mul]; done)) (by omega) (by omega)) ?_
  refine ex_ixs (q := p) (by first | rfl | (simp only [nl_1, nl_2, nl_3, nl_4, nl_5, nl_6, nl_7, nl_8, nl_9, nl_10, nl_11, nl_12, nl_13, nl_14, nl_15, nl_16, nl_32, nl_240, nl_250, nl_255, nl_265, nl_270, nl_0, nI_add, pk_mul]; done)) (by omega) ?_
  refine s_Mdl_work_370 ?_
  exact ⟨rfl, rfl, rfl, rr_ua hR (rr_bl hR h (bl_out _ _ _ _ _)) (by decide), fun j hj => by rw [ex_ui_ne _ _ _ _ n318, ex_wi_at]; exact bl_row _ _ _ _ j hj⟩
theorem sp_workDN {Γ : ex_G} {d : Nat} {K : ex_K} {I : ex_I} {F : ex_F} {b : Nat} {m : Nat} {ad : Nat → Nat} {s : MS} (hR : rf_ok K F m ad) (h : rr I m ad s) {p : Nat} {cm : Nat → Int32} {x1 n : Int32} (hm : cm_ok I ad cm) (hp : p < 8) (h5 : cm 5 = nI p) (hk : cm 3 = 3) (hv : s.1 8 p = 0) : ex_E Γ (d + 1) M_Mdl_work 0 [some (.inr (some m)), some (.inl x1), some (.inl n), none, none, none, none, none] [] K I F b (fun x K' I' F' => x = none ∧ K = K' ∧ F = F' ∧ rr I' m ad (m_wks s p cm) ∧ ∀ j, j < 15 → I' 21 (ad 31) (255 + j) = m_wkr s x1 n p cm j) := by
  have m1 := hR.1
  have v8 := h.1 8 (by decide)
  have v9 := h.1 9 (by decide)
  have v10 := h.1 10 (by decide)
  have v11 := h.1 11 (by decide)
  have eT := h.2.2.1 805 (by decide)
  have e6 := h.2.2.1 806 (by decide)
  have n8 : ad 8 ≠ ad 31 := rf_ne hR (by decide)
  have n9 : ad 9 ≠ ad 31 := rf_ne hR (by decide)
  have n10 : ad 10 ≠ ad 31 := rf_ne hR (by decide)
  have n11 : ad 11 ≠ ad 31 := rf_ne hR (by decide)
  have n1011 : ad 10 ≠ ad 11 := rf_ne hR (by decide)
  have c3 : I 21 (ad 31) 243 = cm 3 := hm 3 (by decide)
  have c4 : I 21 (ad 31) 244 = cm 4 := hm 4 (by decide)
  have c5 : I 21 (ad 31) 245 = cm 5 := hm 5 (by decide)
  have c6 : I 21 (ad 31) 246 = cm 6 := hm 6 (by decide)
  have c7 : I 21 (ad 31) 247 = cm 7 := hm 7 (by decide)
  have e0 : m_wkr s x1 n p cm = arow x1 n 404 := by
    unfold m_wkr
    rw [hk, if_neg (by decide), if_neg (by decide), if_pos hv]
  have e1 : m_wks s p cm = cw s 8 p 0 := by
    unfold m_wks
    rw [hk, if_neg (by decide), if_neg (by decide)]
  rw [e0, e1]
  have n318 : ad 31 ≠ ad 8 := rf_ne hR (by decide)
  have n319 : ad 31 ≠ ad 9 := rf_ne hR (by decide)
  have n3110 : ad 31 ≠ ad 10 := rf_ne hR (by decide)
  have n3111 : ad 31 ≠ ad 11 := rf_ne hR (by decide)
  refine s_Mdl_work_0 ?_
  refine s_Mdl_work_1 (by first | rfl | assumption | (simp [*]; done)) (by first | rfl | assumption | (simp [*]; done)) ?_
  refine s_Mdl_work_4 ?_
  refine s_Mdl_work_7 (by first | exact rf_row hR | rfl) (by exact rk_row hR) (by rw [rn_row hR]; exact n_in (a := 245) (by first | rfl | (simp only [nl_1, nl_2, nl_3, nl_4, nl_5, nl_6, nl_7, nl_8, nl_9, nl_10, nl_11, nl_12, nl_13, nl_14, nl_15, nl_16, nl_32, nl_240, nl_250, nl_255, nl_265, nl_270, nl_0, nI_add, pk_mul]; done)) (by omega) (by omega)) ?_
  refine ex_ixl (q := 245) (by first | rfl | (simp only [nl_1, nl_2, nl_3, nl_4, nl_5, nl_6, nl_7, nl_8, nl_9, nl_10, nl_11, nl_12, nl_13, nl_14, nl_15, nl_16, nl_32, nl_240, nl_250, nl_255, nl_265, nl_270, nl_0, nI_add, pk_mul]; done)) (by omega) ?_
  rw [c5, h5]
  refine s_Mdl_work_8 ?_
  refine s_Mdl_work_9 ?_
  refine s_Mdl_work_10 (by first | rfl | assumption | (simp [*]; done)) (by first | rfl | assumption | (simp [*]; done)) ?_
  refine s_Mdl_work_13 ?_
  refine s_Mdl_work_16 (by first | exact rf_row hR | rfl) (by exact rk_row hR) (by rw [rn_row hR]; exact n_in (a := 243) (by first | rfl | (simp only [nl_1, nl_2, nl_3, nl_4, nl_5, nl_6, nl_7, nl_8, nl_9, nl_10, nl_11, nl_12, nl_13, nl_14, nl_15, nl_16, nl_32, nl_240, nl_250, nl_255, nl_265, nl_270, nl_0, nI_add, pk_mul]; done)) (by omega) (by omega)) ?_
  refine ex_ixl (q := 243) (by first | rfl | (simp only [nl_1, nl_2, nl_3, nl_4, nl_5, nl_6, nl_7, nl_8, nl_9, nl_10, nl_11, nl_12, nl_13, nl_14, nl_15, nl_16, nl_32, nl_240, nl_250, nl_255, nl_265, nl_270, nl_0, nI_add, pk_mul]; done)) (by omega) ?_
  rw [c3, hk]
  refine s_Mdl_work_17 ?_
  refine s_Mdl_work_19 ?_
  refine s_Mdl_work_20 (by first | rfl | assumption | (simp [*]; done)) (by first | rfl | assumption | (simp [*]; done)) ?_
  refine s_Mdl_work_23 ?_
  refine s_Mdl_work_24 (by first | exact rf_version hR | rfl) (by exact rk_version hR) (by rw [rn_version hR]; exact n_in (a := p) (by first | rfl | (simp only [nl_1, nl_2, nl_3, nl_4, nl_5, nl_6, nl_7, nl_8, nl_9, nl_10, nl_11, nl_12, nl_13, nl_14, nl_15, nl_16, nl_32, nl_240, nl_250, nl_255, nl_265, nl_270, nl_0, nI_add, pk_mul]; done)) (by omega) (by omega)) ?_
  refine ex_ixl (q := p) (by first | rfl | (simp only [nl_1, nl_2, nl_3, nl_4, nl_5, nl_6, nl_7, nl_8, nl_9, nl_10, nl_11, nl_12, nl_13, nl_14, nl_15, nl_16, nl_32, nl_240, nl_250, nl_255, nl_265, nl_270, nl_0, nI_add, pk_mul]; done)) (by omega) ?_
  rw [v8]
  refine s_Mdl_work_25 (fun h25 => absurd h25 (by exact fun q => q hv)) (fun h25 => ?_)
  refine s_Mdl_work_28 ?_
  refine s_Mdl_work_29 ?_
  refine s_Mdl_work_33 ?_
  refine s_Mdl_work_35 ?_
  refine s_Mdl_work_36 ?_
  refine s_Mdl_work_37 ?_
  refine s_Mdl_work_38 ?_
  refine s_Mdl_work_39 ?_
  refine s_Mdl_work_41 (fun h41 => absurd h41 (by decide)) (fun h41 => ?_)
  refine s_Mdl_work_44 ?_
  refine s_Mdl_work_46 ?_
  refine s_Mdl_work_47 (fun h47 => absurd h47 (by decide)) (fun h47 => ?_)
  refine s_Mdl_work_50 ?_
  refine s_Mdl_work_53 ?_
  refine s_Mdl_work_71 (b1 := 0) (b2 := b) (by first | rfl | assumption | (simp [*]; done)) (by first | rfl | assumption | (simp [*]; done)) (sp_blank hR) ?_ (by omega)
  rintro _ _ _ _ ⟨rfl, rfl, rfl, rfl⟩
  dsimp only [Option.toList, List.cons_append, List.nil_append]
  refine s_Mdl_work_74 ?_
  refine s_Mdl_work_76 ?_
  refine s_Mdl_work_77 (fun h77 => ?_) (fun h77 => absurd h77 (by decide))
  refine s_Mdl_work_252 ?_
  refine s_Mdl_work_254 ?_
  refine s_Mdl_work_255 (fun h255 => ?_) (fun h255 => absurd h255 (by decide))
  refine s_Mdl_work_357 ?_
  refine s_Mdl_work_359 ?_
  refine s_Mdl_work_360 (fun h360 => absurd h360 (by exact fun q => q rfl)) (fun h360 => ?_)
  refine s_Mdl_work_363 ?_
  refine s_Mdl_work_364 (by first | rfl | assumption | (simp [*]; done)) (by first | rfl | assumption | (simp [*]; done)) ?_
  refine s_Mdl_work_367 ?_
  refine s_Mdl_work_368 ?_
  refine s_Mdl_work_369 (by first | exact rf_version hR | rfl) (by exact rk_version hR) (by rw [rn_version hR]; exact n_in (a := p) (by first | rfl | (simp only [nl_1, nl_2, nl_3, nl_4, nl_5, nl_6, nl_7, nl_8, nl_9, nl_10, nl_11, nl_12, nl_13, nl_14, nl_15, nl_16, nl_32, nl_240, nl_250, nl_255, nl_265, nl_270, nl_0, nI_add, pk_mul]; done)) (by omega) (by omega)) ?_
  refine ex_ixs (q := p) (by first | rfl | (simp only [nl_1, nl_2, nl_3, nl_4, nl_5, nl_6, nl_7, nl_8, nl_9, nl_10, nl_11, nl_12, nl_13, nl_14, nl_15, nl_16, nl_32, nl_240, nl_250, nl_255, nl_265, nl_270, nl_0, nI_add, pk_mul]; done)) (by omega) ?_
  refine s_Mdl_work_370 ?_
  exact ⟨rfl, rfl, rfl, rr_ua hR (rr_bl hR h (bl_out _ _ _ _ _)) (by decide), fun j hj => by rw [ex_ui_ne _ _ _ _ n318, ex_wi_at]; exact bl_row _ _ _ _ j hj⟩
theorem sp_workP {Γ : ex_G} {d : Nat} {K : ex_K} {I : ex_I} {F : ex_F} {b : Nat} {m : Nat} {ad : Nat → Nat} {s : MS} (hR : rf_ok K F m ad) (h : rr I m ad s) {p : Nat} {cm : Nat → Int32} {x1 n : Int32} (hm : cm_ok I ad cm) (hp : p < 8) (h5 : cm 5 = nI p) (hk : cm 3 = 2) (hv : ¬ s.1 8 p = 0) : ex_E Γ (d + 1) M_Mdl_work 0 [some (.inr (some m)), some (.inl x1), some (.inl n), none, none, none, none, none] [] K I F b (fun x K' I' F' => x = none ∧ K = K' ∧ F = F' ∧ rr I' m ad (m_wks s p cm) ∧ ∀ j, j < 15 → I' 21 (ad 31) (255 + j) = m_wkr s x1 n p cm j) := by
  have m1 := hR.1
  have v8 := h.1 8 (by decide)
  have v9 := h.1 9 (by decide)
  have v10 := h.1 10 (by decide)
  have v11 := h.1 11 (by decide)
  have eT := h.2.2.1 805 (by decide)
  have e6 := h.2.2.1 806 (by decide)
  have n8 : ad 8 ≠ ad 31 := rf_ne hR (by decide)
  have n9 : ad 9 ≠ ad 31 := rf_ne hR (by decide)
  have n10 : ad 10 ≠ ad 31 := rf_ne hR (by decide)
  have n11 : ad 11 ≠ ad 31 := rf_ne hR (by decide)
  have n1011 : ad 10 ≠ ad 11 := rf_ne hR (by decide)
  have c3 : I 21 (ad 31) 243 = cm 3 := hm 3 (by decide)
  have c4 : I 21 (ad 31) 244 = cm 4 := hm 4 (by decide)
  have c5 : I 21 (ad 31) 245 = cm 5 := hm 5 (by decide)
  have c6 : I 21 (ad 31) 246 = cm 6 := hm 6 (by decide)
  have c7 : I 21 (ad 31) 247 = cm 7 := hm 7 (by decide)
  have e0 : m_wkr s x1 n p cm = arow x1 n 204 := by
    unfold m_wkr
    rw [hk, if_neg (by decide), if_pos rfl]
  have e1 : m_wks s p cm = m_wk2 (cw (cw s 806 0 (s.1 806 0 + 1)) 10 p (s.1 10 p)) p (cm 7) := by
    unfold m_wks
    rw [hk, if_neg (by decide), if_pos rfl, if_neg hv]
  rw [e0, e1]
  have n318 : ad 31 ≠ ad 8 := rf_ne hR (by decide)
  have n319 : ad 31 ≠ ad 9 := rf_ne hR (by decide)
  have n3110 : ad 31 ≠ ad 10 := rf_ne hR (by decide)
  have n3111 : ad 31 ≠ ad 11 := rf_ne hR (by decide)
  refine s_Mdl_work_0 ?_
  refine s_Mdl_work_1 (by first | rfl | assumption | (simp [*]; done)) (by first | rfl | assumption | (simp [*]; done)) ?_
  refine s_Mdl_work_4 ?_
  refine s_Mdl_work_7 (by first | exact rf_row hR | rfl) (by exact rk_row hR) (by rw [rn_row hR]; exact n_in (a := 245) (by first | rfl | (simp only [nl_1, nl_2, nl_3, nl_4, nl_5, nl_6, nl_7, nl_8, nl_9, nl_10, nl_11, nl_12, nl_13, nl_14, nl_15, nl_16, nl_32, nl_240, nl_250, nl_255, nl_265, nl_270, nl_0, nI_add, pk_mul]; done)) (by omega) (by omega)) ?_
  refine ex_ixl (q := 245) (by first | rfl | (simp only [nl_1, nl_2, nl_3, nl_4, nl_5, nl_6, nl_7, nl_8, nl_9, nl_10, nl_11, nl_12, nl_13, nl_14, nl_15, nl_16, nl_32, nl_240, nl_250, nl_255, nl_265, nl_270, nl_0, nI_add, pk_mul]; done)) (by omega) ?_
  rw [c5, h5]
  refine s_Mdl_work_8 ?_
  refine s_Mdl_work_9 ?_
  refine s_Mdl_work_10 (by first | rfl | assumption | (simp [*]; done)) (by first | rfl | assumption | (simp [*]; done)) ?_
  refine s_Mdl_work_13 ?_
  refine s_Mdl_work_16 (by first | exact rf_row hR | rfl) (by exact rk_row hR) (by rw [rn_row hR]; exact n_in (a := 243) (by first | rfl | (simp only [nl_1, nl_2, nl_3, nl_4, nl_5, nl_6, nl_7, nl_8, nl_9, nl_10, nl_11, nl_12, nl_13, nl_14, nl_15, nl_16, nl_32, nl_240, nl_250, nl_255, nl_265, nl_270, nl_0, nI_add, pk_mul]; done)) (by omega) (by omega)) ?_
  refine ex_ixl (q := 243) (by first | rfl | (simp only [nl_1, nl_2, nl_3, nl_4, nl_5, nl_6, nl_7, nl_8, nl_9, nl_10, nl_11, nl_12, nl_13, nl_14, nl_15, nl_16, nl_32, nl_240, nl_250, nl_255, nl_265, nl_270, nl_0, nI_add, pk_mul]; done)) (by omega) ?_
  rw [c3, hk]
  refine s_Mdl_work_17 ?_
  refine s_Mdl_work_19 ?_
  refine s_Mdl_work_20 (by first | rfl | assumption | (simp [*]; done)) (by first | rfl | assumption | (simp [*]; done)) ?_
  refine s_Mdl_work_23 ?_
  refine s_Mdl_work_24 (by first | exact rf_version hR | rfl) (by exact rk_version hR) (by rw [rn_version hR]; exact n_in (a := p) (by first | rfl | (simp only [nl_1, nl_2, nl_3, nl_4, nl_5, nl_6, nl_7, nl_8, nl_9, nl_10, nl_11, nl_12, nl_13, nl_14, nl_15, nl_16, nl_32, nl_240, nl_250, nl_255, nl_265, nl_270, nl_0, nI_add, pk_mul]; done)) (by omega) (by omega)) ?_
  refine ex_ixl (q := p) (by first | rfl | (simp only [nl_1, nl_2, nl_3, nl_4, nl_5, nl_6, nl_7, nl_8, nl_9, nl_10, nl_11, nl_12, nl_13, nl_14, nl_15, nl_16, nl_32, nl_240, nl_250, nl_255, nl_265, nl_270, nl_0, nI_add, pk_mul]; done)) (by omega) ?_
  rw [v8]
  refine s_Mdl_work_25 (fun h25 => ?_) (fun h25 => absurd h25 (by exact hv))
  refine s_Mdl_work_32 ?_
  refine s_Mdl_work_33 ?_
  refine s_Mdl_work_35 ?_
  refine s_Mdl_work_36 ?_
  refine s_Mdl_work_37 ?_
  refine s_Mdl_work_38 ?_
  refine s_Mdl_work_39 ?_
  refine s_Mdl_work_41 (fun h41 => ?_) (fun h41 => absurd h41 (by exact fun q => q rfl))
  refine s_Mdl_work_56 ?_
  refine s_Mdl_work_58 ?_
  refine s_Mdl_work_59 (fun h59 => ?_) (fun h59 => absurd h59 (by decide))
  refine s_Mdl_work_68 ?_
  refine s_Mdl_work_71 (b1 := 0) (b2 := b) (by first | rfl | assumption | (simp [*]; done)) (by first | rfl | assumption | (simp [*]; done)) (sp_blank hR) ?_ (by omega)
  rintro _ _ _ _ ⟨rfl, rfl, rfl, rfl⟩
  dsimp only [Option.toList, List.cons_append, List.nil_append]
  refine s_Mdl_work_74 ?_
  refine s_Mdl_work_76 ?_
  refine s_Mdl_work_77 (fun h77 => ?_) (fun h77 => absurd h77 (by decide))
  refine s_Mdl_work_252 ?_
  refine s_Mdl_work_254 ?_
  refine s_Mdl_work_255 (fun h255 => absurd h255 (by exact fun q => q rfl)) (fun h255 => ?_)
  refine s_Mdl_work_258 ?_
  refine s_Mdl_work_259 ?_
  refine s_Mdl_work_260 (by first | rfl | assumption | (simp [*]; done)) (by first | rfl | assumption | (simp [*]; done)) ?_
  rw [ex_wi_f _ _ _ (by decide), e6]
  refine s_Mdl_work_263 ?_
  refine s_Mdl_work_264 ?_
  refine s_Mdl_work_265 (by first | rfl | assumption | (simp [*]; done)) (by first | rfl | assumption | (simp [*]; done)) ?_
  refine s_Mdl_work_268 ?_
  refine s_Mdl_work_269 ?_
  refine s_Mdl_work_271 ?_
  refine s_Mdl_work_273 ?_
  refine s_Mdl_work_274 (fun h274 => absurd h274 (by decide)) (fun h274 => ?_)
  refine s_Mdl_work_277 ?_
  refine s_Mdl_work_279 (fun h279 => ?_) (fun h279 => absurd h279 (by exact fun q => q rfl))
  refine s_Mdl_work_309 ?_
  refine s_Mdl_work_310 (by first | rfl | assumption | (simp [*]; done)) (by first | rfl | assumption | (simp [*]; done)) ?_
  refine s_Mdl_work_313 ?_
  refine s_Mdl_work_314 ?_
  refine s_Mdl_work_316 (fun h316 => ?_) (fun h316 => absurd h316 (by exact fun q => q rfl))
  refine s_Mdl_work_323 ?_
  refine s_Mdl_work_324 (by first | rfl | assumption | (simp [*]; done)) (by first | rfl | assumption | (simp [*]; done)) ?_
  refine s_Mdl_work_327 ?_
  refine s_Mdl_work_328 (by first | exact rf_vary hR | rfl) (by exact rk_vary hR) (by rw [rn_vary hR]; exact n_in (a := p) (by first | rfl | (simp only [nl_1, nl_2, nl_3, nl_4, nl_5, nl_6, nl_7, nl_8, nl_9, nl_10, nl_11, nl_12, nl_13, nl_14, nl_15, nl_16, nl_32, nl_240, nl_250, nl_255, nl_265, nl_270, nl_0, nI_add, pk_mul]; done)) (by omega) (by omega)) ?_
  refine ex_ixl (q := p) (by first | rfl | (simp only [nl_1, nl_2, nl_3, nl_4, nl_5, nl_6, nl_7, nl_8, nl_9, nl_10, nl_11, nl_12, nl_13, nl_14, nl_15, nl_16, nl_32, nl_240, nl_250, nl_255, nl_265, nl_270, nl_0, nI_add, pk_mul]; done)) (by omega) ?_
  rw [ex_ui_f _ _ _ _ (by decide), ex_wi_ne _ _ _ n10, v10]
  refine s_Mdl_work_329 (by first | exact rf_vary hR | rfl) (by exact rk_vary hR) (by rw [rn_vary hR]; exact n_in (a := p) (by first | rfl | (simp only [nl_1, nl_2, nl_3, nl_4, nl_5, nl_6, nl_7, nl_8, nl_9, nl_10, nl_11, nl_12, nl_13, nl_14, nl_15, nl_16, nl_32, nl_240, nl_250, nl_255, nl_265, nl_270, nl_0, nI_add, pk_mul]; done)) (by omega) (by omega)) ?_
  refine ex_ixs (q := p) (by first | rfl | (simp only [nl_1, nl_2, nl_3, nl_4, nl_5, nl_6, nl_7, nl_8, nl_9, nl_10, nl_11, nl_12, nl_13, nl_14, nl_15, nl_16, nl_32, nl_240, nl_250, nl_255, nl_265, nl_270, nl_0, nI_add, pk_mul]; done)) (by omega) ?_
  refine s_Mdl_work_330 ?_
  refine s_Mdl_work_331 (by first | rfl | assumption | (simp [*]; done)) (by first | rfl | assumption | (simp [*]; done)) ?_
  refine s_Mdl_work_334 ?_
  refine s_Mdl_work_335 ?_
  refine s_Mdl_work_336 (by first | rfl | assumption | (simp [*]; done)) (by first | rfl | assumption | (simp [*]; done)) ?_
  simp only [ex_ui_f _ _ _ _ (show 806 ≠ 21 by decide)]
  rw [ex_ui_eq]
  refine s_Mdl_work_339 (by first | exact rf_version hR | rfl) (by exact rk_version hR) (by rw [rn_version hR]; exact n_in (a := p) (by first | rfl | (simp only [nl_1, nl_2, nl_3, nl_4, nl_5, nl_6, nl_7, nl_8, nl_9, nl_10, nl_11, nl_12, nl_13, nl_14, nl_15, nl_16, nl_32, nl_240, nl_250, nl_255, nl_265, nl_270, nl_0, nI_add, pk_mul]; done)) (by omega) (by omega)) ?_
  refine ex_ixs (q := p) (by first | rfl | (simp only [nl_1, nl_2, nl_3, nl_4, nl_5, nl_6, nl_7, nl_8, nl_9, nl_10, nl_11, nl_12, nl_13, nl_14, nl_15, nl_16, nl_32, nl_240, nl_250, nl_255, nl_265, nl_270, nl_0, nI_add, pk_mul]; done)) (by omega) ?_
  refine s_Mdl_work_340 ?_
  refine s_Mdl_work_341 (by first | rfl | assumption | (simp [*]; done)) (by first | rfl | assumption | (simp [*]; done)) ?_
  refine s_Mdl_work_344 ?_
  refine s_Mdl_work_345 ?_
  refine s_Mdl_work_346 (by first | rfl | assumption | (simp [*]; done)) (by first | rfl | assumption | (simp [*]; done)) ?_
  refine s_Mdl_work_349 ?_
  refine s_Mdl_work_352 (by first | exact rf_row hR | rfl) (by exact rk_row hR) (by rw [rn_row hR]; exact n_in (a := 247) (by first | rfl | (simp only [nl_1, nl_2, nl_3, nl_4, nl_5, nl_6, nl_7, nl_8, nl_9, nl_10, nl_11, nl_12, nl_13, nl_14, nl_15, nl_16, nl_32, nl_240, nl_250, nl_255, nl_265, nl_270, nl_0, nI_add, pk_mul]; done)) (by omega) (by omega)) ?_
  refine ex_ixl (q := 247) (by first | rfl | (simp only [nl_1, nl_2, nl_3, nl_4, nl_5, nl_6, nl_7, nl_8, nl_9, nl_10, nl_11, nl_12, nl_13, nl_14, nl_15, nl_16, nl_32, nl_240, nl_250, nl_255, nl_265, nl_270, nl_0, nI_add, pk_mul]; done)) (by omega) ?_
  simp only [ex_ui_ne _ _ _ _ n318, ex_ui_ne _ _ _ _ n3110, ex_ui_ne _ _ _ _ n3111, ex_ui_f _ _ _ _ (show 21 ≠ 806 by decide)]
  rw [ex_wi_at, bl_out _ _ _ _ _ 247 (by decide), c7]
  refine s_Mdl_work_353 (by first | exact rf_big hR | rfl) (by exact rk_big hR) (by rw [rn_big hR]; exact n_in (a := p) (by first | rfl | (simp only [nl_1, nl_2, nl_3, nl_4, nl_5, nl_6, nl_7, nl_8, nl_9, nl_10, nl_11, nl_12, nl_13, nl_14, nl_15, nl_16, nl_32, nl_240, nl_250, nl_255, nl_265, nl_270, nl_0, nI_add, pk_mul]; done)) (by omega) (by omega)) ?_
  refine ex_ixs (q := p) (by first | rfl | (simp only [nl_1, nl_2, nl_3, nl_4, nl_5, nl_6, nl_7, nl_8, nl_9, nl_10, nl_11, nl_12, nl_13, nl_14, nl_15, nl_16, nl_32, nl_240, nl_250, nl_255, nl_265, nl_270, nl_0, nI_add, pk_mul]; done)) (by omega) ?_
  refine s_Mdl_work_354 ?_
  refine s_Mdl_work_370 ?_
  have k1 := rr_us (K := K) (F := F) (g := 806) (x := s.1 806 0 + 1) (rr_bl hR h (bl_out (I 21 (ad 31)) x1 1 n 204)) (by decide)
  refine ⟨rfl, rfl, rfl, ?_, fun j hj => by simp only [ex_ui_ne _ _ _ _ n318, ex_ui_ne _ _ _ _ n319, ex_ui_ne _ _ _ _ n3110, ex_ui_ne _ _ _ _ n3111, ex_ui_f _ _ _ _ (show 21 ≠ 806 by decide)]; rw [ex_wi_at]; exact bl_row _ _ _ _ j hj⟩
  exact rr_ua hR (rr_ua hR (rr_ua hR k1 (by decide)) (by decide)) (by decide)
theorem sp_workPN {Γ : ex_G} {d : Nat} {K : ex_K} {I : ex_I} {F : ex_F} {b : Nat} {m : Nat} {ad : Nat → Nat} {s : MS} (hR : rf_ok K F m ad) (h : rr I m ad s) {p : Nat} {cm : Nat → Int32} {x1 n : Int32} (hm : cm_ok I ad cm) (hp : p < 8) (h5 : cm 5 = nI p) (hk : cm 3 = 2) (hv : s.1 8 p = 0) : ex_E Γ (d + 1) M_Mdl_work 0 [some (.inr (some m)), some (.inl x1), some (.inl n), none, none, none, none, none] [] K I F b (fun x K' I' F' => x = none ∧ K = K' ∧ F = F' ∧ rr I' m ad (m_wks s p cm) ∧ ∀ j, j < 15 → I' 21 (ad 31) (255 + j) = m_wkr s x1 n p cm j) := by
  have m1 := hR.1
  have v8 := h.1 8 (by decide)
  have v9 := h.1 9 (by decide)
  have v10 := h.1 10 (by decide)
  have v11 := h.1 11 (by decide)
  have eT := h.2.2.1 805 (by decide)
  have e6 := h.2.2.1 806 (by decide)
  have n8 : ad 8 ≠ ad 31 := rf_ne hR (by decide)
  have n9 : ad 9 ≠ ad 31 := rf_ne hR (by decide)
  have n10 : ad 10 ≠ ad 31 := rf_ne hR (by decide)
  have n11 : ad 11 ≠ ad 31 := rf_ne hR (by decide)
  have n1011 : ad 10 ≠ ad 11 := rf_ne hR (by decide)
  have c3 : I 21 (ad 31) 243 = cm 3 := hm 3 (by decide)
  have c4 : I 21 (ad 31) 244 = cm 4 := hm 4 (by decide)
  have c5 : I 21 (ad 31) 245 = cm 5 := hm 5 (by decide)
  have c6 : I 21 (ad 31) 246 = cm 6 := hm 6 (by decide)
  have c7 : I 21 (ad 31) 247 = cm 7 := hm 7 (by decide)
  have e0 : m_wkr s x1 n p cm = arow x1 n 204 := by
    unfold m_wkr
    rw [hk, if_neg (by decide), if_pos rfl]
  have e1 : m_wks s p cm = m_wk2 (cw (cw (cw (cw (cw (cw s 806 0 (s.1 806 0 + 1)) 11 (4 * p) 0) 11 (4 * p + 1) (-1)) 11 (4 * p + 2) (-1)) 11 (4 * p + 3) (-1)) 10 p 0) p (cm 7) := by
    unfold m_wks
    rw [hk, if_neg (by decide), if_pos rfl, if_pos hv]
  rw [e0, e1]
  have n318 : ad 31 ≠ ad 8 := rf_ne hR (by decide)
  have n319 : ad 31 ≠ ad 9 := rf_ne hR (by decide)
  have n3110 : ad 31 ≠ ad 10 := rf_ne hR (by decide)
  have n3111 : ad 31 ≠ ad 11 := rf_ne hR (by decide)
  refine s_Mdl_work_0 ?_
  refine s_Mdl_work_1 (by first | rfl | assumption | (simp [*]; done)) (by first | rfl | assumption | (simp [*]; done)) ?_
  refine s_Mdl_work_4 ?_
  refine s_Mdl_work_7 (by first | exact rf_row hR | rfl) (by exact rk_row hR) (by rw [rn_row hR]; exact n_in (a := 245) (by first | rfl | (simp only [nl_1, nl_2, nl_3, nl_4, nl_5, nl_6, nl_7, nl_8, nl_9, nl_10, nl_11, nl_12, nl_13, nl_14, nl_15, nl_16, nl_32, nl_240, nl_250, nl_255, nl_265, nl_270, nl_0, nI_add, pk_mul]; done)) (by omega) (by omega)) ?_
  refine ex_ixl (q := 245) (by first | rfl | (simp only [nl_1, nl_2, nl_3, nl_4, nl_5, nl_6, nl_7, nl_8, nl_9, nl_10, nl_11, nl_12, nl_13, nl_14, nl_15, nl_16, nl_32, nl_240, nl_250, nl_255, nl_265, nl_270, nl_0, nI_add, pk_mul]; done)) (by omega) ?_
  rw [c5, h5]
  refine s_Mdl_work_8 ?_
  refine s_Mdl_work_9 ?_
  refine s_Mdl_work_10 (by first | rfl | assumption | (simp [*]; done)) (by first | rfl | assumption | (simp [*]; done)) ?_
  refine s_Mdl_work_13 ?_
  refine s_Mdl_work_16 (by first | exact rf_row hR | rfl) (by exact rk_row hR) (by rw [rn_row hR]; exact n_in (a := 243) (by first | rfl | (simp only [nl_1, nl_2, nl_3, nl_4, nl_5, nl_6, nl_7, nl_8, nl_9, nl_10, nl_11, nl_12, nl_13, nl_14, nl_15, nl_16, nl_32, nl_240, nl_250, nl_255, nl_265, nl_270, nl_0, nI_add, pk_mul]; done)) (by omega) (by omega)) ?_
  refine ex_ixl (q := 243) (by first | rfl | (simp only [nl_1, nl_2, nl_3, nl_4, nl_5, nl_6, nl_7, nl_8, nl_9, nl_10, nl_11, nl_12, nl_13, nl_14, nl_15, nl_16, nl_32, nl_240, nl_250, nl_255, nl_265, nl_270, nl_0, nI_add, pk_mul]; done)) (by omega) ?_
  rw [c3, hk]
  refine s_Mdl_work_17 ?_
  refine s_Mdl_work_19 ?_
  refine s_Mdl_work_20 (by first | rfl | assumption | (simp [*]; done)) (by first | rfl | assumption | (simp [*]; done)) ?_
  refine s_Mdl_work_23 ?_
  refine s_Mdl_work_24 (by first | exact rf_version hR | rfl) (by exact rk_version hR) (by rw [rn_version hR]; exact n_in (a := p) (by first | rfl | (simp only [nl_1, nl_2, nl_3, nl_4, nl_5, nl_6, nl_7, nl_8, nl_9, nl_10, nl_11, nl_12, nl_13, nl_14, nl_15, nl_16, nl_32, nl_240, nl_250, nl_255, nl_265, nl_270, nl_0, nI_add, pk_mul]; done)) (by omega) (by omega)) ?_
  refine ex_ixl (q := p) (by first | rfl | (simp only [nl_1, nl_2, nl_3, nl_4, nl_5, nl_6, nl_7, nl_8, nl_9, nl_10, nl_11, nl_12, nl_13, nl_14, nl_15, nl_16, nl_32, nl_240, nl_250, nl_255, nl_265, nl_270, nl_0, nI_add, pk_mul]; done)) (by omega) ?_
  rw [v8]
  refine s_Mdl_work_25 (fun h25 => absurd h25 (by exact fun q => q hv)) (fun h25 => ?_)
  refine s_Mdl_work_28 ?_
  refine s_Mdl_work_29 ?_
  refine s_Mdl_work_33 ?_
  refine s_Mdl_work_35 ?_
  refine s_Mdl_work_36 ?_
  refine s_Mdl_work_37 ?_
  refine s_Mdl_work_38 ?_
  refine s_Mdl_work_39 ?_
  refine s_Mdl_work_41 (fun h41 => absurd h41 (by decide)) (fun h41 => ?_)
  refine s_Mdl_work_44 ?_
  refine s_Mdl_work_46 ?_
  refine s_Mdl_work_47 (fun h47 => ?_) (fun h47 => absurd h47 (by exact fun q => q rfl))
  refine s_Mdl_work_56 ?_
  refine s_Mdl_work_58 ?_
  refine s_Mdl_work_59 (fun h59 => ?_) (fun h59 => absurd h59 (by decide))
  refine s_Mdl_work_68 ?_
  refine s_Mdl_work_71 (b1 := 0) (b2 := b) (by first | rfl | assumption | (simp [*]; done)) (by first | rfl | assumption | (simp [*]; done)) (sp_blank hR) ?_ (by omega)
  rintro _ _ _ _ ⟨rfl, rfl, rfl, rfl⟩
  dsimp only [Option.toList, List.cons_append, List.nil_append]
  refine s_Mdl_work_74 ?_
  refine s_Mdl_work_76 ?_
  refine s_Mdl_work_77 (fun h77 => ?_) (fun h77 => absurd h77 (by decide))
  refine s_Mdl_work_252 ?_
  refine s_Mdl_work_254 ?_
  refine s_Mdl_work_255 (fun h255 => absurd h255 (by exact fun q => q rfl)) (fun h255 => ?_)
  refine s_Mdl_work_258 ?_
  refine s_Mdl_work_259 ?_
  refine s_Mdl_work_260 (by first | rfl | assumption | (simp [*]; done)) (by first | rfl | assumption | (simp [*]; done)) ?_
  rw [ex_wi_f _ _ _ (by decide), e6]
  refine s_Mdl_work_263 ?_
  refine s_Mdl_work_264 ?_
  refine s_Mdl_work_265 (by first | rfl | assumption | (simp [*]; done)) (by first | rfl | assumption | (simp [*]; done)) ?_
  refine s_Mdl_work_268 ?_
  refine s_Mdl_work_269 ?_
  refine s_Mdl_work_271 ?_
  refine s_Mdl_work_273 ?_
  refine s_Mdl_work_274 (fun h274 => absurd h274 (by decide)) (fun h274 => ?_)
  refine s_Mdl_work_277 ?_
  refine s_Mdl_work_279 (fun h279 => absurd h279 (by decide)) (fun h279 => ?_)
  refine s_Mdl_work_282 ?_
  refine s_Mdl_work_283 (by first | rfl | assumption | (simp [*]; done)) (by first | rfl | assumption | (simp [*]; done)) ?_
  refine s_Mdl_work_286 ?_
  refine s_Mdl_work_287 ?_
  refine s_Mdl_work_288 ?_
  refine s_Mdl_work_289 ?_
  refine s_Mdl_work_291 ?_
  refine s_Mdl_work_292 ?_
  refine s_Mdl_work_294 (fun h294 => absurd h294 (by exact fun q => q rfl)) (fun h294 => ?_)
  refine s_Mdl_work_297 ?_
  refine s_Mdl_work_298 ?_
  refine s_Mdl_work_302 (by first | exact rf_control hR | rfl) (by exact rk_control hR) (by rw [rn_control hR]; exact n_in (a := ((4 * p) + 0)) (by first | rfl | (simp only [nl_1, nl_2, nl_3, nl_4, nl_5, nl_6, nl_7, nl_8, nl_9, nl_10, nl_11, nl_12, nl_13, nl_14, nl_15, nl_16, nl_32, nl_240, nl_250, nl_255, nl_265, nl_270, nl_0, nI_add, pk_mul]; done)) (by omega) (by omega)) ?_
  refine ex_ixs (q := ((4 * p) + 0)) (by first | rfl | (simp only [nl_1, nl_2, nl_3, nl_4, nl_5, nl_6, nl_7, nl_8, nl_9, nl_10, nl_11, nl_12, nl_13, nl_14, nl_15, nl_16, nl_32, nl_240, nl_250, nl_255, nl_265, nl_270, nl_0, nI_add, pk_mul]; done)) (by omega) ?_
  refine s_Mdl_work_303 ?_
  refine s_Mdl_work_306 ?_
  refine s_Mdl_work_271 ?_
  refine s_Mdl_work_273 ?_
  refine s_Mdl_work_274 (fun h274 => absurd h274 (by decide)) (fun h274 => ?_)
  refine s_Mdl_work_277 ?_
  refine s_Mdl_work_279 (fun h279 => absurd h279 (by decide)) (fun h279 => ?_)
  refine s_Mdl_work_282 ?_
  refine s_Mdl_work_283 (by first | rfl | assumption | (simp [*]; done)) (by first | rfl | assumption | (simp [*]; done)) ?_
  refine s_Mdl_work_286 ?_
  refine s_Mdl_work_287 ?_
  refine s_Mdl_work_288 ?_
  refine s_Mdl_work_289 ?_
  refine s_Mdl_work_291 ?_
  refine s_Mdl_work_292 ?_
  refine s_Mdl_work_294 (fun h294 => ?_) (fun h294 => absurd h294 (by decide))
  refine s_Mdl_work_301 ?_
  refine s_Mdl_work_302 (by first | exact rf_control hR | rfl) (by exact rk_control hR) (by rw [rn_control hR]; exact n_in (a := ((4 * p) + (0 + 1))) (by first | rfl | (simp only [nl_1, nl_2, nl_3, nl_4, nl_5, nl_6, nl_7, nl_8, nl_9, nl_10, nl_11, nl_12, nl_13, nl_14, nl_15, nl_16, nl_32, nl_240, nl_250, nl_255, nl_265, nl_270, nl_0, nI_add, pk_mul]; done)) (by omega) (by omega)) ?_
  refine ex_ixs (q := ((4 * p) + (0 + 1))) (by first | rfl | (simp only [nl_1, nl_2, nl_3, nl_4, nl_5, nl_6, nl_7, nl_8, nl_9, nl_10, nl_11, nl_12, nl_13, nl_14, nl_15, nl_16, nl_32, nl_240, nl_250, nl_255, nl_265, nl_270, nl_0, nI_add, pk_mul]; done)) (by omega) ?_
  refine s_Mdl_work_303 ?_
  refine s_Mdl_work_306 ?_
  refine s_Mdl_work_271 ?_
  refine s_Mdl_work_273 ?_
  refine s_Mdl_work_274 (fun h274 => absurd h274 (by decide)) (fun h274 => ?_)
  refine s_Mdl_work_277 ?_
  refine s_Mdl_work_279 (fun h279 => absurd h279 (by decide)) (fun h279 => ?_)
  refine s_Mdl_work_282 ?_
  refine s_Mdl_work_283 (by first | rfl | assumption | (simp [*]; done)) (by first | rfl | assumption | (simp [*]; done)) ?_
  refine s_Mdl_work_286 ?_
  refine s_Mdl_work_287 ?_
  refine s_Mdl_work_288 ?_
  refine s_Mdl_work_289 ?_
  refine s_Mdl_work_291 ?_
  refine s_Mdl_work_292 ?_
  refine s_Mdl_work_294 (fun h294 => ?_) (fun h294 => absurd h294 (by decide))
  refine s_Mdl_work_301 ?_
  refine s_Mdl_work_302 (by first | exact rf_control hR | rfl) (by exact rk_control hR) (by rw [rn_control hR]; exact n_in (a := ((4 * p) + ((0 + 1) + 1))) (by first | rfl | (simp only [nl_1, nl_2, nl_3, nl_4, nl_5, nl_6, nl_7, nl_8, nl_9, nl_10, nl_11, nl_12, nl_13, nl_14, nl_15, nl_16, nl_32, nl_240, nl_250, nl_255, nl_265, nl_270, nl_0, nI_add, pk_mul]; done)) (by omega) (by omega)) ?_
  refine ex_ixs (q := ((4 * p) + ((0 + 1) + 1))) (by first | rfl | (simp only [nl_1, nl_2, nl_3, nl_4, nl_5, nl_6, nl_7, nl_8, nl_9, nl_10, nl_11, nl_12, nl_13, nl_14, nl_15, nl_16, nl_32, nl_240, nl_250, nl_255, nl_265, nl_270, nl_0, nI_add, pk_mul]; done)) (by omega) ?_
  refine s_Mdl_work_303 ?_
  refine s_Mdl_work_306 ?_
  refine s_Mdl_work_271 ?_
  refine s_Mdl_work_273 ?_
  refine s_Mdl_work_274 (fun h274 => absurd h274 (by decide)) (fun h274 => ?_)
  refine s_Mdl_work_277 ?_
  refine s_Mdl_work_279 (fun h279 => absurd h279 (by decide)) (fun h279 => ?_)
  refine s_Mdl_work_282 ?_
  refine s_Mdl_work_283 (by first | rfl | assumption | (simp [*]; done)) (by first | rfl | assumption | (simp [*]; done)) ?_
  refine s_Mdl_work_286 ?_
  refine s_Mdl_work_287 ?_
  refine s_Mdl_work_288 ?_
  refine s_Mdl_work_289 ?_
  refine s_Mdl_work_291 ?_
  refine s_Mdl_work_292 ?_
  refine s_Mdl_work_294 (fun h294 => ?_) (fun h294 => absurd h294 (by decide))
  refine s_Mdl_work_301 ?_
  refine s_Mdl_work_302 (by first | exact rf_control hR | rfl) (by exact rk_control hR) (by rw [rn_control hR]; exact n_in (a := ((4 * p) + (((0 + 1) + 1) + 1))) (by first | rfl | (simp only [nl_1, nl_2, nl_3, nl_4, nl_5, nl_6, nl_7, nl_8, nl_9, nl_10, nl_11, nl_12, nl_13, nl_14, nl_15, nl_16, nl_32, nl_240, nl_250, nl_255, nl_265, nl_270, nl_0, nI_add, pk_mul]; done)) (by omega) (by omega)) ?_
  refine ex_ixs (q := ((4 * p) + (((0 + 1) + 1) + 1))) (by first | rfl | (simp only [nl_1, nl_2, nl_3, nl_4, nl_5, nl_6, nl_7, nl_8, nl_9, nl_10, nl_11, nl_12, nl_13, nl_14, nl_15, nl_16, nl_32, nl_240, nl_250, nl_255, nl_265, nl_270, nl_0, nI_add, pk_mul]; done)) (by omega) ?_
  refine s_Mdl_work_303 ?_
  refine s_Mdl_work_306 ?_
  refine s_Mdl_work_271 ?_
  refine s_Mdl_work_273 ?_
  refine s_Mdl_work_274 (fun h274 => ?_) (fun h274 => absurd h274 (by exact fun q => q (by decide)))
  refine s_Mdl_work_309 ?_
  refine s_Mdl_work_310 (by first | rfl | assumption | (simp [*]; done)) (by first | rfl | assumption | (simp [*]; done)) ?_
  refine s_Mdl_work_313 ?_
  refine s_Mdl_work_314 ?_
  refine s_Mdl_work_316 (fun h316 => absurd h316 (by decide)) (fun h316 => ?_)
  refine s_Mdl_work_319 ?_
  refine s_Mdl_work_320 ?_
  refine s_Mdl_work_329 (by first | exact rf_vary hR | rfl) (by exact rk_vary hR) (by rw [rn_vary hR]; exact n_in (a := p) (by first | rfl | (simp only [nl_1, nl_2, nl_3, nl_4, nl_5, nl_6, nl_7, nl_8, nl_9, nl_10, nl_11, nl_12, nl_13, nl_14, nl_15, nl_16, nl_32, nl_240, nl_250, nl_255, nl_265, nl_270, nl_0, nI_add, pk_mul]; done)) (by omega) (by omega)) ?_
  refine ex_ixs (q := p) (by first | rfl | (simp only [nl_1, nl_2, nl_3, nl_4, nl_5, nl_6, nl_7, nl_8, nl_9, nl_10, nl_11, nl_12, nl_13, nl_14, nl_15, nl_16, nl_32, nl_240, nl_250, nl_255, nl_265, nl_270, nl_0, nI_add, pk_mul]; done)) (by omega) ?_
  refine s_Mdl_work_330 ?_
  refine s_Mdl_work_331 (by first | rfl | assumption | (simp [*]; done)) (by first | rfl | assumption | (simp [*]; done)) ?_
  refine s_Mdl_work_334 ?_
  refine s_Mdl_work_335 ?_
  refine s_Mdl_work_336 (by first | rfl | assumption | (simp [*]; done)) (by first | rfl | assumption | (simp [*]; done)) ?_
  simp only [ex_ui_f _ _ _ _ (show 806 ≠ 21 by decide)]
  rw [ex_ui_eq]
  refine s_Mdl_work_339 (by first | exact rf_version hR | rfl) (by exact rk_version hR) (by rw [rn_version hR]; exact n_in (a := p) (by first | rfl | (simp only [nl_1, nl_2, nl_3, nl_4, nl_5, nl_6, nl_7, nl_8, nl_9, nl_10, nl_11, nl_12, nl_13, nl_14, nl_15, nl_16, nl_32, nl_240, nl_250, nl_255, nl_265, nl_270, nl_0, nI_add, pk_mul]; done)) (by omega) (by omega)) ?_
  refine ex_ixs (q := p) (by first | rfl | (simp only [nl_1, nl_2, nl_3, nl_4, nl_5, nl_6, nl_7, nl_8, nl_9, nl_10, nl_11, nl_12, nl_13, nl_14, nl_15, nl_16, nl_32, nl_240, nl_250, nl_255, nl_265, nl_270, nl_0, nI_add, pk_mul]; done)) (by omega) ?_
  refine s_Mdl_work_340 ?_
  refine s_Mdl_work_341 (by first | rfl | assumption | (simp [*]; done)) (by first | rfl | assumption | (simp [*]; done)) ?_
  refine s_Mdl_work_344 ?_
  refine s_Mdl_work_345 ?_
  refine s_Mdl_work_346 (by first | rfl | assumption | (simp [*]; done)) (by first | rfl | assumption | (simp [*]; done)) ?_
  refine s_Mdl_work_349 ?_
  refine s_Mdl_work_352 (by first | exact rf_row hR | rfl) (by exact rk_row hR) (by rw [rn_row hR]; exact n_in (a := 247) (by first | rfl | (simp only [nl_1, nl_2, nl_3, nl_4, nl_5, nl_6, nl_7, nl_8, nl_9, nl_10, nl_11, nl_12, nl_13, nl_14, nl_15, nl_16, nl_32, nl_240, nl_250, nl_255, nl_265, nl_270, nl_0, nI_add, pk_mul]; done)) (by omega) (by omega)) ?_
  refine ex_ixl (q := 247) (by first | rfl | (simp only [nl_1, nl_2, nl_3, nl_4, nl_5, nl_6, nl_7, nl_8, nl_9, nl_10, nl_11, nl_12, nl_13, nl_14, nl_15, nl_16, nl_32, nl_240, nl_250, nl_255, nl_265, nl_270, nl_0, nI_add, pk_mul]; done)) (by omega) ?_
  simp only [ex_ui_ne _ _ _ _ n318, ex_ui_ne _ _ _ _ n3110, ex_ui_ne _ _ _ _ n3111, ex_ui_f _ _ _ _ (show 21 ≠ 806 by decide)]
  rw [ex_wi_at, bl_out _ _ _ _ _ 247 (by decide), c7]
  refine s_Mdl_work_353 (by first | exact rf_big hR | rfl) (by exact rk_big hR) (by rw [rn_big hR]; exact n_in (a := p) (by first | rfl | (simp only [nl_1, nl_2, nl_3, nl_4, nl_5, nl_6, nl_7, nl_8, nl_9, nl_10, nl_11, nl_12, nl_13, nl_14, nl_15, nl_16, nl_32, nl_240, nl_250, nl_255, nl_265, nl_270, nl_0, nI_add, pk_mul]; done)) (by omega) (by omega)) ?_
  refine ex_ixs (q := p) (by first | rfl | (simp only [nl_1, nl_2, nl_3, nl_4, nl_5, nl_6, nl_7, nl_8, nl_9, nl_10, nl_11, nl_12, nl_13, nl_14, nl_15, nl_16, nl_32, nl_240, nl_250, nl_255, nl_265, nl_270, nl_0, nI_add, pk_mul]; done)) (by omega) ?_
  refine s_Mdl_work_354 ?_
  refine s_Mdl_work_370 ?_
  have k1 := rr_us (K := K) (F := F) (g := 806) (x := s.1 806 0 + 1) (rr_bl hR h (bl_out (I 21 (ad 31)) x1 1 n 204)) (by decide)
  refine ⟨rfl, rfl, rfl, ?_, fun j hj => by simp only [ex_ui_ne _ _ _ _ n318, ex_ui_ne _ _ _ _ n319, ex_ui_ne _ _ _ _ n3110, ex_ui_ne _ _ _ _ n3111, ex_ui_f _ _ _ _ (show 21 ≠ 806 by decide)]; rw [ex_wi_at]; exact bl_row _ _ _ _ j hj⟩
  exact rr_ua hR (rr_ua hR (rr_ua hR (rr_ua hR (rr_ua hR (rr_ua hR (rr_ua hR k1 (by decide)) (by decide)) (by decide)) (by decide)) (by decide)) (by decide)) (by decide)
theorem sp_workR {Γ : ex_G} {d : Nat} {K : ex_K} {I : ex_I} {F : ex_F} {b : Nat} {m : Nat} {ad : Nat → Nat} {s : MS} (hR : rf_ok K F m ad) (h : rr I m ad s) {p : Nat} {cm : Nat → Int32} {x1 n : Int32} (hm : cm_ok I ad cm) (hp : p < 8) (h5 : cm 5 = nI p) (hk : cm 3 = 1 ∨ cm 3 = 2 ∨ cm 3 = 3) : ex_E Γ (d + 1) M_Mdl_work 0 [some (.inr (some m)), some (.inl x1), some (.inl n), none, none, none, none, none] [] K I F b (fun x K' I' F' => x = none ∧ K = K' ∧ F = F' ∧ rr I' m ad (m_wks s p cm) ∧ ∀ j, j < 15 → I' 21 (ad 31) (255 + j) = m_wkr s x1 n p cm j) := by
  by_cases hv : s.1 8 p = 0
  · rcases hk with hk | hk | hk
    · exact sp_workN hR h hm hp h5 hk hv
    · exact sp_workPN hR h hm hp h5 hk hv
    · exact sp_workDN hR h hm hp h5 hk hv
  · rcases hk with hk | hk | hk
    · exact sp_workG hR h hm hp h5 hk hv
    · exact sp_workP hR h hm hp h5 hk hv
    · exact sp_workD hR h hm hp h5 hk hv
