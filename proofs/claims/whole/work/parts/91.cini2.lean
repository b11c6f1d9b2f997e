/-! The class: its constructor -/
def iB (K : ex_K) (I : ex_I) (F : ex_F) (x dr tx st rw c u ms ab rs os cs : Nat) : Prop := ((K x).1 = 1 ∧ F 100 x 0 = some dr ∧ F 101 x 0 = some st ∧ F 102 x 0 = some u ∧ F 103 x 0 = some ab ∧ F 104 x 0 = some rs ∧ F 105 x 0 = some os ∧ F 106 x 0 = some cs) ∧ (I 108 x 0 = 0 ∧ I 109 x 0 = 0 ∧ I 110 x 0 = 0) ∧ cD K I F dr tx ∧ cS K I F st rw c ∧ cU K I F u ms ∧ Rs K I F ab 0 0 0 cn_none ∧ K rs = (31, 8) ∧ (∀ i, i < 8 → F 31 rs i = some ab) ∧ K os = (32, 3) ∧ K cs = (33, 3)
section IB
variable {K K' : ex_K} {I I' : ex_I} {F F' : ex_F} {x dr tx st rw c u ms ab rs os cs : Nat}
theorem iB_0 (h : xw (fun _ _ => False) K I F K' I' F') (hb : iB K I F x dr tx st rw c u ms ab rs os cs) : iB K' I' F' x dr tx st rw c u ms ab rs os cs := by
  obtain ⟨⟨b1, b2, b3, b4, b5, b6, b7, b8⟩, ⟨b9, b10, b11⟩, b12, b13, b14, b15, b16, b17, b18, b19⟩ := hb
  have h' := y_0 h
  refine ⟨⟨xw_K h (by decide) b1, ?_, ?_, ?_, ?_, ?_, ?_, ?_⟩, ⟨?_, ?_, ?_⟩, cD_y h' b12, cS_y h' b13, cU_y h' b14, Rs_y h' b15, xw_k h (by decide) b16, fun i hi => ?_, xw_k h (by decide) b18, xw_k h (by decide) b19⟩
  · rw [xw_f h (by decide) b1 id]; exact b2
  · rw [xw_f h (by decide) b1 id]; exact b3
  · rw [xw_f h (by decide) b1 id]; exact b4
  · rw [xw_f h (by decide) b1 id]; exact b5
  · rw [xw_f h (by decide) b1 id]; exact b6
  · rw [xw_f h (by decide) b1 id]; exact b7
  · rw [xw_f h (by decide) b1 id]; exact b8
  · rw [xw_i h (by decide) b1 id]; exact b9
  · rw [xw_i h (by decide) b1 id]; exact b10
  · rw [xw_i h (by decide) b1 id]; exact b11
  · rw [xw_f h (k := 31) (by decide) (by rw [b16]) id]; exact b17 i hi
theorem iB_a {f ar i : Nat} {v : Option Nat} (hf : f = 32 ∨ f = 33) (ha : (K ar).1 = f) (hb : iB K I F x dr tx st rw c u ms ab rs os cs) : iB K I (ex_uf F f ar i v) x dr tx st rw c u ms ab rs os cs := by
  obtain ⟨⟨b1, b2, b3, b4, b5, b6, b7, b8⟩, b9, b12, b13, b14, b15, b16, b17, b18, b19⟩ := hb
  have h' : xw (yP K) K I F K I (ex_uf F f ar i v) := y_uf ha (by rcases hf with rfl | rfl <;> decide)
  have e : ∀ k, k ≠ 32 → k ≠ 33 → ex_uf F f ar i v k = F k := fun k k1 k2 => ex_uf_f _ _ _ _ (by rcases hf with rfl | rfl <;> assumption)
  exact ⟨⟨b1, by rw [e _ (by decide) (by decide)]; exact b2, by rw [e _ (by decide) (by decide)]; exact b3, by rw [e _ (by decide) (by decide)]; exact b4, by rw [e _ (by decide) (by decide)]; exact b5, by rw [e _ (by decide) (by decide)]; exact b6, by rw [e _ (by decide) (by decide)]; exact b7, by rw [e _ (by decide) (by decide)]; exact b8⟩, b9, cD_y h' b12, cS_y h' b13, cU_y h' b14, Rs_y h' b15, b16, fun j hj => by rw [e _ (by decide) (by decide)]; exact b17 j hj, b18, b19⟩
end IB
def iT (K : ex_K) (I : ex_I) (F : ex_F) (os cs : Nat) (og cn qa pb : Nat → Nat) (v : Nat) : Prop := cO K I F (og v) ∧ cC K I F (cn v) (qa v) (pb v) v ∧ F 32 os v = some (og v) ∧ F 33 cs v = some (cn v)
def iD (og cn qa : Nat → Nat) (t : Nat) : Prop := ∀ v w, v < t → w < t → v ≠ w → og v ≠ og w ∧ cn v ≠ cn w ∧ qa v ≠ qa w
def fu (f : Nat → Nat) (t n : Nat) : Nat → Nat := fun v => if v = t then n else f v
theorem fu_at (f : Nat → Nat) (t n : Nat) : fu f t n t = n := if_pos rfl
theorem fu_ne (f : Nat → Nat) {t v : Nat} (n : Nat) (h : v ≠ t) : fu f t n v = f v := if_neg h
theorem iD_s {og cn qa : Nat → Nat} {t n m q : Nat} (h : iD og cn qa t) (h1 : ∀ v, v < t → og v ≠ n) (h2 : ∀ v, v < t → cn v ≠ m) (h3 : ∀ v, v < t → qa v ≠ q) : iD (fu og t n) (fu cn t m) (fu qa t q) (t + 1) := by
  intro v w hv hw hvw
  by_cases e1 : v = t
  · subst e1
    rw [fu_at, fu_at, fu_at, fu_ne _ _ (Ne.symm hvw), fu_ne _ _ (Ne.symm hvw), fu_ne _ _ (Ne.symm hvw)]
    exact ⟨Ne.symm (h1 w (by omega)), Ne.symm (h2 w (by omega)), Ne.symm (h3 w (by omega))⟩
  · rw [fu_ne _ _ e1, fu_ne _ _ e1, fu_ne _ _ e1]
    by_cases e2 : w = t
    · subst e2
      rw [fu_at, fu_at, fu_at]
      exact ⟨h1 v (by omega), h2 v (by omega), h3 v (by omega)⟩
    · rw [fu_ne _ _ e2, fu_ne _ _ e2, fu_ne _ _ e2]
      exact h v w (by omega) (by omega) hvw
theorem lp_oc {Γ : ex_G} {d : Nat} {Q : Option ex_V → ex_K → ex_I → ex_F → Prop} {x dr tx st rw c u ms ab rs os cs : Nat} {l1 : Option ex_V} : ∀ n t b K I F og cn qa pb, 3 - t = n → t ≤ 3 → iB K I F x dr tx st rw c u ms ab rs os cs → (∀ v, v < t → iT K I F os cs og cn qa pb v) → iD og cn qa t →
    (∀ K' I' F' og cn qa pb l2, iB K' I' F' x dr tx st rw c u ms ab rs os cs → (∀ v, v < 3 → iT K' I' F' os cs og cn qa pb v) → iD og cn qa 3 → ex_E Γ (d + 3) M_FC_init 164 [some (.inr (some x)), l1, l2] [] K' I' F' b Q) →
    ex_E Γ (d + 3) M_FC_init 126 [some (.inr (some x)), l1, some (.inl (nI t))] [] K I F (b + 4 * n) Q := by
  intro n
  induction n with
  | zero =>
    intro t b K I F og cn qa pb hn ht hB hT hD kk
    have e : t = 3 := by omega
    subst e
    refine s_FC_init_126 ?_
    refine s_FC_init_127 ?_
    refine s_FC_init_128 (fun h128 => ?_) (fun h128 => absurd h128 (by exact fun q => q (nI_le (a := 3) (b := 3) (by omega) (by omega))))
    exact kk _ _ _ _ _ _ _ _ hB hT hD
  | succ n ih =>
    intro t b K I F og cn qa pb hn ht hB hT hD kk
    have ht3 : t < 3 := by omega
    have hx := hB.1.1
    have ho := hB.1.2.2.2.2.2.2.1
    have ko := hB.2.2.2.2.2.2.2.2.1
    have kc := hB.2.2.2.2.2.2.2.2.2
    have kT : ∀ v, v < t → (K (og v)).1 = 10 ∧ (K (cn v)).1 = 11 ∧ (K (qa v)).1 = 34 := fun v hv => ⟨(hT v hv).1.1, (hT v hv).2.1.1, by rw [(hT v hv).2.1.2.2.2.2.1]⟩
    rw [show b + 4 * (n + 1) = (b + 4 * n + 3) + 1 by omega]
    refine s_FC_init_126 ?_
    refine s_FC_init_127 ?_
    refine s_FC_init_128 (fun h128 => absurd h128 (by exact nI_ge (a := t) (b := 3) (by omega) (by omega))) (fun h128 => ?_)
    refine s_FC_init_131 ?_
    refine s_FC_init_132 (by first | rfl | assumption | (simp [*]; done)) (by first | rfl | assumption | (simp [*]; done)) ?_
    refine s_FC_init_135 ?_
    refine s_FC_init_136 (fun n136 fn136 => ?_)
    have xn : xw (fun _ _ => False) K I F (ex_nk K n136 10 0) (ex_ni I n136) (ex_nr F n136) := xw_new fn136
    have k10 : (ex_nk K n136 10 0 n136).1 = 10 := by rw [ex_nk_at]
    have z0 : ∀ f, ex_ni I n136 f n136 0 = 0 := fun f => by rw [ex_ni_at]
    have mk : ∀ {K' : ex_K} {I' : ex_I} {F' : ex_F}, xw (fun _ c => c = n136) (ex_nk K n136 10 0) (ex_ni I n136) (ex_nr F n136) K' I' F' → xw (fun _ _ => False) K I F K' I' F' := fun h => xw_made fn136 h
    have ko1 : ex_nk K n136 10 0 os = (32, 3) := xw_k xn (by decide) ko
    generalize ex_nk K n136 10 0 = K1 at xn k10 mk ko1 ⊢
    generalize ex_ni I n136 = I1 at xn z0 mk ⊢
    generalize ex_nr F n136 = F1 at xn mk ⊢
    refine s_FC_init_139 ?_
    refine s_FC_init_140 (b1 := 0) (b2 := b + 4 * n + 3) (by first | rfl | assumption | (simp [*]; done)) (ex_up (by omega) (sp_oini (d := d) k10 z0)) ?_ (by omega)
    rintro _ K2 I2 F2 ⟨rfl, x2, h2⟩
    dsimp only [Option.toList, List.cons_append, List.nil_append]
    have xf := mk x2
    have B2 := iB_0 xf hB
    have T2 : ∀ v, v < t → iT K2 I2 F2 os cs og cn qa pb v := fun v hv => by
      obtain ⟨a1, a2, a3, a4⟩ := hT v hv
      exact ⟨cO_y (y_0 xf) a1, cC_y (y_0 xf) a2, by rw [xw_f xf (k := 32) (by decide) (by rw [ko]) id]; exact a3, by rw [xw_f xf (k := 33) (by decide) (by rw [kc]) id]; exact a4⟩
    have ko2 := B2.2.2.2.2.2.2.2.2.1
    have ko2a : (K2 os).1 = 32 := by rw [ko2]
    have ko2b : (K2 os).2 = 3 := by rw [ko2]
    refine s32_FC_init_143 (by exact ho) (by exact ko2a) (by intro w hw; cases hw; exact h2.1) (by rw [ko2b]; exact vp_in_nI ht3 (by omega)) ?_
    refine s_FC_init_144 ?_
    refine s_FC_init_145 (by rfl) (by exact B2.1.1) ?_
    refine s_FC_init_148 ?_
    rw [nI_clamp (by omega)]
    have y3 : xw (yP K2) K2 I2 F2 K2 I2 (ex_uf F2 32 os t (some n136)) := y_uf ko2a (by decide)
    have B3 := iB_a (i := t) (v := some n136) (Or.inl rfl) ko2a B2
    have T3 : ∀ v, v < t → iT K2 I2 (ex_uf F2 32 os t (some n136)) os cs og cn qa pb v := fun v hv => by
      obtain ⟨a1, a2, a3, a4⟩ := T2 v hv
      refine ⟨cO_y y3 a1, cC_y y3 a2, ?_, by rw [ex_uf_f _ _ _ _ (by decide)]; exact a4⟩
      rw [ex_uf_at]
      simp only [if_neg (show ¬ v = t by omega)]
      exact a3
    have O3 := cO_y y3 h2
    have E3 : ex_uf F2 32 os t (some n136) 32 os t = some n136 := ex_uf_eq _ _ _ _ _
    have hc3 := B3.1.2.2.2.2.2.2.2
    have hc2 : F2 106 x 0 = some cs := B2.1.2.2.2.2.2.2.2
    generalize ex_uf F2 32 os t (some n136) = F3 at y3 B3 T3 O3 E3 hc3 ⊢
    refine s_FC_init_149 (fun n149 fn149 => ?_)
    have xn2 : xw (fun _ _ => False) K2 I2 F3 (ex_nk K2 n149 11 0) (ex_ni I2 n149) (ex_nr F3 n149) := xw_new fn149
    have k11 : (ex_nk K2 n149 11 0 n149).1 = 11 := by rw [ex_nk_at]
    have z1 : ∀ f, ex_ni I2 n149 f n149 0 = 0 := fun f => by rw [ex_ni_at]
    have z2 : ∀ f, ex_nr F3 n149 f n149 0 = none := fun f => by rw [ex_nr_at]
    have mk2 : ∀ {K' : ex_K} {I' : ex_I} {F' : ex_F}, xw (fun _ c => c = n149) (ex_nk K2 n149 11 0) (ex_ni I2 n149) (ex_nr F3 n149) K' I' F' → xw (fun _ _ => False) K2 I2 F3 K' I' F' := fun h => xw_made fn149 h
    have kq4 : ∀ v, v < t → (ex_nk K2 n149 11 0 (qa v)).1 = 34 := fun v hv => xw_K xn2 (by decide) (by rw [(T3 v hv).2.1.2.2.2.2.1])
    generalize ex_nk K2 n149 11 0 = K4 at xn2 k11 mk2 kq4 ⊢
    generalize ex_ni I2 n149 = I4 at xn2 z1 mk2 ⊢
    generalize ex_nr F3 n149 = F4 at xn2 z2 mk2 ⊢
    refine s_FC_init_152 ?_
    refine s_FC_init_153 ?_
    refine s_FC_init_154 (b1 := 0 + 2) (b2 := b + 4 * n) (by first | rfl | assumption | (simp [*]; done)) (sp_cini (d := d) (b := 0) (t := t) k11 z1 z2) ?_ (by omega)
    rintro _ K5 I5 F5 ⟨rfl, x5, q, pr, fq, h5⟩
    dsimp only [Option.toList, List.cons_append, List.nil_append]
    have xf2 := mk2 x5
    have B5 := iB_0 xf2 B3
    have kc5 := B5.2.2.2.2.2.2.2.2.2
    have kc5a : (K5 cs).1 = 33 := by rw [kc5]
    have kc5b : (K5 cs).2 = 3 := by rw [kc5]
    have ko5a : (K2 os).1 = 32 := ko2a
    have T5 : ∀ v, v < t → iT K5 I5 F5 os cs og cn qa pb v := fun v hv => by
      obtain ⟨a1, a2, a3, a4⟩ := T3 v hv
      exact ⟨cO_y (y_0 xf2) a1, cC_y (y_0 xf2) a2, by rw [xw_f xf2 (by decide) ko2a id]; exact a3, by rw [xw_f xf2 (k := 33) (by decide) (by rw [B3.2.2.2.2.2.2.2.2.2]) id]; exact a4⟩
    have O5 := cO_y (y_0 xf2) O3
    have E5 : F5 32 os t = some n136 := by rw [xw_f xf2 (by decide) ko2a id]; exact E3
    refine s33_FC_init_157 (by exact hc3) (by exact kc5a) (by intro w hw; cases hw; exact h5.1) (by rw [kc5b]; exact vp_in_nI ht3 (by omega)) ?_
    refine s_FC_init_158 ?_
    refine s_FC_init_161 ?_
    rw [nI_clamp (by omega), nI_1]
    have y6 : xw (yP K5) K5 I5 F5 K5 I5 (ex_uf F5 33 cs t (some n149)) := y_uf kc5a (by decide)
    have B6 := iB_a (i := t) (v := some n149) (Or.inr rfl) kc5a B5
    refine ih (t + 1) b K5 I5 _ (fu og t n136) (fu cn t n149) (fu qa t q) (fu pb t pr) (by omega) (by omega) B6 (fun v hv => ?_) (iD_s hD (fun v hv e => ?_) (fun v hv e => ?_) (fun v hv e => ?_)) kk
    · by_cases e : v = t
      · subst e
        refine ⟨by rw [fu_at]; exact cO_y y6 O5, by rw [fu_at, fu_at, fu_at]; exact cC_y y6 h5, by rw [fu_at, ex_uf_f _ _ _ _ (by decide)]; exact E5, by rw [fu_at, ex_uf_eq]⟩
      · obtain ⟨a1, a2, a3, a4⟩ := T5 v (by omega)
        refine ⟨by rw [fu_ne _ _ e]; exact cO_y y6 a1, by rw [fu_ne _ _ e, fu_ne _ _ e, fu_ne _ _ e]; exact cC_y y6 a2, by rw [fu_ne _ _ e, ex_uf_f _ _ _ _ (by decide)]; exact a3, ?_⟩
        rw [fu_ne _ _ e, ex_uf_at]
        simp only [if_neg e]
        exact a4
    · have := (kT v hv).1
      rw [e, fn136] at this
      exact absurd this (by decide)
    · have := (T3 v hv).2.1.1
      rw [e, fn149] at this
      exact absurd this (by decide)
    · have := kq4 v hv
      rw [e, fq] at this
      exact absurd this (by decide)
theorem lp_rs {Γ : ex_G} {d : Nat} {K : ex_K} {I : ex_I} {b : Nat} {Q : Option ex_V → ex_K → ex_I → ex_F → Prop} {x rs ab : Nat} {l1 : Option ex_V} (hx : (K x).1 = 1) (kr : K rs = (31, 8)) (ka : (K ab).1 = 4) : ∀ n j F, 8 - j = n → j ≤ 8 → F 104 x 0 = some rs → F 103 x 0 = some ab → (∀ i, i < j → F 31 rs i = some ab) →
    (∀ F' l2, (∀ i, i < 8 → F' 31 rs i = some ab) → (∀ f, f ≠ 31 → F' f = F f) → xw (yP K) K I F K I F' → ex_E Γ d M_FC_init 108 [some (.inr (some x)), l1, l2] [] K I F' b Q) →
    ex_E Γ d M_FC_init 86 [some (.inr (some x)), l1, some (.inl (nI j))] [] K I F b Q := by
  have k1 : (K rs).1 = 31 := by rw [kr]
  have k2 : (K rs).2 = 8 := by rw [kr]
  intro n
  induction n with
  | zero =>
    intro j F hn hj h4 h3 hF kk
    have e : j = 8 := by omega
    subst e
    refine s_FC_init_86 ?_
    refine s_FC_init_87 ?_
    refine s_FC_init_89 (fun h89 => ?_) (fun h89 => absurd h89 (by exact fun q => q (nI_le (a := 8) (b := 8) (by omega) (by omega))))
    exact kk F _ hF (fun _ _ => rfl) xw_rfl
  | succ n ih =>
    intro j F hn hj h4 h3 hF kk
    refine s_FC_init_86 ?_
    refine s_FC_init_87 ?_
    refine s_FC_init_89 (fun h89 => absurd h89 (by exact nI_ge (a := j) (b := 8) (by omega) (by omega))) (fun h89 => ?_)
    refine s_FC_init_92 ?_
    refine s_FC_init_93 (by first | rfl | assumption | (simp [*]; done)) (by first | rfl | assumption | (simp [*]; done)) ?_
    refine s_FC_init_96 ?_
    refine s_FC_init_97 ?_
    refine s_FC_init_98 (by first | rfl | assumption | (simp [*]; done)) (by first | rfl | assumption | (simp [*]; done)) ?_
    refine s31_FC_init_101 (by exact h4) (by exact k1) (by intro w hw; rw [h3] at hw; cases hw; exact ka) (by rw [k2]; exact vp_in_nI (by omega) (by omega)) ?_
    refine s_FC_init_102 ?_
    refine s_FC_init_105 ?_
    rw [nI_clamp (by omega), nI_1, h3]
    refine ih (j + 1) _ (by omega) (by omega) (by rw [ex_uf_f _ _ _ _ (by decide)]; exact h4) (by rw [ex_uf_f _ _ _ _ (by decide)]; exact h3) (fun i hi => ?_) (fun F' l2 a1 a2 a3 => kk F' l2 a1 (fun f hf => by rw [a2 f hf, ex_uf_f _ _ _ _ hf]) (xw_trans (y_uf k1 (by decide)) a3))
    rw [ex_uf_at]
    by_cases e : i = j
    · simp only [if_pos e]
    · simp only [if_neg e]
      exact hF i (by omega)
