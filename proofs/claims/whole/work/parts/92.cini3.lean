/-! The class: the constructor ends in the new state -/
def fA (x dr tx st rw c u ms ab rs os cs lt : Nat) (og cn qa pb : Nat → Nat) : Nat → Nat := fun i => if i < 20 then [x, dr, tx, st, rw, u, ms, ab, rs, os, cs, lt].getD i 0 else if i < 30 then og (i - 20) else if i < 40 then cn (i - 30) else if i < 50 then qa (i - 40) else pb (i - 50)
theorem mkRc {K : ex_K} {I : ex_I} {F : ex_F} {x dr tx st rw c u ms ab rs os cs lt : Nat} {og cn qa pb : Nat → Nat} (hB : iB K I F x dr tx st rw c u ms ab rs os cs) (hT : ∀ v, v < 3 → iT K I F os cs og cn qa pb v) (hD : iD og cn qa 3) (h7 : F 107 x 0 = some lt) (kl : K lt = (34, 16)) (hl : ∀ v, v < 3 → qa v ≠ lt) (h40 : c ≤ 40) : ∃ a g, a 0 = x ∧ Rc K I F a g 3 (m_new (nI c)) := by
  obtain ⟨⟨b1, b2, b3, b4, b5, b6, b7, b8⟩, ⟨b9, b10, b11⟩, b12, b13, b14, b15, b16, b17, b18, b19⟩ := hB
  refine ⟨fA x dr tx st rw c u ms ab rs os cs lt og cn qa pb, (fun _ => 0, fun _ => 0, 0, 0), rfl, ?_⟩
  have e2 : ∀ t, t < 3 → fA x dr tx st rw c u ms ab rs os cs lt og cn qa pb (20 + t) = og t := fun t ht => by
    unfold fA
    rw [if_neg (by omega), if_pos (by omega)]
    congr 1
    omega
  have e3 : ∀ t, t < 3 → fA x dr tx st rw c u ms ab rs os cs lt og cn qa pb (30 + t) = cn t := fun t ht => by
    unfold fA
    rw [if_neg (by omega), if_neg (by omega), if_pos (by omega)]
    congr 1
    omega
  have e4 : ∀ t, t < 3 → fA x dr tx st rw c u ms ab rs os cs lt og cn qa pb (40 + t) = qa t := fun t ht => by
    unfold fA
    rw [if_neg (by omega), if_neg (by omega), if_neg (by omega), if_pos (by omega)]
    congr 1
    omega
  have e5 : ∀ t, t < 3 → fA x dr tx st rw c u ms ab rs os cs lt og cn qa pb (50 + t) = pb t := fun t ht => by
    unfold fA
    rw [if_neg (by omega), if_neg (by omega), if_neg (by omega), if_neg (by omega)]
    congr 1
    omega
  have n : ∀ k i, k ≠ 804 → (m_new (nI c)).1 k i = 0 := fun k i hk => if_neg (fun w => hk w.1)
  have q : ∀ j, (m_new (nI c)).2 j = [] := fun _ => rfl
  have hm : (m_new (nI c)).1 804 0 = nI c := by
    show (if 804 = 804 ∧ (0 : Nat) = 0 then nI c else 0) = nI c
    exact if_pos ⟨rfl, rfl⟩
  refine ⟨⟨⟨b1, b2, b3, b4, b5, b6, b7, b8, h7⟩, ⟨b12.1, b16, b18, b19, kl, b15⟩, fun t ht => ?_, fun t v ht hv htv => ?_, fun t ht => ?_⟩, ⟨?_, ?_, 0, ?_, by omega⟩, ⟨[], c, hm, cS_rep b13 h40, by rw [q]; trivial⟩, ⟨[], cU_rep b14, by rw [q]; trivial⟩, fun p hp => ⟨ab, b17 p hp, Or.inl ⟨n 8 p (by decide), rfl⟩⟩, fun t ht _ => ?_, fun t ht _ => ?_, ⟨fun r r1 r2 => ?_, fun r r1 r2 => ?_⟩, ⟨?_, ?_, ?_⟩, ⟨?_, by decide, ?_, by decide, fun k k1 k2 => ?_⟩⟩
  · obtain ⟨o1, c1, f1, f2⟩ := hT t ht
    refine ⟨by rw [e2 t ht]; exact f1, by rw [e2 t ht]; exact o1.1, by rw [e3 t ht]; exact f2, by rw [e3 t ht]; exact c1.1, by rw [e3 t ht]; exact c1.2.1, by rw [e3 t ht, e5 t ht]; exact c1.2.2.1, by rw [e5 t ht]; exact c1.2.2.2.2.2.2.2.2.2.2.2, by rw [e3 t ht, e4 t ht]; exact c1.2.2.2.1, by rw [e4 t ht]; exact c1.2.2.2.2.1⟩
  · rw [e2 t ht, e2 v hv, e3 t ht, e3 v hv, e4 t ht, e4 v hv]
    exact hD t v ht hv htv
  · rw [e4 t ht]
    exact hl t ht
  · have e : (m_new (nI c)).1 3 = fun _ => 0 := funext (fun i => n 3 i (by decide))
    rw [e]
    exact b12.2.1
  · rw [n 808 0 (by decide)]
    exact b12.2.2
  · rw [n 808 0 (by decide)]
    rfl
  · obtain ⟨o1, c1, f1, f2⟩ := hT t ht
    rw [n 28 t (by decide), n 29 t (by decide)]
    unfold c_or
    rw [e2 t ht]
    exact ⟨o1.2.1, o1.2.2, fun h => absurd rfl h⟩
  · obtain ⟨o1, ⟨c1, c2, c3, c4, c5, c6, c7, c8, c9, c10, c11, c12⟩, f1, f2⟩ := hT t ht
    rw [n 24 t (by decide), n 25 t (by decide), n 26 t (by decide), n 27 t (by decide), q]
    unfold c_cn
    rw [e3 t ht, e4 t ht]
    exact ⟨⟨c10, c8, fun _ => c9, fun h => absurd rfl h⟩, ⟨[], trivial, c7, by simp, fun i p h => (by simp at h), fun j y h => (by rw [c6] at h; cases h)⟩, fun _ => c11, fun w Q h => by cases h⟩
  · have r2' : r ≤ 0 := r2
    omega
  · have r2' : r ≤ 0 := r2
    omega
  · rw [n 805 0 (by decide)]; exact b9
  · rw [n 806 0 (by decide)]; exact b10
  · rw [n 820 0 (by decide)]; exact b11
  · rw [n 820 0 (by decide)]; rfl
  · rw [n 817 0 (by decide)]; rfl
  · have k2' : k ≤ 0 := k2
    omega

theorem ini37 {Γ : ex_G} {d b : Nat} {K1 Ka : ex_K} {I1 Ia : ex_I} {F1 Fa : ex_F} {x dr tx n c : Nat} {l1 l2 : Option ex_V} (hx : (K1 x).1 = 1) (h100 : F1 100 x 0 = some dr) (i8 : I1 108 x 0 = 0) (i9 : I1 109 x 0 = 0) (i10 : I1 110 x 0 = 0) (hD : cD K1 I1 F1 dr tx) (kz : (Ka n).1 = 6) (zz : ∀ f, Ia f n 0 = 0) (mk : ∀ {K' : ex_K} {I' : ex_I} {F' : ex_F}, xw (fun _ c => c = n) Ka Ia Fa K' I' F' → xw (fun _ _ => False) K1 I1 F1 K' I' F') (h40 : c ≤ 40) :
    ex_E Γ (d + 3) M_FC_init 37 [some (.inr (some x)), l1, l2] [.inl (nI c), .inr (some n), .inr (some n), .inr (some x)] Ka Ia Fa (b + 22) (fun r K' I' F' => r = none ∧ ∃ a g, a 0 = x ∧ Rc K' I' F' a g 3 (m_new (nI c))) := by
  refine s_FC_init_37 (b1 := 0 + 1) (b2 := b + 21) (by first | rfl | assumption | (simp [*]; done)) (ex_up (by omega) (sp_sini (d := d) (b := 0) kz zz h40)) ?_ (by omega)
  rintro _ K2 I2 F2 ⟨rfl, x2, rw0, hS⟩
  dsimp only [Option.toList, List.cons_append, List.nil_append]
  have xf := mk x2
  have hx' : (K2 x).1 = 1 := xw_K xf (by decide) hx
  have h100' : F2 100 x 0 = some dr := by rw [xw_f xf (by decide) hx id]; exact h100
  have i8' : I2 108 x 0 = 0 := by rw [xw_i xf (by decide) hx id]; exact i8
  have i9' : I2 109 x 0 = 0 := by rw [xw_i xf (by decide) hx id]; exact i9
  have i10' : I2 110 x 0 = 0 := by rw [xw_i xf (by decide) hx id]; exact i10
  have hD' : cD K2 I2 F2 dr tx := cD_y (y_0 xf) hD
  replace hx := hx'
  replace h100 := h100'
  replace i8 := i8'
  replace i9 := i9'
  replace i10 := i10'
  replace hD := hD'
  refine s_FC_init_40 (by rfl) (by exact hx) ?_
  have hx' : (K2 x).1 = 1 := hx
  have h100' : (ex_uf F2 101 x 0 (some n)) 100 x 0 = some dr := by rw [ex_uf_f _ _ _ _ (by decide)]; exact h100
  have i8' : I2 108 x 0 = 0 := i8
  have i9' : I2 109 x 0 = 0 := i9
  have i10' : I2 110 x 0 = 0 := i10
  have hD' : cD K2 I2 (ex_uf F2 101 x 0 (some n)) dr tx := cD_y (y_uf hx (by decide)) hD
  have hS' : cS K2 I2 (ex_uf F2 101 x 0 (some n)) n rw0 c := cS_y (y_uf hx (by decide)) hS
  have h101' : (ex_uf F2 101 x 0 (some n)) 101 x 0 = some n := ex_uf_eq _ _ _ _ _
  replace hx := hx'
  replace h100 := h100'
  replace i8 := i8'
  replace i9 := i9'
  replace i10 := i10'
  replace hD := hD'
  replace hS := hS'
  have h101 := h101'
  clear h101'
  generalize ex_uf F2 101 x 0 (some n) = F3 at h100 hD hS h101 ⊢
  refine s_FC_init_43 ?_
  refine s_FC_init_44 (fun n44 fn44 => ?_)
  have xn : xw (fun _ _ => False) K2 I2 F3 (ex_nk K2 n44 9 0) (ex_ni I2 n44) (ex_nr F3 n44) := xw_new fn44
  have kz : (ex_nk K2 n44 9 0 n44).1 = 9 := by rw [ex_nk_at]
  have zz : ∀ f, ex_ni I2 n44 f n44 0 = 0 := fun f => by rw [ex_ni_at]
  have mk : ∀ {K' : ex_K} {I' : ex_I} {F' : ex_F}, xw (fun _ c => c = n44) (ex_nk K2 n44 9 0) (ex_ni I2 n44) (ex_nr F3 n44) K' I' F' → xw (fun _ _ => False) K2 I2 F3 K' I' F' := fun h => xw_made fn44 h
  generalize ex_nk K2 n44 9 0 = K4 at xn kz mk ⊢
  generalize ex_ni I2 n44 = I4 at xn zz mk ⊢
  generalize ex_nr F3 n44 = F4 at xn mk ⊢
  refine s_FC_init_47 ?_
  refine s_FC_init_48 (b1 := 0 + 1) (b2 := b + 19) (by first | rfl | assumption | (simp [*]; done)) (ex_up (by omega) (sp_uini (d := d) (b := 0) kz zz)) ?_ (by omega)
  rintro _ K5 I5 F5 ⟨rfl, x5, ms, hU⟩
  dsimp only [Option.toList, List.cons_append, List.nil_append]
  have xf5 := mk x5
  have hx' : (K5 x).1 = 1 := xw_K xf5 (by decide) hx
  have h100' : F5 100 x 0 = some dr := by rw [xw_f xf5 (by decide) hx id]; exact h100
  have i8' : I5 108 x 0 = 0 := by rw [xw_i xf5 (by decide) hx id]; exact i8
  have i9' : I5 109 x 0 = 0 := by rw [xw_i xf5 (by decide) hx id]; exact i9
  have i10' : I5 110 x 0 = 0 := by rw [xw_i xf5 (by decide) hx id]; exact i10
  have hD' : cD K5 I5 F5 dr tx := cD_y (y_0 xf5) hD
  have hS' : cS K5 I5 F5 n rw0 c := cS_y (y_0 xf5) hS
  have h101' : F5 101 x 0 = some n := by rw [xw_f xf5 (by decide) hx id]; exact h101
  replace hx := hx'
  replace h100 := h100'
  replace i8 := i8'
  replace i9 := i9'
  replace i10 := i10'
  replace hD := hD'
  replace hS := hS'
  replace h101 := h101'
  refine s_FC_init_51 (by rfl) (by exact hx) ?_
  have hx' : (K5 x).1 = 1 := hx
  have h100' : (ex_uf F5 102 x 0 (some n44)) 100 x 0 = some dr := by rw [ex_uf_f _ _ _ _ (by decide)]; exact h100
  have i8' : I5 108 x 0 = 0 := i8
  have i9' : I5 109 x 0 = 0 := i9
  have i10' : I5 110 x 0 = 0 := i10
  have hD' : cD K5 I5 (ex_uf F5 102 x 0 (some n44)) dr tx := cD_y (y_uf hx (by decide)) hD
  have hS' : cS K5 I5 (ex_uf F5 102 x 0 (some n44)) n rw0 c := cS_y (y_uf hx (by decide)) hS
  have h101' : (ex_uf F5 102 x 0 (some n44)) 101 x 0 = some n := by rw [ex_uf_f _ _ _ _ (by decide)]; exact h101
  have hU' : cU K5 I5 (ex_uf F5 102 x 0 (some n44)) n44 ms := cU_y (y_uf hx (by decide)) hU
  have h102' : (ex_uf F5 102 x 0 (some n44)) 102 x 0 = some n44 := ex_uf_eq _ _ _ _ _
  replace hx := hx'
  replace h100 := h100'
  replace i8 := i8'
  replace i9 := i9'
  replace i10 := i10'
  replace hD := hD'
  replace hS := hS'
  replace h101 := h101'
  replace hU := hU'
  have h102 := h102'
  clear h102'
  generalize ex_uf F5 102 x 0 (some n44) = F6 at h100 hD hS h101 hU h102 ⊢
  refine s_FC_init_54 ?_
  refine s_FC_init_55 (fun n55 fn55 => ?_)
  have xn7 : xw (fun _ _ => False) K5 I5 F6 (ex_nk K5 n55 4 0) (ex_ni I5 n55) (ex_nr F6 n55) := xw_new fn55
  have kz7 : (ex_nk K5 n55 4 0 n55).1 = 4 := by rw [ex_nk_at]
  have zz7 : ∀ f, ex_ni I5 n55 f n55 0 = 0 := fun f => by rw [ex_ni_at]
  have mk7 : ∀ {K' : ex_K} {I' : ex_I} {F' : ex_F}, xw (fun _ c => c = n55) (ex_nk K5 n55 4 0) (ex_ni I5 n55) (ex_nr F6 n55) K' I' F' → xw (fun _ _ => False) K5 I5 F6 K' I' F' := fun h => xw_made fn55 h
  generalize ex_nk K5 n55 4 0 = K7 at xn7 kz7 mk7 ⊢
  generalize ex_ni I5 n55 = I7 at xn7 zz7 mk7 ⊢
  generalize ex_nr F6 n55 = F7 at xn7 mk7 ⊢
  refine s_FC_init_58 ?_
  refine s_FC_init_59 ?_
  refine s_FC_init_60 ?_
  refine s_FC_init_61 ?_
  refine s_FC_init_62 (fun n62 fn62 => ?_)
  have xn8 : xw (fun _ _ => False) K7 I7 F7 (ex_nk K7 n62 2 0) (ex_ni I7 n62) (ex_nr F7 n62) := xw_new fn62
  have kz8 : (ex_nk K7 n62 2 0 n62).1 = 2 := by rw [ex_nk_at]
  have n78 : n55 ≠ n62 := fun e => by rw [← e, kz7] at fn62; exact absurd fn62 (by decide)
  refine s_FC_init_65 ?_
  refine s_FC_init_66 (b1 := 0 + 1) (b2 := b + 16) (by first | rfl | assumption | (simp [*]; done)) (ex_up (by omega) (sp_ctl_init (d := d) (b := 0) kz8)) ?_ (by omega)
  rintro _ _ _ _ ⟨rfl, y, fy, rfl, rfl, rfl⟩
  dsimp only [Option.toList, List.cons_append, List.nil_append]
  have ny8 : n62 ≠ y := fun e => by rw [← e, kz8] at fy; exact absurd fy (by decide)
  have ny7 : n55 ≠ y := fun e => by rw [← e, ex_nk_ne _ _ _ n78, kz7] at fy; exact absurd fy (by decide)
  have x9 : xw (fun _ _ => False) K7 I7 F7 (ex_nk (ex_nk K7 n62 2 0) y 21 7) (ex_wi (ex_ni (ex_ni I7 n62) y) 21 y (fil (fun _ => 0) 7 (-1))) (ex_uf (ex_nr (ex_nr F7 n62) y) 164 n62 0 (some y)) := fun c hc => by
    have c1 : c ≠ n62 := fun e => hc (by rw [e]; exact fn62)
    have c2 : c ≠ y := fun e => by rw [← e, ex_nk_ne _ _ _ c1] at fy; exact hc fy
    exact ⟨by rw [ex_nk_ne _ _ _ c2, ex_nk_ne _ _ _ c1], fun f _ => ⟨by rw [ex_wi_ne _ _ _ c2, ex_ni_ne _ c2, ex_ni_ne _ c1], by rw [ex_uf_ne _ _ _ _ c1, ex_nr_ne _ c2, ex_nr_ne _ c1]⟩⟩
  have hct : ct_ok (ex_nk (ex_nk K7 n62 2 0) y 21 7) (ex_uf (ex_nr (ex_nr F7 n62) y) 164 n62 0 (some y)) n62 y := ⟨by rw [ex_nk_ne _ _ _ ny8]; exact kz8, by rw [ex_uf_eq], by rw [ex_nk_at]⟩
  have hfil : ∀ j, j < 7 → ex_wi (ex_ni (ex_ni I7 n62) y) 21 y (fil (fun _ => 0) 7 (-1)) 21 y j = -1 := fun j hj => by
    rw [ex_wi_at]
    unfold fil
    rw [if_pos hj]
  generalize ex_nk (ex_nk K7 n62 2 0) y 21 7 = K9 at x9 hct ⊢
  generalize ex_wi (ex_ni (ex_ni I7 n62) y) 21 y (fil (fun _ => 0) 7 (-1)) = I9 at x9 hfil ⊢
  generalize ex_uf (ex_nr (ex_nr F7 n62) y) 164 n62 0 (some y) = F9 at x9 hct ⊢
  have kz9 : (K9 n55).1 = 4 := xw_K x9 (by decide) kz7
  have hCt : Ctl K9 I9 F9 n62 cn_none := ⟨y, hct, fun j hj => Or.inl (hfil j hj), fun j hj => by
    rw [tx_4_c (N' := fun _ => -1) (fun j hj => hfil j hj) j hj]
    rcases (by omega : j = 0 ∨ j = 1 ∨ j = 2 ∨ j = 3) with rfl | rfl | rfl | rfl <;> rfl⟩
  refine s_FC_init_69 (b1 := 0) (b2 := b + 16) (by first | rfl | assumption | (simp [*]; done)) (ex_up (by omega) (sp_res (d := d) kz9 hCt (Or.inl rfl))) ?_ (by omega)
  rintro _ _ I10 F10 ⟨rfl, rfl, x10, hA⟩
  dsimp only [Option.toList, List.cons_append, List.nil_append]
  have xf10 : xw (fun _ _ => False) K5 I5 F6 K9 I10 F10 := mk7 (xw_trans (xw_mono x9 (fun _ _ _ h => h.elim)) x10)
  have hx' : (K9 x).1 = 1 := xw_K xf10 (by decide) hx
  have h100' : F10 100 x 0 = some dr := by rw [xw_f xf10 (by decide) hx id]; exact h100
  have i8' : I10 108 x 0 = 0 := by rw [xw_i xf10 (by decide) hx id]; exact i8
  have i9' : I10 109 x 0 = 0 := by rw [xw_i xf10 (by decide) hx id]; exact i9
  have i10' : I10 110 x 0 = 0 := by rw [xw_i xf10 (by decide) hx id]; exact i10
  have hD' : cD K9 I10 F10 dr tx := cD_y (y_0 xf10) hD
  have hS' : cS K9 I10 F10 n rw0 c := cS_y (y_0 xf10) hS
  have h101' : F10 101 x 0 = some n := by rw [xw_f xf10 (by decide) hx id]; exact h101
  have hU' : cU K9 I10 F10 n44 ms := cU_y (y_0 xf10) hU
  have h102' : F10 102 x 0 = some n44 := by rw [xw_f xf10 (by decide) hx id]; exact h102
  replace hx := hx'
  replace h100 := h100'
  replace i8 := i8'
  replace i9 := i9'
  replace i10 := i10'
  replace hD := hD'
  replace hS := hS'
  replace h101 := h101'
  replace hU := hU'
  replace h102 := h102'
  refine s_FC_init_72 (by rfl) (by exact hx) ?_
  have hx' : (K9 x).1 = 1 := hx
  have h100' : (ex_uf F10 103 x 0 (some n55)) 100 x 0 = some dr := by rw [ex_uf_f _ _ _ _ (by decide)]; exact h100
  have i8' : I10 108 x 0 = 0 := i8
  have i9' : I10 109 x 0 = 0 := i9
  have i10' : I10 110 x 0 = 0 := i10
  have hD' : cD K9 I10 (ex_uf F10 103 x 0 (some n55)) dr tx := cD_y (y_uf hx (by decide)) hD
  have hS' : cS K9 I10 (ex_uf F10 103 x 0 (some n55)) n rw0 c := cS_y (y_uf hx (by decide)) hS
  have h101' : (ex_uf F10 103 x 0 (some n55)) 101 x 0 = some n := by rw [ex_uf_f _ _ _ _ (by decide)]; exact h101
  have hU' : cU K9 I10 (ex_uf F10 103 x 0 (some n55)) n44 ms := cU_y (y_uf hx (by decide)) hU
  have h102' : (ex_uf F10 103 x 0 (some n55)) 102 x 0 = some n44 := by rw [ex_uf_f _ _ _ _ (by decide)]; exact h102
  have hA' : Rs K9 I10 (ex_uf F10 103 x 0 (some n55)) n55 0 0 0 cn_none := Rs_y (y_uf hx (by decide)) hA
  have h103' : (ex_uf F10 103 x 0 (some n55)) 103 x 0 = some n55 := ex_uf_eq _ _ _ _ _
  replace hx := hx'
  replace h100 := h100'
  replace i8 := i8'
  replace i9 := i9'
  replace i10 := i10'
  replace hD := hD'
  replace hS := hS'
  replace h101 := h101'
  replace hU := hU'
  replace h102 := h102'
  replace hA := hA'
  have h103 := h103'
  clear h103'
  generalize ex_uf F10 103 x 0 (some n55) = F11 at h100 hD hS h101 hU h102 hA h103 ⊢
  refine s_FC_init_75 ?_
  refine s_FC_init_76 ?_
  refine s_FC_init_78 (N := _) (by decide) rfl (by decide) (fun n78 fn78 => ?_)
  have xn12 : xw (fun _ _ => False) K9 I10 F11 (ex_nk K9 n78 31 (8 : Int32).toNatClampNeg) (ex_ni I10 n78) (ex_nr F11 n78) := xw_new fn78
  have kn78 : ex_nk K9 n78 31 (8 : Int32).toNatClampNeg n78 = (31, 8) := by rw [ex_nk_at]; rfl
  generalize ex_nk K9 n78 31 (8 : Int32).toNatClampNeg = K12 at xn12 kn78 ⊢
  generalize ex_ni I10 n78 = I12 at xn12 ⊢
  generalize ex_nr F11 n78 = F12 at xn12 ⊢
  have hx' : (K12 x).1 = 1 := xw_K xn12 (by decide) hx
  have h100' : F12 100 x 0 = some dr := by rw [xw_f xn12 (by decide) hx id]; exact h100
  have i8' : I12 108 x 0 = 0 := by rw [xw_i xn12 (by decide) hx id]; exact i8
  have i9' : I12 109 x 0 = 0 := by rw [xw_i xn12 (by decide) hx id]; exact i9
  have i10' : I12 110 x 0 = 0 := by rw [xw_i xn12 (by decide) hx id]; exact i10
  have hD' : cD K12 I12 F12 dr tx := cD_y (y_0 xn12) hD
  have hS' : cS K12 I12 F12 n rw0 c := cS_y (y_0 xn12) hS
  have h101' : F12 101 x 0 = some n := by rw [xw_f xn12 (by decide) hx id]; exact h101
  have hU' : cU K12 I12 F12 n44 ms := cU_y (y_0 xn12) hU
  have h102' : F12 102 x 0 = some n44 := by rw [xw_f xn12 (by decide) hx id]; exact h102
  have hA' : Rs K12 I12 F12 n55 0 0 0 cn_none := Rs_y (y_0 xn12) hA
  have h103' : F12 103 x 0 = some n55 := by rw [xw_f xn12 (by decide) hx id]; exact h103
  replace hx := hx'
  replace h100 := h100'
  replace i8 := i8'
  replace i9 := i9'
  replace i10 := i10'
  replace hD := hD'
  replace hS := hS'
  replace h101 := h101'
  replace hU := hU'
  replace h102 := h102'
  replace hA := hA'
  replace h103 := h103'
  refine s_FC_init_81 (by rfl) (by exact hx) ?_
  have hx' : (K12 x).1 = 1 := hx
  have h100' : (ex_uf F12 104 x 0 (some n78)) 100 x 0 = some dr := by rw [ex_uf_f _ _ _ _ (by decide)]; exact h100
  have i8' : I12 108 x 0 = 0 := i8
  have i9' : I12 109 x 0 = 0 := i9
  have i10' : I12 110 x 0 = 0 := i10
  have hD' : cD K12 I12 (ex_uf F12 104 x 0 (some n78)) dr tx := cD_y (y_uf hx (by decide)) hD
  have hS' : cS K12 I12 (ex_uf F12 104 x 0 (some n78)) n rw0 c := cS_y (y_uf hx (by decide)) hS
  have h101' : (ex_uf F12 104 x 0 (some n78)) 101 x 0 = some n := by rw [ex_uf_f _ _ _ _ (by decide)]; exact h101
  have hU' : cU K12 I12 (ex_uf F12 104 x 0 (some n78)) n44 ms := cU_y (y_uf hx (by decide)) hU
  have h102' : (ex_uf F12 104 x 0 (some n78)) 102 x 0 = some n44 := by rw [ex_uf_f _ _ _ _ (by decide)]; exact h102
  have hA' : Rs K12 I12 (ex_uf F12 104 x 0 (some n78)) n55 0 0 0 cn_none := Rs_y (y_uf hx (by decide)) hA
  have h103' : (ex_uf F12 104 x 0 (some n78)) 103 x 0 = some n55 := by rw [ex_uf_f _ _ _ _ (by decide)]; exact h103
  have kn78' : K12 n78 = (31, 8) := kn78
  have h104' : (ex_uf F12 104 x 0 (some n78)) 104 x 0 = some n78 := ex_uf_eq _ _ _ _ _
  replace hx := hx'
  replace h100 := h100'
  replace i8 := i8'
  replace i9 := i9'
  replace i10 := i10'
  replace hD := hD'
  replace hS := hS'
  replace h101 := h101'
  replace hU := hU'
  replace h102 := h102'
  replace hA := hA'
  replace h103 := h103'
  replace kn78 := kn78'
  have h104 := h104'
  clear h104'
  generalize ex_uf F12 104 x 0 (some n78) = F13 at h100 hD hS h101 hU h102 hA h103 h104 ⊢
  refine s_FC_init_84 ?_
  refine s_FC_init_85 ?_
  have kab : (K12 n55).1 = 4 := hA.1
  refine lp_rs (l1 := l1) hx kn78 kab 8 0 F13 rfl (by omega) h104 h103 (fun i hi => absurd hi (by omega)) (fun F14 l2 g1 g2 g3 => ?_)
  replace h100 : F14 100 x 0 = some dr := by rw [g2 _ (by decide)]; exact h100
  replace hD := cD_y g3 hD
  replace hS := cS_y g3 hS
  replace h101 : F14 101 x 0 = some n := by rw [g2 _ (by decide)]; exact h101
  replace hU := cU_y g3 hU
  replace h102 : F14 102 x 0 = some n44 := by rw [g2 _ (by decide)]; exact h102
  replace hA := Rs_y g3 hA
  replace h103 : F14 103 x 0 = some n55 := by rw [g2 _ (by decide)]; exact h103
  replace h104 : F14 104 x 0 = some n78 := by rw [g2 _ (by decide)]; exact h104
  refine s_FC_init_108 ?_
  refine s_FC_init_109 ?_
  refine s_FC_init_110 (N := _) (by decide) rfl (by decide) (fun n110 fn110 => ?_)
  have xn15 : xw (fun _ _ => False) K12 I12 F14 (ex_nk K12 n110 32 (3 : Int32).toNatClampNeg) (ex_ni I12 n110) (ex_nr F14 n110) := xw_new fn110
  have kn110 : ex_nk K12 n110 32 (3 : Int32).toNatClampNeg n110 = (32, 3) := by rw [ex_nk_at]; rfl
  generalize ex_nk K12 n110 32 (3 : Int32).toNatClampNeg = K15 at xn15 kn110 ⊢
  generalize ex_ni I12 n110 = I15 at xn15 ⊢
  generalize ex_nr F14 n110 = F15 at xn15 ⊢
  have hx' : (K15 x).1 = 1 := xw_K xn15 (by decide) hx
  have h100' : F15 100 x 0 = some dr := by rw [xw_f xn15 (by decide) hx id]; exact h100
  have i8' : I15 108 x 0 = 0 := by rw [xw_i xn15 (by decide) hx id]; exact i8
  have i9' : I15 109 x 0 = 0 := by rw [xw_i xn15 (by decide) hx id]; exact i9
  have i10' : I15 110 x 0 = 0 := by rw [xw_i xn15 (by decide) hx id]; exact i10
  have hD' : cD K15 I15 F15 dr tx := cD_y (y_0 xn15) hD
  have hS' : cS K15 I15 F15 n rw0 c := cS_y (y_0 xn15) hS
  have h101' : F15 101 x 0 = some n := by rw [xw_f xn15 (by decide) hx id]; exact h101
  have hU' : cU K15 I15 F15 n44 ms := cU_y (y_0 xn15) hU
  have h102' : F15 102 x 0 = some n44 := by rw [xw_f xn15 (by decide) hx id]; exact h102
  have hA' : Rs K15 I15 F15 n55 0 0 0 cn_none := Rs_y (y_0 xn15) hA
  have h103' : F15 103 x 0 = some n55 := by rw [xw_f xn15 (by decide) hx id]; exact h103
  have kn78' : K15 n78 = (31, 8) := xw_k xn15 (by decide) kn78
  have h104' : F15 104 x 0 = some n78 := by rw [xw_f xn15 (by decide) hx id]; exact h104
  have g1' : ∀ i, i < 8 → F15 31 n78 i = some n55 := fun i hi => by rw [xw_f xn15 (k := 31) (by decide) (by rw [kn78]) id]; exact g1 i hi
  replace hx := hx'
  replace h100 := h100'
  replace i8 := i8'
  replace i9 := i9'
  replace i10 := i10'
  replace hD := hD'
  replace hS := hS'
  replace h101 := h101'
  replace hU := hU'
  replace h102 := h102'
  replace hA := hA'
  replace h103 := h103'
  replace kn78 := kn78'
  replace h104 := h104'
  replace g1 := g1'
  refine s_FC_init_113 (by rfl) (by exact hx) ?_
  have hx' : (K15 x).1 = 1 := hx
  have h100' : (ex_uf F15 105 x 0 (some n110)) 100 x 0 = some dr := by rw [ex_uf_f _ _ _ _ (by decide)]; exact h100
  have i8' : I15 108 x 0 = 0 := i8
  have i9' : I15 109 x 0 = 0 := i9
  have i10' : I15 110 x 0 = 0 := i10
  have hD' : cD K15 I15 (ex_uf F15 105 x 0 (some n110)) dr tx := cD_y (y_uf hx (by decide)) hD
  have hS' : cS K15 I15 (ex_uf F15 105 x 0 (some n110)) n rw0 c := cS_y (y_uf hx (by decide)) hS
  have h101' : (ex_uf F15 105 x 0 (some n110)) 101 x 0 = some n := by rw [ex_uf_f _ _ _ _ (by decide)]; exact h101
  have hU' : cU K15 I15 (ex_uf F15 105 x 0 (some n110)) n44 ms := cU_y (y_uf hx (by decide)) hU
  have h102' : (ex_uf F15 105 x 0 (some n110)) 102 x 0 = some n44 := by rw [ex_uf_f _ _ _ _ (by decide)]; exact h102
  have hA' : Rs K15 I15 (ex_uf F15 105 x 0 (some n110)) n55 0 0 0 cn_none := Rs_y (y_uf hx (by decide)) hA
  have h103' : (ex_uf F15 105 x 0 (some n110)) 103 x 0 = some n55 := by rw [ex_uf_f _ _ _ _ (by decide)]; exact h103
  have kn78' : K15 n78 = (31, 8) := kn78
  have h104' : (ex_uf F15 105 x 0 (some n110)) 104 x 0 = some n78 := by rw [ex_uf_f _ _ _ _ (by decide)]; exact h104
  have g1' : ∀ i, i < 8 → (ex_uf F15 105 x 0 (some n110)) 31 n78 i = some n55 := fun i hi => by rw [ex_uf_f _ _ _ _ (by decide)]; exact g1 i hi
  have kn110' : K15 n110 = (32, 3) := kn110
  have h105' : (ex_uf F15 105 x 0 (some n110)) 105 x 0 = some n110 := ex_uf_eq _ _ _ _ _
  replace hx := hx'
  replace h100 := h100'
  replace i8 := i8'
  replace i9 := i9'
  replace i10 := i10'
  replace hD := hD'
  replace hS := hS'
  replace h101 := h101'
  replace hU := hU'
  replace h102 := h102'
  replace hA := hA'
  replace h103 := h103'
  replace kn78 := kn78'
  replace h104 := h104'
  replace g1 := g1'
  replace kn110 := kn110'
  have h105 := h105'
  clear h105'
  generalize ex_uf F15 105 x 0 (some n110) = F16 at h100 hD hS h101 hU h102 hA h103 h104 g1 h105 ⊢
  refine s_FC_init_116 ?_
  refine s_FC_init_117 ?_
  refine s_FC_init_118 (N := _) (by decide) rfl (by decide) (fun n118 fn118 => ?_)
  have xn17 : xw (fun _ _ => False) K15 I15 F16 (ex_nk K15 n118 33 (3 : Int32).toNatClampNeg) (ex_ni I15 n118) (ex_nr F16 n118) := xw_new fn118
  have kn118 : ex_nk K15 n118 33 (3 : Int32).toNatClampNeg n118 = (33, 3) := by rw [ex_nk_at]; rfl
  generalize ex_nk K15 n118 33 (3 : Int32).toNatClampNeg = K17 at xn17 kn118 ⊢
  generalize ex_ni I15 n118 = I17 at xn17 ⊢
  generalize ex_nr F16 n118 = F17 at xn17 ⊢
  have hx' : (K17 x).1 = 1 := xw_K xn17 (by decide) hx
  have h100' : F17 100 x 0 = some dr := by rw [xw_f xn17 (by decide) hx id]; exact h100
  have i8' : I17 108 x 0 = 0 := by rw [xw_i xn17 (by decide) hx id]; exact i8
  have i9' : I17 109 x 0 = 0 := by rw [xw_i xn17 (by decide) hx id]; exact i9
  have i10' : I17 110 x 0 = 0 := by rw [xw_i xn17 (by decide) hx id]; exact i10
  have hD' : cD K17 I17 F17 dr tx := cD_y (y_0 xn17) hD
  have hS' : cS K17 I17 F17 n rw0 c := cS_y (y_0 xn17) hS
  have h101' : F17 101 x 0 = some n := by rw [xw_f xn17 (by decide) hx id]; exact h101
  have hU' : cU K17 I17 F17 n44 ms := cU_y (y_0 xn17) hU
  have h102' : F17 102 x 0 = some n44 := by rw [xw_f xn17 (by decide) hx id]; exact h102
  have hA' : Rs K17 I17 F17 n55 0 0 0 cn_none := Rs_y (y_0 xn17) hA
  have h103' : F17 103 x 0 = some n55 := by rw [xw_f xn17 (by decide) hx id]; exact h103
  have kn78' : K17 n78 = (31, 8) := xw_k xn17 (by decide) kn78
  have h104' : F17 104 x 0 = some n78 := by rw [xw_f xn17 (by decide) hx id]; exact h104
  have g1' : ∀ i, i < 8 → F17 31 n78 i = some n55 := fun i hi => by rw [xw_f xn17 (k := 31) (by decide) (by rw [kn78]) id]; exact g1 i hi
  have kn110' : K17 n110 = (32, 3) := xw_k xn17 (by decide) kn110
  have h105' : F17 105 x 0 = some n110 := by rw [xw_f xn17 (by decide) hx id]; exact h105
  replace hx := hx'
  replace h100 := h100'
  replace i8 := i8'
  replace i9 := i9'
  replace i10 := i10'
  replace hD := hD'
  replace hS := hS'
  replace h101 := h101'
  replace hU := hU'
  replace h102 := h102'
  replace hA := hA'
  replace h103 := h103'
  replace kn78 := kn78'
  replace h104 := h104'
  replace g1 := g1'
  replace kn110 := kn110'
  replace h105 := h105'
  refine s_FC_init_121 (by rfl) (by exact hx) ?_
  have hx' : (K17 x).1 = 1 := hx
  have h100' : (ex_uf F17 106 x 0 (some n118)) 100 x 0 = some dr := by rw [ex_uf_f _ _ _ _ (by decide)]; exact h100
  have i8' : I17 108 x 0 = 0 := i8
  have i9' : I17 109 x 0 = 0 := i9
  have i10' : I17 110 x 0 = 0 := i10
  have hD' : cD K17 I17 (ex_uf F17 106 x 0 (some n118)) dr tx := cD_y (y_uf hx (by decide)) hD
  have hS' : cS K17 I17 (ex_uf F17 106 x 0 (some n118)) n rw0 c := cS_y (y_uf hx (by decide)) hS
  have h101' : (ex_uf F17 106 x 0 (some n118)) 101 x 0 = some n := by rw [ex_uf_f _ _ _ _ (by decide)]; exact h101
  have hU' : cU K17 I17 (ex_uf F17 106 x 0 (some n118)) n44 ms := cU_y (y_uf hx (by decide)) hU
  have h102' : (ex_uf F17 106 x 0 (some n118)) 102 x 0 = some n44 := by rw [ex_uf_f _ _ _ _ (by decide)]; exact h102
  have hA' : Rs K17 I17 (ex_uf F17 106 x 0 (some n118)) n55 0 0 0 cn_none := Rs_y (y_uf hx (by decide)) hA
  have h103' : (ex_uf F17 106 x 0 (some n118)) 103 x 0 = some n55 := by rw [ex_uf_f _ _ _ _ (by decide)]; exact h103
  have kn78' : K17 n78 = (31, 8) := kn78
  have h104' : (ex_uf F17 106 x 0 (some n118)) 104 x 0 = some n78 := by rw [ex_uf_f _ _ _ _ (by decide)]; exact h104
  have g1' : ∀ i, i < 8 → (ex_uf F17 106 x 0 (some n118)) 31 n78 i = some n55 := fun i hi => by rw [ex_uf_f _ _ _ _ (by decide)]; exact g1 i hi
  have kn110' : K17 n110 = (32, 3) := kn110
  have h105' : (ex_uf F17 106 x 0 (some n118)) 105 x 0 = some n110 := by rw [ex_uf_f _ _ _ _ (by decide)]; exact h105
  have kn118' : K17 n118 = (33, 3) := kn118
  have h106' : (ex_uf F17 106 x 0 (some n118)) 106 x 0 = some n118 := ex_uf_eq _ _ _ _ _
  replace hx := hx'
  replace h100 := h100'
  replace i8 := i8'
  replace i9 := i9'
  replace i10 := i10'
  replace hD := hD'
  replace hS := hS'
  replace h101 := h101'
  replace hU := hU'
  replace h102 := h102'
  replace hA := hA'
  replace h103 := h103'
  replace kn78 := kn78'
  replace h104 := h104'
  replace g1 := g1'
  replace kn110 := kn110'
  replace h105 := h105'
  replace kn118 := kn118'
  have h106 := h106'
  clear h106'
  generalize ex_uf F17 106 x 0 (some n118) = F18 at h100 hD hS h101 hU h102 hA h103 h104 g1 h105 h106 ⊢
  refine s_FC_init_124 ?_
  refine s_FC_init_125 ?_
  have hB : iB K17 I17 F18 x dr tx n rw0 c n44 ms n55 n78 n110 n118 := ⟨⟨hx, h100, h101, h102, h103, h104, h105, h106⟩, ⟨i8, i9, i10⟩, hD, hS, hU, hA, kn78, g1, kn110, kn118⟩
  rw [show b + 13 = (b + 1) + 4 * 3 by omega]
  refine lp_oc (l1 := l1) 3 0 (b + 1) K17 I17 F18 (fun _ => 0) (fun _ => 0) (fun _ => 0) (fun _ => 0) rfl (by omega) hB (fun v hv => absurd hv (by omega)) (fun v w hv => absurd hv (by omega)) (fun K20 I20 F20 og cn qa pb l2 B20 T20 D20 => ?_)
  refine s_FC_init_164 ?_
  refine s_FC_init_165 ?_
  refine s_FC_init_167 (N := _) (by decide) rfl (by decide) (fun n167 fn167 => ?_)
  have xn21 : xw (fun _ _ => False) K20 I20 F20 (ex_nk K20 n167 34 (16 : Int32).toNatClampNeg) (ex_ni I20 n167) (ex_nr F20 n167) := xw_new fn167
  have kl : ex_nk K20 n167 34 (16 : Int32).toNatClampNeg n167 = (34, 16) := by rw [ex_nk_at]; rfl
  have hl : ∀ v, v < 3 → qa v ≠ n167 := fun v hv e => by
    have := (T20 v hv).2.1.2.2.2.2.1
    rw [e] at this
    rw [this] at fn167
    exact absurd fn167 (by decide)
  have ko20 : (K20 n110).1 = 32 := by rw [B20.2.2.2.2.2.2.2.2.1]
  have kc20 : (K20 n118).1 = 33 := by rw [B20.2.2.2.2.2.2.2.2.2]
  have B21 := iB_0 xn21 B20
  have T21 : ∀ v, v < 3 → iT (ex_nk K20 n167 34 (16 : Int32).toNatClampNeg) (ex_ni I20 n167) (ex_nr F20 n167) n110 n118 og cn qa pb v := fun v hv => by
    obtain ⟨a1, a2, a3, a4⟩ := T20 v hv
    exact ⟨cO_y (y_0 xn21) a1, cC_y (y_0 xn21) a2, by rw [xw_f xn21 (by decide) ko20 id]; exact a3, by rw [xw_f xn21 (by decide) kc20 id]; exact a4⟩
  generalize ex_nk K20 n167 34 (16 : Int32).toNatClampNeg = K21 at kl B21 T21 ⊢
  generalize ex_ni I20 n167 = I21 at B21 T21 ⊢
  generalize ex_nr F20 n167 = F21 at B21 T21 ⊢
  have hx21 := B21.1.1
  refine s_FC_init_170 (by rfl) (by exact hx21) ?_
  refine s_FC_init_173 ?_
  have yw : xw (yP K21) K21 I21 F21 K21 I21 (ex_uf F21 107 x 0 (some n167)) := y_uf hx21 (by decide)
  have B22 : iB K21 I21 (ex_uf F21 107 x 0 (some n167)) x dr tx n rw0 c n44 ms n55 n78 n110 n118 := by
    obtain ⟨⟨b1, b2, b3, b4, b5, b6, b7, b8⟩, b9, b12, b13, b14, b15, b16, b17, b18, b19⟩ := B21
    have e : ∀ k, k ≠ 107 → ex_uf F21 107 x 0 (some n167) k = F21 k := fun k k1 => ex_uf_f _ _ _ _ k1
    exact ⟨⟨b1, by rw [e _ (by decide)]; exact b2, by rw [e _ (by decide)]; exact b3, by rw [e _ (by decide)]; exact b4, by rw [e _ (by decide)]; exact b5, by rw [e _ (by decide)]; exact b6, by rw [e _ (by decide)]; exact b7, by rw [e _ (by decide)]; exact b8⟩, b9, cD_y yw b12, cS_y yw b13, cU_y yw b14, Rs_y yw b15, b16, fun j hj => by rw [e _ (by decide)]; exact b17 j hj, b18, b19⟩
  have T22 : ∀ v, v < 3 → iT K21 I21 (ex_uf F21 107 x 0 (some n167)) n110 n118 og cn qa pb v := fun v hv => by
    obtain ⟨a1, a2, a3, a4⟩ := T21 v hv
    exact ⟨cO_y yw a1, cC_y yw a2, by rw [ex_uf_f _ _ _ _ (by decide)]; exact a3, by rw [ex_uf_f _ _ _ _ (by decide)]; exact a4⟩
  exact ⟨rfl, mkRc B22 T22 D20 (ex_uf_eq _ _ _ _ _) kl hl h40⟩
theorem sp_initC {Γ : ex_G} {d : Nat} {K : ex_K} {I : ex_I} {F : ex_F} {b : Nat} {x c : Nat} {x0 : Int32} (hx : (K x).1 = 1) (h0 : ∀ f, I f x 0 = 0) (hc : (if x0 < 1 ∨ 40 < x0 then 12 else x0) = nI c) (h40 : c ≤ 40) :
    ex_E Γ (d + 3) M_FC_init 0 [some (.inr (some x)), some (.inl x0), none] [] K I F (b + 25) (fun r K' I' F' => r = none ∧ ∃ a g, a 0 = x ∧ Rc K' I' F' a g 3 (m_new (nI c))) := by
  refine s_FC_init_0 ?_
  refine s_FC_init_1 (by first | rfl | assumption | (simp [*]; done)) ?_
  refine s_FC_init_4 ?_
  refine s_FC_init_5 (fun n5 fn5 => ?_)
  have xn : xw (fun _ _ => False) K I F (ex_nk K n5 3 0) (ex_ni I n5) (ex_nr F n5) := xw_new fn5
  have kz : (ex_nk K n5 3 0 n5).1 = 3 := by rw [ex_nk_at]
  have zz : ∀ f, ex_ni I n5 f n5 0 = 0 := fun f => by rw [ex_ni_at]
  have mk : ∀ {K' : ex_K} {I' : ex_I} {F' : ex_F}, xw (fun _ c => c = n5) (ex_nk K n5 3 0) (ex_ni I n5) (ex_nr F n5) K' I' F' → xw (fun _ _ => False) K I F K' I' F' := fun h => xw_made fn5 h
  generalize ex_nk K n5 3 0 = Ka at xn kz mk ⊢
  generalize ex_ni I n5 = Ia at xn zz mk ⊢
  generalize ex_nr F n5 = Fa at xn mk ⊢
  refine s_FC_init_8 ?_
  refine s_FC_init_9 (b1 := 0 + 1) (b2 := b + 23) (by first | rfl | assumption | (simp [*]; done)) (ex_up (by omega) (sp_dini (d := d) (b := 0) kz zz)) ?_ (by omega)
  rintro _ K1 I1 F0 ⟨rfl, x1, tx, hD⟩
  dsimp only [Option.toList, List.cons_append, List.nil_append]
  have xf := mk x1
  have hx1 : (K1 x).1 = 1 := xw_K xf (by decide) hx
  have i8 : I1 108 x 0 = 0 := by rw [xw_i xf (by decide) hx id]; exact h0 _
  have i9 : I1 109 x 0 = 0 := by rw [xw_i xf (by decide) hx id]; exact h0 _
  have i10 : I1 110 x 0 = 0 := by rw [xw_i xf (by decide) hx id]; exact h0 _
  clear mk xn kz zz
  refine s_FC_init_12 (by rfl) (by exact hx1) ?_
  have hD' := cD_y (y_uf (f := 100) (i := 0) (v := some n5) (F := F0) (I := I1) hx1 (by decide)) hD
  have h100 : ex_uf F0 100 x 0 (some n5) 100 x 0 = some n5 := ex_uf_eq _ _ _ _ _
  replace hD := hD'
  clear hD'
  generalize ex_uf F0 100 x 0 (some n5) = F1 at hD h100 ⊢
  refine s_FC_init_15 ?_
  refine s_FC_init_16 (fun n16 fn16 => ?_)
  have xn : xw (fun _ _ => False) K1 I1 F1 (ex_nk K1 n16 6 0) (ex_ni I1 n16) (ex_nr F1 n16) := xw_new fn16
  have kz : (ex_nk K1 n16 6 0 n16).1 = 6 := by rw [ex_nk_at]
  have zz : ∀ f, ex_ni I1 n16 f n16 0 = 0 := fun f => by rw [ex_ni_at]
  have mk : ∀ {K' : ex_K} {I' : ex_I} {F' : ex_F}, xw (fun _ c => c = n16) (ex_nk K1 n16 6 0) (ex_ni I1 n16) (ex_nr F1 n16) K' I' F' → xw (fun _ _ => False) K1 I1 F1 K' I' F' := fun h => xw_made fn16 h
  generalize ex_nk K1 n16 6 0 = Kb at xn kz mk ⊢
  generalize ex_ni I1 n16 = Ib at xn zz mk ⊢
  generalize ex_nr F1 n16 = Fb at xn mk ⊢
  refine s_FC_init_19 ?_
  refine s_FC_init_20 ?_
  refine s_FC_init_21 ?_
  refine s_FC_init_22 (fun h22 => ?_) (fun h22 => ?_)
  · refine s_FC_init_35 ?_
    have ec : ((12) : Int32) = nI c := by rw [← hc, if_pos (Or.inl h22)]
    rw [ec]
    exact ini37 hx1 h100 i8 i9 i10 hD kz zz mk h40
  · refine s_FC_init_25 ?_
    refine s_FC_init_26 ?_
    refine s_FC_init_28 (fun h28 => ?_) (fun h28 => ?_)
    · refine s_FC_init_35 ?_
      have ec : ((12) : Int32) = nI c := by rw [← hc, if_pos (Or.inr h28)]
      rw [ec]
      exact ini37 hx1 h100 i8 i9 i10 hD kz zz mk h40
    · refine s_FC_init_31 ?_
      refine s_FC_init_32 ?_
      have ec : ((x0) : Int32) = nI c := by rw [← hc, if_neg (fun z => z.elim h22 h28)]
      rw [ec]
      exact ini37 hx1 h100 i8 i9 i10 hD kz zz mk h40
