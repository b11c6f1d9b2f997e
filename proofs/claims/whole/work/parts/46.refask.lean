/-! The reference: get, put, delete, publish, and what is asked of it -/
theorem sp_nextR {Γ : ex_G} {d : Nat} {K : ex_K} {I : ex_I} {F : ex_F} {b : Nat} {m : Nat} {ad : Nat → Nat} {s : MS} (hR : rf_ok K F m ad) (h : rr I m ad s) : ex_E Γ (d + 1) M_Mdl_next 0 [some (.inr (some m))] [] K I F b (fun x K' I' F' => x = some (.inl (s.1 820 0 + 1)) ∧ K = K' ∧ F = F' ∧ rr I' m ad (m_next s)) := by
  refine ex_post (fun x K' I' F' z => ?_) (sp_next hR)
  obtain ⟨z1, z2, z3, z4⟩ := z
  rw [h.2.2.1 _ (by decide)] at z1
  exact ⟨z1, z2, z3, by rw [← z4]; exact rr_next hR h⟩
theorem nI_ofn {x : Int32} {n : Nat} (hn : n < 2 ^ 31) (h0 : ¬ x < 0) (h8 : ¬ nI n ≤ x) : ∃ p, p < n ∧ x = nI p := by
  obtain ⟨j, hj, rfl⟩ := nI_of h0
  refine ⟨j, ?_, rfl⟩
  rcases Nat.lt_or_ge j n with z | z
  · exact z
  · exact absurd ((n_le rfl rfl hn hj).mpr z) h8
def m_put (s : MS) (p : Nat) (x : Int32) : MS := m_pass (m_next s) (s.1 820 0 + 1) 2 p 0 0 x
theorem sp_putR {Γ : ex_G} {d : Nat} {K : ex_K} {I : ex_I} {F : ex_F} {b : Nat} {m : Nat} {ad : Nat → Nat} {s : MS} (hR : rf_ok K F m ad) (h : rr I m ad s) {p : Nat} {y : Int32} (hp : p < 8) (hy1 : ¬ y < 1) (hy9 : y ≤ 9) : ex_E Γ (d + 4) M_Mdl_put 0 [some (.inr (some m)), some (.inl (nI p)), some (.inl y), none] [] K I F b (fun x K' I' F' => x = some (.inl (s.1 820 0 + 1)) ∧ K = K' ∧ F = F' ∧ rr I' m ad (m_put s p y)) := by
  have m1 := hR.1
  refine s_Mdl_put_0 ?_
  refine s_Mdl_put_1 (b1 := 0) (b2 := b)  (sp_isPathMdl hp) ?_ (by omega)
  rintro _ _ _ _ ⟨rfl, rfl, rfl, rfl⟩
  dsimp only [Option.toList, List.cons_append, List.nil_append]
  refine s_Mdl_put_4 (fun h4 => absurd h4 (by decide)) (fun h4 => ?_)
  refine s_Mdl_put_7 ?_
  refine s_Mdl_put_8 ?_
  refine s_Mdl_put_9 (fun h9 => absurd h9 (by exact hy1)) (fun h9 => ?_)
  refine s_Mdl_put_12 ?_
  refine s_Mdl_put_13 ?_
  refine s_Mdl_put_15 (fun h15 => ?_) (fun h15 => absurd h15 (by exact fun q => q hy9))
  refine s_Mdl_put_20 ?_
  refine s_Mdl_put_21 (b1 := 0) (b2 := b) (by first | rfl | assumption | (simp [*]; done)) (by first | rfl | assumption | (simp [*]; done)) (sp_nextR (d := d + 2) hR h) ?_ (by omega)
  rintro _ _ _ _ ⟨rfl, rfl, rfl, k⟩
  dsimp only [Option.toList, List.cons_append, List.nil_append]
  refine s_Mdl_put_24 ?_
  refine s_Mdl_put_25 ?_
  refine s_Mdl_put_26 ?_
  refine s_Mdl_put_27 ?_
  refine s_Mdl_put_28 ?_
  refine s_Mdl_put_29 ?_
  refine s_Mdl_put_30 ?_
  refine s_Mdl_put_31 ?_
  refine s_Mdl_put_32 (b1 := b) (b2 := 0) (by first | rfl | assumption | (simp [*]; done)) (by first | rfl | assumption | (simp [*]; done)) (sp_passR hR k hp) ?_ (by omega)
  rintro _ _ _ _ ⟨rfl, rfl, rfl, k2⟩
  dsimp only [Option.toList, List.cons_append, List.nil_append]
  refine s_Mdl_put_35 ?_
  refine s_Mdl_put_36 ?_
  exact ⟨rfl, rfl, rfl, k2⟩
theorem sp_putR_no {Γ : ex_G} {d : Nat} {K : ex_K} {I : ex_I} {F : ex_F} {b : Nat} {m : Nat} {ad : Nat → Nat} {s : MS} (hR : rf_ok K F m ad) (h : rr I m ad s) {z x : Int32} (hz : (z < 0 ∨ nI 8 ≤ z) ∨ ((¬ z < 0 ∧ ¬ nI 8 ≤ z) ∧ (x < 1 ∨ ¬ x ≤ 9))) : ex_E Γ (d + 4) M_Mdl_put 0 [some (.inr (some m)), some (.inl z), some (.inl x), none] [] K I F b (fun x K' I' F' => x = some (.inl (-1)) ∧ K = K' ∧ F = F' ∧ rr I' m ad (s)) := by
  have m1 := hR.1
  rcases hz with hx | ⟨⟨h0, h8⟩, hs⟩
  · skip
    refine s_Mdl_put_0 ?_
    refine s_Mdl_put_1 (b1 := 0) (b2 := b)  (sp_isPathMdl_no hx) ?_ (by omega)
    rintro _ _ _ _ ⟨rfl, rfl, rfl, rfl⟩
    dsimp only [Option.toList, List.cons_append, List.nil_append]
    refine s_Mdl_put_4 (fun h4 => ?_) (fun h4 => absurd h4 (by exact fun q => q rfl))
    refine s_Mdl_put_18 ?_
    refine s_Mdl_put_19 ?_
    exact ⟨rfl, rfl, rfl, h⟩
  · obtain ⟨p, hp, rfl⟩ := nI_ofn (by decide) h0 h8
    refine s_Mdl_put_0 ?_
    refine s_Mdl_put_1 (b1 := 0) (b2 := b)  (sp_isPathMdl hp) ?_ (by omega)
    rintro _ _ _ _ ⟨rfl, rfl, rfl, rfl⟩
    dsimp only [Option.toList, List.cons_append, List.nil_append]
    refine s_Mdl_put_4 (fun h4 => absurd h4 (by decide)) (fun h4 => ?_)
    refine s_Mdl_put_7 ?_
    refine s_Mdl_put_8 ?_
    refine s_Mdl_put_9 (fun h9 => ?_) (fun h9 => ?_)
    · refine s_Mdl_put_18 ?_
      refine s_Mdl_put_19 ?_
      exact ⟨rfl, rfl, rfl, h⟩
    · refine s_Mdl_put_12 ?_
      refine s_Mdl_put_13 ?_
      refine s_Mdl_put_15 (fun h15 => absurd h15 (by exact hs.resolve_left h9)) (fun h15 => ?_)
      refine s_Mdl_put_18 ?_
      refine s_Mdl_put_19 ?_
      exact ⟨rfl, rfl, rfl, h⟩
def m_del (s : MS) (p : Nat) : MS := m_pass (m_next s) (s.1 820 0 + 1) 3 p 0 0 0
theorem sp_deleteR {Γ : ex_G} {d : Nat} {K : ex_K} {I : ex_I} {F : ex_F} {b : Nat} {m : Nat} {ad : Nat → Nat} {s : MS} (hR : rf_ok K F m ad) (h : rr I m ad s) {p : Nat} (hp : p < 8) : ex_E Γ (d + 4) M_Mdl_delete 0 [some (.inr (some m)), some (.inl (nI p)), none] [] K I F b (fun x K' I' F' => x = some (.inl (s.1 820 0 + 1)) ∧ K = K' ∧ F = F' ∧ rr I' m ad (m_del s p)) := by
  have m1 := hR.1
  refine s_Mdl_delete_0 ?_
  refine s_Mdl_delete_1 (b1 := 0) (b2 := b)  (sp_isPathMdl hp) ?_ (by omega)
  rintro _ _ _ _ ⟨rfl, rfl, rfl, rfl⟩
  dsimp only [Option.toList, List.cons_append, List.nil_append]
  refine s_Mdl_delete_4 (fun h4 => ?_) (fun h4 => absurd h4 (by exact fun q => absurd q (by decide)))
  refine s_Mdl_delete_9 ?_
  refine s_Mdl_delete_10 (b1 := 0) (b2 := b) (by first | rfl | assumption | (simp [*]; done)) (by first | rfl | assumption | (simp [*]; done)) (sp_nextR (d := d + 2) hR h) ?_ (by omega)
  rintro _ _ _ _ ⟨rfl, rfl, rfl, k⟩
  dsimp only [Option.toList, List.cons_append, List.nil_append]
  refine s_Mdl_delete_13 ?_
  refine s_Mdl_delete_14 ?_
  refine s_Mdl_delete_15 ?_
  refine s_Mdl_delete_16 ?_
  refine s_Mdl_delete_17 ?_
  refine s_Mdl_delete_18 ?_
  refine s_Mdl_delete_19 ?_
  refine s_Mdl_delete_20 ?_
  refine s_Mdl_delete_21 (b1 := b) (b2 := 0) (by first | rfl | assumption | (simp [*]; done)) (by first | rfl | assumption | (simp [*]; done)) (sp_passR hR k hp) ?_ (by omega)
  rintro _ _ _ _ ⟨rfl, rfl, rfl, k2⟩
  dsimp only [Option.toList, List.cons_append, List.nil_append]
  refine s_Mdl_delete_24 ?_
  refine s_Mdl_delete_25 ?_
  exact ⟨rfl, rfl, rfl, k2⟩
theorem sp_deleteR_no {Γ : ex_G} {d : Nat} {K : ex_K} {I : ex_I} {F : ex_F} {b : Nat} {m : Nat} {ad : Nat → Nat} {s : MS} (hR : rf_ok K F m ad) (h : rr I m ad s) {x : Int32} (hx : x < 0 ∨ nI 8 ≤ x) : ex_E Γ (d + 4) M_Mdl_delete 0 [some (.inr (some m)), some (.inl x), none] [] K I F b (fun x K' I' F' => x = some (.inl (-1)) ∧ K = K' ∧ F = F' ∧ rr I' m ad (s)) := by
  have m1 := hR.1
  refine s_Mdl_delete_0 ?_
  refine s_Mdl_delete_1 (b1 := 0) (b2 := b)  (sp_isPathMdl_no hx) ?_ (by omega)
  rintro _ _ _ _ ⟨rfl, rfl, rfl, rfl⟩
  dsimp only [Option.toList, List.cons_append, List.nil_append]
  refine s_Mdl_delete_4 (fun h4 => absurd h4 (by exact fun q => q rfl)) (fun h4 => ?_)
  refine s_Mdl_delete_7 ?_
  refine s_Mdl_delete_8 ?_
  exact ⟨rfl, rfl, rfl, h⟩
def m_hit (s : MS) (p v : Int32) : Option (Nat × (Nat → Int32)) := match fix (mtb p v) (s.2 14) 0 with
  | none => none
  | some e => match (s.2 14)[e]? with
    | none => none
    | some row => if htb (s.1 805 0) (s.1 5) row = true then some (e, row) else none
def m_get2 (s : MS) (r : Int32) (p : Nat) (v tag : Int32) : MS := match m_hit s (nI p) v with
  | some (e, row) => tu (m_rep s r (if tag = tgr row then 304 else 200) (tgr row) (s.1 805 0 - row 6) 1) 14 ((s.2 14).eraseIdx e ++ [row])
  | none => if s.1 5 0 &&& 8 = 0 then m_pass s r 1 p v tag 0 else m_rep s r 504 0 0 0
def m_get (s : MS) (p : Nat) (v tag : Int32) (n : Nat) : MS := m_get2 (m_next (m_parse s n)) (s.1 820 0 + 1) p v tag
theorem m_parse_1 (s : MS) (n : Nat) {k : Nat} (hk : k ≠ 5) (h8 : k ≠ 808) : (m_parse s n).1 k = s.1 k := by
  unfold m_parse
  rw [cw_ne _ _ _ h8, cu_ne _ _ hk]
theorem lp_g2 {Γ : ex_G} {d : Nat} {K : ex_K} {I : ex_I} {F : ex_F} {b : Nat} {m : Nat} {ad : Nat → Nat} {s : MS} (hR : rf_ok K F m ad) (h : rr I m ad s) {p : Nat} {r v tag : Int32} (hp : p < 8) {l6 : Option ex_V} (hm : m_hit s (nI p) v = none) {x5 : Option ex_V} : ex_E Γ (d + 4) M_Mdl_get 108 [some (.inr (some m)), some (.inl (nI p)), some (.inl v), some (.inl tag), some (.inl r), x5, l6] [] K I F b (fun x K' I' F' => x = some (.inl (r)) ∧ K = K' ∧ F = F' ∧ rr I' m ad (m_get2 s r p v tag)) := by
  have m1 := hR.1
  unfold m_get2
  rw [hm]
  refine s_Mdl_get_108 ?_
  refine s_Mdl_get_109 (by first | rfl | assumption | (simp [*]; done)) (by first | rfl | assumption | (simp [*]; done)) ?_
  refine s_Mdl_get_112 ?_
  refine s_Mdl_get_113 (by first | exact rf_read hR | rfl) (by exact rk_read hR) (by rw [rn_read hR]; exact n_in (a := 0) (by first | rfl | (simp only [nl_1, nl_2, nl_3, nl_4, nl_5, nl_6, nl_7, nl_8, nl_9, nl_10, nl_11, nl_12, nl_13, nl_14, nl_15, nl_16, nl_32, nl_240, nl_250, nl_255, nl_265, nl_270, nl_0, nI_add, pk_mul]; done)) (by omega) (by omega)) ?_
  refine ex_ixl (q := 0) (by first | rfl | (simp only [nl_1, nl_2, nl_3, nl_4, nl_5, nl_6, nl_7, nl_8, nl_9, nl_10, nl_11, nl_12, nl_13, nl_14, nl_15, nl_16, nl_32, nl_240, nl_250, nl_255, nl_265, nl_270, nl_0, nI_add, pk_mul]; done)) (by omega) ?_
  refine s_Mdl_get_114 ?_
  refine s_Mdl_get_116 ?_
  rw [h.1 5 (by decide)]
  refine s_Mdl_get_117 (fun h117 => ?_) (fun h117 => ?_)
  · refine s_Mdl_get_135 ?_
    refine s_Mdl_get_136 ?_
    refine s_Mdl_get_138 ?_
    refine s_Mdl_get_139 ?_
    refine s_Mdl_get_140 ?_
    refine s_Mdl_get_141 ?_
    refine s_Mdl_get_142 ?_
    refine s_Mdl_get_143 (b1 := b) (b2 := 0) (by first | rfl | assumption | (simp [*]; done)) (by first | rfl | assumption | (simp [*]; done)) (sp_passR hR h hp) ?_ (by omega)
    rintro _ _ _ _ ⟨rfl, rfl, rfl, k⟩
    dsimp only [Option.toList, List.cons_append, List.nil_append]
    refine s_Mdl_get_146 ?_
    refine s_Mdl_get_148 ?_
    refine ⟨rfl, rfl, rfl, ?_⟩
    rw [if_pos h117]
    exact k
  · refine s_Mdl_get_120 ?_
    refine s_Mdl_get_121 ?_
    refine s_Mdl_get_123 ?_
    refine s_Mdl_get_126 ?_
    refine s_Mdl_get_127 ?_
    refine s_Mdl_get_128 ?_
    refine s_Mdl_get_129 (b1 := 0) (b2 := b) (by first | rfl | assumption | (simp [*]; done)) (by first | rfl | assumption | (simp [*]; done)) (sp_repR hR h) ?_ (by omega)
    rintro _ _ _ _ ⟨rfl, rfl, rfl, k⟩
    dsimp only [Option.toList, List.cons_append, List.nil_append]
    refine s_Mdl_get_132 ?_
    refine s_Mdl_get_146 ?_
    refine s_Mdl_get_148 ?_
    refine ⟨rfl, rfl, rfl, ?_⟩
    rw [if_neg h117]
    exact k
theorem sp_getR {Γ : ex_G} {d : Nat} {K : ex_K} {I : ex_I} {F : ex_F} {b : Nat} {m : Nat} {ad : Nat → Nat} {s : MS} (hR : rf_ok K F m ad) (h : rr I m ad s) {p n : Nat} {v tag : Int32} (hp : p < 8) (hv0 : ¬ v < 0) (hv3 : v ≤ 3) (ht0 : 0 ≤ tag) (hs : s.1 808 0 = nI n) (hn : n ≤ 40) : ex_E Γ (d + 4) M_Mdl_get 0 [some (.inr (some m)), some (.inl (nI p)), some (.inl v), some (.inl tag), none, none, none] [] K I F b (fun x K' I' F' => x = some (.inl (s.1 820 0 + 1)) ∧ K = K' ∧ F = F' ∧ rr I' m ad (m_get s p v tag n)) := by
  have m1 := hR.1
  unfold m_get
  refine s_Mdl_get_0 ?_
  refine s_Mdl_get_1 (b1 := 0) (b2 := b)  (sp_isPathMdl hp) ?_ (by omega)
  rintro _ _ _ _ ⟨rfl, rfl, rfl, rfl⟩
  dsimp only [Option.toList, List.cons_append, List.nil_append]
  refine s_Mdl_get_4 (fun h4 => absurd h4 (by decide)) (fun h4 => ?_)
  refine s_Mdl_get_7 ?_
  refine s_Mdl_get_8 (fun h8 => absurd h8 (by exact hv0)) (fun h8 => ?_)
  refine s_Mdl_get_11 ?_
  refine s_Mdl_get_12 ?_
  refine s_Mdl_get_13 (fun h13 => absurd h13 (by exact Int32.not_lt.mpr hv3)) (fun h13 => ?_)
  refine s_Mdl_get_16 ?_
  refine s_Mdl_get_17 (fun h17 => ?_) (fun h17 => absurd h17 (by exact fun q => q ht0))
  refine s_Mdl_get_22 ?_
  refine s_Mdl_get_23 (b1 := 0) (b2 := b) (by first | rfl | assumption | (simp [*]; done)) (by first | rfl | assumption | (simp [*]; done)) (sp_parseR (d := d + 1) hR h hs hn) ?_ (by omega)
  rintro _ _ _ _ ⟨rfl, rfl, rfl, k1⟩
  dsimp only [Option.toList, List.cons_append, List.nil_append]
  refine s_Mdl_get_26 ?_
  refine s_Mdl_get_27 (b1 := 0) (b2 := b) (by first | rfl | assumption | (simp [*]; done)) (by first | rfl | assumption | (simp [*]; done)) (sp_nextR (d := d + 2) hR k1) ?_ (by omega)
  rintro _ _ _ _ ⟨rfl, rfl, rfl, k⟩
  dsimp only [Option.toList, List.cons_append, List.nil_append]
  rw [m_parse_1 _ _ (by decide) (by decide)]
  refine s_Mdl_get_30 ?_
  refine s_Mdl_get_32 ?_
  refine s_Mdl_get_33 ?_
  refine s_Mdl_get_34 ?_
  refine s_Mdl_get_35 (b1 := 0) (b2 := b) (by first | rfl | assumption | (simp [*]; done)) (by first | rfl | assumption | (simp [*]; done)) (sp_find (d := d + 1) hR k.2.2.2.2.2.1) ?_ (by omega)
  rintro _ _ _ _ ⟨rfl, rfl, rfl, rfl⟩
  dsimp only [Option.toList, List.cons_append, List.nil_append]
  refine s_Mdl_get_38 ?_
  refine s_Mdl_get_40 ?_
  generalize hs1 : m_next (m_parse s n) = s1 at *
  generalize hr : s.1 820 0 + 1 = r
  cases hf : fix (mtb (nI p) v) (s1.2 14) 0 with
  | none =>
    have hm : m_hit s1 (nI p) v = none := by
      unfold m_hit
      rw [hf]
    refine s_Mdl_get_42 (fun h42 => ?_) (fun h42 => absurd (show ixr none < 0 by decide) h42)
    exact lp_g2 hR k hp hm
  | some e =>
    obtain ⟨-, row, he, -⟩ := fix_some _ _ _ _ hf
    rw [Nat.sub_zero] at he
    have le := (List.getElem?_eq_some_iff.mp he).1
    have l2 := k.2.2.2.2.2.1.2.1
    obtain ⟨r1, -⟩ := k.2.2.2.2.2.1.2.2 e row he
    have r16 := r1 6 (by decide)
    have eT := k.2.2.1 805 (by decide)
    have e5 := k.1 5 (by decide)
    show ex_E Γ (d + 4) M_Mdl_get 42 [some (.inr (some m)), some (.inl (nI p)), some (.inl v), some (.inl tag), some (.inl r), some (.inl (nI e)), none] [.inl (nI e)] K _ F _ _
    refine s_Mdl_get_42 (fun h42 => absurd h42 (by exact nI_pos (by omega))) (fun h42 => ?_)
    refine s_Mdl_get_45 ?_
    refine s_Mdl_get_46 ?_
    refine s_Mdl_get_48 (b1 := 0) (b2 := b) (by first | rfl | assumption | (simp [*]; done)) (by first | rfl | assumption | (simp [*]; done)) (sp_hits (d := d + 2) hR k.2.2.2.2.2.1 he) ?_ (by omega)
    rintro _ _ _ _ ⟨rfl, rfl, rfl, rfl⟩
    dsimp only [Option.toList, List.cons_append, List.nil_append]
    rw [eT, e5]
    refine s_Mdl_get_51 (fun h51 => ?_) (fun h51 => ?_)
    · have hm : m_hit s1 (nI p) v = none := by
        unfold m_hit
        rw [hf]
        dsimp only
        rw [he]
        dsimp only
        rw [bi_0 h51]
        rfl
      exact lp_g2 hR k hp hm
    · refine s_Mdl_get_54 ?_
      refine s_Mdl_get_55 ?_
      refine s_Mdl_get_57 (b1 := 0) (b2 := b) (by first | rfl | assumption | (simp [*]; done)) (by first | rfl | assumption | (simp [*]; done)) (sp_tagOf (d := d + 2) hR k.2.2.2.2.2.1 he) ?_ (by omega)
      rintro _ _ _ _ ⟨rfl, rfl, rfl, rfl⟩
      dsimp only [Option.toList, List.cons_append, List.nil_append]
      refine s_Mdl_get_60 ?_
      refine s_Mdl_get_62 ?_
      refine s_Mdl_get_63 ?_
      refine s_Mdl_get_65 ?_
      refine s_Mdl_get_66 ?_
      refine s_Mdl_get_68 (fun h68 => ?_) (fun h68 => ?_)
      · refine s_Mdl_get_77 ?_
        refine s_Mdl_get_80 ?_
        refine s_Mdl_get_82 ?_
        refine s_Mdl_get_83 (by first | rfl | assumption | (simp [*]; done)) (by first | rfl | assumption | (simp [*]; done)) ?_
        refine s_Mdl_get_86 ?_
        refine s_Mdl_get_87 ?_
        refine s_Mdl_get_89 ?_
        refine s_Mdl_get_91 (b1 := 0) (b2 := _) (by first | rfl | assumption | (simp [*]; done)) (by first | rfl | assumption | (simp [*]; done)) (Q1 := fun r K' I' F' => ex_E _ _ M_Mdl_get 94 _ (r.toList ++ _) K' I' F' _ _) ?_ (fun _ _ _ _ hq => hq) (Nat.le_of_eq (Nat.zero_add _))
        refine s_Mdl_part_0 ?_
        refine s_Mdl_part_1 (by first | rfl | assumption | (simp [*]; done)) (by first | rfl | assumption | (simp [*]; done)) ?_
        refine s_Mdl_part_4 ?_
        refine s_Mdl_part_6 ?_
        refine s_Mdl_part_7 ?_
        refine s_Mdl_part_8 ?_
        refine s_Mdl_part_9 ?_
        refine s_Mdl_part_10 (by first | exact rf_entry hR | rfl) (by exact rk_entry hR) (by rw [rn_entry hR]; exact n_in (a := ((8 * e) + 6)) (by first | rfl | (simp only [nl_1, nl_2, nl_3, nl_4, nl_5, nl_6, nl_7, nl_8, nl_9, nl_10, nl_11, nl_12, nl_13, nl_14, nl_15, nl_16, nl_32, nl_240, nl_250, nl_255, nl_265, nl_270, nl_0, nI_add, pk_mul]; done)) (by omega) (by omega)) ?_
        refine ex_ixl (q := ((8 * e) + 6)) (by first | rfl | (simp only [nl_1, nl_2, nl_3, nl_4, nl_5, nl_6, nl_7, nl_8, nl_9, nl_10, nl_11, nl_12, nl_13, nl_14, nl_15, nl_16, nl_32, nl_240, nl_250, nl_255, nl_265, nl_270, nl_0, nI_add, pk_mul]; done)) (by omega) ?_
        refine s_Mdl_part_11 ?_
        dsimp only [Option.toList, List.cons_append, List.nil_append]
        rw [r16, eT]
        refine s_Mdl_get_94 ?_
        refine s_Mdl_get_95 ?_
        refine s_Mdl_get_96 (b1 := 0) (b2 := b) (by first | rfl | assumption | (simp [*]; done)) (by first | rfl | assumption | (simp [*]; done)) (sp_repR hR k) ?_ (by omega)
        rintro _ _ _ _ ⟨rfl, rfl, rfl, k4⟩
        dsimp only [Option.toList, List.cons_append, List.nil_append]
        have k5 := k4.2.2.2.2.2.1
        rw [m_rep_2] at k5
        refine s_Mdl_get_99 ?_
        refine s_Mdl_get_100 ?_
        refine s_Mdl_get_102 (b1 := b) (b2 := 0) (by first | rfl | assumption | (simp [*]; done)) (by first | rfl | assumption | (simp [*]; done)) (sp_use hR k5 he) ?_ (by omega)
        rintro _ _ _ _ ⟨rfl, rfl, rfl, q1, q2⟩
        dsimp only [Option.toList, List.cons_append, List.nil_append]
        refine s_Mdl_get_105 ?_
        refine s_Mdl_get_146 ?_
        refine s_Mdl_get_148 ?_
        have hm : m_hit s1 (nI p) v = some (e, row) := by
          unfold m_hit
          rw [hf]
          dsimp only
          rw [he]
          dsimp only
          rw [if_pos (bi_1 h51)]
        unfold m_get2
        rw [hm]
        dsimp only
        rw [if_neg h68]
        exact ⟨rfl, rfl, rfl, rr_ent hR k4 q1 q2⟩
      · refine s_Mdl_get_71 ?_
        refine s_Mdl_get_74 ?_
        refine s_Mdl_get_80 ?_
        refine s_Mdl_get_82 ?_
        refine s_Mdl_get_83 (by first | rfl | assumption | (simp [*]; done)) (by first | rfl | assumption | (simp [*]; done)) ?_
        refine s_Mdl_get_86 ?_
        refine s_Mdl_get_87 ?_
        refine s_Mdl_get_89 ?_
        refine s_Mdl_get_91 (b1 := 0) (b2 := _) (by first | rfl | assumption | (simp [*]; done)) (by first | rfl | assumption | (simp [*]; done)) (Q1 := fun r K' I' F' => ex_E _ _ M_Mdl_get 94 _ (r.toList ++ _) K' I' F' _ _) ?_ (fun _ _ _ _ hq => hq) (Nat.le_of_eq (Nat.zero_add _))
        refine s_Mdl_part_0 ?_
        refine s_Mdl_part_1 (by first | rfl | assumption | (simp [*]; done)) (by first | rfl | assumption | (simp [*]; done)) ?_
        refine s_Mdl_part_4 ?_
        refine s_Mdl_part_6 ?_
        refine s_Mdl_part_7 ?_
        refine s_Mdl_part_8 ?_
        refine s_Mdl_part_9 ?_
        refine s_Mdl_part_10 (by first | exact rf_entry hR | rfl) (by exact rk_entry hR) (by rw [rn_entry hR]; exact n_in (a := ((8 * e) + 6)) (by first | rfl | (simp only [nl_1, nl_2, nl_3, nl_4, nl_5, nl_6, nl_7, nl_8, nl_9, nl_10, nl_11, nl_12, nl_13, nl_14, nl_15, nl_16, nl_32, nl_240, nl_250, nl_255, nl_265, nl_270, nl_0, nI_add, pk_mul]; done)) (by omega) (by omega)) ?_
        refine ex_ixl (q := ((8 * e) + 6)) (by first | rfl | (simp only [nl_1, nl_2, nl_3, nl_4, nl_5, nl_6, nl_7, nl_8, nl_9, nl_10, nl_11, nl_12, nl_13, nl_14, nl_15, nl_16, nl_32, nl_240, nl_250, nl_255, nl_265, nl_270, nl_0, nI_add, pk_mul]; done)) (by omega) ?_
        refine s_Mdl_part_11 ?_
        dsimp only [Option.toList, List.cons_append, List.nil_append]
        rw [r16, eT]
        refine s_Mdl_get_94 ?_
        refine s_Mdl_get_95 ?_
        refine s_Mdl_get_96 (b1 := 0) (b2 := b) (by first | rfl | assumption | (simp [*]; done)) (by first | rfl | assumption | (simp [*]; done)) (sp_repR hR k) ?_ (by omega)
        rintro _ _ _ _ ⟨rfl, rfl, rfl, k4⟩
        dsimp only [Option.toList, List.cons_append, List.nil_append]
        have k5 := k4.2.2.2.2.2.1
        rw [m_rep_2] at k5
        refine s_Mdl_get_99 ?_
        refine s_Mdl_get_100 ?_
        refine s_Mdl_get_102 (b1 := b) (b2 := 0) (by first | rfl | assumption | (simp [*]; done)) (by first | rfl | assumption | (simp [*]; done)) (sp_use hR k5 he) ?_ (by omega)
        rintro _ _ _ _ ⟨rfl, rfl, rfl, q1, q2⟩
        dsimp only [Option.toList, List.cons_append, List.nil_append]
        refine s_Mdl_get_105 ?_
        refine s_Mdl_get_146 ?_
        refine s_Mdl_get_148 ?_
        have hm : m_hit s1 (nI p) v = some (e, row) := by
          unfold m_hit
          rw [hf]
          dsimp only
          rw [he]
          dsimp only
          rw [if_pos (bi_1 h51)]
        unfold m_get2
        rw [hm]
        dsimp only
        rw [if_pos h68]
        exact ⟨rfl, rfl, rfl, rr_ent hR k4 q1 q2⟩
theorem sp_getR_no {Γ : ex_G} {d : Nat} {K : ex_K} {I : ex_I} {F : ex_F} {b : Nat} {m : Nat} {ad : Nat → Nat} {s : MS} (hR : rf_ok K F m ad) (h : rr I m ad s) {x v tag : Int32} (hz : (x < 0 ∨ nI 8 ≤ x) ∨ ((¬ x < 0 ∧ ¬ nI 8 ≤ x) ∧ (v < 0 ∨ ¬ v ≤ 3 ∨ tag < 0))) : ex_E Γ (d + 4) M_Mdl_get 0 [some (.inr (some m)), some (.inl x), some (.inl v), some (.inl tag), none, none, none] [] K I F b (fun x K' I' F' => x = some (.inl (-1)) ∧ K = K' ∧ F = F' ∧ rr I' m ad (s)) := by
  have m1 := hR.1
  rcases hz with hx | ⟨⟨h0, h8⟩, hs⟩
  · skip
    refine s_Mdl_get_0 ?_
    refine s_Mdl_get_1 (b1 := 0) (b2 := b)  (sp_isPathMdl_no hx) ?_ (by omega)
    rintro _ _ _ _ ⟨rfl, rfl, rfl, rfl⟩
    dsimp only [Option.toList, List.cons_append, List.nil_append]
    refine s_Mdl_get_4 (fun h4 => ?_) (fun h4 => absurd h4 (by exact fun q => q rfl))
    refine s_Mdl_get_20 ?_
    refine s_Mdl_get_21 ?_
    exact ⟨rfl, rfl, rfl, h⟩
  · obtain ⟨p, hp, rfl⟩ := nI_ofn (by decide) h0 h8
    refine s_Mdl_get_0 ?_
    refine s_Mdl_get_1 (b1 := 0) (b2 := b)  (sp_isPathMdl hp) ?_ (by omega)
    rintro _ _ _ _ ⟨rfl, rfl, rfl, rfl⟩
    dsimp only [Option.toList, List.cons_append, List.nil_append]
    refine s_Mdl_get_4 (fun h4 => absurd h4 (by decide)) (fun h4 => ?_)
    refine s_Mdl_get_7 ?_
    refine s_Mdl_get_8 (fun h8_1 => ?_) (fun h8_1 => ?_)
    · refine s_Mdl_get_20 ?_
      refine s_Mdl_get_21 ?_
      exact ⟨rfl, rfl, rfl, h⟩
    · refine s_Mdl_get_11 ?_
      refine s_Mdl_get_12 ?_
      refine s_Mdl_get_13 (fun h13 => ?_) (fun h13 => ?_)
      · refine s_Mdl_get_20 ?_
        refine s_Mdl_get_21 ?_
        exact ⟨rfl, rfl, rfl, h⟩
      · refine s_Mdl_get_16 ?_
        refine s_Mdl_get_17 (fun h17 => absurd h17 (by exact Int32.not_le.mpr ((hs.resolve_left h8_1).resolve_left (fun q => q (Int32.not_lt.mp h13))))) (fun h17 => ?_)
        refine s_Mdl_get_20 ?_
        refine s_Mdl_get_21 ?_
        exact ⟨rfl, rfl, rfl, h⟩
