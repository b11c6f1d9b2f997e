/-! A heap's picture may be changed where no cell lies; the reference's reading, its smaller questions -/
theorem arrV_congr (c : ClassId) (n : Nat) (f g : Nat → Value) (h : ∀ j, j < n → f j = g j) : arrV c n f = arrV c n g := by
  unfold arrV
  congr 2
  funext j
  exact h j.val j.isLt
theorem ex_P_norm {Γ : ex_G} {K : ex_K} {I I' : ex_I} {F : ex_F} {H : Heap} (h : ∀ a, ((K a).1 < 21 → ∀ g, I' g a = I g a) ∧ (21 ≤ (K a).1 → ∀ i, i < (K a).2 → I' (K a).1 a i = I (K a).1 a i)) (hP : ex_P Γ K I F H) : ex_P Γ K I' F H := by
  intro a ha
  have z := hP a ha
  obtain ⟨h1, h2⟩ := h a
  by_cases c1 : (K a).1 < 21
  · unfold ex_ent at z ⊢
    rw [if_pos c1] at z ⊢
    have e : ∀ g, I' g a = I g a := h1 c1
    simp only [e]
    exact z
  · by_cases c2 : (K a).1 < 31
    · rw [ex_ent_i rfl (by omega) c2] at z ⊢
      unfold va_at at z ⊢
      dsimp only at z ⊢
      rw [z, vp_cell_i, vp_cell_i, arrV_congr _ _ (fun j => Value.int (I (K a).1 a j)) (fun j => Value.int (I' (K a).1 a j)) (fun j hj => by rw [h2 (by omega) j hj])]
    · rw [ex_ent_r rfl (by omega)] at z ⊢
      exact z
theorem ex_norm {Γ : ex_G} {d : Nat} {M : ex_M} {pc : Nat} {lv : List (Option ex_V)} {st : List ex_V} {K : ex_K} {I : ex_I} {F : ex_F} {b : Nat} {Q Q' : Option ex_V → ex_K → ex_I → ex_F → Prop} (h : ∀ r K I F, Q r K I F → ∃ I', Q' r K I' F ∧ ∀ a, ((K a).1 < 21 → ∀ g, I' g a = I g a) ∧ (21 ≤ (K a).1 → ∀ i, i < (K a).2 → I' (K a).1 a i = I (K a).1 a i)) (k : ex_E Γ d M pc lv st K I F b Q) : ex_E Γ d M pc lv st K I F b Q' := by
  intro p e R s m args below meth c A H locs cells slots mc ms ls hC hL hP hA hS h1 h2 h3 h4 T hT X
  obtain ⟨t, a1, o, g1, g2, ⟨⟨r, K', I', F', e1, e2, e3, e5⟩, e4⟩, g4⟩ := k p e R s m args below meth c A H locs cells slots mc ms ls hC hL hP hA hS h1 h2 h3 h4 T hT X
  obtain ⟨I2, q1, q2⟩ := h _ _ _ _ e2
  exact ⟨t, a1, o, g1, g2, ⟨⟨r, K', I2, F', e1, q1, ex_P_norm q2 e3, e5⟩, e4⟩, g4⟩
/-- an array of numbers replaced -/
theorem rr_wa {K : ex_K} {F : ex_F} {I : ex_I} {m k : Nat} {X : Nat → Int32} {ad : Nat → Nat} {s : MS} (hR : rf_ok K F m ad) (h : rr I m ad s) (hk : k ∈ rrA) : rr (ex_wi I 21 (ad k) X) m ad (cu s k X) := by
  obtain ⟨h1, h2, h3, h4, h5, h6, h7, h8, h9⟩ := h
  obtain ⟨a1, a2, a3, a4, a5, a6, a7, a8, a9, a10, a11⟩ := rrA_ne hk
  have n : ∀ j, j ≠ k → ad j ≠ ad k := fun j hj => rf_ne hR hj
  have hf : fr I (ex_wi I 21 (ad k) X) ad [] [k] := fr_wa hR.2.1 (Or.inl rfl) (by simp)
  have nk : ∀ j, j ≠ k → j ∉ [k] := fun j hj => by simpa using hj
  refine ⟨fun j hj => ?_, fun j hj => ?_, fun g hg => ?_, ?_, ?_, r_ent_fr hf (by simp) (nk _ (Ne.symm a1)) (nk _ (Ne.symm a2)) h6, r_fly_fr hf (by simp) (nk _ (Ne.symm a6)) h7, fun t ht => r_que_fr hf (nk _ (Ne.symm a3)) (nk _ (Ne.symm a4)) (nk _ (Ne.symm a5)) (h8 t ht), fun t ht j hj => ?_⟩
  · by_cases e : j = k
    · subst e
      rw [ex_wi_at, cu_at]
    · rw [ex_wi_ne _ _ _ (n j e), cu_ne _ _ e, h1 j hj]
  · have e : j ≠ k := fun z => (rrB_ne hj).1 (by rw [z]; exact hk)
    rw [ex_wi_f _ _ _ (by decide), cu_ne _ _ e, h2 j hj]
  · have e : g ≠ k := fun z => (rrS_ne hg).1 (by rw [z]; exact hk)
    rw [ex_wi_f _ _ _ (rrS_ne hg).2.2.2.2.1, cu_ne _ _ e, h3 g hg]
  · rw [ex_wi_f _ _ _ (by decide), cu_ne _ _ (Ne.symm a7), h4]
  · unfold rt_ok
    rw [ex_wi_f _ _ _ (by decide)]
    exact h5
  · rw [(hf.2 31 (nk _ (Ne.symm a6))).1, cu_ne _ _ (by omega), h9 t ht j hj]
def m_parse (s : MS) (n : Nat) : MS := cw (cu s 5 (tx_4 (tx_all (s.1 3) n))) 808 0 0
theorem sp_parseR {Γ : ex_G} {d : Nat} {K : ex_K} {I : ex_I} {F : ex_F} {b : Nat} {m : Nat} {ad : Nat → Nat} {s : MS} (hR : rf_ok K F m ad) (h : rr I m ad s) {n : Nat} (hs : s.1 808 0 = nI n) (hn : n ≤ 40) : ex_E Γ (d + 2) M_Mdl_parse 0 [some (.inr (some m)), none, none, none, none, none] [] K I F b (fun r K' I' F' => r = none ∧ K = K' ∧ F = F' ∧ rr I' m ad (m_parse s n)) := by
  refine ex_norm (fun r K' I' F' z => ?_) (sp_parse (n := n) hR h.2.2.2.2.1 (by rw [h.2.2.1 808 (by decide), hs]) hn)
  obtain ⟨rfl, rfl, rfl, X, rfl, hX⟩ := z
  rw [h.2.2.2.1] at hX
  refine ⟨ex_ui (ex_wi I 21 (ad 5) (tx_4 (tx_all (s.1 3) n))) 808 m 0 0, ⟨rfl, rfl, rfl, rr_us (K := K) (F := F) (rr_wa hR h (by decide)) (by decide)⟩, fun a => ?_⟩
  by_cases e : a = ad 5
  · have e1 : (K a).1 = 21 := by rw [e]; exact rk_read hR
    have e2 : (K a).2 = 4 := by rw [e]; exact rn_read hR
    refine ⟨fun z => absurd z (by omega), fun _ i hi => ?_⟩
    rw [e1, ex_ui_f _ _ _ _ (by decide), ex_ui_f _ _ _ _ (by decide), e, ex_wi_at, ex_wi_at, hX i (by omega)]
  · refine ⟨fun _ g => ?_, fun _ i _ => ?_⟩
    · by_cases z : g = 808
      · subst z
        by_cases y : a = m
        · subst y
          rw [ex_ui_at, ex_ui_at, ex_wi_f _ _ _ (by decide), ex_wi_f _ _ _ (by decide)]
        · rw [ex_ui_ne _ _ _ _ y, ex_ui_ne _ _ _ _ y, ex_wi_f _ _ _ (by decide), ex_wi_f _ _ _ (by decide)]
      · rw [ex_ui_f _ _ _ _ z, ex_ui_f _ _ _ _ z, ex_wi_ne _ _ _ e, ex_wi_ne _ _ _ e]
    · by_cases z : (K a).1 = 808
      · rw [z]
        by_cases y : a = m
        · subst y
          rw [ex_ui_at, ex_ui_at, ex_wi_f _ _ _ (by decide), ex_wi_f _ _ _ (by decide)]
        · rw [ex_ui_ne _ _ _ _ y, ex_ui_ne _ _ _ _ y, ex_wi_f _ _ _ (by decide), ex_wi_f _ _ _ (by decide)]
      · rw [ex_ui_f _ _ _ _ z, ex_ui_f _ _ _ _ z, ex_wi_ne _ _ _ e, ex_wi_ne _ _ _ e]
def bi (a : Bool) : Int32 := if a = true then 1 else 0
def stb (x y : Int32) : Bool := !decide (y < 0) && decide (x &&& 6 = 0)
theorem sp_storable {Γ : ex_G} {d : Nat} {K : ex_K} {I : ex_I} {F : ex_F} {b : Nat} {x y : Int32} : ex_E Γ d M_Mdl_storable 0 [some (.inl x), some (.inl y)] [] K I F b (fun r K' I' F' => r = some (.inl (bi (stb x y))) ∧ K = K' ∧ I = I' ∧ F = F') := by
  refine s_Mdl_storable_0 ?_
  refine s_Mdl_storable_1 (fun h1 => ?_) (fun h1 => ?_)
  · refine s_Mdl_storable_15 ?_
    refine s_Mdl_storable_16 (by first | rfl | decide) ?_
    exact ⟨by simp [bi, stb, h1], rfl, rfl, rfl⟩
  · refine s_Mdl_storable_4 ?_
    refine s_Mdl_storable_5 ?_
    refine s_Mdl_storable_7 ?_
    refine s_Mdl_storable_8 (fun h8 => ?_) (fun h8 => ?_)
    · refine s_Mdl_storable_15 ?_
      refine s_Mdl_storable_16 (by first | rfl | decide) ?_
      exact ⟨by simp [bi, stb, h1, h8], rfl, rfl, rfl⟩
    · refine s_Mdl_storable_11 ?_
      refine s_Mdl_storable_12 ?_
      refine s_Mdl_storable_16 (by first | rfl | decide) ?_
      exact ⟨by simp [bi, stb, h1, h8], rfl, rfl, rfl⟩
def tgr (row : Nat → Int32) : Int32 := 4 * row 2 + (if row 4 = 1 then row 5 else 0)
theorem sp_tagOf {Γ : ex_G} {d : Nat} {K : ex_K} {I : ex_I} {F : ex_F} {b : Nat} {m e : Nat} {row : Nat → Int32} {L : List (Nat → Int32)} {ad : Nat → Nat} (hR : rf_ok K F m ad) (hL : r_ent I m ad L) (he : L[e]? = some row) : ex_E Γ (d + 1) M_Mdl_tagOf 0 [some (.inr (some m)), some (.inl (nI e))] [] K I F b (fun r K' I' F' => r = some (.inl (tgr row)) ∧ K = K' ∧ I = I' ∧ F = F') := by
  have m1 := hR.1
  obtain ⟨l1, l2, l3⟩ := hL
  have le := (List.getElem?_eq_some_iff.mp he).1
  obtain ⟨r1, -⟩ := l3 e row he
  refine s_Mdl_tagOf_0 ?_
  refine s_Mdl_tagOf_1 ?_
  refine s_Mdl_tagOf_2 ?_
  refine s_Mdl_tagOf_3 ?_
  refine s_Mdl_tagOf_4 (b1 := 0) (b2 := _) (by first | rfl | assumption | (simp [*]; done)) (by first | rfl | assumption | (simp [*]; done)) (Q1 := fun r K' I' F' => ex_E _ _ M_Mdl_tagOf 7 _ (r.toList ++ _) K' I' F' _ _) ?_ (fun _ _ _ _ hq => hq) (Nat.le_of_eq (Nat.zero_add _))
  refine s_Mdl_part_0 ?_
  refine s_Mdl_part_1 (by first | rfl | assumption | (simp [*]; done)) (by first | rfl | assumption | (simp [*]; done)) ?_
  refine s_Mdl_part_4 ?_
  refine s_Mdl_part_6 ?_
  refine s_Mdl_part_7 ?_
  refine s_Mdl_part_8 ?_
  refine s_Mdl_part_9 ?_
  refine s_Mdl_part_10 (by first | exact rf_entry hR | rfl) (by exact rk_entry hR) (by rw [rn_entry hR]; exact n_in (a := ((8 * e) + 2)) (by first | rfl | (simp only [nl_1, nl_2, nl_3, nl_4, nl_5, nl_6, nl_7, nl_8, nl_9, nl_10, nl_11, nl_12, nl_13, nl_14, nl_15, nl_16, nl_32, nl_240, nl_250, nl_255, nl_265, nl_270, nl_0, nI_add, pk_mul]; done)) (by omega) (by omega)) ?_
  refine ex_ixl (q := ((8 * e) + 2)) (by first | rfl | (simp only [nl_1, nl_2, nl_3, nl_4, nl_5, nl_6, nl_7, nl_8, nl_9, nl_10, nl_11, nl_12, nl_13, nl_14, nl_15, nl_16, nl_32, nl_240, nl_250, nl_255, nl_265, nl_270, nl_0, nI_add, pk_mul]; done)) (by omega) ?_
  refine s_Mdl_part_11 ?_
  dsimp only [Option.toList, List.cons_append, List.nil_append]
  rw [r1 2 (by decide)]
  refine s_Mdl_tagOf_7 ?_
  refine s_Mdl_tagOf_8 ?_
  refine s_Mdl_tagOf_9 ?_
  refine s_Mdl_tagOf_10 ?_
  refine s_Mdl_tagOf_11 (b1 := 0) (b2 := _) (by first | rfl | assumption | (simp [*]; done)) (by first | rfl | assumption | (simp [*]; done)) (Q1 := fun r K' I' F' => ex_E _ _ M_Mdl_tagOf 14 _ (r.toList ++ _) K' I' F' _ _) ?_ (fun _ _ _ _ hq => hq) (Nat.le_of_eq (Nat.zero_add _))
  refine s_Mdl_part_0 ?_
  refine s_Mdl_part_1 (by first | rfl | assumption | (simp [*]; done)) (by first | rfl | assumption | (simp [*]; done)) ?_
  refine s_Mdl_part_4 ?_
  refine s_Mdl_part_6 ?_
  refine s_Mdl_part_7 ?_
  refine s_Mdl_part_8 ?_
  refine s_Mdl_part_9 ?_
  refine s_Mdl_part_10 (by first | exact rf_entry hR | rfl) (by exact rk_entry hR) (by rw [rn_entry hR]; exact n_in (a := ((8 * e) + 4)) (by first | rfl | (simp only [nl_1, nl_2, nl_3, nl_4, nl_5, nl_6, nl_7, nl_8, nl_9, nl_10, nl_11, nl_12, nl_13, nl_14, nl_15, nl_16, nl_32, nl_240, nl_250, nl_255, nl_265, nl_270, nl_0, nI_add, pk_mul]; done)) (by omega) (by omega)) ?_
  refine ex_ixl (q := ((8 * e) + 4)) (by first | rfl | (simp only [nl_1, nl_2, nl_3, nl_4, nl_5, nl_6, nl_7, nl_8, nl_9, nl_10, nl_11, nl_12, nl_13, nl_14, nl_15, nl_16, nl_32, nl_240, nl_250, nl_255, nl_265, nl_270, nl_0, nI_add, pk_mul]; done)) (by omega) ?_
  refine s_Mdl_part_11 ?_
  dsimp only [Option.toList, List.cons_append, List.nil_append]
  refine s_Mdl_tagOf_14 ?_
  rw [r1 4 (by decide)]
  refine s_Mdl_tagOf_15 (fun h15 => ?_) (fun h15 => ?_)
  · refine s_Mdl_tagOf_27 ?_
    refine s_Mdl_tagOf_28 ?_
    refine s_Mdl_tagOf_29 ?_
    refine ⟨?_, rfl, rfl, rfl⟩
    unfold tgr
    rw [if_neg h15]
  · refine s_Mdl_tagOf_18 ?_
    refine s_Mdl_tagOf_19 ?_
    refine s_Mdl_tagOf_20 ?_
    refine s_Mdl_tagOf_21 (b1 := 0) (b2 := _) (by first | rfl | assumption | (simp [*]; done)) (by first | rfl | assumption | (simp [*]; done)) (Q1 := fun r K' I' F' => ex_E _ _ M_Mdl_tagOf 24 _ (r.toList ++ _) K' I' F' _ _) ?_ (fun _ _ _ _ hq => hq) (Nat.le_of_eq (Nat.zero_add _))
    refine s_Mdl_part_0 ?_
    refine s_Mdl_part_1 (by first | rfl | assumption | (simp [*]; done)) (by first | rfl | assumption | (simp [*]; done)) ?_
    refine s_Mdl_part_4 ?_
    refine s_Mdl_part_6 ?_
    refine s_Mdl_part_7 ?_
    refine s_Mdl_part_8 ?_
    refine s_Mdl_part_9 ?_
    refine s_Mdl_part_10 (by first | exact rf_entry hR | rfl) (by exact rk_entry hR) (by rw [rn_entry hR]; exact n_in (a := ((8 * e) + 5)) (by first | rfl | (simp only [nl_1, nl_2, nl_3, nl_4, nl_5, nl_6, nl_7, nl_8, nl_9, nl_10, nl_11, nl_12, nl_13, nl_14, nl_15, nl_16, nl_32, nl_240, nl_250, nl_255, nl_265, nl_270, nl_0, nI_add, pk_mul]; done)) (by omega) (by omega)) ?_
    refine ex_ixl (q := ((8 * e) + 5)) (by first | rfl | (simp only [nl_1, nl_2, nl_3, nl_4, nl_5, nl_6, nl_7, nl_8, nl_9, nl_10, nl_11, nl_12, nl_13, nl_14, nl_15, nl_16, nl_32, nl_240, nl_250, nl_255, nl_265, nl_270, nl_0, nI_add, pk_mul]; done)) (by omega) ?_
    refine s_Mdl_part_11 ?_
    dsimp only [Option.toList, List.cons_append, List.nil_append]
    refine s_Mdl_tagOf_24 ?_
    refine s_Mdl_tagOf_28 ?_
    refine s_Mdl_tagOf_29 ?_
    refine ⟨?_, rfl, rfl, rfl⟩
    unfold tgr
    rw [if_pos h15, r1 5 (by decide)]
theorem bi_0 {a : Bool} (h : bi a = 0) : a = false := by cases a with
  | false => rfl
  | true => exact absurd h (by decide)
theorem bi_1 {a : Bool} (h : ¬ bi a = 0) : a = true := by cases a with
  | true => rfl
  | false => exact absurd rfl h
theorem lp_h3 {Γ : ex_G} {d : Nat} {K : ex_K} {I : ex_I} {F : ex_F} {b : Nat} {m : Nat} (l1 : Option ex_V) (old life : Int32) (a y l : Bool) : ex_E Γ d M_Mdl_hits 105 [some (.inr (some m)), l1, some (.inl old), some (.inl life), some (.inl (bi a)), some (.inl (bi y)), some (.inl (bi l))] [] K I F b (fun r K' I' F' => r = some (.inl (bi (a && !decide (life < 0) && decide (old < life) && y && l))) ∧ K = K' ∧ I = I' ∧ F = F') := by
  refine s_Mdl_hits_105 ?_
  refine s_Mdl_hits_107 (fun h107 => ?_) (fun h107 => ?_)
  · refine s_Mdl_hits_133 ?_
    refine s_Mdl_hits_134 (by first | rfl | decide) ?_
    exact ⟨by simp [bi_0 h107, bi], rfl, rfl, rfl⟩
  · refine s_Mdl_hits_110 ?_
    refine s_Mdl_hits_111 (fun h111 => ?_) (fun h111 => ?_)
    · refine s_Mdl_hits_133 ?_
      refine s_Mdl_hits_134 (by first | rfl | decide) ?_
      exact ⟨by simp [h111, bi], rfl, rfl, rfl⟩
    · refine s_Mdl_hits_114 ?_
      refine s_Mdl_hits_115 ?_
      refine s_Mdl_hits_116 (fun h116 => ?_) (fun h116 => ?_)
      · refine s_Mdl_hits_133 ?_
        refine s_Mdl_hits_134 (by first | rfl | decide) ?_
        exact ⟨by simp [Int32.not_lt.mpr h116, bi], rfl, rfl, rfl⟩
      · refine s_Mdl_hits_119 ?_
        refine s_Mdl_hits_121 (fun h121 => ?_) (fun h121 => ?_)
        · refine s_Mdl_hits_133 ?_
          refine s_Mdl_hits_134 (by first | rfl | decide) ?_
          exact ⟨by simp [bi_0 h121, bi], rfl, rfl, rfl⟩
        · refine s_Mdl_hits_124 ?_
          refine s_Mdl_hits_126 (fun h126 => ?_) (fun h126 => ?_)
          · refine s_Mdl_hits_133 ?_
            refine s_Mdl_hits_134 (by first | rfl | decide) ?_
            exact ⟨by simp [bi_0 h126, bi], rfl, rfl, rfl⟩
          · refine s_Mdl_hits_129 ?_
            refine s_Mdl_hits_130 ?_
            refine s_Mdl_hits_134 (by first | rfl | decide) ?_
            exact ⟨by simp [bi_1 h107, h111, Int32.not_le.mp h116, bi_1 h121, bi_1 h126, bi], rfl, rfl, rfl⟩
def htb (t : Int32) (rd row : Nat → Int32) : Bool := decide ((row 8 ||| rd 0) &&& 1 = 0) && !decide (row 9 < 0) && decide (t - row 6 < row 9) && (decide (rd 2 < 0) || !decide (rd 2 < t - row 6)) && (decide (rd 3 < 0) || !decide (row 9 < t - row 6 + rd 3))
theorem sp_hits {Γ : ex_G} {d : Nat} {K : ex_K} {I : ex_I} {F : ex_F} {b : Nat} {m e : Nat} {row : Nat → Int32} {L : List (Nat → Int32)} {ad : Nat → Nat} (hR : rf_ok K F m ad) (hL : r_ent I m ad L) (he : L[e]? = some row) : ex_E Γ (d + 1) M_Mdl_hits 0 [some (.inr (some m)), some (.inl (nI e)), none, none, none, none, none] [] K I F b (fun r K' I' F' => r = some (.inl (bi (htb (I 805 m 0) (I 21 (ad 5)) row))) ∧ K = K' ∧ I = I' ∧ F = F') := by
  have m1 := hR.1
  obtain ⟨l1, l2, l3⟩ := hL
  have le := (List.getElem?_eq_some_iff.mp he).1
  obtain ⟨r1, r2⟩ := l3 e row he
  have s3 : ∀ (a y : Bool), ex_E Γ (d + 1) M_Mdl_hits 77 [some (.inr (some m)), some (.inl (nI e)), some (.inl (I 805 m 0 - row 6)), some (.inl (row 9)), some (.inl (bi a)), some (.inl (bi y)), none] [] K I F b (fun r K' I' F' => r = some (.inl (bi (a && !decide (row 9 < 0) && decide (I 805 m 0 - row 6 < row 9) && y && (decide (I 21 (ad 5) 3 < 0) || !decide (row 9 < I 805 m 0 - row 6 + I 21 (ad 5) 3))))) ∧ K = K' ∧ I = I' ∧ F = F') := by
    intro a y
    refine s_Mdl_hits_77 ?_
    refine s_Mdl_hits_78 (by first | rfl | assumption | (simp [*]; done)) (by first | rfl | assumption | (simp [*]; done)) ?_
    refine s_Mdl_hits_81 ?_
    refine s_Mdl_hits_82 (by first | exact rf_read hR | rfl) (by exact rk_read hR) (by rw [rn_read hR]; exact n_in (a := 3) (by first | rfl | (simp only [nl_1, nl_2, nl_3, nl_4, nl_5, nl_6, nl_7, nl_8, nl_9, nl_10, nl_11, nl_12, nl_13, nl_14, nl_15, nl_16, nl_32, nl_240, nl_250, nl_255, nl_265, nl_270, nl_0, nI_add, pk_mul]; done)) (by omega) (by omega)) ?_
    refine ex_ixl (q := 3) (by first | rfl | (simp only [nl_1, nl_2, nl_3, nl_4, nl_5, nl_6, nl_7, nl_8, nl_9, nl_10, nl_11, nl_12, nl_13, nl_14, nl_15, nl_16, nl_32, nl_240, nl_250, nl_255, nl_265, nl_270, nl_0, nI_add, pk_mul]; done)) (by omega) ?_
    refine s_Mdl_hits_83 (fun h83 => ?_) (fun h83 => ?_)
    · refine s_Mdl_hits_98 ?_
      refine s_Mdl_hits_99 ?_
      refine s_Mdl_hits_103 ?_
      have e3 : (1 : Int32) = bi (decide (I 21 (ad 5) 3 < 0) || !decide (row 9 < I 805 m 0 - row 6 + I 21 (ad 5) 3)) := by simp [h83, bi]
      have k := lp_h3 (Γ := Γ) (d := d + 1) (K := K) (I := I) (F := F) (b := b) (m := m) (some (.inl (nI e))) (I 805 m 0 - row 6) (row 9) a y (decide (I 21 (ad 5) 3 < 0) || !decide (row 9 < I 805 m 0 - row 6 + I 21 (ad 5) 3))
      rw [← e3] at k
      exact k
    · refine s_Mdl_hits_86 ?_
      refine s_Mdl_hits_87 ?_
      refine s_Mdl_hits_88 (by first | rfl | assumption | (simp [*]; done)) (by first | rfl | assumption | (simp [*]; done)) ?_
      refine s_Mdl_hits_91 ?_
      refine s_Mdl_hits_92 (by first | exact rf_read hR | rfl) (by exact rk_read hR) (by rw [rn_read hR]; exact n_in (a := 3) (by first | rfl | (simp only [nl_1, nl_2, nl_3, nl_4, nl_5, nl_6, nl_7, nl_8, nl_9, nl_10, nl_11, nl_12, nl_13, nl_14, nl_15, nl_16, nl_32, nl_240, nl_250, nl_255, nl_265, nl_270, nl_0, nI_add, pk_mul]; done)) (by omega) (by omega)) ?_
      refine ex_ixl (q := 3) (by first | rfl | (simp only [nl_1, nl_2, nl_3, nl_4, nl_5, nl_6, nl_7, nl_8, nl_9, nl_10, nl_11, nl_12, nl_13, nl_14, nl_15, nl_16, nl_32, nl_240, nl_250, nl_255, nl_265, nl_270, nl_0, nI_add, pk_mul]; done)) (by omega) ?_
      refine s_Mdl_hits_93 ?_
      refine s_Mdl_hits_94 ?_
      refine s_Mdl_hits_95 (fun h95 => ?_) (fun h95 => ?_)
      · refine s_Mdl_hits_102 ?_
        refine s_Mdl_hits_103 ?_
        have e3 : (0 : Int32) = bi (decide (I 21 (ad 5) 3 < 0) || !decide (row 9 < I 805 m 0 - row 6 + I 21 (ad 5) 3)) := by simp [h83, h95, bi]
        have k := lp_h3 (Γ := Γ) (d := d + 1) (K := K) (I := I) (F := F) (b := b) (m := m) (some (.inl (nI e))) (I 805 m 0 - row 6) (row 9) a y (decide (I 21 (ad 5) 3 < 0) || !decide (row 9 < I 805 m 0 - row 6 + I 21 (ad 5) 3))
        rw [← e3] at k
        exact k
      · refine s_Mdl_hits_98 ?_
        refine s_Mdl_hits_99 ?_
        refine s_Mdl_hits_103 ?_
        have e3 : (1 : Int32) = bi (decide (I 21 (ad 5) 3 < 0) || !decide (row 9 < I 805 m 0 - row 6 + I 21 (ad 5) 3)) := by simp [h83, h95, bi]
        have k := lp_h3 (Γ := Γ) (d := d + 1) (K := K) (I := I) (F := F) (b := b) (m := m) (some (.inl (nI e))) (I 805 m 0 - row 6) (row 9) a y (decide (I 21 (ad 5) 3 < 0) || !decide (row 9 < I 805 m 0 - row 6 + I 21 (ad 5) 3))
        rw [← e3] at k
        exact k
  have s2 : ∀ (a : Bool), ex_E Γ (d + 1) M_Mdl_hits 51 [some (.inr (some m)), some (.inl (nI e)), some (.inl (I 805 m 0 - row 6)), some (.inl (row 9)), some (.inl (bi a)), none, none] [] K I F b (fun r K' I' F' => r = some (.inl (bi (a && !decide (row 9 < 0) && decide (I 805 m 0 - row 6 < row 9) && (decide (I 21 (ad 5) 2 < 0) || !decide (I 21 (ad 5) 2 < I 805 m 0 - row 6)) && (decide (I 21 (ad 5) 3 < 0) || !decide (row 9 < I 805 m 0 - row 6 + I 21 (ad 5) 3))))) ∧ K = K' ∧ I = I' ∧ F = F') := by
    intro a
    refine s_Mdl_hits_51 ?_
    refine s_Mdl_hits_52 (by first | rfl | assumption | (simp [*]; done)) (by first | rfl | assumption | (simp [*]; done)) ?_
    refine s_Mdl_hits_55 ?_
    refine s_Mdl_hits_56 (by first | exact rf_read hR | rfl) (by exact rk_read hR) (by rw [rn_read hR]; exact n_in (a := 2) (by first | rfl | (simp only [nl_1, nl_2, nl_3, nl_4, nl_5, nl_6, nl_7, nl_8, nl_9, nl_10, nl_11, nl_12, nl_13, nl_14, nl_15, nl_16, nl_32, nl_240, nl_250, nl_255, nl_265, nl_270, nl_0, nI_add, pk_mul]; done)) (by omega) (by omega)) ?_
    refine ex_ixl (q := 2) (by first | rfl | (simp only [nl_1, nl_2, nl_3, nl_4, nl_5, nl_6, nl_7, nl_8, nl_9, nl_10, nl_11, nl_12, nl_13, nl_14, nl_15, nl_16, nl_32, nl_240, nl_250, nl_255, nl_265, nl_270, nl_0, nI_add, pk_mul]; done)) (by omega) ?_
    refine s_Mdl_hits_57 (fun h57 => ?_) (fun h57 => ?_)
    · refine s_Mdl_hits_70 ?_
      refine s_Mdl_hits_71 ?_
      refine s_Mdl_hits_75 ?_
      have e3 : (1 : Int32) = bi (decide (I 21 (ad 5) 2 < 0) || !decide (I 21 (ad 5) 2 < I 805 m 0 - row 6)) := by simp [h57, bi]
      have k := s3 a (decide (I 21 (ad 5) 2 < 0) || !decide (I 21 (ad 5) 2 < I 805 m 0 - row 6))
      rw [← e3] at k
      exact k
    · refine s_Mdl_hits_60 ?_
      refine s_Mdl_hits_61 ?_
      refine s_Mdl_hits_62 (by first | rfl | assumption | (simp [*]; done)) (by first | rfl | assumption | (simp [*]; done)) ?_
      refine s_Mdl_hits_65 ?_
      refine s_Mdl_hits_66 (by first | exact rf_read hR | rfl) (by exact rk_read hR) (by rw [rn_read hR]; exact n_in (a := 2) (by first | rfl | (simp only [nl_1, nl_2, nl_3, nl_4, nl_5, nl_6, nl_7, nl_8, nl_9, nl_10, nl_11, nl_12, nl_13, nl_14, nl_15, nl_16, nl_32, nl_240, nl_250, nl_255, nl_265, nl_270, nl_0, nI_add, pk_mul]; done)) (by omega) (by omega)) ?_
      refine ex_ixl (q := 2) (by first | rfl | (simp only [nl_1, nl_2, nl_3, nl_4, nl_5, nl_6, nl_7, nl_8, nl_9, nl_10, nl_11, nl_12, nl_13, nl_14, nl_15, nl_16, nl_32, nl_240, nl_250, nl_255, nl_265, nl_270, nl_0, nI_add, pk_mul]; done)) (by omega) ?_
      refine s_Mdl_hits_67 (fun h67 => ?_) (fun h67 => ?_)
      · refine s_Mdl_hits_74 ?_
        refine s_Mdl_hits_75 ?_
        have e3 : (0 : Int32) = bi (decide (I 21 (ad 5) 2 < 0) || !decide (I 21 (ad 5) 2 < I 805 m 0 - row 6)) := by simp [h57, h67, bi]
        have k := s3 a (decide (I 21 (ad 5) 2 < 0) || !decide (I 21 (ad 5) 2 < I 805 m 0 - row 6))
        rw [← e3] at k
        exact k
      · refine s_Mdl_hits_70 ?_
        refine s_Mdl_hits_71 ?_
        refine s_Mdl_hits_75 ?_
        have e3 : (1 : Int32) = bi (decide (I 21 (ad 5) 2 < 0) || !decide (I 21 (ad 5) 2 < I 805 m 0 - row 6)) := by simp [h57, h67, bi]
        have k := s3 a (decide (I 21 (ad 5) 2 < 0) || !decide (I 21 (ad 5) 2 < I 805 m 0 - row 6))
        rw [← e3] at k
        exact k
  refine s_Mdl_hits_0 ?_
  refine s_Mdl_hits_1 (by first | rfl | assumption | (simp [*]; done)) (by first | rfl | assumption | (simp [*]; done)) ?_
  refine s_Mdl_hits_4 ?_
  refine s_Mdl_hits_5 ?_
  refine s_Mdl_hits_6 ?_
  refine s_Mdl_hits_8 (b1 := 0) (b2 := _) (by first | rfl | assumption | (simp [*]; done)) (by first | rfl | assumption | (simp [*]; done)) (Q1 := fun r K' I' F' => ex_E _ _ M_Mdl_hits 11 _ (r.toList ++ _) K' I' F' _ _) ?_ (fun _ _ _ _ hq => hq) (Nat.le_of_eq (Nat.zero_add _))
  refine s_Mdl_part_0 ?_
  refine s_Mdl_part_1 (by first | rfl | assumption | (simp [*]; done)) (by first | rfl | assumption | (simp [*]; done)) ?_
  refine s_Mdl_part_4 ?_
  refine s_Mdl_part_6 ?_
  refine s_Mdl_part_7 ?_
  refine s_Mdl_part_8 ?_
  refine s_Mdl_part_9 ?_
  refine s_Mdl_part_10 (by first | exact rf_entry hR | rfl) (by exact rk_entry hR) (by rw [rn_entry hR]; exact n_in (a := ((8 * e) + 6)) (by first | rfl | (simp only [nl_1, nl_2, nl_3, nl_4, nl_5, nl_6, nl_7, nl_8, nl_9, nl_10, nl_11, nl_12, nl_13, nl_14, nl_15, nl_16, nl_32, nl_240, nl_250, nl_255, nl_265, nl_270, nl_0, nI_add, pk_mul]; done)) (by omega) (by omega)) ?_
  refine ex_ixl (q := ((8 * e) + 6)) (by first | rfl | (simp only [nl_1, nl_2, nl_3, nl_4, nl_5, nl_6, nl_7, nl_8, nl_9, nl_10, nl_11, nl_12, nl_13, nl_14, nl_15, nl_16, nl_32, nl_240, nl_250, nl_255, nl_265, nl_270, nl_0, nI_add, pk_mul]; done)) (by omega) ?_
  refine s_Mdl_part_11 ?_
  dsimp only [Option.toList, List.cons_append, List.nil_append]
  rw [r1 6 (by decide)]
  refine s_Mdl_hits_11 ?_
  refine s_Mdl_hits_12 ?_
  refine s_Mdl_hits_13 ?_
  refine s_Mdl_hits_14 (by first | rfl | assumption | (simp [*]; done)) (by first | rfl | assumption | (simp [*]; done)) ?_
  refine s_Mdl_hits_17 ?_
  refine s_Mdl_hits_18 ?_
  refine s_Mdl_hits_19 ?_
  refine s_Mdl_hits_20 ?_
  refine s_Mdl_hits_21 ?_
  refine s_Mdl_hits_22 (by first | exact rf_rule hR | rfl) (by exact rk_rule hR) (by rw [rn_rule hR]; exact n_in (a := ((4 * e) + 1)) (by first | rfl | (simp only [nl_1, nl_2, nl_3, nl_4, nl_5, nl_6, nl_7, nl_8, nl_9, nl_10, nl_11, nl_12, nl_13, nl_14, nl_15, nl_16, nl_32, nl_240, nl_250, nl_255, nl_265, nl_270, nl_0, nI_add, pk_mul]; done)) (by omega) (by omega)) ?_
  refine ex_ixl (q := ((4 * e) + 1)) (by first | rfl | (simp only [nl_1, nl_2, nl_3, nl_4, nl_5, nl_6, nl_7, nl_8, nl_9, nl_10, nl_11, nl_12, nl_13, nl_14, nl_15, nl_16, nl_32, nl_240, nl_250, nl_255, nl_265, nl_270, nl_0, nI_add, pk_mul]; done)) (by omega) ?_
  rw [r2 1 (by decide)]
  refine s_Mdl_hits_23 ?_
  refine s_Mdl_hits_24 ?_
  refine s_Mdl_hits_25 (by first | rfl | assumption | (simp [*]; done)) (by first | rfl | assumption | (simp [*]; done)) ?_
  refine s_Mdl_hits_28 ?_
  refine s_Mdl_hits_29 ?_
  refine s_Mdl_hits_30 ?_
  refine s_Mdl_hits_31 (by first | exact rf_rule hR | rfl) (by exact rk_rule hR) (by rw [rn_rule hR]; exact n_in (a := (4 * e)) (by first | rfl | (simp only [nl_1, nl_2, nl_3, nl_4, nl_5, nl_6, nl_7, nl_8, nl_9, nl_10, nl_11, nl_12, nl_13, nl_14, nl_15, nl_16, nl_32, nl_240, nl_250, nl_255, nl_265, nl_270, nl_0, nI_add, pk_mul]; done)) (by omega) (by omega)) ?_
  refine ex_ixl (q := (4 * e)) (by first | rfl | (simp only [nl_1, nl_2, nl_3, nl_4, nl_5, nl_6, nl_7, nl_8, nl_9, nl_10, nl_11, nl_12, nl_13, nl_14, nl_15, nl_16, nl_32, nl_240, nl_250, nl_255, nl_265, nl_270, nl_0, nI_add, pk_mul]; done)) (by omega) ?_
  have r20 := r2 0 (by decide)
  rw [Nat.add_zero] at r20
  rw [r20]
  refine s_Mdl_hits_32 ?_
  refine s_Mdl_hits_33 (by first | rfl | assumption | (simp [*]; done)) (by first | rfl | assumption | (simp [*]; done)) ?_
  refine s_Mdl_hits_36 ?_
  refine s_Mdl_hits_37 (by first | exact rf_read hR | rfl) (by exact rk_read hR) (by rw [rn_read hR]; exact n_in (a := 0) (by first | rfl | (simp only [nl_1, nl_2, nl_3, nl_4, nl_5, nl_6, nl_7, nl_8, nl_9, nl_10, nl_11, nl_12, nl_13, nl_14, nl_15, nl_16, nl_32, nl_240, nl_250, nl_255, nl_265, nl_270, nl_0, nI_add, pk_mul]; done)) (by omega) (by omega)) ?_
  refine ex_ixl (q := 0) (by first | rfl | (simp only [nl_1, nl_2, nl_3, nl_4, nl_5, nl_6, nl_7, nl_8, nl_9, nl_10, nl_11, nl_12, nl_13, nl_14, nl_15, nl_16, nl_32, nl_240, nl_250, nl_255, nl_265, nl_270, nl_0, nI_add, pk_mul]; done)) (by omega) ?_
  refine s_Mdl_hits_38 ?_
  refine s_Mdl_hits_39 ?_
  refine s_Mdl_hits_40 ?_
  refine s_Mdl_hits_41 (fun h41 => ?_) (fun h41 => ?_)
  · refine s_Mdl_hits_48 ?_
    refine s_Mdl_hits_49 ?_
    have e3 : (0 : Int32) = bi (decide ((row 8 ||| I 21 (ad 5) 0) &&& 1 = 0)) := by simp [h41, bi]
    have k := s2 (decide ((row 8 ||| I 21 (ad 5) 0) &&& 1 = 0))
    rw [← e3] at k
    exact k
  · refine s_Mdl_hits_44 ?_
    refine s_Mdl_hits_45 ?_
    refine s_Mdl_hits_49 ?_
    have e3 : (1 : Int32) = bi (decide ((row 8 ||| I 21 (ad 5) 0) &&& 1 = 0)) := by simp [h41, bi]
    have k := s2 (decide ((row 8 ||| I 21 (ad 5) 0) &&& 1 = 0))
    rw [← e3] at k
    exact k
