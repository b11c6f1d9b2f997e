/-! The class: deliver -/
theorem sp_deliverC_no {Γ : ex_G} {d : Nat} {K : ex_K} {I : ex_I} {F : ex_F} {b : Nat} {a : Nat → Nat} {g : GH} {s : MS} (hR : Rc K I F a g 3 s) {x : Int32} (hx : x < 0 ∨ nI (s.2 31).length ≤ x) :
    ex_E Γ (d + 2) M_FC_deliver 0 [some (.inr (some (a 0))), some (.inl x), none] [] K I F b (fun r K' I' F' => r = some (.inl (0)) ∧ ∃ g', Rc K' I' F' a g' 3 (s)) := by
  obtain ⟨x0, x1, x2, x3, x4, x5, x6, x7, x8⟩ := hR.1.1
  obtain ⟨U, hu, hU, hl⟩ := c_uw_len hR
  rw [← hl] at hx
  refine s_FC_deliver_0 ?_
  refine s_FC_deliver_1 (by first | rfl | assumption | (simp [*]; done)) (by first | rfl | assumption | (simp [*]; done)) ?_
  refine s_FC_deliver_4 ?_
  refine s_FC_deliver_5 (b1 := 0) (b2 := b) (by exact x3) (by exact hu.1) (sp_takeOut_no hu hx) ?_ (by omega)
  rintro _ _ _ _ ⟨rfl, rfl, rfl, rfl⟩
  dsimp only [Option.toList, List.cons_append, List.nil_append]
  refine s_FC_deliver_8 ?_
  refine s_FC_deliver_9 ?_
  refine s_FC_deliver_10 (fun _ h10 => absurd h10 (by intro z; cases z)) (fun h10 => ?_)
  refine s_FC_deliver_13 ?_
  refine s_FC_deliver_14 (by first | rfl | decide | assumption) ?_
  exact ⟨rfl, g, hR⟩
theorem sp_deliverC {Γ : ex_G} {d : Nat} {K : ex_K} {I : ex_I} {F : ex_F} {b : Nat} {a : Nat → Nat} {g : GH} {s : MS} (hR : Rc K I F a g 3 s) {N e t p : Nat} {cm : Nat → Int32} (hJ : J N 3 3 s) (hN : N < 1000) (he : (s.2 31)[e]? = some cm) (ht : t < 3) (h0 : cm 0 = nI t) (hp : cm 1 = 0 → ¬ cm 2 = 0 → p < 8 ∧ cm 5 = nI p ∧ (cm 3 = 1 ∨ cm 3 = 2 ∨ cm 3 = 3)) :
    ex_E Γ (d + 7) M_FC_deliver 0 [some (.inr (some (a 0))), some (.inl (nI e)), none] [] K I F (b + 2) (fun r K' I' F' => r = some (.inl (1)) ∧ ∃ g', Rc K' I' F' a g' 3 (m_dlv s e t p cm)) := by
  obtain ⟨x0, x1, x2, x3, x4, x5, x6, x7, x8⟩ := hR.1.1
  obtain ⟨U, hu, -⟩ := hR.2.2.2.1
  have hc := J_row hJ (List.mem_of_getElem? he) ht h0
  have hd : J N 3 3 (m_d0 s e) := J_fly hJ (fun r hr => List.mem_of_mem_eraseIdx hr)
  have hh : hdz (m_d0 s e) 3 t = hdz s 3 t := by
    unfold hdz m_d0
    rw [tu_ne _ _ (by omega)]
  have hq : (m_d0 s e).2 (100 + t) = s.2 (100 + t) := by
    unfold m_d0
    exact tu_ne _ _ (by omega)
  unfold m_dlv
  refine s_FC_deliver_0 ?_
  refine s_FC_deliver_1 (by first | rfl | assumption | (simp [*]; done)) (by first | rfl | assumption | (simp [*]; done)) ?_
  refine s_FC_deliver_4 ?_
  refine s_FC_deliver_5 (b1 := 0) (b2 := b + 2) (by exact x3) (by exact hu.1) (ex_up (by omega) (sp_takeOutC (d := d) hR he)) ?_ (by omega)
  rintro _ _ I1 F1 ⟨mp, rfl, rfl, X1, hM, R1⟩
  dsimp only [Option.toList, List.cons_append, List.nil_append]
  refine s_FC_deliver_8 ?_
  refine s_FC_deliver_9 ?_
  refine s_FC_deliver_10 (fun ah10 h10 => ?_) (fun h10 => absurd h10 (by intro z; cases z))
  have km := hM.1
  have x01 := R1.1.1.1
  have m1 : I1 549 mp 0 = cm 1 := hM.2.2.1
  by_cases h1 : cm 1 = 0
  · rw [if_pos h1]
    have ho := sp_cto (Γ := Γ) (d := d) (b := b) R1 hM ht h0 h1 (hp h1) hd (by omega)
    refine s_FC_deliver_15 ?_
    refine s_FC_deliver_16 (by rfl) (by exact km) ?_
    refine s_FC_deliver_19 (fun h19 => ?_) (fun h19 => absurd h19 (by rw [m1]; exact fun z => z h1))
    refine s_FC_deliver_30 ?_
    refine s_FC_deliver_31 ?_
    refine s_FC_deliver_32 (b1 := b + 2) (b2 := 0) (by rfl) (by exact x01) (ex_up (by omega) ho) ?_ (by omega)
    rintro _ K2 I2 F2 ⟨rfl, R2⟩
    dsimp only [Option.toList, List.cons_append, List.nil_append]
    refine s_FC_deliver_35 ?_
    refine s_FC_deliver_36 (by first | rfl | decide | assumption) ?_
    exact ⟨rfl, g, R2⟩
  · rw [if_neg h1]
    have h1' : cm 1 = 1 := hc.1.resolve_left h1
    have ho := sp_ctf (Γ := Γ) (d := d) (b := b) R1 hM ht h0 h1' hd (by omega) (by rw [hh]; exact hc)
    refine s_FC_deliver_15 ?_
    refine s_FC_deliver_16 (by rfl) (by exact km) ?_
    refine s_FC_deliver_19 (fun h19 => absurd h19 (by rw [m1]; exact h1)) (fun h19 => ?_)
    refine s_FC_deliver_22 ?_
    refine s_FC_deliver_23 ?_
    refine s_FC_deliver_24 (b1 := b + 2) (b2 := 0) (by rfl) (by exact x01) (ho) ?_ (by omega)
    rintro _ K2 I2 F2 ⟨rfl, g2, R2⟩
    dsimp only [Option.toList, List.cons_append, List.nil_append]
    refine s_FC_deliver_27 ?_
    refine s_FC_deliver_35 ?_
    refine s_FC_deliver_36 (by first | rfl | decide | assumption) ?_
    refine ⟨rfl, g2, ?_⟩
    by_cases h2 : cm 2 = 0
    · rw [if_pos h2] at R2 ⊢
      exact R2
    · rw [if_neg h2] at R2 ⊢
      by_cases h27 : s.1 27 t = 0
      · rw [if_pos h27]
        exact R2
      · rw [if_neg h27]
        have hq0 := (hJ.2.2.1.1 t ht).2.2 h27
        have ed : m_dan (m_d0 s e) t cm = m_d0 s e := by
          unfold m_dan
          rw [hq, hq0]
        rw [ed] at R2
        exact R2
