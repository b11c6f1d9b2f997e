/-! The class: messages, entries, answers, ticks -/
theorem sp_takeOutC {Γ : ex_G} {d : Nat} {K : ex_K} {I : ex_I} {F : ex_F} {b : Nat} {e : Nat} {a : Nat → Nat} {g : GH} {s : MS} {row : Nat → Int32} (hR : Rc K I F a g 3 s) (he : (s.2 31)[e]? = some row) :
    ex_E Γ (d + 1) M_UW_takeOut 0 [some (.inr (some (a 5))), some (.inl (nI e)), none, none] [] K I F b (fun r K' I' F' => ∃ p, r = some (.inr (some p)) ∧ K = K' ∧ xi K I F K I' F' ∧ Ms K I' F' p row ∧ Rc K I' F' a g 3 (m_d0 s e)) := by
  obtain ⟨U, hu, hU⟩ := hR.2.2.2.1
  obtain ⟨p, hp, hm⟩ := f2_getr hU he
  refine ex_post (fun r K' I' F' h => ?_) (sp_takeOut hu hp)
  obtain ⟨rfl, rfl, rfl, ⟨X, rfl⟩, hu2⟩ := h
  have x1 : xw (uP a) K I F K (ex_ui I 613 (a 5) 0 (nI (U.length - 1))) (ex_wf F 36 (a 6) X) := xw_trans (xw_ui (Or.inl ⟨rfl, rfl⟩)) (xw_wf (Or.inr ⟨rfl, rfl⟩))
  exact ⟨p, rfl, rfl, xi_of x1 im_u, Ms_x x1 im_u hm, Rc_uw hR x1 ⟨_, hu2, f2_erase e (f2_mono (fun p _ row h => Ms_x x1 im_u h) hU)⟩⟩
theorem sp_loseC {Γ : ex_G} {d : Nat} {K : ex_K} {I : ex_I} {F : ex_F} {b : Nat} {a : Nat → Nat} {g : GH} {s : MS} (hR : Rc K I F a g 3 s) {e : Nat} {row : Nat → Int32} (he : (s.2 31)[e]? = some row) :
    ex_E Γ (d + 2) M_FC_lose 0 [some (.inr (some (a 0))), some (.inl (nI e))] [] K I F b (fun r K' I' F' => r = some (.inl (1)) ∧ ∃ g', Rc K' I' F' a g' 3 (tu s 31 ((s.2 31).eraseIdx e))) := by
  obtain ⟨x0, x1, x2, x3, x4, x5, x6, x7, x8⟩ := hR.1.1
  obtain ⟨U, hu, -⟩ := hR.2.2.2.1
  refine s_FC_lose_0 ?_
  refine s_FC_lose_1 (by first | rfl | assumption | (simp [*]; done)) (by first | rfl | assumption | (simp [*]; done)) ?_
  refine s_FC_lose_4 ?_
  refine s_FC_lose_5 (b1 := 0) (b2 := b) (by exact x3) (by exact hu.1) (sp_takeOutC hR he) ?_ (by omega)
  rintro _ _ I1 F1 ⟨p, rfl, rfl, xa, mp, R1⟩
  dsimp only [Option.toList, List.cons_append, List.nil_append]
  refine s_FC_lose_8 (fun h8 => absurd h8 (by intro z; cases z)) (fun ah8 h8 => ?_)
  refine s_FC_lose_11 ?_
  refine s_FC_lose_12 ?_
  refine s_FC_lose_16 (by first | rfl | decide | assumption) ?_
  exact ⟨rfl, g, R1⟩
theorem c_uw_len {K : ex_K} {I : ex_I} {F : ex_F} {a : Nat → Nat} {g : GH} {s : MS} {z : Nat} (hR : Rc K I F a g z s) : ∃ U, uw_rep K I F (a 5) (a 6) U ∧ f2 (Ms K I F) U (s.2 31) ∧ U.length = (s.2 31).length := by
  obtain ⟨U, hu, hU⟩ := hR.2.2.2.1
  exact ⟨U, hu, hU, f2_len hU⟩
theorem sp_loseC_no {Γ : ex_G} {d : Nat} {K : ex_K} {I : ex_I} {F : ex_F} {b : Nat} {a : Nat → Nat} {g : GH} {s : MS} (hR : Rc K I F a g 3 s) {x : Int32} (hx : x < 0 ∨ nI (s.2 31).length ≤ x) :
    ex_E Γ (d + 2) M_FC_lose 0 [some (.inr (some (a 0))), some (.inl x)] [] K I F b (fun r K' I' F' => r = some (.inl (0)) ∧ ∃ g', Rc K' I' F' a g' 3 (s)) := by
  obtain ⟨x0, x1, x2, x3, x4, x5, x6, x7, x8⟩ := hR.1.1
  obtain ⟨U, hu, hU, hl⟩ := c_uw_len hR
  rw [← hl] at hx
  refine s_FC_lose_0 ?_
  refine s_FC_lose_1 (by first | rfl | assumption | (simp [*]; done)) (by first | rfl | assumption | (simp [*]; done)) ?_
  refine s_FC_lose_4 ?_
  refine s_FC_lose_5 (b1 := 0) (b2 := b) (by exact x3) (by exact hu.1) (sp_takeOut_no hu hx) ?_ (by omega)
  rintro _ _ _ _ ⟨rfl, rfl, rfl, rfl⟩
  dsimp only [Option.toList, List.cons_append, List.nil_append]
  refine s_FC_lose_8 (fun h8 => ?_) (fun _ h8 => absurd h8 (by intro z; cases z))
  refine s_FC_lose_15 ?_
  refine s_FC_lose_16 (by first | rfl | decide | assumption) ?_
  exact ⟨rfl, g, hR⟩
theorem sp_copyC {Γ : ex_G} {d : Nat} {K : ex_K} {I : ex_I} {F : ex_F} {b : Nat} {a : Nat → Nat} {g : GH} {s : MS} (hR : Rc K I F a g 3 s) {e : Nat} {row : Nat → Int32} (he : (s.2 31)[e]? = some row) (h16 : (s.2 31).length < 16) :
    ex_E Γ (d + 1) M_FC_copy 0 [some (.inr (some (a 0))), some (.inl (nI e)), none] [] K I F b (fun r K' I' F' => r = some (.inl (1)) ∧ ∃ g', Rc K' I' F' a g' 3 (tu s 31 (s.2 31 ++ [row]))) := by
  obtain ⟨x0, x1, x2, x3, x4, x5, x6, x7, x8⟩ := hR.1.1
  obtain ⟨U, hu, hU, hl⟩ := c_uw_len hR
  obtain ⟨p, hp, hm⟩ := f2_getr hU he
  have hs : m_snd (s.2 31) row = s.2 31 ++ [row] := if_pos h16
  refine s_FC_copy_0 ?_
  refine s_FC_copy_1 (by first | rfl | assumption | (simp [*]; done)) (by first | rfl | assumption | (simp [*]; done)) ?_
  refine s_FC_copy_4 ?_
  refine s_FC_copy_5 (b1 := 0) (b2 := b) (by exact x3) (by exact hu.1) (sp_at_in hu hp) ?_ (by omega)
  rintro _ _ _ _ ⟨rfl, rfl, rfl, rfl⟩
  dsimp only [Option.toList, List.cons_append, List.nil_append]
  refine s_FC_copy_8 ?_
  refine s_FC_copy_9 ?_
  refine s_FC_copy_10 (fun h10 => absurd h10 (by intro z; cases z)) (fun ah10 h10 => ?_)
  refine s_FC_copy_13 ?_
  refine s_FC_copy_14 (by first | rfl | assumption | (simp [*]; done)) (by first | rfl | assumption | (simp [*]; done)) ?_
  refine s_FC_copy_17 ?_
  refine s_FC_copy_18 (b1 := 0) (b2 := b) (by exact x3) (by exact hu.1) (sp_send hu (by omega) hm.1) ?_ (by omega)
  rintro _ _ _ _ ⟨rfl, rfl, rfl, rfl⟩
  dsimp only [Option.toList, List.cons_append, List.nil_append]
  refine s_FC_copy_21 (fun h21 => absurd h21 (by decide)) (fun h21 => ?_)
  refine s_FC_copy_24 ?_
  refine s_FC_copy_25 ?_
  refine s_FC_copy_29 (by first | rfl | decide | assumption) ?_
  have R1 := (Rc_sent hR hu hU (by omega) hm).1
  rw [hs] at R1
  exact ⟨rfl, g, R1⟩
theorem sp_copyC_no {Γ : ex_G} {d : Nat} {K : ex_K} {I : ex_I} {F : ex_F} {b : Nat} {a : Nat → Nat} {g : GH} {s : MS} (hR : Rc K I F a g 3 s) {x : Int32} (hx : (x < 0 ∨ nI (s.2 31).length ≤ x) ∨ (s.2 31).length = 16) :
    ex_E Γ (d + 1) M_FC_copy 0 [some (.inr (some (a 0))), some (.inl x), none] [] K I F b (fun r K' I' F' => r = some (.inl (0)) ∧ ∃ g', Rc K' I' F' a g' 3 (s)) := by
  obtain ⟨x0, x1, x2, x3, x4, x5, x6, x7, x8⟩ := hR.1.1
  obtain ⟨U, hu, hU, hl⟩ := c_uw_len hR
  have h16 := hu.2.2.2.2.1
  by_cases hr : x < 0 ∨ nI (s.2 31).length ≤ x
  · rw [← hl] at hr
    refine s_FC_copy_0 ?_
    refine s_FC_copy_1 (by first | rfl | assumption | (simp [*]; done)) (by first | rfl | assumption | (simp [*]; done)) ?_
    refine s_FC_copy_4 ?_
    refine s_FC_copy_5 (b1 := 0) (b2 := b) (by exact x3) (by exact hu.1) (sp_at_out hu hr) ?_ (by omega)
    rintro _ _ _ _ ⟨rfl, rfl, rfl, rfl⟩
    dsimp only [Option.toList, List.cons_append, List.nil_append]
    refine s_FC_copy_8 ?_
    refine s_FC_copy_9 ?_
    refine s_FC_copy_10 (fun h10 => ?_) (fun _ h10 => absurd h10 (by intro z; cases z))
    refine s_FC_copy_28 ?_
    refine s_FC_copy_29 (by first | rfl | decide | assumption) ?_
    exact ⟨rfl, g, hR⟩
  · have hf := hx.resolve_left hr
    have hr1 : ¬ x < 0 := fun w => hr (Or.inl w)
    have hr2 : ¬ nI (s.2 31).length ≤ x := fun w => hr (Or.inr w)
    obtain ⟨e, he, rfl⟩ := ((pk_ix x (n := (s.2 31).length) (by omega)).resolve_left hr1).resolve_left hr2
    obtain ⟨p, hp⟩ : ∃ p, U[e]? = some p := ⟨U[e]'(by omega), List.getElem?_eq_getElem (by omega)⟩
    refine s_FC_copy_0 ?_
    refine s_FC_copy_1 (by first | rfl | assumption | (simp [*]; done)) (by first | rfl | assumption | (simp [*]; done)) ?_
    refine s_FC_copy_4 ?_
    refine s_FC_copy_5 (b1 := 0) (b2 := b) (by exact x3) (by exact hu.1) (sp_at_in hu hp) ?_ (by omega)
    rintro _ _ _ _ ⟨rfl, rfl, rfl, rfl⟩
    dsimp only [Option.toList, List.cons_append, List.nil_append]
    refine s_FC_copy_8 ?_
    refine s_FC_copy_9 ?_
    refine s_FC_copy_10 (fun h10 => absurd h10 (by intro z; cases z)) (fun ah10 h10 => ?_)
    refine s_FC_copy_13 ?_
    refine s_FC_copy_14 (by first | rfl | assumption | (simp [*]; done)) (by first | rfl | assumption | (simp [*]; done)) ?_
    refine s_FC_copy_17 ?_
    refine s_FC_copy_18 (b1 := 0) (b2 := b) (by exact x3) (by exact hu.1) (sp_send_no hu (by omega)) ?_ (by omega)
    rintro _ _ _ _ ⟨rfl, rfl, rfl, rfl⟩
    dsimp only [Option.toList, List.cons_append, List.nil_append]
    refine s_FC_copy_21 (fun h21 => ?_) (fun h21 => absurd h21 (by exact fun z => z rfl))
    refine s_FC_copy_28 ?_
    refine s_FC_copy_29 (by first | rfl | decide | assumption) ?_
    exact ⟨rfl, g, hR⟩
theorem sp_flightC {Γ : ex_G} {d : Nat} {K : ex_K} {I : ex_I} {F : ex_F} {b : Nat} {a : Nat → Nat} {g : GH} {s : MS} (hR : Rc K I F a g 3 s) {e w : Nat} {row : Nat → Int32} (he : (s.2 31)[e]? = some row) (h1 : row 1 = 0 ∨ row 1 = 1) (hw : w < 4) :
    ex_E Γ (d + 1) M_FC_flight 0 [some (.inr (some (a 0))), some (.inl (nI e)), some (.inl (nI w)), none] [] K I F b (fun r K' I' F' => r = some (.inl (if w = 0 then row 0 + 4 * row 1 else row (1 + w))) ∧ ∃ g', Rc K' I' F' a g' 3 (s)) := by
  obtain ⟨x0, x1, x2, x3, x4, x5, x6, x7, x8⟩ := hR.1.1
  obtain ⟨U, hu, hU, hl⟩ := c_uw_len hR
  obtain ⟨p, hp, m1, m2, m3, m4, m5, m6, -⟩ := f2_getr hU he
  rcases (by omega : w = 0 ∨ w = 1 ∨ w = 2 ∨ w = 3) with rfl | rfl | rfl | rfl

  · refine s_FC_flight_0 ?_
    refine s_FC_flight_1 (by first | rfl | assumption | (simp [*]; done)) (by first | rfl | assumption | (simp [*]; done)) ?_
    refine s_FC_flight_4 ?_
    refine s_FC_flight_5 (b1 := 0) (b2 := b) (by exact x3) (by exact hu.1) (sp_at_in hu hp) ?_ (by omega)
    rintro _ _ _ _ ⟨rfl, rfl, rfl, rfl⟩
    dsimp only [Option.toList, List.cons_append, List.nil_append]
    refine s_FC_flight_8 ?_
    refine s_FC_flight_9 ?_
    refine s_FC_flight_10 (fun ah10 h10 => ?_) (fun h10 => absurd h10 (by intro z; cases z))
    refine s_FC_flight_15 ?_
    refine s_FC_flight_16 (fun h16 => ?_) (fun h16 => ?_) (fun h16 => ?_) (fun h16 => ?_) (fun h16_0 h16_1 h16_2 h16_3 => ?_)
    · refine s_FC_flight_48 ?_
      refine s_FC_flight_49 (by first | rfl | assumption | (simp [*]; done)) (by first | rfl | assumption | (simp [*]; done)) ?_
      refine s_FC_flight_52 (fun h52 => ?_) (fun h52 => ?_)
      · refine s_FC_flight_64 ?_
        refine s_FC_flight_65 (by first | rfl | assumption | (simp [*]; done)) (by first | rfl | assumption | (simp [*]; done)) ?_
        refine s_FC_flight_68 ?_
        rw [m3] at h52
        rw [if_pos rfl, h52, m2, show (4 : Int32) * 0 = 0 from rfl, Int32.add_zero]
        exact ⟨rfl, g, hR⟩
      · refine s_FC_flight_55 ?_
        refine s_FC_flight_56 (by first | rfl | assumption | (simp [*]; done)) (by first | rfl | assumption | (simp [*]; done)) ?_
        refine s_FC_flight_59 ?_
        refine s_FC_flight_60 ?_
        refine s_FC_flight_61 ?_
        refine s_FC_flight_68 ?_
        rw [m3] at h52
        rw [if_pos rfl, h1.resolve_left h52, m2]
        exact ⟨rfl, g, hR⟩
    · refine s_FC_flight_69 ?_
      refine s_FC_flight_70 (by first | rfl | assumption | (simp [*]; done)) (by first | rfl | assumption | (simp [*]; done)) ?_
      refine s_FC_flight_73 ?_
      exact absurd h16 (by decide)
    · refine s_FC_flight_74 ?_
      refine s_FC_flight_75 (by first | rfl | assumption | (simp [*]; done)) (by first | rfl | assumption | (simp [*]; done)) ?_
      refine s_FC_flight_78 ?_
      exact absurd h16 (by decide)
    · refine s_FC_flight_79 ?_
      refine s_FC_flight_80 (by first | rfl | assumption | (simp [*]; done)) (by first | rfl | assumption | (simp [*]; done)) ?_
      refine s_FC_flight_83 ?_
      exact absurd h16 (by decide)
    · refine s_FC_flight_84 ?_
      refine s_FC_flight_85 ?_
      exact absurd rfl h16_0
  · refine s_FC_flight_0 ?_
    refine s_FC_flight_1 (by first | rfl | assumption | (simp [*]; done)) (by first | rfl | assumption | (simp [*]; done)) ?_
    refine s_FC_flight_4 ?_
    refine s_FC_flight_5 (b1 := 0) (b2 := b) (by exact x3) (by exact hu.1) (sp_at_in hu hp) ?_ (by omega)
    rintro _ _ _ _ ⟨rfl, rfl, rfl, rfl⟩
    dsimp only [Option.toList, List.cons_append, List.nil_append]
    refine s_FC_flight_8 ?_
    refine s_FC_flight_9 ?_
    refine s_FC_flight_10 (fun ah10 h10 => ?_) (fun h10 => absurd h10 (by intro z; cases z))
    refine s_FC_flight_15 ?_
    refine s_FC_flight_16 (fun h16 => ?_) (fun h16 => ?_) (fun h16 => ?_) (fun h16 => ?_) (fun h16_0 h16_1 h16_2 h16_3 => ?_)
    · refine s_FC_flight_48 ?_
      refine s_FC_flight_49 (by first | rfl | assumption | (simp [*]; done)) (by first | rfl | assumption | (simp [*]; done)) ?_
      refine s_FC_flight_52 (fun h52 => ?_) (fun h52 => ?_)
      · refine s_FC_flight_64 ?_
        refine s_FC_flight_65 (by first | rfl | assumption | (simp [*]; done)) (by first | rfl | assumption | (simp [*]; done)) ?_
        refine s_FC_flight_68 ?_
        exact absurd h16 (by decide)
      · refine s_FC_flight_55 ?_
        refine s_FC_flight_56 (by first | rfl | assumption | (simp [*]; done)) (by first | rfl | assumption | (simp [*]; done)) ?_
        refine s_FC_flight_59 ?_
        refine s_FC_flight_60 ?_
        refine s_FC_flight_61 ?_
        refine s_FC_flight_68 ?_
        exact absurd h16 (by decide)
    · refine s_FC_flight_69 ?_
      refine s_FC_flight_70 (by first | rfl | assumption | (simp [*]; done)) (by first | rfl | assumption | (simp [*]; done)) ?_
      refine s_FC_flight_73 ?_
      rw [if_neg (by decide), m4]
      exact ⟨rfl, g, hR⟩
    · refine s_FC_flight_74 ?_
      refine s_FC_flight_75 (by first | rfl | assumption | (simp [*]; done)) (by first | rfl | assumption | (simp [*]; done)) ?_
      refine s_FC_flight_78 ?_
      exact absurd h16 (by decide)
    · refine s_FC_flight_79 ?_
      refine s_FC_flight_80 (by first | rfl | assumption | (simp [*]; done)) (by first | rfl | assumption | (simp [*]; done)) ?_
      refine s_FC_flight_83 ?_
      exact absurd h16 (by decide)
    · refine s_FC_flight_84 ?_
      refine s_FC_flight_85 ?_
      exact absurd rfl h16_1
  · refine s_FC_flight_0 ?_
    refine s_FC_flight_1 (by first | rfl | assumption | (simp [*]; done)) (by first | rfl | assumption | (simp [*]; done)) ?_
    refine s_FC_flight_4 ?_
    refine s_FC_flight_5 (b1 := 0) (b2 := b) (by exact x3) (by exact hu.1) (sp_at_in hu hp) ?_ (by omega)
    rintro _ _ _ _ ⟨rfl, rfl, rfl, rfl⟩
    dsimp only [Option.toList, List.cons_append, List.nil_append]
    refine s_FC_flight_8 ?_
    refine s_FC_flight_9 ?_
    refine s_FC_flight_10 (fun ah10 h10 => ?_) (fun h10 => absurd h10 (by intro z; cases z))
    refine s_FC_flight_15 ?_
    refine s_FC_flight_16 (fun h16 => ?_) (fun h16 => ?_) (fun h16 => ?_) (fun h16 => ?_) (fun h16_0 h16_1 h16_2 h16_3 => ?_)
    · refine s_FC_flight_48 ?_
      refine s_FC_flight_49 (by first | rfl | assumption | (simp [*]; done)) (by first | rfl | assumption | (simp [*]; done)) ?_
      refine s_FC_flight_52 (fun h52 => ?_) (fun h52 => ?_)
      · refine s_FC_flight_64 ?_
        refine s_FC_flight_65 (by first | rfl | assumption | (simp [*]; done)) (by first | rfl | assumption | (simp [*]; done)) ?_
        refine s_FC_flight_68 ?_
        exact absurd h16 (by decide)
      · refine s_FC_flight_55 ?_
        refine s_FC_flight_56 (by first | rfl | assumption | (simp [*]; done)) (by first | rfl | assumption | (simp [*]; done)) ?_
        refine s_FC_flight_59 ?_
        refine s_FC_flight_60 ?_
        refine s_FC_flight_61 ?_
        refine s_FC_flight_68 ?_
        exact absurd h16 (by decide)
    · refine s_FC_flight_69 ?_
      refine s_FC_flight_70 (by first | rfl | assumption | (simp [*]; done)) (by first | rfl | assumption | (simp [*]; done)) ?_
      refine s_FC_flight_73 ?_
      exact absurd h16 (by decide)
    · refine s_FC_flight_74 ?_
      refine s_FC_flight_75 (by first | rfl | assumption | (simp [*]; done)) (by first | rfl | assumption | (simp [*]; done)) ?_
      refine s_FC_flight_78 ?_
      rw [if_neg (by decide), m5]
      exact ⟨rfl, g, hR⟩
    · refine s_FC_flight_79 ?_
      refine s_FC_flight_80 (by first | rfl | assumption | (simp [*]; done)) (by first | rfl | assumption | (simp [*]; done)) ?_
      refine s_FC_flight_83 ?_
      exact absurd h16 (by decide)
    · refine s_FC_flight_84 ?_
      refine s_FC_flight_85 ?_
      exact absurd rfl h16_2
  · refine s_FC_flight_0 ?_
    refine s_FC_flight_1 (by first | rfl | assumption | (simp [*]; done)) (by first | rfl | assumption | (simp [*]; done)) ?_
    refine s_FC_flight_4 ?_
    refine s_FC_flight_5 (b1 := 0) (b2 := b) (by exact x3) (by exact hu.1) (sp_at_in hu hp) ?_ (by omega)
    rintro _ _ _ _ ⟨rfl, rfl, rfl, rfl⟩
    dsimp only [Option.toList, List.cons_append, List.nil_append]
    refine s_FC_flight_8 ?_
    refine s_FC_flight_9 ?_
    refine s_FC_flight_10 (fun ah10 h10 => ?_) (fun h10 => absurd h10 (by intro z; cases z))
    refine s_FC_flight_15 ?_
    refine s_FC_flight_16 (fun h16 => ?_) (fun h16 => ?_) (fun h16 => ?_) (fun h16 => ?_) (fun h16_0 h16_1 h16_2 h16_3 => ?_)
    · refine s_FC_flight_48 ?_
      refine s_FC_flight_49 (by first | rfl | assumption | (simp [*]; done)) (by first | rfl | assumption | (simp [*]; done)) ?_
      refine s_FC_flight_52 (fun h52 => ?_) (fun h52 => ?_)
      · refine s_FC_flight_64 ?_
        refine s_FC_flight_65 (by first | rfl | assumption | (simp [*]; done)) (by first | rfl | assumption | (simp [*]; done)) ?_
        refine s_FC_flight_68 ?_
        exact absurd h16 (by decide)
      · refine s_FC_flight_55 ?_
        refine s_FC_flight_56 (by first | rfl | assumption | (simp [*]; done)) (by first | rfl | assumption | (simp [*]; done)) ?_
        refine s_FC_flight_59 ?_
        refine s_FC_flight_60 ?_
        refine s_FC_flight_61 ?_
        refine s_FC_flight_68 ?_
        exact absurd h16 (by decide)
    · refine s_FC_flight_69 ?_
      refine s_FC_flight_70 (by first | rfl | assumption | (simp [*]; done)) (by first | rfl | assumption | (simp [*]; done)) ?_
      refine s_FC_flight_73 ?_
      exact absurd h16 (by decide)
    · refine s_FC_flight_74 ?_
      refine s_FC_flight_75 (by first | rfl | assumption | (simp [*]; done)) (by first | rfl | assumption | (simp [*]; done)) ?_
      refine s_FC_flight_78 ?_
      exact absurd h16 (by decide)
    · refine s_FC_flight_79 ?_
      refine s_FC_flight_80 (by first | rfl | assumption | (simp [*]; done)) (by first | rfl | assumption | (simp [*]; done)) ?_
      refine s_FC_flight_83 ?_
      rw [if_neg (by decide), m6]
      exact ⟨rfl, g, hR⟩
    · refine s_FC_flight_84 ?_
      refine s_FC_flight_85 ?_
      exact absurd rfl h16_3
theorem sp_flightC_no {Γ : ex_G} {d : Nat} {K : ex_K} {I : ex_I} {F : ex_F} {b : Nat} {a : Nat → Nat} {g : GH} {s : MS} (hR : Rc K I F a g 3 s) {y w : Int32} (hx : (y < 0 ∨ nI (s.2 31).length ≤ y) ∨ w < 0 ∨ ¬ w ≤ 3) :
    ex_E Γ (d + 1) M_FC_flight 0 [some (.inr (some (a 0))), some (.inl y), some (.inl w), none] [] K I F b (fun r K' I' F' => r = some (.inl (-1)) ∧ ∃ g', Rc K' I' F' a g' 3 (s)) := by
  obtain ⟨x0, x1, x2, x3, x4, x5, x6, x7, x8⟩ := hR.1.1
  obtain ⟨U, hu, hU, hl⟩ := c_uw_len hR
  have h16 := hu.2.2.2.2.1
  by_cases hr : y < 0 ∨ nI (s.2 31).length ≤ y
  · rw [← hl] at hr
    refine s_FC_flight_0 ?_
    refine s_FC_flight_1 (by first | rfl | assumption | (simp [*]; done)) (by first | rfl | assumption | (simp [*]; done)) ?_
    refine s_FC_flight_4 ?_
    refine s_FC_flight_5 (b1 := 0) (b2 := b) (by exact x3) (by exact hu.1) (sp_at_out hu hr) ?_ (by omega)
    rintro _ _ _ _ ⟨rfl, rfl, rfl, rfl⟩
    dsimp only [Option.toList, List.cons_append, List.nil_append]
    refine s_FC_flight_8 ?_
    refine s_FC_flight_9 ?_
    refine s_FC_flight_10 (fun _ h10 => absurd h10 (by intro z; cases z)) (fun h10 => ?_)
    refine s_FC_flight_13 ?_
    refine s_FC_flight_14 ?_
    exact ⟨rfl, g, hR⟩
  · have hf := hx.resolve_left hr
    have hw : ∀ j : Int32, j = 0 ∨ j = 1 ∨ j = 2 ∨ j = 3 → ¬ w = j := fun j hj e => by
      subst e
      rcases hj with rfl | rfl | rfl | rfl <;> exact absurd hf (by decide)
    have hr1 : ¬ y < 0 := fun w => hr (Or.inl w)
    have hr2 : ¬ nI (s.2 31).length ≤ y := fun w => hr (Or.inr w)
    obtain ⟨e, he, rfl⟩ := ((pk_ix y (n := (s.2 31).length) (by omega)).resolve_left hr1).resolve_left hr2
    obtain ⟨p, hp⟩ : ∃ p, U[e]? = some p := ⟨U[e]'(by omega), List.getElem?_eq_getElem (by omega)⟩
    obtain ⟨row, -, m1, -⟩ := f2_get hU hp
    refine s_FC_flight_0 ?_
    refine s_FC_flight_1 (by first | rfl | assumption | (simp [*]; done)) (by first | rfl | assumption | (simp [*]; done)) ?_
    refine s_FC_flight_4 ?_
    refine s_FC_flight_5 (b1 := 0) (b2 := b) (by exact x3) (by exact hu.1) (sp_at_in hu hp) ?_ (by omega)
    rintro _ _ _ _ ⟨rfl, rfl, rfl, rfl⟩
    dsimp only [Option.toList, List.cons_append, List.nil_append]
    refine s_FC_flight_8 ?_
    refine s_FC_flight_9 ?_
    refine s_FC_flight_10 (fun ah10 h10 => ?_) (fun h10 => absurd h10 (by intro z; cases z))
    refine s_FC_flight_15 ?_
    refine s_FC_flight_16 (fun h16 => ?_) (fun h16 => ?_) (fun h16 => ?_) (fun h16 => ?_) (fun h16_0 h16_1 h16_2 h16_3 => ?_)
    · refine s_FC_flight_48 ?_
      refine s_FC_flight_49 (by first | rfl | assumption | (simp [*]; done)) (by first | rfl | assumption | (simp [*]; done)) ?_
      refine s_FC_flight_52 (fun h52 => ?_) (fun h52 => ?_)
      · refine s_FC_flight_64 ?_
        refine s_FC_flight_65 (by first | rfl | assumption | (simp [*]; done)) (by first | rfl | assumption | (simp [*]; done)) ?_
        refine s_FC_flight_68 ?_
        exact absurd h16 (hw _ (by decide))
      · refine s_FC_flight_55 ?_
        refine s_FC_flight_56 (by first | rfl | assumption | (simp [*]; done)) (by first | rfl | assumption | (simp [*]; done)) ?_
        refine s_FC_flight_59 ?_
        refine s_FC_flight_60 ?_
        refine s_FC_flight_61 ?_
        refine s_FC_flight_68 ?_
        exact absurd h16 (hw _ (by decide))
    · refine s_FC_flight_69 ?_
      refine s_FC_flight_70 (by first | rfl | assumption | (simp [*]; done)) (by first | rfl | assumption | (simp [*]; done)) ?_
      refine s_FC_flight_73 ?_
      exact absurd h16 (hw _ (by decide))
    · refine s_FC_flight_74 ?_
      refine s_FC_flight_75 (by first | rfl | assumption | (simp [*]; done)) (by first | rfl | assumption | (simp [*]; done)) ?_
      refine s_FC_flight_78 ?_
      exact absurd h16 (hw _ (by decide))
    · refine s_FC_flight_79 ?_
      refine s_FC_flight_80 (by first | rfl | assumption | (simp [*]; done)) (by first | rfl | assumption | (simp [*]; done)) ?_
      refine s_FC_flight_83 ?_
      exact absurd h16 (hw _ (by decide))
    · refine s_FC_flight_84 ?_
      refine s_FC_flight_85 ?_
      exact ⟨rfl, g, hR⟩
theorem sp_entryC {Γ : ex_G} {d : Nat} {K : ex_K} {I : ex_I} {F : ex_F} {b : Nat} {a : Nat → Nat} {g : GH} {s : MS} (hR : Rc K I F a g 3 s) {k w : Nat} {row : Nat → Int32} (hk : k < (s.2 14).length) (he : (s.2 14)[(s.2 14).length - 1 - k]? = some row) (h4 : row 4 = 0 ∨ row 4 = 1) (hw : w < 6) :
    ex_E Γ (d + 2) M_FC_entry 0 [some (.inr (some (a 0))), some (.inl (nI k)), some (.inl (nI w)), none] [] K I F b (fun r K' I' F' => r = some (.inl (m_entv (s.1 805 0) row w)) ∧ ∃ g', Rc K' I' F' a g' 3 (s)) := by
  obtain ⟨x0, x1, x2, x3, x4, x5, x6, x7, x8⟩ := hR.1.1
  obtain ⟨S, c, e1, e2, e3⟩ := hR.2.2.1
  have hl := f2_len e3
  obtain ⟨p, hp, ⟨n1, n2, n3, n4, n5, ⟨q, cq, n6, n7⟩, z, n8, y, n9, n10, n11⟩, -⟩ := f2_getr e3 he
  rw [← hl] at hp
  have t0 := hR.2.2.2.2.2.2.2.2.1.1
  rcases (by omega : w = 0 ∨ w = 1 ∨ w = 2 ∨ w = 3 ∨ w = 4 ∨ w = 5) with rfl | rfl | rfl | rfl | rfl | rfl

  · refine s_FC_entry_0 ?_
    refine s_FC_entry_1 (by first | rfl | assumption | (simp [*]; done)) (by first | rfl | assumption | (simp [*]; done)) ?_
    refine s_FC_entry_4 ?_
    refine s_FC_entry_5 (b1 := 0) (b2 := b) (by exact x2) (by exact e2.1) (sp_usedLatest e2 (by omega)) ?_ (by omega)
    rintro _ _ _ _ ⟨rfl, rfl, rfl, rfl⟩
    dsimp only [Option.toList, List.cons_append, List.nil_append]
    rw [hp]
    refine s_FC_entry_8 ?_
    refine s_FC_entry_9 ?_
    refine s_FC_entry_10 (fun ah10 h10 => ?_) (fun h10 => absurd h10 (by intro z; cases z))
    refine s_FC_entry_15 ?_
    refine s_FC_entry_16 (fun h16 => ?_) (fun h16 => ?_) (fun h16 => ?_) (fun h16 => ?_) (fun h16 => ?_) (fun h16 => ?_) (fun h16_0 h16_1 h16_2 h16_3 h16_4 h16_5 => ?_)
    · refine s_FC_entry_56 ?_
      refine s_FC_entry_57 (by rfl) (by exact n1) ?_
      refine s_FC_entry_60 ?_
      rw [n2]
      exact ⟨rfl, g, hR⟩
    · refine s_FC_entry_61 ?_
      refine s_FC_entry_62 (by rfl) (by exact n1) ?_
      refine s_FC_entry_65 ?_
      exact absurd h16 (by decide)
    · refine s_FC_entry_66 ?_
      refine s_FC_entry_67 ?_
      refine s_FC_entry_68 (by first | rfl | assumption | (simp [*]; done)) (by first | rfl | assumption | (simp [*]; done)) ?_
      refine s_FC_entry_71 (b1 := 0) (b2 := b) (by rfl) (by exact n1) (sp_age n1) ?_ (by omega)
      rintro _ _ _ _ ⟨rfl, rfl, rfl, rfl⟩
      dsimp only [Option.toList, List.cons_append, List.nil_append]
      refine s_FC_entry_74 ?_
      exact absurd h16 (by decide)
    · refine s_FC_entry_75 ?_
      refine s_FC_entry_76 (by rfl) (by exact n1) ?_
      refine s_FC_entry_79 (b1 := 0) (b2 := b) (by exact n8) (by exact n9.1) (ex_up (d := d + 1) (by omega) (sp_lifetime n9)) ?_ (by omega)
      rintro _ _ _ _ ⟨rfl, rfl, rfl, rfl⟩
      dsimp only [Option.toList, List.cons_append, List.nil_append]
      refine s_FC_entry_82 ?_
      exact absurd h16 (by decide)
    · refine s_FC_entry_83 ?_
      refine s_FC_entry_84 (by rfl) (by exact n1) ?_
      refine s_FC_entry_87 (by exact n6) (by exact n7.1) ?_
      refine s_FC_entry_90 ?_
      exact absurd h16 (by decide)
    · refine s_FC_entry_91 ?_
      refine s_FC_entry_92 (by rfl) (by exact n1) ?_
      refine s_FC_entry_95 (by exact n6) (by exact n7.1) ?_
      refine s_FC_entry_98 (fun h98 => ?_) (fun h98 => ?_)
      · refine s_FC_entry_108 ?_
        refine s_FC_entry_110 ?_
        exact absurd h16 (by decide)
      · refine s_FC_entry_101 ?_
        refine s_FC_entry_102 (by rfl) (by exact n1) ?_
        refine s_FC_entry_105 ?_
        refine s_FC_entry_110 ?_
        exact absurd h16 (by decide)
    · refine s_FC_entry_111 ?_
      refine s_FC_entry_112 ?_
      exact absurd rfl h16_0
  · refine s_FC_entry_0 ?_
    refine s_FC_entry_1 (by first | rfl | assumption | (simp [*]; done)) (by first | rfl | assumption | (simp [*]; done)) ?_
    refine s_FC_entry_4 ?_
    refine s_FC_entry_5 (b1 := 0) (b2 := b) (by exact x2) (by exact e2.1) (sp_usedLatest e2 (by omega)) ?_ (by omega)
    rintro _ _ _ _ ⟨rfl, rfl, rfl, rfl⟩
    dsimp only [Option.toList, List.cons_append, List.nil_append]
    rw [hp]
    refine s_FC_entry_8 ?_
    refine s_FC_entry_9 ?_
    refine s_FC_entry_10 (fun ah10 h10 => ?_) (fun h10 => absurd h10 (by intro z; cases z))
    refine s_FC_entry_15 ?_
    refine s_FC_entry_16 (fun h16 => ?_) (fun h16 => ?_) (fun h16 => ?_) (fun h16 => ?_) (fun h16 => ?_) (fun h16 => ?_) (fun h16_0 h16_1 h16_2 h16_3 h16_4 h16_5 => ?_)
    · refine s_FC_entry_56 ?_
      refine s_FC_entry_57 (by rfl) (by exact n1) ?_
      refine s_FC_entry_60 ?_
      exact absurd h16 (by decide)
    · refine s_FC_entry_61 ?_
      refine s_FC_entry_62 (by rfl) (by exact n1) ?_
      refine s_FC_entry_65 ?_
      rw [n4]
      exact ⟨rfl, g, hR⟩
    · refine s_FC_entry_66 ?_
      refine s_FC_entry_67 ?_
      refine s_FC_entry_68 (by first | rfl | assumption | (simp [*]; done)) (by first | rfl | assumption | (simp [*]; done)) ?_
      refine s_FC_entry_71 (b1 := 0) (b2 := b) (by rfl) (by exact n1) (sp_age n1) ?_ (by omega)
      rintro _ _ _ _ ⟨rfl, rfl, rfl, rfl⟩
      dsimp only [Option.toList, List.cons_append, List.nil_append]
      refine s_FC_entry_74 ?_
      exact absurd h16 (by decide)
    · refine s_FC_entry_75 ?_
      refine s_FC_entry_76 (by rfl) (by exact n1) ?_
      refine s_FC_entry_79 (b1 := 0) (b2 := b) (by exact n8) (by exact n9.1) (ex_up (d := d + 1) (by omega) (sp_lifetime n9)) ?_ (by omega)
      rintro _ _ _ _ ⟨rfl, rfl, rfl, rfl⟩
      dsimp only [Option.toList, List.cons_append, List.nil_append]
      refine s_FC_entry_82 ?_
      exact absurd h16 (by decide)
    · refine s_FC_entry_83 ?_
      refine s_FC_entry_84 (by rfl) (by exact n1) ?_
      refine s_FC_entry_87 (by exact n6) (by exact n7.1) ?_
      refine s_FC_entry_90 ?_
      exact absurd h16 (by decide)
    · refine s_FC_entry_91 ?_
      refine s_FC_entry_92 (by rfl) (by exact n1) ?_
      refine s_FC_entry_95 (by exact n6) (by exact n7.1) ?_
      refine s_FC_entry_98 (fun h98 => ?_) (fun h98 => ?_)
      · refine s_FC_entry_108 ?_
        refine s_FC_entry_110 ?_
        exact absurd h16 (by decide)
      · refine s_FC_entry_101 ?_
        refine s_FC_entry_102 (by rfl) (by exact n1) ?_
        refine s_FC_entry_105 ?_
        refine s_FC_entry_110 ?_
        exact absurd h16 (by decide)
    · refine s_FC_entry_111 ?_
      refine s_FC_entry_112 ?_
      exact absurd rfl h16_1
  · refine s_FC_entry_0 ?_
    refine s_FC_entry_1 (by first | rfl | assumption | (simp [*]; done)) (by first | rfl | assumption | (simp [*]; done)) ?_
    refine s_FC_entry_4 ?_
    refine s_FC_entry_5 (b1 := 0) (b2 := b) (by exact x2) (by exact e2.1) (sp_usedLatest e2 (by omega)) ?_ (by omega)
    rintro _ _ _ _ ⟨rfl, rfl, rfl, rfl⟩
    dsimp only [Option.toList, List.cons_append, List.nil_append]
    rw [hp]
    refine s_FC_entry_8 ?_
    refine s_FC_entry_9 ?_
    refine s_FC_entry_10 (fun ah10 h10 => ?_) (fun h10 => absurd h10 (by intro z; cases z))
    refine s_FC_entry_15 ?_
    refine s_FC_entry_16 (fun h16 => ?_) (fun h16 => ?_) (fun h16 => ?_) (fun h16 => ?_) (fun h16 => ?_) (fun h16 => ?_) (fun h16_0 h16_1 h16_2 h16_3 h16_4 h16_5 => ?_)
    · refine s_FC_entry_56 ?_
      refine s_FC_entry_57 (by rfl) (by exact n1) ?_
      refine s_FC_entry_60 ?_
      exact absurd h16 (by decide)
    · refine s_FC_entry_61 ?_
      refine s_FC_entry_62 (by rfl) (by exact n1) ?_
      refine s_FC_entry_65 ?_
      exact absurd h16 (by decide)
    · refine s_FC_entry_66 ?_
      refine s_FC_entry_67 ?_
      refine s_FC_entry_68 (by first | rfl | assumption | (simp [*]; done)) (by first | rfl | assumption | (simp [*]; done)) ?_
      refine s_FC_entry_71 (b1 := 0) (b2 := b) (by rfl) (by exact n1) (sp_age n1) ?_ (by omega)
      rintro _ _ _ _ ⟨rfl, rfl, rfl, rfl⟩
      dsimp only [Option.toList, List.cons_append, List.nil_append]
      refine s_FC_entry_74 ?_
      rw [n5, t0]
      exact ⟨rfl, g, hR⟩
    · refine s_FC_entry_75 ?_
      refine s_FC_entry_76 (by rfl) (by exact n1) ?_
      refine s_FC_entry_79 (b1 := 0) (b2 := b) (by exact n8) (by exact n9.1) (ex_up (d := d + 1) (by omega) (sp_lifetime n9)) ?_ (by omega)
      rintro _ _ _ _ ⟨rfl, rfl, rfl, rfl⟩
      dsimp only [Option.toList, List.cons_append, List.nil_append]
      refine s_FC_entry_82 ?_
      exact absurd h16 (by decide)
    · refine s_FC_entry_83 ?_
      refine s_FC_entry_84 (by rfl) (by exact n1) ?_
      refine s_FC_entry_87 (by exact n6) (by exact n7.1) ?_
      refine s_FC_entry_90 ?_
      exact absurd h16 (by decide)
    · refine s_FC_entry_91 ?_
      refine s_FC_entry_92 (by rfl) (by exact n1) ?_
      refine s_FC_entry_95 (by exact n6) (by exact n7.1) ?_
      refine s_FC_entry_98 (fun h98 => ?_) (fun h98 => ?_)
      · refine s_FC_entry_108 ?_
        refine s_FC_entry_110 ?_
        exact absurd h16 (by decide)
      · refine s_FC_entry_101 ?_
        refine s_FC_entry_102 (by rfl) (by exact n1) ?_
        refine s_FC_entry_105 ?_
        refine s_FC_entry_110 ?_
        exact absurd h16 (by decide)
    · refine s_FC_entry_111 ?_
      refine s_FC_entry_112 ?_
      exact absurd rfl h16_2
  · refine s_FC_entry_0 ?_
    refine s_FC_entry_1 (by first | rfl | assumption | (simp [*]; done)) (by first | rfl | assumption | (simp [*]; done)) ?_
    refine s_FC_entry_4 ?_
    refine s_FC_entry_5 (b1 := 0) (b2 := b) (by exact x2) (by exact e2.1) (sp_usedLatest e2 (by omega)) ?_ (by omega)
    rintro _ _ _ _ ⟨rfl, rfl, rfl, rfl⟩
    dsimp only [Option.toList, List.cons_append, List.nil_append]
    rw [hp]
    refine s_FC_entry_8 ?_
    refine s_FC_entry_9 ?_
    refine s_FC_entry_10 (fun ah10 h10 => ?_) (fun h10 => absurd h10 (by intro z; cases z))
    refine s_FC_entry_15 ?_
    refine s_FC_entry_16 (fun h16 => ?_) (fun h16 => ?_) (fun h16 => ?_) (fun h16 => ?_) (fun h16 => ?_) (fun h16 => ?_) (fun h16_0 h16_1 h16_2 h16_3 h16_4 h16_5 => ?_)
    · refine s_FC_entry_56 ?_
      refine s_FC_entry_57 (by rfl) (by exact n1) ?_
      refine s_FC_entry_60 ?_
      exact absurd h16 (by decide)
    · refine s_FC_entry_61 ?_
      refine s_FC_entry_62 (by rfl) (by exact n1) ?_
      refine s_FC_entry_65 ?_
      exact absurd h16 (by decide)
    · refine s_FC_entry_66 ?_
      refine s_FC_entry_67 ?_
      refine s_FC_entry_68 (by first | rfl | assumption | (simp [*]; done)) (by first | rfl | assumption | (simp [*]; done)) ?_
      refine s_FC_entry_71 (b1 := 0) (b2 := b) (by rfl) (by exact n1) (sp_age n1) ?_ (by omega)
      rintro _ _ _ _ ⟨rfl, rfl, rfl, rfl⟩
      dsimp only [Option.toList, List.cons_append, List.nil_append]
      refine s_FC_entry_74 ?_
      exact absurd h16 (by decide)
    · refine s_FC_entry_75 ?_
      refine s_FC_entry_76 (by rfl) (by exact n1) ?_
      refine s_FC_entry_79 (b1 := 0) (b2 := b) (by exact n8) (by exact n9.1) (ex_up (d := d + 1) (by omega) (sp_lifetime n9)) ?_ (by omega)
      rintro _ _ _ _ ⟨rfl, rfl, rfl, rfl⟩
      dsimp only [Option.toList, List.cons_append, List.nil_append]
      refine s_FC_entry_82 ?_
      rw [show life (I 21 y) = tx_4 (I 21 y) 1 from rfl, n11 1 (by decide)]
      exact ⟨rfl, g, hR⟩
    · refine s_FC_entry_83 ?_
      refine s_FC_entry_84 (by rfl) (by exact n1) ?_
      refine s_FC_entry_87 (by exact n6) (by exact n7.1) ?_
      refine s_FC_entry_90 ?_
      exact absurd h16 (by decide)
    · refine s_FC_entry_91 ?_
      refine s_FC_entry_92 (by rfl) (by exact n1) ?_
      refine s_FC_entry_95 (by exact n6) (by exact n7.1) ?_
      refine s_FC_entry_98 (fun h98 => ?_) (fun h98 => ?_)
      · refine s_FC_entry_108 ?_
        refine s_FC_entry_110 ?_
        exact absurd h16 (by decide)
      · refine s_FC_entry_101 ?_
        refine s_FC_entry_102 (by rfl) (by exact n1) ?_
        refine s_FC_entry_105 ?_
        refine s_FC_entry_110 ?_
        exact absurd h16 (by decide)
    · refine s_FC_entry_111 ?_
      refine s_FC_entry_112 ?_
      exact absurd rfl h16_3
  · refine s_FC_entry_0 ?_
    refine s_FC_entry_1 (by first | rfl | assumption | (simp [*]; done)) (by first | rfl | assumption | (simp [*]; done)) ?_
    refine s_FC_entry_4 ?_
    refine s_FC_entry_5 (b1 := 0) (b2 := b) (by exact x2) (by exact e2.1) (sp_usedLatest e2 (by omega)) ?_ (by omega)
    rintro _ _ _ _ ⟨rfl, rfl, rfl, rfl⟩
    dsimp only [Option.toList, List.cons_append, List.nil_append]
    rw [hp]
    refine s_FC_entry_8 ?_
    refine s_FC_entry_9 ?_
    refine s_FC_entry_10 (fun ah10 h10 => ?_) (fun h10 => absurd h10 (by intro z; cases z))
    refine s_FC_entry_15 ?_
    refine s_FC_entry_16 (fun h16 => ?_) (fun h16 => ?_) (fun h16 => ?_) (fun h16 => ?_) (fun h16 => ?_) (fun h16 => ?_) (fun h16_0 h16_1 h16_2 h16_3 h16_4 h16_5 => ?_)
    · refine s_FC_entry_56 ?_
      refine s_FC_entry_57 (by rfl) (by exact n1) ?_
      refine s_FC_entry_60 ?_
      exact absurd h16 (by decide)
    · refine s_FC_entry_61 ?_
      refine s_FC_entry_62 (by rfl) (by exact n1) ?_
      refine s_FC_entry_65 ?_
      exact absurd h16 (by decide)
    · refine s_FC_entry_66 ?_
      refine s_FC_entry_67 ?_
      refine s_FC_entry_68 (by first | rfl | assumption | (simp [*]; done)) (by first | rfl | assumption | (simp [*]; done)) ?_
      refine s_FC_entry_71 (b1 := 0) (b2 := b) (by rfl) (by exact n1) (sp_age n1) ?_ (by omega)
      rintro _ _ _ _ ⟨rfl, rfl, rfl, rfl⟩
      dsimp only [Option.toList, List.cons_append, List.nil_append]
      refine s_FC_entry_74 ?_
      exact absurd h16 (by decide)
    · refine s_FC_entry_75 ?_
      refine s_FC_entry_76 (by rfl) (by exact n1) ?_
      refine s_FC_entry_79 (b1 := 0) (b2 := b) (by exact n8) (by exact n9.1) (ex_up (d := d + 1) (by omega) (sp_lifetime n9)) ?_ (by omega)
      rintro _ _ _ _ ⟨rfl, rfl, rfl, rfl⟩
      dsimp only [Option.toList, List.cons_append, List.nil_append]
      refine s_FC_entry_82 ?_
      exact absurd h16 (by decide)
    · refine s_FC_entry_83 ?_
      refine s_FC_entry_84 (by rfl) (by exact n1) ?_
      refine s_FC_entry_87 (by exact n6) (by exact n7.1) ?_
      refine s_FC_entry_90 ?_
      rw [n7.2.2.1]
      exact ⟨rfl, g, hR⟩
    · refine s_FC_entry_91 ?_
      refine s_FC_entry_92 (by rfl) (by exact n1) ?_
      refine s_FC_entry_95 (by exact n6) (by exact n7.1) ?_
      refine s_FC_entry_98 (fun h98 => ?_) (fun h98 => ?_)
      · refine s_FC_entry_108 ?_
        refine s_FC_entry_110 ?_
        exact absurd h16 (by decide)
      · refine s_FC_entry_101 ?_
        refine s_FC_entry_102 (by rfl) (by exact n1) ?_
        refine s_FC_entry_105 ?_
        refine s_FC_entry_110 ?_
        exact absurd h16 (by decide)
    · refine s_FC_entry_111 ?_
      refine s_FC_entry_112 ?_
      exact absurd rfl h16_4
  · refine s_FC_entry_0 ?_
    refine s_FC_entry_1 (by first | rfl | assumption | (simp [*]; done)) (by first | rfl | assumption | (simp [*]; done)) ?_
    refine s_FC_entry_4 ?_
    refine s_FC_entry_5 (b1 := 0) (b2 := b) (by exact x2) (by exact e2.1) (sp_usedLatest e2 (by omega)) ?_ (by omega)
    rintro _ _ _ _ ⟨rfl, rfl, rfl, rfl⟩
    dsimp only [Option.toList, List.cons_append, List.nil_append]
    rw [hp]
    refine s_FC_entry_8 ?_
    refine s_FC_entry_9 ?_
    refine s_FC_entry_10 (fun ah10 h10 => ?_) (fun h10 => absurd h10 (by intro z; cases z))
    refine s_FC_entry_15 ?_
    refine s_FC_entry_16 (fun h16 => ?_) (fun h16 => ?_) (fun h16 => ?_) (fun h16 => ?_) (fun h16 => ?_) (fun h16 => ?_) (fun h16_0 h16_1 h16_2 h16_3 h16_4 h16_5 => ?_)
    · refine s_FC_entry_56 ?_
      refine s_FC_entry_57 (by rfl) (by exact n1) ?_
      refine s_FC_entry_60 ?_
      exact absurd h16 (by decide)
    · refine s_FC_entry_61 ?_
      refine s_FC_entry_62 (by rfl) (by exact n1) ?_
      refine s_FC_entry_65 ?_
      exact absurd h16 (by decide)
    · refine s_FC_entry_66 ?_
      refine s_FC_entry_67 ?_
      refine s_FC_entry_68 (by first | rfl | assumption | (simp [*]; done)) (by first | rfl | assumption | (simp [*]; done)) ?_
      refine s_FC_entry_71 (b1 := 0) (b2 := b) (by rfl) (by exact n1) (sp_age n1) ?_ (by omega)
      rintro _ _ _ _ ⟨rfl, rfl, rfl, rfl⟩
      dsimp only [Option.toList, List.cons_append, List.nil_append]
      refine s_FC_entry_74 ?_
      exact absurd h16 (by decide)
    · refine s_FC_entry_75 ?_
      refine s_FC_entry_76 (by rfl) (by exact n1) ?_
      refine s_FC_entry_79 (b1 := 0) (b2 := b) (by exact n8) (by exact n9.1) (ex_up (d := d + 1) (by omega) (sp_lifetime n9)) ?_ (by omega)
      rintro _ _ _ _ ⟨rfl, rfl, rfl, rfl⟩
      dsimp only [Option.toList, List.cons_append, List.nil_append]
      refine s_FC_entry_82 ?_
      exact absurd h16 (by decide)
    · refine s_FC_entry_83 ?_
      refine s_FC_entry_84 (by rfl) (by exact n1) ?_
      refine s_FC_entry_87 (by exact n6) (by exact n7.1) ?_
      refine s_FC_entry_90 ?_
      exact absurd h16 (by decide)
    · refine s_FC_entry_91 ?_
      refine s_FC_entry_92 (by rfl) (by exact n1) ?_
      refine s_FC_entry_95 (by exact n6) (by exact n7.1) ?_
      refine s_FC_entry_98 (fun h98 => ?_) (fun h98 => ?_)
      · refine s_FC_entry_108 ?_
        refine s_FC_entry_110 ?_
        rw [n7.2.2.2.1] at h98
        rw [show m_entv (s.1 805 0) row 5 = (if row 4 = 1 then row 5 else -2) from rfl, if_neg (by rw [h98]; decide)]
        exact ⟨rfl, g, hR⟩
      · refine s_FC_entry_101 ?_
        refine s_FC_entry_102 (by rfl) (by exact n1) ?_
        refine s_FC_entry_105 ?_
        refine s_FC_entry_110 ?_
        rw [n7.2.2.2.1] at h98
        rw [show m_entv (s.1 805 0) row 5 = (if row 4 = 1 then row 5 else -2) from rfl, if_pos (h4.resolve_left h98), n3]
        exact ⟨rfl, g, hR⟩
    · refine s_FC_entry_111 ?_
      refine s_FC_entry_112 ?_
      exact absurd rfl h16_5
theorem sp_entryC_no {Γ : ex_G} {d : Nat} {K : ex_K} {I : ex_I} {F : ex_F} {b : Nat} {a : Nat → Nat} {g : GH} {s : MS} (hR : Rc K I F a g 3 s) {y w : Int32} (hx : y < 0 ∨ nI (s.2 14).length ≤ y ∨ w < 0 ∨ ¬ w ≤ 5) :
    ex_E Γ (d + 2) M_FC_entry 0 [some (.inr (some (a 0))), some (.inl y), some (.inl w), none] [] K I F b (fun r K' I' F' => r = some (.inl (-1)) ∧ ∃ g', Rc K' I' F' a g' 3 (s)) := by
  obtain ⟨x0, x1, x2, x3, x4, x5, x6, x7, x8⟩ := hR.1.1
  obtain ⟨S, c, e1, e2, e3⟩ := hR.2.2.1
  have hl := f2_len e3
  have hlen := st_len e2
  have hcap := e2.2.2.2.2.1
  by_cases hr : y < 0 ∨ nI (s.2 14).length ≤ y
  · rw [← hl] at hr
    refine s_FC_entry_0 ?_
    refine s_FC_entry_1 (by first | rfl | assumption | (simp [*]; done)) (by first | rfl | assumption | (simp [*]; done)) ?_
    refine s_FC_entry_4 ?_
    refine s_FC_entry_5 (b1 := 0) (b2 := b) (by exact x2) (by exact e2.1) (ex_up (d := d) (by omega) (sp_usedLatest_no e2 hr)) ?_ (by omega)
    rintro _ _ _ _ ⟨rfl, rfl, rfl, rfl⟩
    dsimp only [Option.toList, List.cons_append, List.nil_append]
    refine s_FC_entry_8 ?_
    refine s_FC_entry_9 ?_
    refine s_FC_entry_10 (fun _ h10 => absurd h10 (by intro z; cases z)) (fun h10 => ?_)
    refine s_FC_entry_13 ?_
    refine s_FC_entry_14 ?_
    exact ⟨rfl, g, hR⟩
  · have hr1 : ¬ y < 0 := fun w => hr (Or.inl w)
    have hr2 : ¬ nI (s.2 14).length ≤ y := fun w => hr (Or.inr w)
    have hf := (hx.resolve_left hr1).resolve_left hr2
    have hw : ∀ j : Int32, j = 0 ∨ j = 1 ∨ j = 2 ∨ j = 3 ∨ j = 4 ∨ j = 5 → ¬ w = j := fun j hj e => by
      subst e
      rcases hj with rfl | rfl | rfl | rfl | rfl | rfl <;> exact absurd hf (by decide)
    obtain ⟨k, hk, rfl⟩ := ((pk_ix y (n := (s.2 14).length) (by omega)).resolve_left hr1).resolve_left hr2
    obtain ⟨p, hp⟩ : ∃ p, S[S.length - 1 - k]? = some p := ⟨S[S.length - 1 - k]'(by omega), List.getElem?_eq_getElem (by omega)⟩
    obtain ⟨row, -, ⟨n1, n2, n3, n4, n5, ⟨q, cq, n6, n7⟩, z, n8, y, n9, n10, n11⟩, -⟩ := f2_get e3 hp
    refine s_FC_entry_0 ?_
    refine s_FC_entry_1 (by first | rfl | assumption | (simp [*]; done)) (by first | rfl | assumption | (simp [*]; done)) ?_
    refine s_FC_entry_4 ?_
    refine s_FC_entry_5 (b1 := 0) (b2 := b) (by exact x2) (by exact e2.1) (sp_usedLatest e2 (by omega)) ?_ (by omega)
    rintro _ _ _ _ ⟨rfl, rfl, rfl, rfl⟩
    dsimp only [Option.toList, List.cons_append, List.nil_append]
    rw [hp]
    refine s_FC_entry_8 ?_
    refine s_FC_entry_9 ?_
    refine s_FC_entry_10 (fun ah10 h10 => ?_) (fun h10 => absurd h10 (by intro z; cases z))
    refine s_FC_entry_15 ?_
    refine s_FC_entry_16 (fun h16 => ?_) (fun h16 => ?_) (fun h16 => ?_) (fun h16 => ?_) (fun h16 => ?_) (fun h16 => ?_) (fun h16_0 h16_1 h16_2 h16_3 h16_4 h16_5 => ?_)
    · refine s_FC_entry_56 ?_
      refine s_FC_entry_57 (by rfl) (by exact n1) ?_
      refine s_FC_entry_60 ?_
      exact absurd h16 (hw _ (by decide))
    · refine s_FC_entry_61 ?_
      refine s_FC_entry_62 (by rfl) (by exact n1) ?_
      refine s_FC_entry_65 ?_
      exact absurd h16 (hw _ (by decide))
    · refine s_FC_entry_66 ?_
      refine s_FC_entry_67 ?_
      refine s_FC_entry_68 (by first | rfl | assumption | (simp [*]; done)) (by first | rfl | assumption | (simp [*]; done)) ?_
      refine s_FC_entry_71 (b1 := 0) (b2 := b) (by rfl) (by exact n1) (sp_age n1) ?_ (by omega)
      rintro _ _ _ _ ⟨rfl, rfl, rfl, rfl⟩
      dsimp only [Option.toList, List.cons_append, List.nil_append]
      refine s_FC_entry_74 ?_
      exact absurd h16 (hw _ (by decide))
    · refine s_FC_entry_75 ?_
      refine s_FC_entry_76 (by rfl) (by exact n1) ?_
      refine s_FC_entry_79 (b1 := 0) (b2 := b) (by exact n8) (by exact n9.1) (ex_up (d := d + 1) (by omega) (sp_lifetime n9)) ?_ (by omega)
      rintro _ _ _ _ ⟨rfl, rfl, rfl, rfl⟩
      dsimp only [Option.toList, List.cons_append, List.nil_append]
      refine s_FC_entry_82 ?_
      exact absurd h16 (hw _ (by decide))
    · refine s_FC_entry_83 ?_
      refine s_FC_entry_84 (by rfl) (by exact n1) ?_
      refine s_FC_entry_87 (by exact n6) (by exact n7.1) ?_
      refine s_FC_entry_90 ?_
      exact absurd h16 (hw _ (by decide))
    · refine s_FC_entry_91 ?_
      refine s_FC_entry_92 (by rfl) (by exact n1) ?_
      refine s_FC_entry_95 (by exact n6) (by exact n7.1) ?_
      refine s_FC_entry_98 (fun h98 => ?_) (fun h98 => ?_)
      · refine s_FC_entry_108 ?_
        refine s_FC_entry_110 ?_
        exact absurd h16 (hw _ (by decide))
      · refine s_FC_entry_101 ?_
        refine s_FC_entry_102 (by rfl) (by exact n1) ?_
        refine s_FC_entry_105 ?_
        refine s_FC_entry_110 ?_
        exact absurd h16 (hw _ (by decide))
    · refine s_FC_entry_111 ?_
      refine s_FC_entry_112 ?_
      exact ⟨rfl, g, hR⟩
