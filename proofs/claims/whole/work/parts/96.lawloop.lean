/-! The law: its loop, its beginning -/
theorem lw_cond {N L : Nat} (hN : N < 1000) (hl : L ≤ 2049) : (Int32.ofNat L - 4 < nI (4 * N + 1)) ↔ L < 4 * N + 1 + 4 := by
  rw [show Int32.ofNat L = nI L from rfl, show (4 : Int32) = nI 4 from rfl, Int32.lt_iff_toInt_lt, pk_sub_toInt (by omega) (by decide), nI_toInt (by omega)]
  omega
theorem lp_law {Γ : ex_G} {x m : Nat} (hl : Γ.2.2.2.2.2.2.1 ≤ 2049) : ∀ n N b s K I F, Γ.2.2.2.2.2.2.1 + 4 - (4 * N + 1) ≤ 4 * n → 4 * N + 1 ≤ Γ.2.2.2.2.2.2.1 + 4 → LI K I F x m s s → J N 3 3 s →
    ex_E Γ 9 M_Law_law 28 [some (.inr (some Γ.2.2.2.2.2.1)), some (.inr (some x)), some (.inr (some m)), some (.inl (nI (4 * N + 1)))] [] K I F (b + 4 * n) (fun r K' I' F' => r = some (.inl 1)) := by
  intro n
  induction n with
  | zero =>
    intro N b s K I F hn hN hL hJ
    have hN' : N < 1000 := by omega
    refine s_Law_law_28 ?_
    refine s_Law_law_29 ?_
    refine s_Law_law_30 ?_
    refine s_Law_law_31 ?_
    refine s_Law_law_32 ?_
    refine s_Law_law_33 (fun h33 => ?_) (fun h33 => absurd h33 (by exact fun z => z ((lw_cond hN' hl).mpr (by omega))))
    refine s_Law_law_669 ?_
    refine s_Law_law_670 (by first | rfl | decide | assumption) ?_
    rfl
  | succ n ih =>
    intro N b s K I F hn hN hL hJ
    have hN' : N < 1000 := by omega
    by_cases hk : 4 * N + 1 + 4 ≤ Γ.2.2.2.2.2.2.1
    · rw [show b + 4 * (n + 1) = (b + 4 * n) + 4 by omega]
      have kk : ∀ K' I' F' s', LI K' I' F' x m s' s' → J (N + 1) 3 3 s' → ex_E Γ 9 M_Law_law 663 [some (.inr (some Γ.2.2.2.2.2.1)), some (.inr (some x)), some (.inr (some m)), some (.inl (nI (4 * N + 1)))] [] K' I' F' (b + 4 * n) (fun r K' I' F' => r = some (.inl 1)) := by
        intro K' I' F' s' L' J'
        refine s_Law_law_663 ?_
        refine s_Law_law_666 ?_
        rw [show nI (4 * N + 1) + 4 = nI (4 * (N + 1) + 1) from nI_add (4 * N + 1) 4]
        exact ih (N + 1) b s' K' I' F' (by omega) (by omega) L' J'
      refine s_Law_law_28 ?_
      refine s_Law_law_29 ?_
      refine s_Law_law_30 ?_
      refine s_Law_law_31 ?_
      refine s_Law_law_32 ?_
      refine s_Law_law_33 (fun h33 => absurd h33 (by exact fun z => absurd ((lw_cond hN' hl).mp z) (by omega))) (fun h33 => ?_)
      refine s_Law_law_36 ?_
      refine s_Law_law_37 ?_
      refine s_Law_law_38 (by exact vp_in_nI (by omega) (by omega)) ?_
      refine s_Law_law_39 ?_
      refine s_Law_law_41 ?_
      refine s_Law_law_42 (fun h42 => ?_) (fun h42 => ?_) (fun h42 => ?_) (fun h42 => ?_) (fun h42 => ?_) (fun h42 => ?_) (fun h42 => ?_) (fun h42 => ?_) (fun h42 => ?_) (fun h42 => ?_) (fun h42 => ?_) (fun h42 => ?_) (fun h42 => ?_) (fun h42 => ?_) (fun h42 => ?_) (fun h42 => ?_) (fun h42 => ?_) (fun h42 => ?_) (fun h42 => ?_) (fun h42_0 h42_1 h42_2 h42_3 h42_4 h42_5 h42_6 h42_7 h42_8 h42_9 h42_10 h42_11 h42_12 h42_13 h42_14 h42_15 h42_16 h42_17 h42_18 => ?_)
      · exact lo_type hL hJ hN' hk hl kk
      · by_cases hb : Γ.2.2.2.2.2.2.2 (nI (4 * N + 1) + 3).toNatClampNeg = 0
        · exact lo_publish0 hL hb hJ hN' hk hl kk
        · exact lo_publish1 hL hb hJ hN' hk hl kk
      · exact lo_withdraw hL hJ hN' hk hl kk
      · exact lo_get hL hJ hN' hk hl kk
      · exact lo_put hL hJ hN' hk hl kk
      · exact lo_delete hL hJ hN' hk hl kk
      · exact lo_deliver hL hJ hN' hk hl kk
      · exact lo_lose hL hJ hN' hk hl kk
      · exact lo_copy hL hJ hN' hk hl kk
      · exact lo_tick hL hJ hN' hk hl kk
      · by_cases hb : Γ.2.2.2.2.2.2.2 (nI (4 * N + 1) + 2).toNatClampNeg = 0
        · exact lo_power0 hL hb hJ hN' hk hl kk
        · exact lo_power1 hL hb hJ hN' hk hl kk
      · exact lo_answer hL hJ hN' hk hl kk
      · exact lo_flights hL hJ hN' hk hl kk
      · exact lo_flight hL hJ hN' hk hl kk
      · exact lo_entries hL hJ hN' hk hl kk
      · exact lo_entry hL hJ hN' hk hl kk
      · exact lo_owner hL hJ hN' hk hl kk
      · exact lo_waiting hL hJ hN' hk hl kk
      · exact lo_version hL hJ hN' hk hl kk
      · exact ex_more (by omega) (kk K I F s hL (J_up hJ))
    · refine s_Law_law_28 ?_
      refine s_Law_law_29 ?_
      refine s_Law_law_30 ?_
      refine s_Law_law_31 ?_
      refine s_Law_law_32 ?_
      refine s_Law_law_33 (fun h33 => ?_) (fun h33 => absurd h33 (by exact fun z => z ((lw_cond hN' hl).mpr (by omega))))
      refine s_Law_law_669 ?_
      refine s_Law_law_670 (by first | rfl | decide | assumption) ?_
      rfl
theorem sp_cell {Γ : ex_G} {d : Nat} {K : ex_K} {I : ex_I} {F : ex_F} {b : Nat} (hl : Γ.2.2.2.2.2.2.1 ≤ 2049) : ex_E Γ d M_Law_cell 0 [some (.inr (some Γ.2.2.2.2.2.1)), some (.inl 0)] [] K I F b (fun r K' I' F' => r = some (.inl (if 0 < Γ.2.2.2.2.2.2.1 then Γ.2.2.2.2.2.2.2 0 else 0)) ∧ K = K' ∧ I = I' ∧ F = F') := by
  have e : (Int32.ofNat Γ.2.2.2.2.2.2.1 ≤ 0) ↔ ¬ 0 < Γ.2.2.2.2.2.2.1 := by
    rw [show Int32.ofNat Γ.2.2.2.2.2.2.1 = nI Γ.2.2.2.2.2.2.1 from rfl, show (0 : Int32) = nI 0 from rfl, nI_leI (by omega) (by omega)]
    omega
  refine s_Law_cell_0 ?_
  refine s_Law_cell_1 ?_
  refine s_Law_cell_2 ?_
  refine s_Law_cell_3 (fun h3 => ?_) (fun h3 => ?_)
  · refine s_Law_cell_12 ?_
    refine s_Law_cell_13 ?_
    rw [if_neg (e.mp h3)]
    exact ⟨rfl, rfl, rfl, rfl⟩
  · refine s_Law_cell_6 ?_
    refine s_Law_cell_7 ?_
    refine s_Law_cell_8 (by exact vp_in_nI (n := 0) (by rcases Nat.eq_zero_or_pos Γ.2.2.2.2.2.2.1 with z | z; exact absurd (e.mpr (by omega)) h3; exact z) (by omega)) ?_
    refine s_Law_cell_9 ?_
    refine s_Law_cell_13 ?_
    have h0 : 0 < Γ.2.2.2.2.2.2.1 := by
      rcases Nat.eq_zero_or_pos Γ.2.2.2.2.2.2.1 with z | z
      · exact absurd (e.mpr (by omega)) h3
      · exact z
    rw [if_pos h0]
    exact ⟨rfl, rfl, rfl, rfl⟩
theorem cap_ok (x0 : Int32) : ∃ c, (if x0 < 1 ∨ 40 < x0 then 12 else x0) = nI c ∧ c ≤ 40 := by
  by_cases h : x0 < 1 ∨ 40 < x0
  · exact ⟨12, by rw [if_pos h]; rfl, by decide⟩
  · have h1 : ¬ x0 < 1 := fun w => h (Or.inl w)
    have h2 : ¬ 40 < x0 := fun w => h (Or.inr w)
    obtain ⟨c, hc, rfl⟩ := nI_of (x := x0) (fun w => h1 (by
      rw [Int32.lt_iff_toInt_lt] at w ⊢
      rw [Int32.toInt_zero] at w
      rw [show (1 : Int32).toInt = 1 from rfl]
      omega))
    refine ⟨c, if_neg h, ?_⟩
    rcases Nat.lt_or_ge 40 c with z | z
    · exact absurd (nI_lt (a := 40) z hc) h2
    · exact z
theorem sp_law {Γ : ex_G} {b : Nat} {I : ex_I} {F : ex_F} {l1 l2 l3 : Option ex_V} (hl : Γ.2.2.2.2.2.2.1 ≤ 2049) :
    ex_E Γ 9 M_Law_law 0 [some (.inr (some Γ.2.2.2.2.2.1)), l1, l2, l3] [] (fun _ => (0, 0)) I F (b + 4 * 513 + 51) (fun r K' I' F' => r = some (.inl 1)) := by
  obtain ⟨c, hc, h40⟩ := cap_ok (if 0 < Γ.2.2.2.2.2.2.1 then Γ.2.2.2.2.2.2.2 0 else 0)
  refine s_Law_law_0 (fun n0 fn0 => ?_)
  have k1 : (ex_nk (fun _ => (0, 0)) n0 1 0 n0).1 = 1 := by rw [ex_nk_at]
  have z1 : ∀ f, ex_ni I n0 f n0 0 = 0 := fun f => by rw [ex_ni_at]
  generalize ex_nk (fun _ => (0, 0)) n0 1 0 = K1 at k1 ⊢
  generalize ex_ni I n0 = I1 at z1 ⊢
  generalize ex_nr F n0 = F1 at ⊢
  refine s_Law_law_3 ?_
  refine s_Law_law_4 ?_
  refine s_Law_law_5 ?_
  refine s_Law_law_6 (b1 := 0) (b2 := b + 4 * 513 + 50)  (sp_cell hl) ?_ (by omega)
  rintro _ _ _ _ ⟨rfl, rfl, rfl, rfl⟩
  dsimp only [Option.toList, List.cons_append, List.nil_append]
  refine sf_Law_law_9 (b1 := 0 + 25) (b2 := b + 4 * 513 + 25) (K1 := K1) (fun _ _ => rfl) (by rfl) (ex_up (by omega) (sp_initC (d := 0) (b := 0) k1 z1 hc h40)) ?_ (by omega)
  rintro _ K2 I2 F2 ⟨rfl, a, g, ha, R2⟩ hf2
  dsimp only [Option.toList, List.cons_append, List.nil_append]
  have R3 : Rc K2 (mgI K2 I1 I2) (mgF K2 F1 F2) a g 3 (m_new (nI c)) := Rc_0 (fun q hq => ⟨rfl, fun f _ => ⟨if_neg hq, if_neg hq⟩⟩) R2
  have hs3 : ∀ q, (K2 q).1 ≠ 0 → mgK K1 K1 K2 q = K2 q := fun q hq => if_neg hq
  generalize mgK K1 K1 K2 = K3 at hs3 ⊢
  generalize mgI K2 I1 I2 = I3 at R3 ⊢
  generalize mgF K2 F1 F2 = F3 at R3 ⊢
  refine s_Law_law_12 ?_
  refine s_Law_law_13 (fun n13 fn13 => ?_)
  have xn : xw (fun _ _ => False) K2 I3 F3 K2 (ex_ni I3 n13) (ex_nr F3 n13) := fun q hq => by
    have e : q ≠ n13 := fun w => by
      have := hs3 q hq
      rw [w] at this hq
      rw [this] at fn13
      exact hq fn13
    exact ⟨rfl, fun f _ => ⟨ex_ni_ne _ e f, ex_nr_ne _ e f⟩⟩
  have R4 := Rc_0 xn R3
  have hs4 : ∀ q, (K2 q).1 ≠ 0 → ex_nk K3 n13 12 0 q = K2 q := fun q hq => by
    have e : q ≠ n13 := fun w => by
      have := hs3 q hq
      rw [w] at this hq
      rw [this] at fn13
      exact hq fn13
    rw [ex_nk_ne _ _ _ e]
    exact hs3 q hq
  have km : (ex_nk (fun _ => (0, 0)) n13 12 0 n13).1 = 12 := by rw [ex_nk_at]
  have hsm : ∀ q, (ex_nk (fun _ => (0, 0)) n13 12 0 q).1 ≠ 0 → ex_nk K3 n13 12 0 q = ex_nk (fun _ => (0, 0)) n13 12 0 q := fun q hq => by
    by_cases e : q = n13
    · rw [e, ex_nk_at, ex_nk_at]
    · rw [ex_nk_ne _ _ _ e] at hq
      exact absurd rfl hq
  have hds : ∀ q, (K2 q).1 ≠ 0 → (ex_nk (fun _ => (0, 0)) n13 12 0 q).1 = 0 := fun q hq => by
    have e : q ≠ n13 := fun w => by
      have := hs3 q hq
      rw [w] at this hq
      rw [this] at fn13
      exact hq fn13
    rw [ex_nk_ne _ _ _ e]
  have zm : ∀ f, ex_ni I3 n13 f n13 0 = 0 := fun f => by rw [ex_ni_at]
  generalize ex_nk K3 n13 12 0 = K5 at hs4 hsm ⊢
  generalize ex_nk (fun _ => (0, 0)) n13 12 0 = Km at km hsm hds ⊢
  generalize ex_ni I3 n13 = I5 at R4 zm ⊢
  generalize ex_nr F3 n13 = F5 at R4 ⊢
  refine s_Law_law_16 ?_
  refine s_Law_law_17 ?_
  refine s_Law_law_18 ?_
  refine s_Law_law_19 (b1 := 0) (b2 := b + 4 * 513 + 24)  (sp_cell hl) ?_ (by omega)
  rintro _ _ _ _ ⟨rfl, rfl, rfl, rfl⟩
  dsimp only [Option.toList, List.cons_append, List.nil_append]
  refine sf_Law_law_22 (b1 := 0 + 24) (b2 := b + 4 * 513) (K1 := Km) hsm (by rfl) (ex_up (by omega) (sp_initR (d := 0) (b := 0) km zm)) ?_ (by omega)
  rintro _ K6 I6 F6 ⟨rfl, ad, hM, hr⟩ hf6
  dsimp only [Option.toList, List.cons_append, List.nil_append]
  have L6 := LI_m R4 hs4 hds hM hr hf6
  rw [ha, hc] at L6
  refine s_Law_law_25 ?_
  refine s_Law_law_26 ?_
  refine s_Law_law_27 ?_
  refine lp_law hl 513 0 b _ _ _ _ (by omega) (by omega) L6 (J_new _)
